
def ab (x : Int32) : Int32 := if 0 ≤ x then x else 0 - x
/-- a land: from a to b in x, from c to d in y -/
def ldB (a b c d : Int32) : Bool := (wB a (nI 0) (nI 20) && wB c (nI 0) (nI 20)) && ((wB b (nI 0) (nI 20) && wB d (nI 0) (nI 20)) && (decide (a ≤ b) && decide (c ≤ d)))
theorem ldB_1 {a b c d : Int32} (h : (wB a (nI 0) (nI 20) && wB c (nI 0) (nI 20)) = false) : ldB a b c d = false := by simp only [ldB, h, Bool.false_and]
theorem ldB_2 {a b c d : Int32} (h : (wB b (nI 0) (nI 20) && wB d (nI 0) (nI 20)) = false) : ldB a b c d = false := by simp only [ldB, h, Bool.false_and, Bool.and_false]
theorem ldB_3 {a b c d : Int32} (h : b < a) : ldB a b c d = false := by
  have : decide (a ≤ b) = false := decide_eq_false (Int32.not_le.mpr h)
  simp only [ldB, this, Bool.false_and, Bool.and_false]
theorem ldB_4 {a b c d : Int32} (h : d < c) : ldB a b c d = false := by
  have : decide (c ≤ d) = false := decide_eq_false (Int32.not_le.mpr h)
  simp only [ldB, this, Bool.and_false]
theorem ldB_t {a b c d : Int32} (h1 : (wB a (nI 0) (nI 20) && wB c (nI 0) (nI 20)) = true) (h2 : (wB b (nI 0) (nI 20) && wB d (nI 0) (nI 20)) = true) (h3 : ¬ b < a) (h4 : ¬ d < c) : ldB a b c d = true := by
  simp only [ldB, h1, h2, decide_eq_true (Int32.not_lt.mp h3), decide_eq_true (Int32.not_lt.mp h4), Bool.and_self]
theorem ldB_nat {a b c d : Int32} (h : ldB a b c d = true) : ∃ i j k l : Nat, i ≤ j ∧ j ≤ 20 ∧ k ≤ l ∧ l ≤ 20 ∧ a = nI i ∧ b = nI j ∧ c = nI k ∧ d = nI l := by
  simp only [ldB, Bool.and_eq_true] at h
  obtain ⟨⟨h1, h2⟩, ⟨h3, h4⟩, h5, h6⟩ := h
  obtain ⟨i, -, i2, rfl⟩ := wB_nat (by decide) (by decide) h1
  obtain ⟨k, -, k2, rfl⟩ := wB_nat (by decide) (by decide) h2
  obtain ⟨j, -, j2, rfl⟩ := wB_nat (by decide) (by decide) h3
  obtain ⟨l, -, l2, rfl⟩ := wB_nat (by decide) (by decide) h4
  exact ⟨i, j, k, l, (nI_leI (by omega) (by omega)).mp (of_decide_eq_true h5), j2, (nI_leI (by omega) (by omega)).mp (of_decide_eq_true h6), l2, rfl, rfl, rfl, rfl⟩
theorem ldM_1 {a b c d : Int32} (h : wL a.toInt64 0 b.toInt64 = false) : ldB a b c d = false := by
  rw [wL_wB (a := nI 0) (b := b) (by decide) rfl] at h
  cases e : ldB a b c d with
  | false => rfl
  | true =>
    obtain ⟨i, j, k, l, h1, h2, h3, h4, rfl, rfl, rfl, rfl⟩ := ldB_nat e
    rw [wB_of (by omega) (Nat.zero_le i) h1] at h
    cases h
theorem ldM_2 {a b c d : Int32} (h : nI 20 < b) : ldB a b c d = false := by
  cases e : ldB a b c d with
  | false => rfl
  | true =>
    obtain ⟨i, j, k, l, h1, h2, h3, h4, rfl, rfl, rfl, rfl⟩ := ldB_nat e
    exact absurd h (nI_nlt h2 (by omega))
theorem ldM_3 {a b c d : Int32} (h : wL c.toInt64 0 d.toInt64 = false) : ldB a b c d = false := by
  rw [wL_wB (a := nI 0) (b := d) (by decide) rfl] at h
  cases e : ldB a b c d with
  | false => rfl
  | true =>
    obtain ⟨i, j, k, l, h1, h2, h3, h4, rfl, rfl, rfl, rfl⟩ := ldB_nat e
    rw [wB_of (by omega) (Nat.zero_le k) h3] at h
    cases h
theorem ldM_4 {a b c d : Int32} (h : nI 20 < d) : ldB a b c d = false := by
  cases e : ldB a b c d with
  | false => rfl
  | true =>
    obtain ⟨i, j, k, l, h1, h2, h3, h4, rfl, rfl, rfl, rfl⟩ := ldB_nat e
    exact absurd h (nI_nlt h4 (by omega))
theorem wB_iff {x : Int32} {b : Nat} (hb : b < 2 ^ 31) : wB x (nI 0) (nI b) = true ↔ 0 ≤ x.toInt ∧ x.toInt ≤ b := by
  unfold wB
  rw [decide_eq_true_iff, Int32.le_iff_toInt_le, Int32.le_iff_toInt_le, nI_toInt hb, nI_toInt (by omega)]
  omega
theorem ldM_t {a b c d : Int32} (h1 : wL a.toInt64 0 b.toInt64 = true) (h2 : ¬ nI 20 < b) (h3 : wL c.toInt64 0 d.toInt64 = true) (h4 : ¬ nI 20 < d) : ldB a b c d = true := by
  rw [wL_wB (a := nI 0) (b := b) (by decide) rfl] at h1
  rw [wL_wB (a := nI 0) (b := d) (by decide) rfl] at h3
  obtain ⟨p1, p2⟩ := of_decide_eq_true h1
  obtain ⟨q1, q2⟩ := of_decide_eq_true h3
  have r2 := Int32.le_iff_toInt_le.mp p2
  have s2 := Int32.le_iff_toInt_le.mp q2
  have r1 := Int32.le_iff_toInt_le.mp p1
  have s1 := Int32.le_iff_toInt_le.mp q1
  have u2 := Int32.le_iff_toInt_le.mp (Int32.not_lt.mp h2)
  have u4 := Int32.le_iff_toInt_le.mp (Int32.not_lt.mp h4)
  rw [nI_toInt (by omega)] at r1 s1 u2 u4
  have e1 : wB a (nI 0) (nI 20) = true := (wB_iff (by omega)).mpr (by omega)
  have e2 : wB b (nI 0) (nI 20) = true := (wB_iff (by omega)).mpr (by omega)
  have e3 : wB c (nI 0) (nI 20) = true := (wB_iff (by omega)).mpr (by omega)
  have e4 : wB d (nI 0) (nI 20) = true := (wB_iff (by omega)).mpr (by omega)
  simp only [ldB, e1, e2, e3, e4, decide_eq_true p2, decide_eq_true q2, Bool.and_self]
/-- the first n digits from the right are at most 6 -/
def dgB : Nat → Nat → Bool
  | 0, _ => true
  | n + 1, r => decide (r % 10 ≤ 6) && dgB n (r / 10)
def rowB (x : Int32) : Bool := wB x (nI 1) (nI 666666) && dgB 6 x.toNatClampNeg
theorem dgB_s {A : Bool} {i r : Nat} (h : A = dgB (6 - i) r) (hi : i < 6) (hd : r % 10 ≤ 6) : A = dgB (6 - (i + 1)) (r / 10) := by
  rw [h, show 6 - i = (6 - (i + 1)) + 1 by omega]
  simp only [dgB, decide_eq_true hd, Bool.true_and]
theorem rowB_n {r0 : Nat} (h1 : 1 ≤ r0) (h2 : r0 ≤ 666666) : rowB (nI r0) = dgB 6 r0 := by
  unfold rowB
  rw [wB_of (by omega) h1 h2, nI_clamp (by omega), Bool.true_and]
theorem rowB_f {r0 i r : Nat} (h1 : 1 ≤ r0) (h2 : r0 ≤ 666666) (he : dgB 6 r0 = dgB (6 - i) r) (hi : i < 6) (hd : 6 < r % 10) : rowB (nI r0) = false := by
  rw [rowB_n h1 h2, he, show 6 - i = (6 - (i + 1)) + 1 by omega]
  simp only [dgB, decide_eq_false (Nat.not_le.mpr hd), Bool.false_and]
theorem rowB_t {r0 i r : Nat} (h1 : 1 ≤ r0) (h2 : r0 ≤ 666666) (he : dgB 6 r0 = dgB (6 - i) r) (hi : 6 ≤ i) : rowB (nI r0) = true := by
  rw [rowB_n h1 h2, he, show 6 - i = 0 by omega]
  rfl

set_option maxRecDepth 100000 in
set_option maxHeartbeats 4000000 in
theorem c_isWithin (v a b : Int32) : jMp yX10_isWithin cX10_isWithin 3 (some .boolean) { frames := 0, cells := 0, slots := 0, locals := 0 } [.int v, .int a, .int b] (some (.int (bI (wB v a b)))) := fun kk => by
  refine j_entry [(0, .int v), (1, .int a), (2, .int b)] (by decide) (Nat.le_of_ble_eq_true rfl) rfl ?_
  intro X C E HI
  refine j_iload_n C 0 rfl dX10_isWithin_0 ?_
  refine j_iload_n C 1 rfl dX10_isWithin_1 ?_
  refine j_icmp_lt C 14 (by decide) dX10_isWithin_2 (fun c1 => ?_) (fun c1 => ?_)
  · refine j_iconst C (nI 0) (by decide) dX10_isWithin_14 ?_
    exact j_zret C E (by first | rfl | decide) (()) (congrArg (fun z => some (Value.int z)) (bI_0 (by first | exact wB_lt c1 | exact wB_gt c2))) rfl dX10_isWithin_15
  · refine j_iload_n C 0 rfl dX10_isWithin_5 ?_
    refine j_iload_n C 2 rfl dX10_isWithin_6 ?_
    refine j_icmp_gt C 14 (by decide) dX10_isWithin_7 (fun c2 => ?_) (fun c2 => ?_)
    · refine j_iconst C (nI 0) (by decide) dX10_isWithin_14 ?_
      exact j_zret C E (by first | rfl | decide) (()) (congrArg (fun z => some (Value.int z)) (bI_0 (by first | exact wB_lt c1 | exact wB_gt c2))) rfl dX10_isWithin_15
    · refine j_iconst C (nI 1) (by decide) dX10_isWithin_10 ?_
      refine j_goto C 15 (by decide) dX10_isWithin_11 ?_
      exact j_zret C E (by first | rfl | decide) (()) (congrArg (fun z => some (Value.int z)) (bI_1 (wB_in c1 c2))) rfl dX10_isWithin_15
set_option maxRecDepth 100000 in
set_option maxHeartbeats 4000000 in
theorem c_isDay (v : Int32) : jMp yX10_isDay cX10_isDay 1 (some .boolean) { frames := 1, cells := 0, slots := 0, locals := 22 } [.int v] (some (.int (bI (wB v (nI 0) (nI 27))))) := fun kk => by
  refine j_entry [(0, .int v)] (by decide) (Nat.le_of_ble_eq_true rfl) rfl ?_
  intro X C E HI
  refine j_iload_n C 0 rfl dX10_isDay_0 ?_
  refine j_iconst C (nI 0) (by decide) dX10_isDay_1 ?_
  refine j_bipush C (nI 27) (by decide) dX10_isDay_2 ?_
  refine j_S01 C (c_isWithin v (nI 0) (nI 27)) kyX10_isWithin tb_467 tb_468 rfl (Nat.le_of_ble_eq_true rfl) ⟨by decide, by decide⟩ ⟨by decide, by decide⟩ dX10_isDay_4 rfl ?_
  exact j_zret C E (bI_n _) (()) rfl rfl dX10_isDay_7
set_option maxRecDepth 100000 in
set_option maxHeartbeats 4000000 in
theorem c_isPlace (x y : Int32) : jMp yX10_isPlace cX10_isPlace 2 (some .boolean) { frames := 1, cells := 0, slots := 0, locals := 22 } [.int x, .int y] (some (.int (bI (wB x (nI 0) (nI 20) && wB y (nI 0) (nI 20))))) := fun kk => by
  refine j_entry [(0, .int x), (1, .int y)] (by decide) (Nat.le_of_ble_eq_true rfl) rfl ?_
  intro X C E HI
  refine j_iload_n C 0 rfl dX10_isPlace_0 ?_
  refine j_iconst C (nI 0) (by decide) dX10_isPlace_1 ?_
  refine j_bipush C (nI 20) (by decide) dX10_isPlace_2 ?_
  refine j_S01 C (c_isWithin x (nI 0) (nI 20)) kyX10_isWithin tb_467 tb_468 rfl (Nat.le_of_ble_eq_true rfl) ⟨by decide, by decide⟩ ⟨by decide, by decide⟩ dX10_isPlace_4 rfl ?_
  refine j_if_eq C 24 (by decide) dX10_isPlace_7 (fun c1 => ?_) (fun c1 => ?_)
  · replace c1 := bI_f c1
    refine j_iconst C (nI 0) (by decide) dX10_isPlace_24 ?_
    exact j_zret C E (by first | rfl | decide) (()) (congrArg (fun z => some (Value.int z)) (bI_0 (by first | (simp [c1]; done) | (simp [c1, c2]; done)))) rfl dX10_isPlace_25
  · replace c1 := bI_t c1
    refine j_iload_n C 1 rfl dX10_isPlace_10 ?_
    refine j_iconst C (nI 0) (by decide) dX10_isPlace_11 ?_
    refine j_bipush C (nI 20) (by decide) dX10_isPlace_12 ?_
    refine j_S01 C (c_isWithin y (nI 0) (nI 20)) kyX10_isWithin tb_467 tb_468 rfl (Nat.le_of_ble_eq_true rfl) ⟨by decide, by decide⟩ ⟨by decide, by decide⟩ dX10_isPlace_14 rfl ?_
    refine j_if_eq C 24 (by decide) dX10_isPlace_17 (fun c2 => ?_) (fun c2 => ?_)
    · replace c2 := bI_f c2
      refine j_iconst C (nI 0) (by decide) dX10_isPlace_24 ?_
      exact j_zret C E (by first | rfl | decide) (()) (congrArg (fun z => some (Value.int z)) (bI_0 (by first | (simp [c1]; done) | (simp [c1, c2]; done)))) rfl dX10_isPlace_25
    · replace c2 := bI_t c2
      refine j_iconst C (nI 1) (by decide) dX10_isPlace_20 ?_
      refine j_goto C 25 (by decide) dX10_isPlace_21 ?_
      exact j_zret C E (by first | rfl | decide) (()) (congrArg (fun z => some (Value.int z)) (bI_1 (by simp [c1, c2]))) rfl dX10_isPlace_25
set_option maxRecDepth 100000 in
set_option maxHeartbeats 4000000 in
theorem c_isLand (a b c d : Int32) : jMp yX10_isLand cX10_isLand 4 (some .boolean) { frames := 2, cells := 0, slots := 0, locals := 43 } [.int a, .int b, .int c, .int d] (some (.int (bI (ldB a b c d)))) := fun kk => by
  refine j_entry [(0, .int a), (1, .int b), (2, .int c), (3, .int d)] (by decide) (Nat.le_of_ble_eq_true rfl) rfl ?_
  intro X C E HI
  refine j_iload_n C 0 rfl dX10_isLand_0 ?_
  refine j_iload_n C 2 rfl dX10_isLand_1 ?_
  refine j_S01 C (c_isPlace a c) kyX10_isPlace tb_464 tb_465 rfl (Nat.le_of_ble_eq_true rfl) ⟨by decide, by decide⟩ ⟨by decide, by decide⟩ dX10_isLand_2 rfl ?_
  refine j_if_eq C 30 (by decide) dX10_isLand_5 (fun c1 => ?_) (fun c1 => ?_)
  · replace c1 := bI_f c1
    refine j_iconst C (nI 0) (by decide) dX10_isLand_30 ?_
    exact j_zret C E (by first | rfl | decide) (()) (congrArg (fun z => some (Value.int z)) (bI_0 (by first | exact ldB_1 c1 | exact ldB_2 c2 | exact ldB_3 c3 | exact ldB_4 c4))) rfl dX10_isLand_31
  · replace c1 := bI_t c1
    refine j_iload_n C 1 rfl dX10_isLand_8 ?_
    refine j_iload_n C 3 rfl dX10_isLand_9 ?_
    refine j_S01 C (c_isPlace b d) kyX10_isPlace tb_464 tb_465 rfl (Nat.le_of_ble_eq_true rfl) ⟨by decide, by decide⟩ ⟨by decide, by decide⟩ dX10_isLand_10 rfl ?_
    refine j_if_eq C 30 (by decide) dX10_isLand_13 (fun c2 => ?_) (fun c2 => ?_)
    · replace c2 := bI_f c2
      refine j_iconst C (nI 0) (by decide) dX10_isLand_30 ?_
      exact j_zret C E (by first | rfl | decide) (()) (congrArg (fun z => some (Value.int z)) (bI_0 (by first | exact ldB_1 c1 | exact ldB_2 c2 | exact ldB_3 c3 | exact ldB_4 c4))) rfl dX10_isLand_31
    · replace c2 := bI_t c2
      refine j_iload_n C 0 rfl dX10_isLand_16 ?_
      refine j_iload_n C 1 rfl dX10_isLand_17 ?_
      refine j_icmp_gt C 30 (by decide) dX10_isLand_18 (fun c3 => ?_) (fun c3 => ?_)
      · refine j_iconst C (nI 0) (by decide) dX10_isLand_30 ?_
        exact j_zret C E (by first | rfl | decide) (()) (congrArg (fun z => some (Value.int z)) (bI_0 (by first | exact ldB_1 c1 | exact ldB_2 c2 | exact ldB_3 c3 | exact ldB_4 c4))) rfl dX10_isLand_31
      · refine j_iload_n C 2 rfl dX10_isLand_21 ?_
        refine j_iload_n C 3 rfl dX10_isLand_22 ?_
        refine j_icmp_gt C 30 (by decide) dX10_isLand_23 (fun c4 => ?_) (fun c4 => ?_)
        · refine j_iconst C (nI 0) (by decide) dX10_isLand_30 ?_
          exact j_zret C E (by first | rfl | decide) (()) (congrArg (fun z => some (Value.int z)) (bI_0 (by first | exact ldB_1 c1 | exact ldB_2 c2 | exact ldB_3 c3 | exact ldB_4 c4))) rfl dX10_isLand_31
        · refine j_iconst C (nI 1) (by decide) dX10_isLand_26 ?_
          refine j_goto C 31 (by decide) dX10_isLand_27 ?_
          exact j_zret C E (by first | rfl | decide) (()) (congrArg (fun z => some (Value.int z)) (bI_1 (ldB_t c1 c2 c3 c4))) rfl dX10_isLand_31
set_option maxRecDepth 100000 in
set_option maxHeartbeats 4000000 in
theorem c_orNone (v : Int32) : jMp yX10_orNone cX10_orNone 1 (some .int) { frames := 0, cells := 0, slots := 0, locals := 0 } [.int v] (some (.int (if v = -1 then -6 else v))) := fun kk => by
  refine j_entry [(0, .int v)] (by decide) (Nat.le_of_ble_eq_true rfl) rfl ?_
  intro X C E HI
  refine j_iload_n C 0 rfl dX10_orNone_0 ?_
  refine j_iconst C ((-1)) (by decide) dX10_orNone_1 ?_
  refine j_icmp_ne C 10 (by decide) dX10_orNone_2 (fun c1 => ?_) (fun c1 => ?_)
  · refine j_iload_n C 0 rfl dX10_orNone_10 ?_
    exact j_iret C E (()) (by simp [c1]) rfl dX10_orNone_11
  · refine j_bipush C ((-6)) (by decide) dX10_orNone_5 ?_
    refine j_goto C 11 (by decide) dX10_orNone_7 ?_
    exact j_iret C E (()) (by simp [c1]) rfl dX10_orNone_11
set_option maxRecDepth 100000 in
set_option maxHeartbeats 4000000 in
theorem c_far (a b c d : Int32) : jMp yX10_far cX10_far 4 (some .int) { frames := 1, cells := 0, slots := 0, locals := 21 } [.int a, .int b, .int c, .int d] (some (.int (ab (a - c) + ab (b - d)))) := fun kk => by
  refine j_entry [(0, .int a), (1, .int b), (2, .int c), (3, .int d)] (by decide) (Nat.le_of_ble_eq_true rfl) rfl ?_
  intro X C E HI
  refine j_iload_n C 0 rfl dX10_far_0 ?_
  refine j_iload_n C 2 rfl dX10_far_1 ?_
  refine j_isub C dX10_far_2 ?_
  refine j_mabs C tb_589 tb_590 tb_15 tb_591 (by decide) (Nat.le_of_ble_eq_true rfl) (by decide) (by decide) dX10_far_3 ?_
  refine j_iload_n C 1 rfl dX10_far_6 ?_
  refine j_iload_n C 3 rfl dX10_far_7 ?_
  refine j_isub C dX10_far_8 ?_
  refine j_mabs C tb_589 tb_590 tb_15 tb_591 (by decide) (Nat.le_of_ble_eq_true rfl) (by decide) (by decide) dX10_far_9 ?_
  refine j_iadd C dX10_far_12 ?_
  exact j_iret C E (()) rfl rfl dX10_far_13
set_option maxRecDepth 100000 in
set_option maxHeartbeats 4000000 in
theorem c_isRow (x : Int32) : jMp yX10_isRow cX10_isRow 3 (some .boolean) { frames := 1, cells := 0, slots := 0, locals := 22 } [.int x] (some (.int (bI (rowB x)))) := fun kk => by
  refine j_entry [(0, .int x)] (by decide) (Nat.le_of_ble_eq_true rfl) rfl ?_
  intro X C E HI
  refine j_iload_n C 0 rfl dX10_isRow_0 ?_
  refine j_iconst C (nI 1) (by decide) dX10_isRow_1 ?_
  refine j_ldcw (v := nI 666666) C tb_781 dX10_isRow_2 ?_
  refine j_S01 C (c_isWithin x (nI 1) (nI 666666)) kyX10_isWithin tb_467 tb_468 rfl (Nat.le_of_ble_eq_true rfl) ⟨by decide, by decide⟩ ⟨by decide, by decide⟩ dX10_isRow_5 rfl ?_
  refine j_if_ne C 13 (by decide) dX10_isRow_8 (fun c1 => ?_) (fun c1 => ?_)
  · replace c1 := bI_t c1
    obtain ⟨r0, h1, h2, rfl⟩ := wB_nat (by decide) (by decide) c1
    refine j_iload_n C 0 rfl dX10_isRow_13 ?_
    refine j_istore_n C [(1, .int (nI r0)), (0, .int (nI r0))] rfl (by decide) rfl dX10_isRow_14 ?_
    refine j_iconst C (nI 0) (by decide) dX10_isRow_15 ?_
    refine j_istore_n C [(2, .int (nI 0)), (1, .int (nI r0)), (0, .int (nI r0))] rfl (by decide) rfl dX10_isRow_16 ?_
    have L17 : ∀ (nL17 : Nat) (i r : Nat) (hi : i ≤ 6) (hr : r < 2 ^ 31) (he : dgB 6 r0 = dgB (6 - i) r) (hmL17 : 6 - i < nL17), J X 0 0 [] [(0, .int (nI r0)), (1, .int (nI r)), (2, .int (nI i))] 17 [] := by
      intro nL17
      induction nL17 with
      | zero => intro i r hi hr he hm; exact absurd hm (Nat.not_lt_zero _)
      | succ nL17 ihL17 =>
        intro i r hi hr he hmL17
        refine j_iload_n C 2 rfl dX10_isRow_17 ?_
        refine j_bipush C (nI 6) (by decide) dX10_isRow_18 ?_
        refine j_icmp_geN C 45 (by decide) (by omega) (by omega) dX10_isRow_20 (fun c2 => ?_) (fun c2 => ?_)
        · refine j_iconst C (nI 1) (by decide) dX10_isRow_45 ?_
          exact j_zret C E (by first | rfl | decide) (()) (congrArg (fun z => some (Value.int z)) (bI_1 (rowB_t h1 h2 he (by omega)))) rfl dX10_isRow_46
        · refine j_iload_n C 1 rfl dX10_isRow_23 ?_
          refine j_bipush C (nI 10) (by decide) dX10_isRow_24 ?_
          refine j_iremN C (by omega) (by omega) (by omega) dX10_isRow_26 ?_
          refine j_bipush C (nI 6) (by decide) dX10_isRow_27 ?_
          refine j_icmp_leN C 34 (by decide) (by omega) (by omega) dX10_isRow_29 (fun c3 => ?_) (fun c3 => ?_)
          · refine j_iload_n C 1 rfl dX10_isRow_34 ?_
            refine j_bipush C (nI 10) (by decide) dX10_isRow_35 ?_
            refine j_idivN C (by omega) (by omega) (by omega) dX10_isRow_37 ?_
            refine j_istore_n C [(1, .int (nI (r / 10))), (0, .int (nI r0)), (2, .int (nI i))] rfl (by decide) rfl dX10_isRow_38 ?_
            refine j_iinc C (nI (i + 1)) [(2, .int (nI (i + 1))), (1, .int (nI (r / 10))), (0, .int (nI r0))] 2 rfl (by rw [show Int32.ofInt 1 = nI 1 from by decide, nI_add]) (by decide) rfl dX10_isRow_39 ?_
            refine j_goto C 17 (by decide) dX10_isRow_42 ?_
            refine j_sub (lv' := [(0, .int (nI r0)), (1, .int (nI (r / 10))), (2, .int (nI (i + 1)))]) [2, 1, 0] rfl ?_
            exact ihL17 (i + 1) (r / 10) (by omega) (by omega) (dgB_s he (by omega) (by omega)) (by omega)
          · refine j_iconst C (nI 0) (by decide) dX10_isRow_32 ?_
            exact j_zret C E (by first | rfl | decide) (()) (congrArg (fun z => some (Value.int z)) (bI_0 (rowB_f h1 h2 he (by omega) (by omega)))) rfl dX10_isRow_33
    refine j_sub (lv' := [(0, .int (nI r0)), (1, .int (nI r0)), (2, .int (nI 0))]) [2, 1, 0] rfl ?_
    exact L17 _ 0 r0 (by decide) (by omega) rfl (Nat.lt_succ_self _)
  · replace c1 := bI_f c1
    refine j_iconst C (nI 0) (by decide) dX10_isRow_11 ?_
    exact j_zret C E (by first | rfl | decide) (()) (congrArg (fun z => some (Value.int z)) (bI_0 (by simp [rowB, c1]))) rfl dX10_isRow_12
set_option maxRecDepth 100000 in
set_option maxHeartbeats 4000000 in
theorem m_in (v a b : Int64) : jMp yX11_in cX11_in 6 (some .boolean) { frames := 0, cells := 0, slots := 0, locals := 0 } [.long v, .long a, .long b] (some (.int (bI (wL v a b)))) := fun kk => by
  refine j_entry [(0, .long v), (2, .long a), (4, .long b)] (by decide) (Nat.le_of_ble_eq_true rfl) rfl ?_
  intro X C E HI
  refine j_lload_n C 0 rfl dX11_in_0 ?_
  refine j_lload_n C 1 rfl dX11_in_1 ?_
  refine j_lcmp C dX11_in_2 ?_
  refine j_if_lt C 17 (by decide) dX11_in_3 (fun c1 => ?_) (fun c1 => ?_)
  · refine j_iconst C (nI 0) (by decide) dX11_in_17 ?_
    exact j_zret C E (by first | rfl | decide) (()) (congrArg (fun z => some (Value.int z)) (bI_0 (by first | exact wL_lt ((lg_cmp_lt _ _).mp c1) | exact wL_gt ((lg_cmp_gt _ _).mp c2)))) rfl dX11_in_18
  · refine j_lload_n C 0 rfl dX11_in_6 ?_
    refine j_lload C 2 rfl dX11_in_7 ?_
    refine j_lcmp C dX11_in_9 ?_
    refine j_if_gt C 17 (by decide) dX11_in_10 (fun c2 => ?_) (fun c2 => ?_)
    · refine j_iconst C (nI 0) (by decide) dX11_in_17 ?_
      exact j_zret C E (by first | rfl | decide) (()) (congrArg (fun z => some (Value.int z)) (bI_0 (by first | exact wL_lt ((lg_cmp_lt _ _).mp c1) | exact wL_gt ((lg_cmp_gt _ _).mp c2)))) rfl dX11_in_18
    · refine j_iconst C (nI 1) (by decide) dX11_in_13 ?_
      refine j_goto C 18 (by decide) dX11_in_14 ?_
      exact j_zret C E (by first | rfl | decide) (()) (congrArg (fun z => some (Value.int z)) (bI_1 (wL_in (fun q => c1 ((lg_cmp_lt _ _).mpr q)) (fun q => c2 ((lg_cmp_gt _ _).mpr q))))) rfl dX11_in_18
set_option maxRecDepth 100000 in
set_option maxHeartbeats 4000000 in
theorem m_isDay (v : Int32) : jMp yX11_isDay cX11_isDay 1 (some .boolean) { frames := 1, cells := 0, slots := 0, locals := 25 } [.int v] (some (.int (bI (wB v (nI 0) (nI 27))))) := fun kk => by
  refine j_entry [(0, .int v)] (by decide) (Nat.le_of_ble_eq_true rfl) rfl ?_
  intro X C E HI
  refine j_iload_n C 0 rfl dX11_isDay_0 ?_
  refine j_i2l C dX11_isDay_1 ?_
  refine j_lconst C 0 (by decide) dX11_isDay_2 ?_
  refine j_ldc2 C tb_1080 dX11_isDay_3 ?_
  refine j_S01 C (m_in v.toInt64 0 (27)) kyX11_in tb_1057 tb_1058 rfl (Nat.le_of_ble_eq_true rfl) ⟨by decide, by decide⟩ ⟨by decide, by decide⟩ dX11_isDay_6 rfl ?_
  exact j_zret C E (bI_n _) (()) (by rw [wL_wB (a := nI 0) (b := nI 27) (by decide) (by decide)]) rfl dX11_isDay_9
set_option maxRecDepth 100000 in
set_option maxHeartbeats 4000000 in
theorem m_isEnd (v : Int32) : jMp yX11_isEnd cX11_isEnd 1 (some .boolean) { frames := 1, cells := 0, slots := 0, locals := 25 } [.int v] (some (.int (bI (wB v (nI 0) (nI 1))))) := fun kk => by
  refine j_entry [(0, .int v)] (by decide) (Nat.le_of_ble_eq_true rfl) rfl ?_
  intro X C E HI
  refine j_iload_n C 0 rfl dX11_isEnd_0 ?_
  refine j_i2l C dX11_isEnd_1 ?_
  refine j_lconst C 0 (by decide) dX11_isEnd_2 ?_
  refine j_lconst C 1 (by decide) dX11_isEnd_3 ?_
  refine j_S01 C (m_in v.toInt64 0 1) kyX11_in tb_1057 tb_1058 rfl (Nat.le_of_ble_eq_true rfl) ⟨by decide, by decide⟩ ⟨by decide, by decide⟩ dX11_isEnd_4 rfl ?_
  exact j_zret C E (bI_n _) (()) (by rw [wL_wB (a := nI 0) (b := nI 1) (by decide) (by decide)]) rfl dX11_isEnd_7
set_option maxRecDepth 100000 in
set_option maxHeartbeats 4000000 in
theorem m_isPlace (x y : Int32) : jMp yX11_isPlace cX11_isPlace 2 (some .boolean) { frames := 1, cells := 0, slots := 0, locals := 25 } [.int x, .int y] (some (.int (bI (wB x (nI 0) (nI 20) && wB y (nI 0) (nI 20))))) := fun kk => by
  refine j_entry [(0, .int x), (1, .int y)] (by decide) (Nat.le_of_ble_eq_true rfl) rfl ?_
  intro X C E HI
  refine j_iload_n C 0 rfl dX11_isPlace_0 ?_
  refine j_i2l C dX11_isPlace_1 ?_
  refine j_lconst C 0 (by decide) dX11_isPlace_2 ?_
  refine j_ldc2 C tb_1056 dX11_isPlace_3 ?_
  refine j_S01 C (m_in x.toInt64 0 (20)) kyX11_in tb_1057 tb_1058 rfl (Nat.le_of_ble_eq_true rfl) ⟨by decide, by decide⟩ ⟨by decide, by decide⟩ dX11_isPlace_6 rfl ?_
  refine j_if_eq C 28 (by decide) dX11_isPlace_9 (fun c1 => ?_) (fun c1 => ?_)
  · replace c1 := bI_f c1
    rw [wL_wB (a := nI 0) (b := nI 20) (by decide) (by decide)] at c1
    refine j_iconst C (nI 0) (by decide) dX11_isPlace_28 ?_
    exact j_zret C E (by first | rfl | decide) (()) (congrArg (fun z => some (Value.int z)) (bI_0 (by first | (simp [c1]; done) | (simp [c1, c2]; done)))) rfl dX11_isPlace_29
  · replace c1 := bI_t c1
    rw [wL_wB (a := nI 0) (b := nI 20) (by decide) (by decide)] at c1
    refine j_iload_n C 1 rfl dX11_isPlace_12 ?_
    refine j_i2l C dX11_isPlace_13 ?_
    refine j_lconst C 0 (by decide) dX11_isPlace_14 ?_
    refine j_ldc2 C tb_1056 dX11_isPlace_15 ?_
    refine j_S01 C (m_in y.toInt64 0 (20)) kyX11_in tb_1057 tb_1058 rfl (Nat.le_of_ble_eq_true rfl) ⟨by decide, by decide⟩ ⟨by decide, by decide⟩ dX11_isPlace_18 rfl ?_
    refine j_if_eq C 28 (by decide) dX11_isPlace_21 (fun c2 => ?_) (fun c2 => ?_)
    · replace c2 := bI_f c2
      rw [wL_wB (a := nI 0) (b := nI 20) (by decide) (by decide)] at c2
      refine j_iconst C (nI 0) (by decide) dX11_isPlace_28 ?_
      exact j_zret C E (by first | rfl | decide) (()) (congrArg (fun z => some (Value.int z)) (bI_0 (by first | (simp [c1]; done) | (simp [c1, c2]; done)))) rfl dX11_isPlace_29
    · replace c2 := bI_t c2
      rw [wL_wB (a := nI 0) (b := nI 20) (by decide) (by decide)] at c2
      refine j_iconst C (nI 1) (by decide) dX11_isPlace_24 ?_
      refine j_goto C 29 (by decide) dX11_isPlace_25 ?_
      exact j_zret C E (by first | rfl | decide) (()) (congrArg (fun z => some (Value.int z)) (bI_1 (by simp [c1, c2]))) rfl dX11_isPlace_29
set_option maxRecDepth 100000 in
set_option maxHeartbeats 4000000 in
theorem m_off (a b : Int32) : jMp yX11_off cX11_off 2 (some .int) { frames := 0, cells := 0, slots := 0, locals := 0 } [.int a, .int b] (some (.int (if a < b then b - a else a - b))) := fun kk => by
  refine j_entry [(0, .int a), (1, .int b)] (by decide) (Nat.le_of_ble_eq_true rfl) rfl ?_
  intro X C E HI
  refine j_iload_n C 0 rfl dX11_off_0 ?_
  refine j_iload_n C 1 rfl dX11_off_1 ?_
  refine j_icmp_ge C 11 (by decide) dX11_off_2 (fun c1 => ?_) (fun c1 => ?_)
  · refine j_iload_n C 0 rfl dX11_off_11 ?_
    refine j_iload_n C 1 rfl dX11_off_12 ?_
    refine j_isub C dX11_off_13 ?_
    exact j_iret C E (()) (by first | rw [if_neg (Int32.not_lt.mpr c1)] | (rw [if_pos (Int32.not_le.mp c1)]; done) | (simp [c1]; done)) rfl dX11_off_14
  · refine j_iload_n C 1 rfl dX11_off_5 ?_
    refine j_iload_n C 0 rfl dX11_off_6 ?_
    refine j_isub C dX11_off_7 ?_
    refine j_goto C 14 (by decide) dX11_off_8 ?_
    exact j_iret C E (()) (by first | rw [if_neg (Int32.not_lt.mpr c1)] | (rw [if_pos (Int32.not_le.mp c1)]; done) | (simp [c1]; done)) rfl dX11_off_14
set_option maxRecDepth 100000 in
set_option maxHeartbeats 4000000 in
theorem m_at (a b : Nat) : jMp yX11_at cX11_at 2 (some .int) { frames := 0, cells := 0, slots := 0, locals := 0 } [.int (nI a), .int (nI b)] (some (.int (nI (28 * a + b)))) := fun kk => by
  refine j_entry [(0, .int (nI a)), (1, .int (nI b))] (by decide) (Nat.le_of_ble_eq_true rfl) rfl ?_
  intro X C E HI
  refine j_bipush C (nI 28) (by decide) dX11_at_0 ?_
  refine j_iload_n C 0 rfl dX11_at_2 ?_
  refine j_imulN C dX11_at_3 ?_
  refine j_iload_n C 1 rfl dX11_at_4 ?_
  refine j_iaddN C dX11_at_5 ?_
  exact j_iret C E (()) rfl rfl dX11_at_6
set_option maxRecDepth 100000 in
set_option maxHeartbeats 4000000 in
theorem m_atLeast (v : Int32) : jMp yX11_atLeast cX11_atLeast 1 (some .int) { frames := 0, cells := 0, slots := 0, locals := 0 } [.int v] (some (.int (if v < 0 then 0 else v))) := fun kk => by
  refine j_entry [(0, .int v)] (by decide) (Nat.le_of_ble_eq_true rfl) rfl ?_
  intro X C E HI
  refine j_iload_n C 0 rfl dX11_atLeast_0 ?_
  refine j_if_ge C 8 (by decide) dX11_atLeast_1 (fun c1 => ?_) (fun c1 => ?_)
  · refine j_iload_n C 0 rfl dX11_atLeast_8 ?_
    exact j_iret C E (()) (by first | rw [if_neg (Int32.not_lt.mpr c1)] | (rw [if_pos (Int32.not_le.mp c1)]; rfl) | (simp [c1]; done)) rfl dX11_atLeast_9
  · refine j_iconst C (nI 0) (by decide) dX11_atLeast_4 ?_
    refine j_goto C 9 (by decide) dX11_atLeast_5 ?_
    exact j_iret C E (()) (by first | rw [if_neg (Int32.not_lt.mpr c1)] | (rw [if_pos (Int32.not_le.mp c1)]; rfl) | (simp [c1]; done)) rfl dX11_atLeast_9
set_option maxRecDepth 100000 in
set_option maxHeartbeats 4000000 in
theorem m_isLand (a b c d : Int32) : jMp yX11_isLand cX11_isLand 4 (some .boolean) { frames := 1, cells := 0, slots := 0, locals := 25 } [.int a, .int b, .int c, .int d] (some (.int (bI (ldB a b c d)))) := fun kk => by
  refine j_entry [(0, .int a), (1, .int b), (2, .int c), (3, .int d)] (by decide) (Nat.le_of_ble_eq_true rfl) rfl ?_
  intro X C E HI
  refine j_iload_n C 0 rfl dX11_isLand_0 ?_
  refine j_i2l C dX11_isLand_1 ?_
  refine j_lconst C 0 (by decide) dX11_isLand_2 ?_
  refine j_iload_n C 1 rfl dX11_isLand_3 ?_
  refine j_i2l C dX11_isLand_4 ?_
  refine j_S01 C (m_in a.toInt64 0 b.toInt64) kyX11_in tb_1057 tb_1058 rfl (Nat.le_of_ble_eq_true rfl) ⟨by decide, by decide⟩ ⟨by decide, by decide⟩ dX11_isLand_5 rfl ?_
  refine j_if_eq C 38 (by decide) dX11_isLand_8 (fun c1 => ?_) (fun c1 => ?_)
  · replace c1 := bI_f c1
    refine j_iconst C (nI 0) (by decide) dX11_isLand_38 ?_
    exact j_zret C E (by first | rfl | decide) (()) (congrArg (fun z => some (Value.int z)) (bI_0 (by first | exact ldM_1 c1 | exact ldM_2 c2 | exact ldM_3 c3 | exact ldM_4 c4))) rfl dX11_isLand_39
  · replace c1 := bI_t c1
    refine j_iload_n C 1 rfl dX11_isLand_11 ?_
    refine j_bipush C (nI 20) (by decide) dX11_isLand_12 ?_
    refine j_icmp_gt C 38 (by decide) dX11_isLand_14 (fun c2 => ?_) (fun c2 => ?_)
    · refine j_iconst C (nI 0) (by decide) dX11_isLand_38 ?_
      exact j_zret C E (by first | rfl | decide) (()) (congrArg (fun z => some (Value.int z)) (bI_0 (by first | exact ldM_1 c1 | exact ldM_2 c2 | exact ldM_3 c3 | exact ldM_4 c4))) rfl dX11_isLand_39
    · refine j_iload_n C 2 rfl dX11_isLand_17 ?_
      refine j_i2l C dX11_isLand_18 ?_
      refine j_lconst C 0 (by decide) dX11_isLand_19 ?_
      refine j_iload_n C 3 rfl dX11_isLand_20 ?_
      refine j_i2l C dX11_isLand_21 ?_
      refine j_S01 C (m_in c.toInt64 0 d.toInt64) kyX11_in tb_1057 tb_1058 rfl (Nat.le_of_ble_eq_true rfl) ⟨by decide, by decide⟩ ⟨by decide, by decide⟩ dX11_isLand_22 rfl ?_
      refine j_if_eq C 38 (by decide) dX11_isLand_25 (fun c3 => ?_) (fun c3 => ?_)
      · replace c3 := bI_f c3
        refine j_iconst C (nI 0) (by decide) dX11_isLand_38 ?_
        exact j_zret C E (by first | rfl | decide) (()) (congrArg (fun z => some (Value.int z)) (bI_0 (by first | exact ldM_1 c1 | exact ldM_2 c2 | exact ldM_3 c3 | exact ldM_4 c4))) rfl dX11_isLand_39
      · replace c3 := bI_t c3
        refine j_iload_n C 3 rfl dX11_isLand_28 ?_
        refine j_bipush C (nI 20) (by decide) dX11_isLand_29 ?_
        refine j_icmp_gt C 38 (by decide) dX11_isLand_31 (fun c4 => ?_) (fun c4 => ?_)
        · refine j_iconst C (nI 0) (by decide) dX11_isLand_38 ?_
          exact j_zret C E (by first | rfl | decide) (()) (congrArg (fun z => some (Value.int z)) (bI_0 (by first | exact ldM_1 c1 | exact ldM_2 c2 | exact ldM_3 c3 | exact ldM_4 c4))) rfl dX11_isLand_39
        · refine j_iconst C (nI 1) (by decide) dX11_isLand_34 ?_
          refine j_goto C 39 (by decide) dX11_isLand_35 ?_
          exact j_zret C E (by first | rfl | decide) (()) (congrArg (fun z => some (Value.int z)) (bI_1 (ldM_t c1 c2 c3 c4))) rfl dX11_isLand_39
