def bhd (c : Int32) : Nat := if c = nI 59 then 0 else 7
/-- what stands behind a sign: 7, it can't be -/
def nx (a : Nat) (c : Int32) : Nat :=
  if a = 0 then (if c = nI 120 ∨ c = nI 108 ∨ c = nI 115 then 1 else 7)
  else if a = 1 then (if wB c (nI 48) (nI 57) = true then 2 else 7)
  else if a = 2 then (if wB c (nI 48) (nI 57) = true then 3 else if c = nI 45 then 4 else bhd c)
  else if a = 3 then (if c = nI 45 then 4 else bhd c)
  else if a = 4 then (if wB c (nI 48) (nI 57) = true then 5 else 7)
  else if a = 5 then (if wB c (nI 48) (nI 57) = true then 6 else bhd c)
  else bhd c
theorem dd45 : wB (nI 45) (nI 48) (nI 57) = false := by decide
theorem dd59 : wB (nI 59) (nI 48) (nI 57) = false := by decide
theorem n5945 : ¬ nI 59 = nI 45 := by decide
theorem n4559 : ¬ nI 45 = nI 59 := by decide
theorem dgn {v : Int32} (h : wB v (nI 48) (nI 57) = true) : ¬ v = nI 45 ∧ ¬ v = nI 59 := ⟨fun q => absurd ((congrArg (fun z => wB z (nI 48) (nI 57)) q).symm.trans h) (by decide), fun q => absurd ((congrArg (fun z => wB z (nI 48) (nI 57)) q).symm.trans h) (by decide)⟩
theorem bhd_le (c : Int32) : bhd c ≤ 7 := by unfold bhd; split <;> omega
theorem nx_le (a : Nat) (c : Int32) : nx a c ≤ 7 := by
  have := bhd_le c
  unfold nx
  repeat' split
  all_goals omega
def ftR (f : Nat → Int32) : Nat → Nat → Nat → Int32
  | 0, i, a => if a = 0 ∨ a = 1 ∨ a = 4 then nI i else -1
  | m + 1, i, a => if nx a (f i) = 7 then nI i else ftR f m (i + 1) (nx a (f i))
theorem ftR_s {f : Nat → Int32} {z : Int32} {n i a : Nat} (he : z = ftR f (n - i) i a) (hi : i < n) (h7 : ¬ nx a (f i) = 7) : z = ftR f (n - (i + 1)) (i + 1) (nx a (f i)) := by
  rw [he, show n - i = (n - (i + 1)) + 1 by omega]
  show (if nx a (f i) = 7 then nI i else _) = _
  rw [if_neg h7]
theorem ftR_7 {f : Nat → Int32} {z : Int32} {n i a : Nat} (he : z = ftR f (n - i) i a) (hi : i < n) (h7 : nx a (f i) = 7) : z = nI i := by
  rw [he, show n - i = (n - (i + 1)) + 1 by omega]
  show (if nx a (f i) = 7 then nI i else _) = _
  rw [if_pos h7]
theorem ftR_e {f : Nat → Int32} {z : Int32} {n i a : Nat} (he : z = ftR f (n - i) i a) (hi : i = n) (h : a = 0 ∨ a = 1 ∨ a = 4) : z = nI n := by
  rw [he, show n - i = 0 by omega, hi]
  show (if a = 0 ∨ a = 1 ∨ a = 4 then nI n else -1) = _
  rw [if_pos h]
theorem ftR_g {f : Nat → Int32} {z : Int32} {n i a : Nat} (he : z = ftR f (n - i) i a) (hi : i = n) (h : ¬ (a = 0 ∨ a = 1 ∨ a = 4)) : z = -1 := by
  rw [he, show n - i = 0 by omega, hi]
  show (if a = 0 ∨ a = 1 ∨ a = 4 then nI n else -1) = _
  rw [if_neg h]
theorem ftR_lm (f : Nat → Int32) : ∀ (m i a b : Nat), i + m ≤ b → lm_ b (ftR f m i a)
  | 0, i, a, b, h => by
    show lm_ b (if a = 0 ∨ a = 1 ∨ a = 4 then nI i else -1)
    split
    · exact Or.inr ⟨i, by omega, rfl⟩
    · exact Or.inl rfl
  | m + 1, i, a, b, h => by
    show lm_ b (if nx a (f i) = 7 then nI i else ftR f m (i + 1) (nx a (f i)))
    split
    · exact Or.inr ⟨i, by omega, rfl⟩
    · exact ftR_lm f m (i + 1) (nx a (f i)) b (by omega)
theorem ftR_congr {f g : Nat → Int32} : ∀ (m i a : Nat), (∀ j, j < i + m → f j = g j) → ftR f m i a = ftR g m i a
  | 0, _, _, _ => rfl
  | m + 1, i, a, h => by
    show (if nx a (f i) = 7 then nI i else ftR f m (i + 1) (nx a (f i))) = (if nx a (g i) = 7 then nI i else ftR g m (i + 1) (nx a (g i)))
    rw [h i (by omega), ftR_congr m (i + 1) _ (fun j hj => h j (by omega))]
def sgn (n : Nat) : Int32 := if n = 7 then -1 else nI n
set_option maxRecDepth 100000 in
set_option maxHeartbeats 4000000 in
theorem e_isDigit (g kk : Nat → Nat) (σ : St) (k : Nat) (hk : σ.1 16 = nI k) (hk6 : k ≤ 6) (hI : iX σ)  (v : Int32) : jM (S := St) yX5_isDigit cX5_isDigit 1 (some .boolean) { frames := 0, cells := 0, slots := 0, locals := 0 } kk (cX g kk σ) [.int v] (cX g kk) (rI (fun (r : Int32) (u : St) => u = σ ∧ (r = bI (wB v (nI 48) (nI 57))))) := by
  refine j_entry [(0, .int v)] (by decide) (Nat.le_of_ble_eq_true rfl) rfl ?_
  intro X C E HI
  refine j_iload_n C 0 rfl dX5_isDigit_0 ?_
  refine j_bipush C (nI 48) (by decide) dX5_isDigit_1 ?_
  refine j_icmp_lt C 16 (by decide) dX5_isDigit_3 (fun c1 => ?_) (fun c1 => ?_)
  · refine j_iconst C (nI 0) (by decide) dX5_isDigit_16 ?_
    exact j_zret C E (by first | rfl | decide) (σ) ⟨_, rfl, ⟨rfl, (bI_0 (by first | exact wB_lt c1 | exact wB_gt c1))⟩⟩ rfl dX5_isDigit_17
  · refine j_iload_n C 0 rfl dX5_isDigit_6 ?_
    refine j_bipush C (nI 57) (by decide) dX5_isDigit_7 ?_
    refine j_icmp_gt C 16 (by decide) dX5_isDigit_9 (fun c2 => ?_) (fun c2 => ?_)
    · refine j_iconst C (nI 0) (by decide) dX5_isDigit_16 ?_
      exact j_zret C E (by first | rfl | decide) (σ) ⟨_, rfl, ⟨rfl, (bI_0 (by first | exact wB_lt c2 | exact wB_gt c2))⟩⟩ rfl dX5_isDigit_17
    · refine j_iconst C (nI 1) (by decide) dX5_isDigit_12 ?_
      refine j_goto C 17 (by decide) dX5_isDigit_13 ?_
      exact j_zret C E (by first | rfl | decide) (σ) ⟨_, rfl, ⟨rfl, (bI_1 (wB_in c1 c2))⟩⟩ rfl dX5_isDigit_17
set_option maxRecDepth 100000 in
set_option maxHeartbeats 4000000 in
theorem e_behind (g kk : Nat → Nat) (σ : St) (k : Nat) (hk : σ.1 16 = nI k) (hk6 : k ≤ 6) (hI : iX σ)  (v : Int32) : jM (S := St) yX5_behind cX5_behind 1 (some .int) { frames := 0, cells := 0, slots := 0, locals := 0 } kk (cX g kk σ) [.int v] (cX g kk) (rI (fun (r : Int32) (u : St) => u = σ ∧ (r = nI (bhd v)))) := by
  refine j_entry [(0, .int v)] (by decide) (Nat.le_of_ble_eq_true rfl) rfl ?_
  intro X C E HI
  refine j_iload_n C 0 rfl dX5_behind_0 ?_
  refine j_bipush C (nI 59) (by decide) dX5_behind_1 ?_
  refine j_icmp_ne C 10 (by decide) dX5_behind_3 (fun c1 => ?_) (fun c1 => ?_)
  · refine j_bipush C (nI 7) (by decide) dX5_behind_10 ?_
    exact j_iret C E (σ) ⟨_, rfl, ⟨rfl, (by unfold bhd; simp [c1])⟩⟩ rfl dX5_behind_12
  · refine j_iconst C (nI 0) (by decide) dX5_behind_6 ?_
    refine j_goto C 12 (by decide) dX5_behind_7 ?_
    exact j_iret C E (σ) ⟨_, rfl, ⟨rfl, (by unfold bhd; simp [c1])⟩⟩ rfl dX5_behind_12
set_option maxRecDepth 100000 in
set_option maxHeartbeats 4000000 in
theorem e_next (g kk : Nat → Nat) (σ : St) (k : Nat) (hk : σ.1 16 = nI k) (hk6 : k ≤ 6) (hI : iX σ)  (a : Nat) (ha0 : a ≤ 6) (v : Int32) : jM (S := St) yX5_next cX5_next 3 (some .int) { frames := 1, cells := 0, slots := 0, locals := 20 } kk (cX g kk σ) [.int (nI a), .int v] (cX g kk) (rI (fun (r : Int32) (u : St) => u = σ ∧ (r = nI (nx a v)))) := by
  refine j_entry [(0, .int (nI a)), (1, .int v)] (by decide) (Nat.le_of_ble_eq_true rfl) rfl ?_
  intro X C E HI
  refine j_iload_n C 1 rfl dX5_next_0 ?_
  refine j_S1 C (e_isDigit g kk σ k hk hk6 hI  v) kyX5_isDigit tb_535 tb_536 rfl (Nat.le_of_ble_eq_true rfl) ⟨by decide, by decide⟩ dX5_next_1 rfl (fun vr ur hp => ?_)
  obtain ⟨r2, rfl, hu, g1⟩ := hp
  replace hu := hu.symm
  subst hu
  subst g1
  refine j_istore_n C [(2, .int (bI (wB v (nI 48) (nI 57)))), (0, .int (nI a)), (1, .int v)] rfl (by decide) rfl dX5_next_4 ?_
  refine j_iload_n C 1 rfl dX5_next_5 ?_
  by_cases q3 : a = 0
  · rw [q3]
    refine j_tabIn C 44 (by decide) (by decide) rfl (by decide) dX5_next_6 ?_
    refine j_iload_n C 2 rfl dX5_next_44 ?_
    refine j_bipush C (nI 120) (by decide) dX5_next_45 ?_
    refine j_icmp_eq C 62 (by decide) dX5_next_47 (fun c4 => ?_) (fun c4 => ?_)
    · refine j_iconst C (nI 1) (by decide) dX5_next_62 ?_
      refine j_goto C 68 (by decide) dX5_next_63 ?_
      exact j_iret C E (σ) ⟨_, rfl, ⟨rfl, (by first | (simp [nx, bhd, dd45, dd59, n5945, n4559, q3, c4]; done) | (exfalso; omega) | (rcases (show a = 5 ∨ a = 6 by omega) with z | z <;> simp [nx, bhd, dd45, dd59, n5945, n4559, q3, c4, z]))⟩⟩ rfl dX5_next_68
    · refine j_iload_n C 2 rfl dX5_next_50 ?_
      refine j_bipush C (nI 108) (by decide) dX5_next_51 ?_
      refine j_icmp_eq C 62 (by decide) dX5_next_53 (fun c5 => ?_) (fun c5 => ?_)
      · refine j_iconst C (nI 1) (by decide) dX5_next_62 ?_
        refine j_goto C 68 (by decide) dX5_next_63 ?_
        exact j_iret C E (σ) ⟨_, rfl, ⟨rfl, (by first | (simp [nx, bhd, dd45, dd59, n5945, n4559, q3, c4, c5]; done) | (exfalso; omega) | (rcases (show a = 5 ∨ a = 6 by omega) with z | z <;> simp [nx, bhd, dd45, dd59, n5945, n4559, q3, c4, c5, z]))⟩⟩ rfl dX5_next_68
      · refine j_iload_n C 2 rfl dX5_next_56 ?_
        refine j_bipush C (nI 115) (by decide) dX5_next_57 ?_
        refine j_icmp_ne C 66 (by decide) dX5_next_59 (fun c6 => ?_) (fun c6 => ?_)
        · refine j_bipush C (nI 7) (by decide) dX5_next_66 ?_
          exact j_iret C E (σ) ⟨_, rfl, ⟨rfl, (by first | (simp [nx, bhd, dd45, dd59, n5945, n4559, q3, c4, c5, c6]; done) | (exfalso; omega) | (rcases (show a = 5 ∨ a = 6 by omega) with z | z <;> simp [nx, bhd, dd45, dd59, n5945, n4559, q3, c4, c5, c6, z]))⟩⟩ rfl dX5_next_68
        · refine j_iconst C (nI 1) (by decide) dX5_next_62 ?_
          refine j_goto C 68 (by decide) dX5_next_63 ?_
          exact j_iret C E (σ) ⟨_, rfl, ⟨rfl, (by first | (simp [nx, bhd, dd45, dd59, n5945, n4559, q3, c4, c5, c6]; done) | (exfalso; omega) | (rcases (show a = 5 ∨ a = 6 by omega) with z | z <;> simp [nx, bhd, dd45, dd59, n5945, n4559, q3, c4, c5, c6, z]))⟩⟩ rfl dX5_next_68
  · by_cases q7 : a = 1
    · rw [q7]
      refine j_tabIn C 69 (by decide) (by decide) rfl (by decide) dX5_next_6 ?_
      refine j_iload_n C 0 rfl dX5_next_69 ?_
      refine j_if_eq C 77 (by decide) dX5_next_70 (fun c8 => ?_) (fun c8 => ?_)
      · replace c8 := bI_f c8
        refine j_bipush C (nI 7) (by decide) dX5_next_77 ?_
        exact j_iret C E (σ) ⟨_, rfl, ⟨rfl, (by first | (simp [nx, bhd, dd45, dd59, n5945, n4559, q3, q7, c8]; done) | (exfalso; omega) | (rcases (show a = 5 ∨ a = 6 by omega) with z | z <;> simp [nx, bhd, dd45, dd59, n5945, n4559, q3, q7, c8, z]))⟩⟩ rfl dX5_next_79
      · replace c8 := bI_t c8
        refine j_iconst C (nI 2) (by decide) dX5_next_73 ?_
        refine j_goto C 79 (by decide) dX5_next_74 ?_
        exact j_iret C E (σ) ⟨_, rfl, ⟨rfl, (by first | (simp [nx, bhd, dd45, dd59, n5945, n4559, (dgn c8).1, (dgn c8).2, q3, q7, c8]; done) | (exfalso; omega) | (rcases (show a = 5 ∨ a = 6 by omega) with z | z <;> simp [nx, bhd, dd45, dd59, n5945, n4559, (dgn c8).1, (dgn c8).2, q3, q7, c8, z]))⟩⟩ rfl dX5_next_79
    · by_cases q9 : a = 2
      · rw [q9]
        refine j_tabIn C 80 (by decide) (by decide) rfl (by decide) dX5_next_6 ?_
        refine j_iload_n C 0 rfl dX5_next_80 ?_
        refine j_if_eq C 88 (by decide) dX5_next_81 (fun c10 => ?_) (fun c10 => ?_)
        · replace c10 := bI_f c10
          refine j_iload_n C 2 rfl dX5_next_88 ?_
          refine j_bipush C (nI 45) (by decide) dX5_next_89 ?_
          refine j_icmp_ne C 98 (by decide) dX5_next_91 (fun c11 => ?_) (fun c11 => ?_)
          · refine j_iload_n C 2 rfl dX5_next_98 ?_
            refine j_S1 C (e_behind g kk σ k hk hk6 hI  v) kyX5_behind tb_538 tb_539 rfl (Nat.le_of_ble_eq_true rfl) ⟨by decide, by decide⟩ dX5_next_99 rfl (fun vr ur hp => ?_)
            obtain ⟨r13, rfl, hu, g12⟩ := hp
            replace hu := hu.symm
            subst hu
            subst g12
            exact j_iret C E (σ) ⟨_, rfl, ⟨rfl, (by first | (simp [nx, bhd, dd45, dd59, n5945, n4559, q3, q7, q9, c10, c11]; done) | (exfalso; omega) | (rcases (show a = 5 ∨ a = 6 by omega) with z | z <;> simp [nx, bhd, dd45, dd59, n5945, n4559, q3, q7, q9, c10, c11, z]))⟩⟩ rfl dX5_next_102
          · refine j_iconst C (nI 4) (by decide) dX5_next_94 ?_
            refine j_goto C 102 (by decide) dX5_next_95 ?_
            exact j_iret C E (σ) ⟨_, rfl, ⟨rfl, (by first | (simp [nx, bhd, dd45, dd59, n5945, n4559, q3, q7, q9, c10, c11]; done) | (exfalso; omega) | (rcases (show a = 5 ∨ a = 6 by omega) with z | z <;> simp [nx, bhd, dd45, dd59, n5945, n4559, q3, q7, q9, c10, c11, z]))⟩⟩ rfl dX5_next_102
        · replace c10 := bI_t c10
          refine j_iconst C (nI 3) (by decide) dX5_next_84 ?_
          refine j_goto C 102 (by decide) dX5_next_85 ?_
          exact j_iret C E (σ) ⟨_, rfl, ⟨rfl, (by first | (simp [nx, bhd, dd45, dd59, n5945, n4559, (dgn c10).1, (dgn c10).2, q3, q7, q9, c10]; done) | (exfalso; omega) | (rcases (show a = 5 ∨ a = 6 by omega) with z | z <;> simp [nx, bhd, dd45, dd59, n5945, n4559, (dgn c10).1, (dgn c10).2, q3, q7, q9, c10, z]))⟩⟩ rfl dX5_next_102
      · by_cases q14 : a = 3
        · rw [q14]
          refine j_tabIn C 103 (by decide) (by decide) rfl (by decide) dX5_next_6 ?_
          refine j_iload_n C 2 rfl dX5_next_103 ?_
          refine j_bipush C (nI 45) (by decide) dX5_next_104 ?_
          refine j_icmp_ne C 113 (by decide) dX5_next_106 (fun c15 => ?_) (fun c15 => ?_)
          · refine j_iload_n C 2 rfl dX5_next_113 ?_
            refine j_S1 C (e_behind g kk σ k hk hk6 hI  v) kyX5_behind tb_538 tb_539 rfl (Nat.le_of_ble_eq_true rfl) ⟨by decide, by decide⟩ dX5_next_114 rfl (fun vr ur hp => ?_)
            obtain ⟨r17, rfl, hu, g16⟩ := hp
            replace hu := hu.symm
            subst hu
            subst g16
            exact j_iret C E (σ) ⟨_, rfl, ⟨rfl, (by first | (simp [nx, bhd, dd45, dd59, n5945, n4559, q3, q7, q9, q14, c15]; done) | (exfalso; omega) | (rcases (show a = 5 ∨ a = 6 by omega) with z | z <;> simp [nx, bhd, dd45, dd59, n5945, n4559, q3, q7, q9, q14, c15, z]))⟩⟩ rfl dX5_next_117
          · refine j_iconst C (nI 4) (by decide) dX5_next_109 ?_
            refine j_goto C 117 (by decide) dX5_next_110 ?_
            exact j_iret C E (σ) ⟨_, rfl, ⟨rfl, (by first | (simp [nx, bhd, dd45, dd59, n5945, n4559, q3, q7, q9, q14, c15]; done) | (exfalso; omega) | (rcases (show a = 5 ∨ a = 6 by omega) with z | z <;> simp [nx, bhd, dd45, dd59, n5945, n4559, q3, q7, q9, q14, c15, z]))⟩⟩ rfl dX5_next_117
        · by_cases q18 : a = 4
          · rw [q18]
            refine j_tabIn C 118 (by decide) (by decide) rfl (by decide) dX5_next_6 ?_
            refine j_iload_n C 0 rfl dX5_next_118 ?_
            refine j_if_eq C 126 (by decide) dX5_next_119 (fun c19 => ?_) (fun c19 => ?_)
            · replace c19 := bI_f c19
              refine j_bipush C (nI 7) (by decide) dX5_next_126 ?_
              exact j_iret C E (σ) ⟨_, rfl, ⟨rfl, (by first | (simp [nx, bhd, dd45, dd59, n5945, n4559, q3, q7, q9, q14, q18, c19]; done) | (exfalso; omega) | (rcases (show a = 5 ∨ a = 6 by omega) with z | z <;> simp [nx, bhd, dd45, dd59, n5945, n4559, q3, q7, q9, q14, q18, c19, z]))⟩⟩ rfl dX5_next_128
            · replace c19 := bI_t c19
              refine j_iconst C (nI 5) (by decide) dX5_next_122 ?_
              refine j_goto C 128 (by decide) dX5_next_123 ?_
              exact j_iret C E (σ) ⟨_, rfl, ⟨rfl, (by first | (simp [nx, bhd, dd45, dd59, n5945, n4559, (dgn c19).1, (dgn c19).2, q3, q7, q9, q14, q18, c19]; done) | (exfalso; omega) | (rcases (show a = 5 ∨ a = 6 by omega) with z | z <;> simp [nx, bhd, dd45, dd59, n5945, n4559, (dgn c19).1, (dgn c19).2, q3, q7, q9, q14, q18, c19, z]))⟩⟩ rfl dX5_next_128
          · by_cases q20 : a = 5
            · rw [q20]
              refine j_tabIn C 129 (by decide) (by decide) rfl (by decide) dX5_next_6 ?_
              refine j_iload_n C 0 rfl dX5_next_129 ?_
              refine j_if_eq C 138 (by decide) dX5_next_130 (fun c21 => ?_) (fun c21 => ?_)
              · replace c21 := bI_f c21
                refine j_iload_n C 2 rfl dX5_next_138 ?_
                refine j_S1 C (e_behind g kk σ k hk hk6 hI  v) kyX5_behind tb_538 tb_539 rfl (Nat.le_of_ble_eq_true rfl) ⟨by decide, by decide⟩ dX5_next_139 rfl (fun vr ur hp => ?_)
                obtain ⟨r23, rfl, hu, g22⟩ := hp
                replace hu := hu.symm
                subst hu
                subst g22
                exact j_iret C E (σ) ⟨_, rfl, ⟨rfl, (by first | (simp [nx, bhd, dd45, dd59, n5945, n4559, q3, q7, q9, q14, q18, q20, c21]; done) | (exfalso; omega) | (rcases (show a = 5 ∨ a = 6 by omega) with z | z <;> simp [nx, bhd, dd45, dd59, n5945, n4559, q3, q7, q9, q14, q18, q20, c21, z]))⟩⟩ rfl dX5_next_142
              · replace c21 := bI_t c21
                refine j_bipush C (nI 6) (by decide) dX5_next_133 ?_
                refine j_goto C 142 (by decide) dX5_next_135 ?_
                exact j_iret C E (σ) ⟨_, rfl, ⟨rfl, (by first | (simp [nx, bhd, dd45, dd59, n5945, n4559, (dgn c21).1, (dgn c21).2, q3, q7, q9, q14, q18, q20, c21]; done) | (exfalso; omega) | (rcases (show a = 5 ∨ a = 6 by omega) with z | z <;> simp [nx, bhd, dd45, dd59, n5945, n4559, (dgn c21).1, (dgn c21).2, q3, q7, q9, q14, q18, q20, c21, z]))⟩⟩ rfl dX5_next_142
            · refine j_tabOut C 143 (swOutN 5 (by omega) (by omega)) (by decide) dX5_next_6 ?_
              refine j_iload_n C 2 rfl dX5_next_143 ?_
              refine j_S1 C (e_behind g kk σ k hk hk6 hI  v) kyX5_behind tb_538 tb_539 rfl (Nat.le_of_ble_eq_true rfl) ⟨by decide, by decide⟩ dX5_next_144 rfl (fun vr ur hp => ?_)
              obtain ⟨r25, rfl, hu, g24⟩ := hp
              replace hu := hu.symm
              subst hu
              subst g24
              exact j_iret C E (σ) ⟨_, rfl, ⟨rfl, (by first | (simp [nx, bhd, dd45, dd59, n5945, n4559, q3, q7, q9, q14, q18, q20]; done) | (exfalso; omega) | (rcases (show a = 5 ∨ a = 6 by omega) with z | z <;> simp [nx, bhd, dd45, dd59, n5945, n4559, q3, q7, q9, q14, q18, q20, z]))⟩⟩ rfl dX5_next_147
set_option maxRecDepth 100000 in
set_option maxHeartbeats 4000000 in
theorem e_faultPlace (g kk : Nat → Nat) (σ : St) (k : Nat) (hk : σ.1 16 = nI k) (hk6 : k ≤ 6) (hI : iX σ) (n : Nat) (hn : σ.1 352 = nI n) (hnb : n ≤ 40)  : jM (S := St) yX5_faultPlace cX5_faultPlace 3 (some .int) { frames := 2, cells := 0, slots := 0, locals := 42 } kk (cX g kk σ) [.ref (g 22)] (cX g kk) (rI (fun (r : Int32) (u : St) => u = σ ∧ (r = ftR (σ.2.1 23) n 0 0))) := by
  refine j_entry [(0, .ref (g 22))] (by decide) (Nat.le_of_ble_eq_true rfl) rfl ?_
  intro X C E HI
  refine j_iconst C (nI 0) (by decide) dX5_faultPlace_0 ?_
  refine j_istore_n C [(1, .int (nI 0)), (0, .ref (g 22))] rfl (by decide) rfl dX5_faultPlace_1 ?_
  refine j_iconst C (nI 0) (by decide) dX5_faultPlace_2 ?_
  refine j_istore_n C [(2, .int (nI 0)), (1, .int (nI 0)), (0, .ref (g 22))] rfl (by decide) rfl dX5_faultPlace_3 ?_
  have L4 : ∀ (n4 : Nat) (i : Nat) (a : Nat) (i4_0 : i ≤ n) (i4_1 : a ≤ 6) (he : ftR (σ.2.1 23) n 0 0 = ftR (σ.2.1 23) (n - i) i a) (hm4 : n - i < n4), J X 0 0 (cX g kk σ) [(2, .int (nI i)), (1, .int (nI a)), (0, .ref (g 22))] 4 [] := by
    intro n4
    induction n4 with
    | zero => intro i a i4_0 i4_1 he hm; exact absurd hm (Nat.not_lt_zero _)
    | succ n4 ih4 =>
      intro i a i4_0 i4_1 he hm4
      refine j_iload_n C 0 rfl dX5_faultPlace_4 ?_
      refine j_aload_n C 2 rfl dX5_faultPlace_5 ?_
      refine gX_22_0 C tb_168 (nI n) hn dX5_faultPlace_6 ?_
      refine j_icmp_geN C 37 (by decide) (by omega) (by omega) dX5_faultPlace_9 (fun c1 => ?_) (fun c1 => ?_)
      · refine j_iload_n C 1 rfl dX5_faultPlace_37 ?_
        refine j_if_eqN C 55 (by decide) (by omega) dX5_faultPlace_38 (fun c2 => ?_) (fun c2 => ?_)
        · refine j_iconst C (nI 0) (by decide) dX5_faultPlace_55 ?_
          refine j_istore_n C [(2, .int (nI 0)), (1, .int (nI a)), (0, .ref (g 22))] rfl (by decide) rfl dX5_faultPlace_56 ?_
          refine j_iload_n C 0 rfl dX5_faultPlace_57 ?_
          refine j_if_eqN C 65 (by decide) (by omega) dX5_faultPlace_58 (fun c3 => ?_) (fun c3 => ?_)
          · refine j_aload_n C 2 rfl dX5_faultPlace_65 ?_
            refine gX_22_0 C tb_168 (nI n) hn dX5_faultPlace_66 ?_
            exact j_iret C E (σ) ⟨_, rfl, ⟨rfl, (ftR_e he (by omega) (by omega)).symm⟩⟩ rfl dX5_faultPlace_69
          · exact absurd c3 (by decide)
        · refine j_iload_n C 1 rfl dX5_faultPlace_41 ?_
          refine j_iconst C (nI 1) (by decide) dX5_faultPlace_42 ?_
          refine j_icmp_eqN C 55 (by decide) (by omega) (by omega) dX5_faultPlace_43 (fun c4 => ?_) (fun c4 => ?_)
          · refine j_iconst C (nI 0) (by decide) dX5_faultPlace_55 ?_
            refine j_istore_n C [(2, .int (nI 0)), (1, .int (nI a)), (0, .ref (g 22))] rfl (by decide) rfl dX5_faultPlace_56 ?_
            refine j_iload_n C 0 rfl dX5_faultPlace_57 ?_
            refine j_if_eqN C 65 (by decide) (by omega) dX5_faultPlace_58 (fun c5 => ?_) (fun c5 => ?_)
            · refine j_aload_n C 2 rfl dX5_faultPlace_65 ?_
              refine gX_22_0 C tb_168 (nI n) hn dX5_faultPlace_66 ?_
              exact j_iret C E (σ) ⟨_, rfl, ⟨rfl, (ftR_e he (by omega) (by omega)).symm⟩⟩ rfl dX5_faultPlace_69
            · exact absurd c5 (by decide)
          · refine j_iload_n C 1 rfl dX5_faultPlace_46 ?_
            refine j_iconst C (nI 4) (by decide) dX5_faultPlace_47 ?_
            refine j_icmp_eqN C 55 (by decide) (by omega) (by omega) dX5_faultPlace_48 (fun c6 => ?_) (fun c6 => ?_)
            · refine j_iconst C (nI 0) (by decide) dX5_faultPlace_55 ?_
              refine j_istore_n C [(2, .int (nI 0)), (1, .int (nI a)), (0, .ref (g 22))] rfl (by decide) rfl dX5_faultPlace_56 ?_
              refine j_iload_n C 0 rfl dX5_faultPlace_57 ?_
              refine j_if_eqN C 65 (by decide) (by omega) dX5_faultPlace_58 (fun c7 => ?_) (fun c7 => ?_)
              · refine j_aload_n C 2 rfl dX5_faultPlace_65 ?_
                refine gX_22_0 C tb_168 (nI n) hn dX5_faultPlace_66 ?_
                exact j_iret C E (σ) ⟨_, rfl, ⟨rfl, (ftR_e he (by omega) (by omega)).symm⟩⟩ rfl dX5_faultPlace_69
              · exact absurd c7 (by decide)
            · refine j_iconst C (nI 1) (by decide) dX5_faultPlace_51 ?_
              refine j_goto C 56 (by decide) dX5_faultPlace_52 ?_
              refine j_istore_n C [(2, .int (nI 1)), (1, .int (nI a)), (0, .ref (g 22))] rfl (by decide) rfl dX5_faultPlace_56 ?_
              refine j_iload_n C 0 rfl dX5_faultPlace_57 ?_
              refine j_if_eqN C 65 (by decide) (by omega) dX5_faultPlace_58 (fun c8 => ?_) (fun c8 => ?_)
              · exact absurd c8 (by decide)
              · refine j_iconst C ((-1)) (by decide) dX5_faultPlace_61 ?_
                refine j_goto C 69 (by decide) dX5_faultPlace_62 ?_
                exact j_iret C E (σ) ⟨_, rfl, ⟨rfl, (ftR_g he (by omega) (by omega)).symm⟩⟩ rfl dX5_faultPlace_69
      · refine j_iload_n C 1 rfl dX5_faultPlace_12 ?_
        refine j_aload_n C 2 rfl dX5_faultPlace_13 ?_
        refine gX_22_2 C tb_172 dX5_faultPlace_14 ?_
        refine j_iload_n C 0 rfl dX5_faultPlace_17 ?_
        refine rX_23 C i rfl (by omega) ((σ.2.1 23) i) rfl dX5_faultPlace_18 ?_
        have hnl := nx_le a (σ.2.1 23 i)
        refine j_S1 C (e_next g kk σ k hk hk6 hI  a (by first | assumption | omega) ((σ.2.1 23) i)) kyX5_next tb_532 tb_533 rfl (Nat.le_of_ble_eq_true rfl) ⟨by decide, by decide⟩ dX5_faultPlace_19 rfl (fun vr ur hp => ?_)
        obtain ⟨r10, rfl, hu, g9⟩ := hp
        replace hu := hu.symm
        subst hu
        subst g9
        refine j_istore_n C [(1, .int (nI (nx a ((σ.2.1 23) i)))), (2, .int (nI i)), (0, .ref (g 22))] rfl (by decide) rfl dX5_faultPlace_22 ?_
        refine j_iload_n C 0 rfl dX5_faultPlace_23 ?_
        refine j_bipush C (nI 7) (by decide) dX5_faultPlace_24 ?_
        refine j_icmp_neN C 31 (by decide) (by omega) (by omega) dX5_faultPlace_26 (fun c11 => ?_) (fun c11 => ?_)
        · refine j_iinc C (nI (i + 1)) [(2, .int (nI (i + 1))), (1, .int (nI (nx a ((σ.2.1 23) i)))), (0, .ref (g 22))] 1 rfl (by rw [show Int32.ofInt 1 = nI 1 from by decide, nI_add]) (by decide) rfl dX5_faultPlace_31 ?_
          refine j_goto C 4 (by decide) dX5_faultPlace_34 ?_
          exact ih4 (i + 1) (nx a ((σ.2.1 23) i)) (by omega) (by omega) (ftR_s he (by omega) (by omega)) (by omega)
        · refine j_iload_n C 1 rfl dX5_faultPlace_29 ?_
          exact j_iret C E (σ) ⟨_, rfl, ⟨rfl, (ftR_7 he (by omega) c11).symm⟩⟩ rfl dX5_faultPlace_30
  exact L4 _ 0 0 (by omega) (by omega) rfl (Nat.lt_succ_self _)
set_option maxRecDepth 100000 in
set_option maxHeartbeats 4000000 in
theorem o_stepOf (g kk : Nat → Nat) (σ : St) (k : Nat) (hk : σ.1 3 = nI k) (hk6 : k ≤ 6) (hI : iM σ)  (a : Nat) (ha0 : a ≤ 6) (v : Int32) : jM (S := St) yX11_stepOf cX11_stepOf 3 (some .int) { frames := 1, cells := 0, slots := 0, locals := 25 } kk (cM g kk σ) [.int (nI a), .int v] (cM g kk) (rI (fun (r : Int32) (u : St) => u = σ ∧ (r = sgn (nx a v)))) := by
  refine j_entry [(0, .int (nI a)), (1, .int v)] (by decide) (Nat.le_of_ble_eq_true rfl) rfl ?_
  intro X C E HI
  refine j_iload_n C 1 rfl dX11_stepOf_0 ?_
  refine j_i2l C dX11_stepOf_1 ?_
  refine j_ldc2 C tb_1112 dX11_stepOf_2 ?_
  refine j_ldc2 C tb_1113 dX11_stepOf_5 ?_
  refine j_S01 C (m_inB v (nI 48) (nI 57) (48) (57) (by decide) (by decide)) kyX11_in tb_1057 tb_1058 rfl (Nat.le_of_ble_eq_true rfl) ⟨by decide, by decide⟩ ⟨by decide, by decide⟩ dX11_stepOf_8 rfl ?_
  refine j_istore_n C [(2, .int (bI (wB v (nI 48) (nI 57)))), (0, .int (nI a)), (1, .int v)] rfl (by decide) rfl dX11_stepOf_11 ?_
  refine j_iload_n C 1 rfl dX11_stepOf_12 ?_
  by_cases q1 : a = 0
  · rw [q1]
    refine j_tabIn C 48 (by decide) (by decide) rfl (by decide) dX11_stepOf_13 ?_
    refine j_iload_n C 2 rfl dX11_stepOf_48 ?_
    refine j_bipush C (nI 120) (by decide) dX11_stepOf_49 ?_
    refine j_icmp_eq C 66 (by decide) dX11_stepOf_51 (fun c2 => ?_) (fun c2 => ?_)
    · refine j_iconst C (nI 1) (by decide) dX11_stepOf_66 ?_
      refine j_goto C 71 (by decide) dX11_stepOf_67 ?_
      exact j_iret C E (σ) ⟨_, rfl, ⟨rfl, (by first | (simp [sgn, nx, bhd, dd45, dd59, n5945, n4559, q1, c2]; done) | (exfalso; omega) | (rcases (show a = 5 ∨ a = 6 by omega) with z | z <;> simp [sgn, nx, bhd, dd45, dd59, n5945, n4559, q1, c2, z]))⟩⟩ rfl dX11_stepOf_71
    · refine j_iload_n C 2 rfl dX11_stepOf_54 ?_
      refine j_bipush C (nI 108) (by decide) dX11_stepOf_55 ?_
      refine j_icmp_eq C 66 (by decide) dX11_stepOf_57 (fun c3 => ?_) (fun c3 => ?_)
      · refine j_iconst C (nI 1) (by decide) dX11_stepOf_66 ?_
        refine j_goto C 71 (by decide) dX11_stepOf_67 ?_
        exact j_iret C E (σ) ⟨_, rfl, ⟨rfl, (by first | (simp [sgn, nx, bhd, dd45, dd59, n5945, n4559, q1, c2, c3]; done) | (exfalso; omega) | (rcases (show a = 5 ∨ a = 6 by omega) with z | z <;> simp [sgn, nx, bhd, dd45, dd59, n5945, n4559, q1, c2, c3, z]))⟩⟩ rfl dX11_stepOf_71
      · refine j_iload_n C 2 rfl dX11_stepOf_60 ?_
        refine j_bipush C (nI 115) (by decide) dX11_stepOf_61 ?_
        refine j_icmp_ne C 70 (by decide) dX11_stepOf_63 (fun c4 => ?_) (fun c4 => ?_)
        · refine j_iconst C ((-1)) (by decide) dX11_stepOf_70 ?_
          exact j_iret C E (σ) ⟨_, rfl, ⟨rfl, (by first | (simp [sgn, nx, bhd, dd45, dd59, n5945, n4559, q1, c2, c3, c4]; done) | (exfalso; omega) | (rcases (show a = 5 ∨ a = 6 by omega) with z | z <;> simp [sgn, nx, bhd, dd45, dd59, n5945, n4559, q1, c2, c3, c4, z]))⟩⟩ rfl dX11_stepOf_71
        · refine j_iconst C (nI 1) (by decide) dX11_stepOf_66 ?_
          refine j_goto C 71 (by decide) dX11_stepOf_67 ?_
          exact j_iret C E (σ) ⟨_, rfl, ⟨rfl, (by first | (simp [sgn, nx, bhd, dd45, dd59, n5945, n4559, q1, c2, c3, c4]; done) | (exfalso; omega) | (rcases (show a = 5 ∨ a = 6 by omega) with z | z <;> simp [sgn, nx, bhd, dd45, dd59, n5945, n4559, q1, c2, c3, c4, z]))⟩⟩ rfl dX11_stepOf_71
  · by_cases q5 : a = 1
    · rw [q5]
      refine j_tabIn C 72 (by decide) (by decide) rfl (by decide) dX11_stepOf_13 ?_
      refine j_iload_n C 0 rfl dX11_stepOf_72 ?_
      refine j_if_eq C 80 (by decide) dX11_stepOf_73 (fun c6 => ?_) (fun c6 => ?_)
      · replace c6 := bI_f c6
        refine j_iconst C ((-1)) (by decide) dX11_stepOf_80 ?_
        exact j_iret C E (σ) ⟨_, rfl, ⟨rfl, (by first | (simp [sgn, nx, bhd, dd45, dd59, n5945, n4559, q1, q5, c6]; done) | (exfalso; omega) | (rcases (show a = 5 ∨ a = 6 by omega) with z | z <;> simp [sgn, nx, bhd, dd45, dd59, n5945, n4559, q1, q5, c6, z]))⟩⟩ rfl dX11_stepOf_81
      · replace c6 := bI_t c6
        refine j_iconst C (nI 2) (by decide) dX11_stepOf_76 ?_
        refine j_goto C 81 (by decide) dX11_stepOf_77 ?_
        exact j_iret C E (σ) ⟨_, rfl, ⟨rfl, (by first | (simp [sgn, nx, bhd, dd45, dd59, n5945, n4559, (dgn c6).1, (dgn c6).2, q1, q5, c6]; done) | (exfalso; omega) | (rcases (show a = 5 ∨ a = 6 by omega) with z | z <;> simp [sgn, nx, bhd, dd45, dd59, n5945, n4559, (dgn c6).1, (dgn c6).2, q1, q5, c6, z]))⟩⟩ rfl dX11_stepOf_81
    · by_cases q7 : a = 2
      · rw [q7]
        refine j_tabIn C 92 (by decide) (by decide) rfl (by decide) dX11_stepOf_13 ?_
        refine j_iload_n C 0 rfl dX11_stepOf_92 ?_
        refine j_if_eq C 114 (by decide) dX11_stepOf_93 (fun c8 => ?_) (fun c8 => ?_)
        · replace c8 := bI_f c8
          refine j_iload_n C 2 rfl dX11_stepOf_114 ?_
          refine j_bipush C (nI 59) (by decide) dX11_stepOf_115 ?_
          refine j_icmp_ne C 124 (by decide) dX11_stepOf_117 (fun c9 => ?_) (fun c9 => ?_)
          · refine j_iload_n C 2 rfl dX11_stepOf_124 ?_
            refine j_bipush C (nI 45) (by decide) dX11_stepOf_125 ?_
            refine j_icmp_ne C 139 (by decide) dX11_stepOf_127 (fun c10 => ?_) (fun c10 => ?_)
            · refine j_iconst C ((-1)) (by decide) dX11_stepOf_139 ?_
              exact j_iret C E (σ) ⟨_, rfl, ⟨rfl, (by first | (simp [sgn, nx, bhd, dd45, dd59, n5945, n4559, q1, q5, q7, c8, c9, c10]; done) | (exfalso; omega) | (rcases (show a = 5 ∨ a = 6 by omega) with z | z <;> simp [sgn, nx, bhd, dd45, dd59, n5945, n4559, q1, q5, q7, c8, c9, c10, z]))⟩⟩ rfl dX11_stepOf_140
            · refine j_iload_n C 1 rfl dX11_stepOf_130 ?_
              refine j_iconst C (nI 4) (by decide) dX11_stepOf_131 ?_
              refine j_icmp_geN C 139 (by decide) (by omega) (by omega) dX11_stepOf_132 (fun c11 => ?_) (fun c11 => ?_)
              · exact absurd c11 (by decide)
              · refine j_iconst C (nI 4) (by decide) dX11_stepOf_135 ?_
                refine j_goto C 140 (by decide) dX11_stepOf_136 ?_
                exact j_iret C E (σ) ⟨_, rfl, ⟨rfl, (by first | (simp [sgn, nx, bhd, dd45, dd59, n5945, n4559, q1, q5, q7, c8, c9, c10]; done) | (exfalso; omega) | (rcases (show a = 5 ∨ a = 6 by omega) with z | z <;> simp [sgn, nx, bhd, dd45, dd59, n5945, n4559, q1, q5, q7, c8, c9, c10, z]))⟩⟩ rfl dX11_stepOf_140
          · refine j_iconst C (nI 0) (by decide) dX11_stepOf_120 ?_
            refine j_goto C 140 (by decide) dX11_stepOf_121 ?_
            exact j_iret C E (σ) ⟨_, rfl, ⟨rfl, (by first | (simp [sgn, nx, bhd, dd45, dd59, n5945, n4559, q1, q5, q7, c8, c9]; done) | (exfalso; omega) | (rcases (show a = 5 ∨ a = 6 by omega) with z | z <;> simp [sgn, nx, bhd, dd45, dd59, n5945, n4559, q1, q5, q7, c8, c9, z]))⟩⟩ rfl dX11_stepOf_140
        · replace c8 := bI_t c8
          refine j_iload_n C 1 rfl dX11_stepOf_96 ?_
          refine j_iconst C (nI 2) (by decide) dX11_stepOf_97 ?_
          refine j_icmp_eqN C 106 (by decide) (by omega) (by omega) dX11_stepOf_98 (fun c12 => ?_) (fun c12 => ?_)
          · refine j_iload_n C 1 rfl dX11_stepOf_106 ?_
            refine j_iconst C (nI 1) (by decide) dX11_stepOf_107 ?_
            refine j_iaddN C dX11_stepOf_108 ?_
            refine j_goto C 113 (by decide) dX11_stepOf_109 ?_
            exact j_iret C E (σ) ⟨_, rfl, ⟨rfl, (by first | (simp [sgn, nx, bhd, dd45, dd59, n5945, n4559, (dgn c8).1, (dgn c8).2, q1, q5, q7, c8]; done) | (exfalso; omega) | (rcases (show a = 5 ∨ a = 6 by omega) with z | z <;> simp [sgn, nx, bhd, dd45, dd59, n5945, n4559, (dgn c8).1, (dgn c8).2, q1, q5, q7, c8, z]))⟩⟩ rfl dX11_stepOf_113
          · exact absurd c12 (by decide)
      · by_cases q13 : a = 3
        · rw [q13]
          refine j_tabIn C 92 (by decide) (by decide) rfl (by decide) dX11_stepOf_13 ?_
          refine j_iload_n C 0 rfl dX11_stepOf_92 ?_
          refine j_if_eq C 114 (by decide) dX11_stepOf_93 (fun c14 => ?_) (fun c14 => ?_)
          · replace c14 := bI_f c14
            refine j_iload_n C 2 rfl dX11_stepOf_114 ?_
            refine j_bipush C (nI 59) (by decide) dX11_stepOf_115 ?_
            refine j_icmp_ne C 124 (by decide) dX11_stepOf_117 (fun c15 => ?_) (fun c15 => ?_)
            · refine j_iload_n C 2 rfl dX11_stepOf_124 ?_
              refine j_bipush C (nI 45) (by decide) dX11_stepOf_125 ?_
              refine j_icmp_ne C 139 (by decide) dX11_stepOf_127 (fun c16 => ?_) (fun c16 => ?_)
              · refine j_iconst C ((-1)) (by decide) dX11_stepOf_139 ?_
                exact j_iret C E (σ) ⟨_, rfl, ⟨rfl, (by first | (simp [sgn, nx, bhd, dd45, dd59, n5945, n4559, q1, q5, q7, q13, c14, c15, c16]; done) | (exfalso; omega) | (rcases (show a = 5 ∨ a = 6 by omega) with z | z <;> simp [sgn, nx, bhd, dd45, dd59, n5945, n4559, q1, q5, q7, q13, c14, c15, c16, z]))⟩⟩ rfl dX11_stepOf_140
              · refine j_iload_n C 1 rfl dX11_stepOf_130 ?_
                refine j_iconst C (nI 4) (by decide) dX11_stepOf_131 ?_
                refine j_icmp_geN C 139 (by decide) (by omega) (by omega) dX11_stepOf_132 (fun c17 => ?_) (fun c17 => ?_)
                · exact absurd c17 (by decide)
                · refine j_iconst C (nI 4) (by decide) dX11_stepOf_135 ?_
                  refine j_goto C 140 (by decide) dX11_stepOf_136 ?_
                  exact j_iret C E (σ) ⟨_, rfl, ⟨rfl, (by first | (simp [sgn, nx, bhd, dd45, dd59, n5945, n4559, q1, q5, q7, q13, c14, c15, c16]; done) | (exfalso; omega) | (rcases (show a = 5 ∨ a = 6 by omega) with z | z <;> simp [sgn, nx, bhd, dd45, dd59, n5945, n4559, q1, q5, q7, q13, c14, c15, c16, z]))⟩⟩ rfl dX11_stepOf_140
            · refine j_iconst C (nI 0) (by decide) dX11_stepOf_120 ?_
              refine j_goto C 140 (by decide) dX11_stepOf_121 ?_
              exact j_iret C E (σ) ⟨_, rfl, ⟨rfl, (by first | (simp [sgn, nx, bhd, dd45, dd59, n5945, n4559, q1, q5, q7, q13, c14, c15]; done) | (exfalso; omega) | (rcases (show a = 5 ∨ a = 6 by omega) with z | z <;> simp [sgn, nx, bhd, dd45, dd59, n5945, n4559, q1, q5, q7, q13, c14, c15, z]))⟩⟩ rfl dX11_stepOf_140
          · replace c14 := bI_t c14
            refine j_iload_n C 1 rfl dX11_stepOf_96 ?_
            refine j_iconst C (nI 2) (by decide) dX11_stepOf_97 ?_
            refine j_icmp_eqN C 106 (by decide) (by omega) (by omega) dX11_stepOf_98 (fun c18 => ?_) (fun c18 => ?_)
            · exact absurd c18 (by decide)
            · refine j_iload_n C 1 rfl dX11_stepOf_101 ?_
              refine j_iconst C (nI 5) (by decide) dX11_stepOf_102 ?_
              refine j_icmp_neN C 112 (by decide) (by omega) (by omega) dX11_stepOf_103 (fun c19 => ?_) (fun c19 => ?_)
              · refine j_iconst C ((-1)) (by decide) dX11_stepOf_112 ?_
                exact j_iret C E (σ) ⟨_, rfl, ⟨rfl, (by first | (simp [sgn, nx, bhd, dd45, dd59, n5945, n4559, (dgn c14).1, (dgn c14).2, q1, q5, q7, q13, c14]; done) | (exfalso; omega) | (rcases (show a = 5 ∨ a = 6 by omega) with z | z <;> simp [sgn, nx, bhd, dd45, dd59, n5945, n4559, (dgn c14).1, (dgn c14).2, q1, q5, q7, q13, c14, z]))⟩⟩ rfl dX11_stepOf_113
              · exact absurd c19 (by decide)
        · by_cases q20 : a = 4
          · rw [q20]
            refine j_tabIn C 82 (by decide) (by decide) rfl (by decide) dX11_stepOf_13 ?_
            refine j_iload_n C 0 rfl dX11_stepOf_82 ?_
            refine j_if_eq C 90 (by decide) dX11_stepOf_83 (fun c21 => ?_) (fun c21 => ?_)
            · replace c21 := bI_f c21
              refine j_iconst C ((-1)) (by decide) dX11_stepOf_90 ?_
              exact j_iret C E (σ) ⟨_, rfl, ⟨rfl, (by first | (simp [sgn, nx, bhd, dd45, dd59, n5945, n4559, q1, q5, q7, q13, q20, c21]; done) | (exfalso; omega) | (rcases (show a = 5 ∨ a = 6 by omega) with z | z <;> simp [sgn, nx, bhd, dd45, dd59, n5945, n4559, q1, q5, q7, q13, q20, c21, z]))⟩⟩ rfl dX11_stepOf_91
            · replace c21 := bI_t c21
              refine j_iconst C (nI 5) (by decide) dX11_stepOf_86 ?_
              refine j_goto C 91 (by decide) dX11_stepOf_87 ?_
              exact j_iret C E (σ) ⟨_, rfl, ⟨rfl, (by first | (simp [sgn, nx, bhd, dd45, dd59, n5945, n4559, (dgn c21).1, (dgn c21).2, q1, q5, q7, q13, q20, c21]; done) | (exfalso; omega) | (rcases (show a = 5 ∨ a = 6 by omega) with z | z <;> simp [sgn, nx, bhd, dd45, dd59, n5945, n4559, (dgn c21).1, (dgn c21).2, q1, q5, q7, q13, q20, c21, z]))⟩⟩ rfl dX11_stepOf_91
          · refine j_tabOut C 92 (swOutN 4 (by omega) (by omega)) (by decide) dX11_stepOf_13 ?_
            refine j_iload_n C 0 rfl dX11_stepOf_92 ?_
            refine j_if_eq C 114 (by decide) dX11_stepOf_93 (fun c22 => ?_) (fun c22 => ?_)
            · replace c22 := bI_f c22
              refine j_iload_n C 2 rfl dX11_stepOf_114 ?_
              refine j_bipush C (nI 59) (by decide) dX11_stepOf_115 ?_
              refine j_icmp_ne C 124 (by decide) dX11_stepOf_117 (fun c23 => ?_) (fun c23 => ?_)
              · refine j_iload_n C 2 rfl dX11_stepOf_124 ?_
                refine j_bipush C (nI 45) (by decide) dX11_stepOf_125 ?_
                refine j_icmp_ne C 139 (by decide) dX11_stepOf_127 (fun c24 => ?_) (fun c24 => ?_)
                · refine j_iconst C ((-1)) (by decide) dX11_stepOf_139 ?_
                  exact j_iret C E (σ) ⟨_, rfl, ⟨rfl, (by first | (simp [sgn, nx, bhd, dd45, dd59, n5945, n4559, q1, q5, q7, q13, q20, c22, c23, c24]; done) | (exfalso; omega) | (rcases (show a = 5 ∨ a = 6 by omega) with z | z <;> simp [sgn, nx, bhd, dd45, dd59, n5945, n4559, q1, q5, q7, q13, q20, c22, c23, c24, z]))⟩⟩ rfl dX11_stepOf_140
                · refine j_iload_n C 1 rfl dX11_stepOf_130 ?_
                  refine j_iconst C (nI 4) (by decide) dX11_stepOf_131 ?_
                  refine j_icmp_geN C 139 (by decide) (by omega) (by omega) dX11_stepOf_132 (fun c25 => ?_) (fun c25 => ?_)
                  · refine j_iconst C ((-1)) (by decide) dX11_stepOf_139 ?_
                    exact j_iret C E (σ) ⟨_, rfl, ⟨rfl, (by first | (simp [sgn, nx, bhd, dd45, dd59, n5945, n4559, q1, q5, q7, q13, q20, c22, c23, c24, c25]; done) | (exfalso; omega) | (rcases (show a = 5 ∨ a = 6 by omega) with z | z <;> simp [sgn, nx, bhd, dd45, dd59, n5945, n4559, q1, q5, q7, q13, q20, c22, c23, c24, c25, z]))⟩⟩ rfl dX11_stepOf_140
                  · refine j_iconst C (nI 4) (by decide) dX11_stepOf_135 ?_
                    refine j_goto C 140 (by decide) dX11_stepOf_136 ?_
                    exact j_iret C E (σ) ⟨_, rfl, ⟨rfl, (by first | (simp [sgn, nx, bhd, dd45, dd59, n5945, n4559, q1, q5, q7, q13, q20, c22, c23, c24, c25]; done) | (exfalso; omega) | (rcases (show a = 5 ∨ a = 6 by omega) with z | z <;> simp [sgn, nx, bhd, dd45, dd59, n5945, n4559, q1, q5, q7, q13, q20, c22, c23, c24, c25, z]))⟩⟩ rfl dX11_stepOf_140
              · refine j_iconst C (nI 0) (by decide) dX11_stepOf_120 ?_
                refine j_goto C 140 (by decide) dX11_stepOf_121 ?_
                exact j_iret C E (σ) ⟨_, rfl, ⟨rfl, (by first | (simp [sgn, nx, bhd, dd45, dd59, n5945, n4559, q1, q5, q7, q13, q20, c22, c23]; done) | (exfalso; omega) | (rcases (show a = 5 ∨ a = 6 by omega) with z | z <;> simp [sgn, nx, bhd, dd45, dd59, n5945, n4559, q1, q5, q7, q13, q20, c22, c23, z]))⟩⟩ rfl dX11_stepOf_140
            · replace c22 := bI_t c22
              refine j_iload_n C 1 rfl dX11_stepOf_96 ?_
              refine j_iconst C (nI 2) (by decide) dX11_stepOf_97 ?_
              refine j_icmp_eqN C 106 (by decide) (by omega) (by omega) dX11_stepOf_98 (fun c26 => ?_) (fun c26 => ?_)
              · refine j_iload_n C 1 rfl dX11_stepOf_106 ?_
                refine j_iconst C (nI 1) (by decide) dX11_stepOf_107 ?_
                refine j_iaddN C dX11_stepOf_108 ?_
                refine j_goto C 113 (by decide) dX11_stepOf_109 ?_
                exact j_iret C E (σ) ⟨_, rfl, ⟨rfl, (by first | (simp [sgn, nx, bhd, dd45, dd59, n5945, n4559, (dgn c22).1, (dgn c22).2, q1, q5, q7, q13, q20, c22, c26]; done) | (exfalso; omega) | (rcases (show a = 5 ∨ a = 6 by omega) with z | z <;> simp [sgn, nx, bhd, dd45, dd59, n5945, n4559, (dgn c22).1, (dgn c22).2, q1, q5, q7, q13, q20, c22, c26, z]))⟩⟩ rfl dX11_stepOf_113
              · refine j_iload_n C 1 rfl dX11_stepOf_101 ?_
                refine j_iconst C (nI 5) (by decide) dX11_stepOf_102 ?_
                refine j_icmp_neN C 112 (by decide) (by omega) (by omega) dX11_stepOf_103 (fun c27 => ?_) (fun c27 => ?_)
                · refine j_iconst C ((-1)) (by decide) dX11_stepOf_112 ?_
                  exact j_iret C E (σ) ⟨_, rfl, ⟨rfl, (by first | (simp [sgn, nx, bhd, dd45, dd59, n5945, n4559, (dgn c22).1, (dgn c22).2, q1, q5, q7, q13, q20, c22, c26, c27]; done) | (exfalso; omega) | (rcases (show a = 5 ∨ a = 6 by omega) with z | z <;> simp [sgn, nx, bhd, dd45, dd59, n5945, n4559, (dgn c22).1, (dgn c22).2, q1, q5, q7, q13, q20, c22, c26, c27, z]))⟩⟩ rfl dX11_stepOf_113
                · refine j_iload_n C 1 rfl dX11_stepOf_106 ?_
                  refine j_iconst C (nI 1) (by decide) dX11_stepOf_107 ?_
                  refine j_iaddN C dX11_stepOf_108 ?_
                  refine j_goto C 113 (by decide) dX11_stepOf_109 ?_
                  exact j_iret C E (σ) ⟨_, rfl, ⟨rfl, (by first | (simp [sgn, nx, bhd, dd45, dd59, n5945, n4559, (dgn c22).1, (dgn c22).2, q1, q5, q7, q13, q20, c22, c26, c27]; done) | (exfalso; omega) | (rcases (show a = 5 ∨ a = 6 by omega) with z | z <;> simp [sgn, nx, bhd, dd45, dd59, n5945, n4559, (dgn c22).1, (dgn c22).2, q1, q5, q7, q13, q20, c22, c26, c27, z]))⟩⟩ rfl dX11_stepOf_113
set_option maxRecDepth 100000 in
set_option maxHeartbeats 4000000 in
theorem o_fault (g kk : Nat → Nat) (σ : St) (k : Nat) (hk : σ.1 3 = nI k) (hk6 : k ≤ 6) (hI : iM σ) (n : Nat) (hn : σ.1 15 = nI n) (hnb : n ≤ 40)  : jM (S := St) yX11_fault cX11_fault 3 (some .int) { frames := 2, cells := 0, slots := 0, locals := 47 } kk (cM g kk σ) [.ref (g 0)] (cM g kk) (rI (fun (r : Int32) (u : St) => u = σ ∧ (r = tr (ftR (σ.2.1 9) n 0 0)))) := by
  refine j_entry [(0, .ref (g 0))] (by decide) (Nat.le_of_ble_eq_true rfl) rfl ?_
  intro X C E HI
  refine j_iconst C (nI 0) (by decide) dX11_fault_0 ?_
  refine j_istore_n C [(1, .int (nI 0)), (0, .ref (g 0))] rfl (by decide) rfl dX11_fault_1 ?_
  refine j_iconst C (nI 0) (by decide) dX11_fault_2 ?_
  refine j_istore_n C [(2, .int (nI 0)), (1, .int (nI 0)), (0, .ref (g 0))] rfl (by decide) rfl dX11_fault_3 ?_
  have L4 : ∀ (n4 : Nat) (i : Nat) (a : Nat) (i4_0 : i ≤ n) (i4_1 : a ≤ 6) (he : ftR (σ.2.1 9) n 0 0 = ftR (σ.2.1 9) (n - i) i a) (hm4 : n - i < n4), J X 0 0 (cM g kk σ) [(2, .int (nI i)), (1, .int (nI a)), (0, .ref (g 0))] 4 [] := by
    intro n4
    induction n4 with
    | zero => intro i a i4_0 i4_1 he hm; exact absurd hm (Nat.not_lt_zero _)
    | succ n4 ih4 =>
      intro i a i4_0 i4_1 he hm4
      refine j_iload_n C 0 rfl dX11_fault_4 ?_
      refine j_aload_n C 2 rfl dX11_fault_5 ?_
      refine gM_0_15 C tb_888 (nI n) hn dX11_fault_6 ?_
      refine j_icmp_geN C 35 (by decide) (by omega) (by omega) dX11_fault_9 (fun c1 => ?_) (fun c1 => ?_)
      · refine j_iload_n C 1 rfl dX11_fault_35 ?_
        refine j_iconst C (nI 2) (by decide) dX11_fault_36 ?_
        refine j_icmp_eqN C 56 (by decide) (by omega) (by omega) dX11_fault_37 (fun c2 => ?_) (fun c2 => ?_)
        · refine j_bipush C ((-6)) (by decide) dX11_fault_56 ?_
          refine j_goto C 65 (by decide) dX11_fault_58 ?_
          exact j_iret C E (σ) ⟨_, rfl, ⟨rfl, (by rw [ftR_g he (by omega) (by omega)]; rfl)⟩⟩ rfl dX11_fault_65
        · refine j_iload_n C 1 rfl dX11_fault_40 ?_
          refine j_iconst C (nI 3) (by decide) dX11_fault_41 ?_
          refine j_icmp_eqN C 56 (by decide) (by omega) (by omega) dX11_fault_42 (fun c3 => ?_) (fun c3 => ?_)
          · refine j_bipush C ((-6)) (by decide) dX11_fault_56 ?_
            refine j_goto C 65 (by decide) dX11_fault_58 ?_
            exact j_iret C E (σ) ⟨_, rfl, ⟨rfl, (by rw [ftR_g he (by omega) (by omega)]; rfl)⟩⟩ rfl dX11_fault_65
          · refine j_iload_n C 1 rfl dX11_fault_45 ?_
            refine j_iconst C (nI 5) (by decide) dX11_fault_46 ?_
            refine j_icmp_eqN C 56 (by decide) (by omega) (by omega) dX11_fault_47 (fun c4 => ?_) (fun c4 => ?_)
            · refine j_bipush C ((-6)) (by decide) dX11_fault_56 ?_
              refine j_goto C 65 (by decide) dX11_fault_58 ?_
              exact j_iret C E (σ) ⟨_, rfl, ⟨rfl, (by rw [ftR_g he (by omega) (by omega)]; rfl)⟩⟩ rfl dX11_fault_65
            · refine j_iload_n C 1 rfl dX11_fault_50 ?_
              refine j_bipush C (nI 6) (by decide) dX11_fault_51 ?_
              refine j_icmp_neN C 61 (by decide) (by omega) (by omega) dX11_fault_53 (fun c5 => ?_) (fun c5 => ?_)
              · refine j_aload_n C 2 rfl dX11_fault_61 ?_
                refine gM_0_15 C tb_888 (nI n) hn dX11_fault_62 ?_
                exact j_iret C E (σ) ⟨_, rfl, ⟨rfl, (by rw [ftR_e he (by omega) (by omega)]; exact (tr_ge (nI_pos' (by omega))).symm)⟩⟩ rfl dX11_fault_65
              · refine j_bipush C ((-6)) (by decide) dX11_fault_56 ?_
                refine j_goto C 65 (by decide) dX11_fault_58 ?_
                exact j_iret C E (σ) ⟨_, rfl, ⟨rfl, (by rw [ftR_g he (by omega) (by omega)]; rfl)⟩⟩ rfl dX11_fault_65
      · refine j_iload_n C 1 rfl dX11_fault_12 ?_
        refine j_aload_n C 2 rfl dX11_fault_13 ?_
        refine gM_0_14 C tb_887 dX11_fault_14 ?_
        refine j_iload_n C 0 rfl dX11_fault_17 ?_
        refine rM_9 C i rfl (by omega) ((σ.2.1 9) i) rfl dX11_fault_18 ?_
        refine j_S1 C (o_stepOf g kk σ k hk hk6 hI  a (by first | assumption | omega) ((σ.2.1 9) i)) kyX11_stepOf tb_1109 tb_1110 rfl (Nat.le_of_ble_eq_true rfl) ⟨by decide, by decide⟩ dX11_fault_19 rfl (fun vr ur hp => ?_)
        obtain ⟨r7, rfl, hu, g6⟩ := hp
        replace hu := hu.symm
        subst hu
        have hnl := nx_le a ((σ.2.1 9) i)
        by_cases h7 : nx a ((σ.2.1 9) i) = 7
        · have er7 : r7 = -1 := by rw [g6]; unfold sgn; rw [if_pos h7]
          subst er7
          refine j_istore_n C [(1, .int (-1)), (2, .int (nI i)), (0, .ref (g 0))] rfl (by decide) rfl dX11_fault_22 ?_
          refine j_iload_n C 0 rfl dX11_fault_23 ?_
          refine j_if_ge C 29 (by decide) dX11_fault_24 (fun c8 => ?_) (fun c8 => ?_)
          · exact absurd c8 (by decide)
          · refine j_iload_n C 1 rfl dX11_fault_27 ?_
            exact j_iret C E (σ) ⟨_, rfl, ⟨rfl, (by rw [ftR_7 he (by omega) h7]; exact (tr_ge (nI_pos' (by omega))).symm)⟩⟩ rfl dX11_fault_28
        · have er7 : r7 = nI (nx a ((σ.2.1 9) i)) := by rw [g6]; unfold sgn; rw [if_neg h7]
          subst er7
          refine j_istore_n C [(1, .int (nI (nx a ((σ.2.1 9) i)))), (2, .int (nI i)), (0, .ref (g 0))] rfl (by decide) rfl dX11_fault_22 ?_
          refine j_iload_n C 0 rfl dX11_fault_23 ?_
          refine j_if_geN C 29 (by decide) (by omega) dX11_fault_24 (fun c9 => ?_) (fun c9 => ?_)
          · refine j_iinc C (nI (i + 1)) [(2, .int (nI (i + 1))), (1, .int (nI (nx a ((σ.2.1 9) i)))), (0, .ref (g 0))] 1 rfl (by rw [show Int32.ofInt 1 = nI 1 from by decide, nI_add]) (by decide) rfl dX11_fault_29 ?_
            refine j_goto C 4 (by decide) dX11_fault_32 ?_
            exact ih4 (i + 1) (nx a ((σ.2.1 9) i)) (by omega) (by omega) (ftR_s he (by omega) h7) (by omega)
          · exact absurd c9 (Nat.not_lt_zero _)
  exact L4 _ 0 0 (by omega) (by omega) rfl (Nat.lt_succ_self _)
