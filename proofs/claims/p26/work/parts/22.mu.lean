theorem dgB_0 : ∀ n : Nat, dgB n 0 = true
  | 0 => rfl
  | n + 1 => by simp [dgB, dgB_0 n]
theorem dgB_6 {n q : Nat} (h : q ≤ 666666) : dgB (n + 6) q = dgB 6 q := by
  have e : q / 10 / 10 / 10 / 10 / 10 / 10 = 0 := by omega
  simp only [dgB, e, dgB_0]
theorem rowM {m : Nat} (hm : m < 2 ^ 31) : (wB (nI m) (nI 1) (nI 666666) && dgB (m + 6) m) = rowB (nI m) := by
  unfold rowB
  rw [nI_clamp hm]
  cases e : wB (nI m) (nI 1) (nI 666666) with
  | false => rfl
  | true =>
    obtain ⟨r, h1, h2, h3⟩ := wB_nat (by decide) (by decide) e
    have : m = r := (nI_eq hm (by omega)).mp h3
    rw [dgB_6 (by omega)]
theorem rs1 {b G : Bool} {n q : Nat} (h : (b && dgB (n + 1) q) = G) (hb : b = true) (hd : q % 10 ≤ 6) : (true && dgB n (q / 10)) = G := by
  subst hb
  simpa only [dgB, decide_eq_true hd, Bool.true_and] using h
theorem rs2 {b G : Bool} {n q : Nat} (h : (b && dgB (n + 1) q) = G) (hb : b = false) : (false && dgB n (q / 10)) = G := by
  subst hb
  exact h
theorem rs3 {b G : Bool} {n q : Nat} (h : (b && dgB (n + 1) q) = G) (hd : 6 < q % 10) : (false && dgB n (q / 10)) = G := by
  simpa only [dgB, decide_eq_false (Nat.not_le.mpr hd), Bool.false_and, Bool.and_false] using h
theorem rs4 {b G : Bool} {n q : Nat} (h : (b && dgB n q) = G) (hq : q ≤ 0) : b = G := by
  have : q = 0 := by omega
  subst this
  simpa only [dgB_0, Bool.and_true] using h
theorem wB_low {x : Int32} (h : x ≤ 0) : rowB x = false := by
  unfold rowB
  rw [wB_lt (Int32.lt_iff_toInt_lt.mpr ?_), Bool.false_and]
  have h1 := Int32.le_iff_toInt_le.mp h
  have z : (0 : Int32).toInt = 0 := by decide
  rw [z] at h1
  rw [nI_toInt (by decide)]
  omega
set_option maxRecDepth 100000 in
set_option maxHeartbeats 4000000 in
theorem m_isRowN (m : Nat) (hm : m < 2 ^ 31) : jMp yX11_isRow cX11_isRow 3 (some .boolean) { frames := 1, cells := 0, slots := 0, locals := 25 } [.int (nI m)] (some (.int (bI (rowB (nI m))))) := fun kk => by
  refine j_entry [(0, .int (nI m))] (by decide) (Nat.le_of_ble_eq_true rfl) rfl ?_
  intro X C E HI
  refine j_iload_n C 0 rfl dX11_isRow_0 ?_
  refine j_i2l C dX11_isRow_1 ?_
  refine j_lconst C 1 (by decide) dX11_isRow_2 ?_
  refine j_ldc2 C tb_1281 dX11_isRow_3 ?_
  refine j_S01 C (m_inB (nI m) (nI 1) (nI 666666) 1 (666666) (by decide) (by decide)) kyX11_in tb_1057 tb_1058 rfl (Nat.le_of_ble_eq_true rfl) ⟨by decide, by decide⟩ ⟨by decide, by decide⟩ dX11_isRow_6 rfl ?_
  refine j_istore_n C [(1, .int (bI (wB (nI m) (nI 1) (nI 666666)))), (0, .int (nI m))] rfl (by decide) rfl dX11_isRow_9 ?_
  refine j_iload_n C 1 rfl dX11_isRow_10 ?_
  refine j_istore_n C [(2, .int (nI m)), (1, .int (bI (wB (nI m) (nI 1) (nI 666666)))), (0, .int (nI m))] rfl (by decide) rfl dX11_isRow_11 ?_
  have L12 : ∀ (nL12 : Nat) (n q : Nat) (b : Bool) (hq : q ≤ n) (hq2 : q < 2 ^ 31) (hG : (b && dgB n q) = (wB (nI m) (nI 1) (nI 666666) && dgB (m + 6) m)) (hmL12 : q < nL12), J X 0 0 [] [(0, .int (nI m)), (1, .int (bI b)), (2, .int (nI q))] 12 [] := by
    intro nL12
    induction nL12 with
    | zero => intro n q b hq hq2 hG hm; exact absurd hm (Nat.not_lt_zero _)
    | succ nL12 ihL12 =>
      intro n q b hq hq2 hG hmL12
      refine j_iload_n C 2 rfl dX11_isRow_12 ?_
      refine j_if_leN C 43 (by decide) (by omega) dX11_isRow_13 (fun c1 => ?_) (fun c1 => ?_)
      · refine j_iload_n C 1 rfl dX11_isRow_43 ?_
        exact j_zret C E (bI_n _) (()) (congrArg (fun z => some (Value.int (bI z))) ((rs4 hG (by omega)).trans (rowM hm))) rfl dX11_isRow_44
      · obtain ⟨n0, hn0⟩ : ∃ n0, n = n0 + 1 := ⟨n - 1, by omega⟩
        subst hn0
        refine j_iload_n C 1 rfl dX11_isRow_16 ?_
        refine j_if_eq C 33 (by decide) dX11_isRow_17 (fun c2 => ?_) (fun c2 => ?_)
        · replace c2 := bI_f c2
          have h91 := c2
          refine j_iconst C (nI 0) (by decide) dX11_isRow_33 ?_
          refine j_istore_n C [(1, .int (nI 0)), (0, .int (nI m)), (2, .int (nI q))] rfl (by decide) rfl dX11_isRow_34 ?_
          refine j_iload_n C 2 rfl dX11_isRow_35 ?_
          refine j_bipush C (nI 10) (by decide) dX11_isRow_36 ?_
          refine j_idivN C (by omega) (by omega) (by omega) dX11_isRow_38 ?_
          refine j_istore_n C [(2, .int (nI (q / 10))), (1, .int (nI 0)), (0, .int (nI m))] rfl (by decide) rfl dX11_isRow_39 ?_
          refine j_goto C 12 (by decide) dX11_isRow_40 ?_
          refine j_sub (lv' := [(0, .int (nI m)), (1, .int (nI 0)), (2, .int (nI (q / 10)))]) [2, 1, 0] rfl ?_
          exact ihL12 n0 (q / 10) false (by omega) (by omega) (by first | exact rs2 hG h91 | exact rs3 hG h92) (by omega)
        · replace c2 := bI_t c2
          have h91 := c2
          refine j_iload_n C 2 rfl dX11_isRow_20 ?_
          refine j_bipush C (nI 10) (by decide) dX11_isRow_21 ?_
          refine j_iremN C (by omega) (by omega) (by omega) dX11_isRow_23 ?_
          refine j_bipush C (nI 6) (by decide) dX11_isRow_24 ?_
          refine j_icmp_gtN C 33 (by decide) (by omega) (by omega) dX11_isRow_26 (fun c3 => ?_) (fun c3 => ?_)
          · have h92 := c3
            refine j_iconst C (nI 0) (by decide) dX11_isRow_33 ?_
            refine j_istore_n C [(1, .int (nI 0)), (0, .int (nI m)), (2, .int (nI q))] rfl (by decide) rfl dX11_isRow_34 ?_
            refine j_iload_n C 2 rfl dX11_isRow_35 ?_
            refine j_bipush C (nI 10) (by decide) dX11_isRow_36 ?_
            refine j_idivN C (by omega) (by omega) (by omega) dX11_isRow_38 ?_
            refine j_istore_n C [(2, .int (nI (q / 10))), (1, .int (nI 0)), (0, .int (nI m))] rfl (by decide) rfl dX11_isRow_39 ?_
            refine j_goto C 12 (by decide) dX11_isRow_40 ?_
            refine j_sub (lv' := [(0, .int (nI m)), (1, .int (nI 0)), (2, .int (nI (q / 10)))]) [2, 1, 0] rfl ?_
            exact ihL12 n0 (q / 10) false (by omega) (by omega) (by first | exact rs2 hG h91 | exact rs3 hG h92) (by omega)
          · have h92 := c3
            refine j_iconst C (nI 1) (by decide) dX11_isRow_29 ?_
            refine j_goto C 34 (by decide) dX11_isRow_30 ?_
            refine j_istore_n C [(1, .int (nI 1)), (0, .int (nI m)), (2, .int (nI q))] rfl (by decide) rfl dX11_isRow_34 ?_
            refine j_iload_n C 2 rfl dX11_isRow_35 ?_
            refine j_bipush C (nI 10) (by decide) dX11_isRow_36 ?_
            refine j_idivN C (by omega) (by omega) (by omega) dX11_isRow_38 ?_
            refine j_istore_n C [(2, .int (nI (q / 10))), (1, .int (nI 1)), (0, .int (nI m))] rfl (by decide) rfl dX11_isRow_39 ?_
            refine j_goto C 12 (by decide) dX11_isRow_40 ?_
            refine j_sub (lv' := [(0, .int (nI m)), (1, .int (nI 1)), (2, .int (nI (q / 10)))]) [2, 1, 0] rfl ?_
            exact ihL12 n0 (q / 10) true (by omega) (by omega) (rs1 hG h91 h92) (by omega)
  refine j_sub (lv' := [(0, .int (nI m)), (1, .int (bI (wB (nI m) (nI 1) (nI 666666)))), (2, .int (nI m))]) [2, 1, 0] rfl ?_
  exact L12 _ (m + 6) m (wB (nI m) (nI 1) (nI 666666)) (by omega) hm rfl (Nat.lt_succ_self _)
set_option maxRecDepth 100000 in
set_option maxHeartbeats 4000000 in
theorem m_isRowL (x : Int32) (hx : x ≤ 0) : jMp yX11_isRow cX11_isRow 3 (some .boolean) { frames := 1, cells := 0, slots := 0, locals := 25 } [.int x] (some (.int (bI (rowB x)))) := fun kk => by
  refine j_entry [(0, .int x)] (by decide) (Nat.le_of_ble_eq_true rfl) rfl ?_
  intro X C E HI
  refine j_iload_n C 0 rfl dX11_isRow_0 ?_
  refine j_i2l C dX11_isRow_1 ?_
  refine j_lconst C 1 (by decide) dX11_isRow_2 ?_
  refine j_ldc2 C tb_1281 dX11_isRow_3 ?_
  refine j_S01 C (m_inB x (nI 1) (nI 666666) 1 (666666) (by decide) (by decide)) kyX11_in tb_1057 tb_1058 rfl (Nat.le_of_ble_eq_true rfl) ⟨by decide, by decide⟩ ⟨by decide, by decide⟩ dX11_isRow_6 rfl ?_
  refine j_istore_n C [(1, .int (bI (wB x (nI 1) (nI 666666)))), (0, .int x)] rfl (by decide) rfl dX11_isRow_9 ?_
  refine j_iload_n C 1 rfl dX11_isRow_10 ?_
  refine j_istore_n C [(2, .int x), (1, .int (bI (wB x (nI 1) (nI 666666)))), (0, .int x)] rfl (by decide) rfl dX11_isRow_11 ?_
  refine j_iload_n C 0 rfl dX11_isRow_12 ?_
  refine j_if_le C 43 (by decide) dX11_isRow_13 (fun c1 => ?_) (fun c1 => ?_)
  · refine j_iload_n C 1 rfl dX11_isRow_43 ?_
    exact j_zret C E (bI_n _) (()) (congrArg (fun z => some (Value.int (bI z))) (by rw [wB_low hx]; exact Bool.eq_false_iff.mpr (fun q => by have := wB_low hx; rw [rowB] at this; rw [q] at this; exact absurd (wB_nat (by decide) (by decide) q) (fun ⟨r, h1, h2, h3⟩ => by subst h3; exact absurd ((nI_leI (a := r) (b := 0) (by omega) (by decide)).mp hx) (by omega))))) rfl dX11_isRow_44
  · exact absurd hx c1
theorem m_isRow (x : Int32) : jMp yX11_isRow cX11_isRow 3 (some .boolean) { frames := 1, cells := 0, slots := 0, locals := 25 } [.int x] (some (.int (bI (rowB x)))) := by
  rcases Classical.em (x ≤ 0) with h | h
  · exact m_isRowL x h
  · obtain ⟨m, hm, e⟩ := nI_of (x := x) (fun q => h (Int32.le_of_lt q))
    subst e
    exact m_isRowN m hm
set_option maxRecDepth 100000 in
set_option maxHeartbeats 4000000 in
theorem n_toldBy (g kk : Nat → Nat) (σ : St) (k : Nat) (hk : σ.1 3 = nI k) (hk6 : k ≤ 6) (hI : iM σ)  (a : Nat) (ha0 : a ≤ 666666) (d : Nat) (hd0 : d < 28) : jM (S := St) yX11_toldBy cX11_toldBy 6 (some .int) { frames := 2, cells := 0, slots := 0, locals := 46 } kk (cM g kk σ) [.ref (g 0), .int (nI a), .int (nI d)] (cM g kk) (rI (fun (r : Int32) (u : St) => u = σ ∧ (r = -6 ∨ ∃ c : Nat, c < k ∧ r = nI c))) := by
  refine j_entry [(0, .ref (g 0)), (1, .int (nI a)), (2, .int (nI d))] (by decide) (Nat.le_of_ble_eq_true rfl) rfl ?_
  intro X C E HI
  refine j_bipush C ((-6)) (by decide) dX11_toldBy_0 ?_
  refine j_istore_n C [(3, .int (-6)), (0, .ref (g 0)), (1, .int (nI a)), (2, .int (nI d))] rfl (by decide) rfl dX11_toldBy_2 ?_
  refine j_iload_n C 2 rfl dX11_toldBy_3 ?_
  refine j_istore C [(4, .int (nI a)), (3, .int (-6)), (0, .ref (g 0)), (1, .int (nI a)), (2, .int (nI d))] (by decide) rfl dX11_toldBy_4 ?_
  have L6 : ∀ (n6 : Nat) (u : Nat) (y6_3 : Int32) (i6_0 : u ≤ 666666) (hf : y6_3 = -6 ∨ ∃ c : Nat, c < k ∧ y6_3 = nI c) (hm6 : u < n6), J X 0 0 (cM g kk σ) [(4, .int (nI u)), (3, .int y6_3), (0, .ref (g 0)), (1, .int (nI a)), (2, .int (nI d))] 6 [] := by
    intro n6
    induction n6 with
    | zero => intro u y6_3 i6_0 hf hm; exact absurd hm (Nat.not_lt_zero _)
    | succ n6 ih6 =>
      intro u y6_3 i6_0 hf hm6
      refine j_iload C 0 rfl dX11_toldBy_6 ?_
      refine j_if_leN C 60 (by decide) (by omega) dX11_toldBy_8 (fun c1 => ?_) (fun c1 => ?_)
      · refine j_iload_n C 1 rfl dX11_toldBy_60 ?_
        exact j_iret C E (σ) ⟨_, rfl, ⟨rfl, hf⟩⟩ rfl dX11_toldBy_61
      · refine j_iload C 0 rfl dX11_toldBy_11 ?_
        refine j_bipush C (nI 10) (by decide) dX11_toldBy_13 ?_
        refine j_iremN C (by omega) (by omega) (by omega) dX11_toldBy_15 ?_
        refine j_iconst C (nI 1) (by decide) dX11_toldBy_16 ?_
        refine j_isub C dX11_toldBy_17 ?_
        refine j_top (fun v2 => ?_)
        refine j_istore C [(5, .int v2), (4, .int (nI u)), (3, .int y6_3), (0, .ref (g 0)), (1, .int (nI a)), (2, .int (nI d))] (by decide) rfl dX11_toldBy_18 ?_
        refine j_aload_n C 3 rfl dX11_toldBy_20 ?_
        refine j_iload C 0 rfl dX11_toldBy_21 ?_
        refine j_V1 C (m_isCan g kk σ k hk hk6 v2) kyX11_isCan tb_1067 tb_1069 sp_21 0 rfl (eM_0 g kk _) rfl (Nat.le_of_ble_eq_true rfl) ⟨by decide, by decide⟩ dX11_toldBy_23 rfl (fun vr ur hp => ?_)
        obtain ⟨r, rfl, rfl, hu⟩ := hp
        replace hu := hu.symm
        subst hu
        refine j_if_eq C 48 (by decide) dX11_toldBy_26 (fun c3 => ?_) (fun c3 => ?_)
        · replace c3 := bI_f c3
          refine j_iload_n C 2 rfl dX11_toldBy_48 ?_
          refine j_istore_n C [(3, .int y6_3), (5, .int v2), (4, .int (nI u)), (0, .ref (g 0)), (1, .int (nI a)), (2, .int (nI d))] rfl (by decide) rfl dX11_toldBy_49 ?_
          refine j_iload C 2 rfl dX11_toldBy_50 ?_
          refine j_bipush C (nI 10) (by decide) dX11_toldBy_52 ?_
          refine j_idivN C (by omega) (by omega) (by omega) dX11_toldBy_54 ?_
          refine j_istore C [(4, .int (nI (u / 10))), (3, .int y6_3), (5, .int v2), (0, .ref (g 0)), (1, .int (nI a)), (2, .int (nI d))] (by decide) rfl dX11_toldBy_55 ?_
          refine j_goto C 6 (by decide) dX11_toldBy_57 ?_
          refine j_sub (lv' := [(4, .int (nI (u / 10))), (3, .int y6_3), (0, .ref (g 0)), (1, .int (nI a)), (2, .int (nI d))]) [0, 1, 3, 4, 5] rfl ?_
          exact ih6 (u / 10) y6_3 (by omega) hf (by omega)
        · replace c3 := bI_t c3
          obtain ⟨v2n, v2n1, rfl⟩ := cB_nat (by omega) c3
          refine j_aload_n C 3 rfl dX11_toldBy_29 ?_
          refine gM_0_24 C tb_897 dX11_toldBy_30 ?_
          refine j_iload C 0 rfl dX11_toldBy_33 ?_
          refine j_iload_n C 5 rfl dX11_toldBy_35 ?_
          refine j_S01 C (m_at v2n d) kyX11_at tb_1060 tb_1061 rfl (Nat.le_of_ble_eq_true rfl) ⟨by decide, by decide⟩ ⟨by decide, by decide⟩ dX11_toldBy_36 rfl ?_
          refine rM_18 C (28 * v2n + d) rfl (by omega) ((σ.2.1 18) (28 * v2n + d)) rfl dX11_toldBy_39 ?_
          refine j_top (fun v4 => ?_)
          refine j_if_lt C 48 (by decide) dX11_toldBy_40 (fun c5 => ?_) (fun c5 => ?_)
          · refine j_iload_n C 2 rfl dX11_toldBy_48 ?_
            refine j_istore_n C [(3, .int y6_3), (5, .int (nI v2n)), (4, .int (nI u)), (0, .ref (g 0)), (1, .int (nI a)), (2, .int (nI d))] rfl (by decide) rfl dX11_toldBy_49 ?_
            refine j_iload C 2 rfl dX11_toldBy_50 ?_
            refine j_bipush C (nI 10) (by decide) dX11_toldBy_52 ?_
            refine j_idivN C (by omega) (by omega) (by omega) dX11_toldBy_54 ?_
            refine j_istore C [(4, .int (nI (u / 10))), (3, .int y6_3), (5, .int (nI v2n)), (0, .ref (g 0)), (1, .int (nI a)), (2, .int (nI d))] (by decide) rfl dX11_toldBy_55 ?_
            refine j_goto C 6 (by decide) dX11_toldBy_57 ?_
            refine j_sub (lv' := [(4, .int (nI (u / 10))), (3, .int y6_3), (0, .ref (g 0)), (1, .int (nI a)), (2, .int (nI d))]) [0, 1, 3, 4, 5] rfl ?_
            exact ih6 (u / 10) y6_3 (by omega) hf (by omega)
          · refine j_iload C 0 rfl dX11_toldBy_43 ?_
            refine j_goto C 49 (by decide) dX11_toldBy_45 ?_
            refine j_istore_n C [(3, .int (nI v2n)), (5, .int (nI v2n)), (4, .int (nI u)), (0, .ref (g 0)), (1, .int (nI a)), (2, .int (nI d))] rfl (by decide) rfl dX11_toldBy_49 ?_
            refine j_iload C 2 rfl dX11_toldBy_50 ?_
            refine j_bipush C (nI 10) (by decide) dX11_toldBy_52 ?_
            refine j_idivN C (by omega) (by omega) (by omega) dX11_toldBy_54 ?_
            refine j_istore C [(4, .int (nI (u / 10))), (3, .int (nI v2n)), (5, .int (nI v2n)), (0, .ref (g 0)), (1, .int (nI a)), (2, .int (nI d))] (by decide) rfl dX11_toldBy_55 ?_
            refine j_goto C 6 (by decide) dX11_toldBy_57 ?_
            refine j_sub (lv' := [(4, .int (nI (u / 10))), (3, .int (nI v2n)), (0, .ref (g 0)), (1, .int (nI a)), (2, .int (nI d))]) [0, 1, 3, 4, 5] rfl ?_
            exact ih6 (u / 10) (nI v2n) (by omega) (Or.inr ⟨_, by assumption, rfl⟩) (by omega)
  exact L6 _ a (-6) (by omega) (Or.inl rfl) (Nat.lt_succ_self _)
set_option maxRecDepth 100000 in
set_option maxHeartbeats 4000000 in
theorem n_record (g kk : Nat → Nat) (σ : St) (k : Nat) (hk : σ.1 3 = nI k) (hk6 : k ≤ 6) (hI : iM σ)  (x : Int32) (y : Int32) (z : Int32) : jM (S := St) yX11_record cX11_record 5 (some .int) { frames := 6, cells := 0, slots := 0, locals := 141 } kk (cM g kk σ) [.ref (g 0), .int x, .int y, .int z] (cM g kk) (rI (fun (r : Int32) (u : St) => ∃ (pF16 : Nat → Int32) (pF17 : Nat → Int32) (pF18 : Nat → Int32), u = sF (sF (sF σ 16 pF16) 17 pF17) 18 pF18)) := by
  refine j_entry [(0, .ref (g 0)), (1, .int x), (2, .int y), (3, .int z)] (by decide) (Nat.le_of_ble_eq_true rfl) rfl ?_
  intro X C E HI
  refine j_iload_n C 1 rfl dX11_record_0 ?_
  refine j_S01 C (m_isRow x) kyX11_isRow tb_1278 tb_1279 rfl (Nat.le_of_ble_eq_true rfl) ⟨by decide, by decide⟩ ⟨by decide, by decide⟩ dX11_record_1 rfl ?_
  refine j_if_eq C 17 (by decide) dX11_record_4 (fun c1 => ?_) (fun c1 => ?_)
  · replace c1 := bI_f c1
    refine j_bipush C ((-2)) (by decide) dX11_record_17 ?_
    refine j_w (cM g kk (sF σ 16 (σ.2.1 16))) (congrArg (cM g kk) (wrFi (S := σ) (c := 16) (v := σ.2.1 16) rfl)) ?_
    refine j_w (cM g kk (sF (sF σ 16 (σ.2.1 16)) 17 (σ.2.1 17))) (congrArg (cM g kk) (wrFi (S := (sF σ 16 (σ.2.1 16))) (c := 17) (v := σ.2.1 17) (gtFF (by decide) rfl))) ?_
    refine j_w (cM g kk (sF (sF (sF σ 16 (σ.2.1 16)) 17 (σ.2.1 17)) 18 (σ.2.1 18))) (congrArg (cM g kk) (wrFi (S := (sF (sF σ 16 (σ.2.1 16)) 17 (σ.2.1 17))) (c := 18) (v := σ.2.1 18) (gtFF (by decide) (gtFF (by decide) rfl)))) ?_
    exact j_iret C E (sF (sF (sF σ 16 (σ.2.1 16)) 17 (σ.2.1 17)) 18 (σ.2.1 18)) ⟨_, rfl, ⟨(σ.2.1 16), (σ.2.1 17), (σ.2.1 18), rfl⟩⟩ rfl dX11_record_19
  · replace c1 := bI_t c1
    obtain ⟨xn, xn1, rfl⟩ := rowB_nat c1
    refine j_iload_n C 3 rfl dX11_record_7 ?_
    refine j_i2l C dX11_record_8 ?_
    refine j_lconst C 0 (by decide) dX11_record_9 ?_
    refine j_lconst C 1 (by decide) dX11_record_10 ?_
    refine j_S01 C (m_inB z (nI 0) (nI 1) 0 1 (by decide) (by decide)) kyX11_in tb_1057 tb_1058 rfl (Nat.le_of_ble_eq_true rfl) ⟨by decide, by decide⟩ ⟨by decide, by decide⟩ dX11_record_11 rfl ?_
    refine j_if_ne C 20 (by decide) dX11_record_14 (fun c2 => ?_) (fun c2 => ?_)
    · replace c2 := bI_t c2
      obtain ⟨zn, zn1, zn2, rfl⟩ := wB_nat (by decide) (by decide) c2
      refine j_iload_n C 2 rfl dX11_record_20 ?_
      refine j_S01 C (m_isDay y) kyX11_isDay tb_1077 tb_1078 rfl (Nat.le_of_ble_eq_true rfl) ⟨by decide, by decide⟩ ⟨by decide, by decide⟩ dX11_record_21 rfl ?_
      refine j_if_ne C 29 (by decide) dX11_record_24 (fun c3 => ?_) (fun c3 => ?_)
      · replace c3 := bI_t c3
        obtain ⟨yn, yn1, yn2, rfl⟩ := wB_nat (by decide) (by decide) c3
        refine j_aload_n C 0 rfl dX11_record_29 ?_
        refine j_V1 C (n_findAll g kk σ k hk hk6 hI  ) kyX11_findAll tb_1131 tb_1133 sp_24 0 rfl (eM_0 g kk _) rfl (Nat.le_of_ble_eq_true rfl) ⟨by decide, by decide⟩ dX11_record_30 rfl (fun vr ur hp => ?_)
        obtain ⟨rfl, w4, w5, w6, hu⟩ := hp
        replace hu := hu.symm
        subst hu
        refine j_aload_n C 0 rfl dX11_record_33 ?_
        refine j_iload_n C 1 rfl dX11_record_34 ?_
        refine j_iload_n C 2 rfl dX11_record_35 ?_
        refine j_V1 C (n_toldBy g kk (sF (sF (sF σ 16 w4) 17 w5) 18 w6) k hk hk6 hI  xn (by first | assumption | omega) yn (by first | assumption | omega)) kyX11_toldBy tb_1282 tb_1284 sp_43 0 rfl (eM_0 g kk _) rfl (Nat.le_of_ble_eq_true rfl) ⟨by decide, by decide⟩ dX11_record_36 rfl (fun vr ur hp => ?_)
        obtain ⟨r8, rfl, hu, g7⟩ := hp
        replace hu := hu.symm
        subst hu
        rcases g7 with rfl | ⟨b9, hb9, rfl⟩
        · refine j_istore C [(4, .int (-6)), (0, .ref (g 0)), (1, .int (nI xn)), (2, .int (nI yn)), (3, .int (nI zn))] (by decide) rfl dX11_record_39 ?_
          refine j_iload C 0 rfl dX11_record_41 ?_
          refine j_if_ge C 51 (by decide) dX11_record_43 (fun c10 => ?_) (fun c10 => ?_)
          · exact absurd c10 (by decide)
          · refine j_bipush C ((-6)) (by decide) dX11_record_46 ?_
            refine j_goto C 71 (by decide) dX11_record_48 ?_
            exact j_iret C E (sF (sF (sF σ 16 w4) 17 w5) 18 w6) ⟨_, rfl, ⟨w4, w5, w6, rfl⟩⟩ rfl dX11_record_71
        · refine j_istore C [(4, .int (nI b9)), (0, .ref (g 0)), (1, .int (nI xn)), (2, .int (nI yn)), (3, .int (nI zn))] (by decide) rfl dX11_record_39 ?_
          refine j_iload C 0 rfl dX11_record_41 ?_
          refine j_if_geN C 51 (by decide) (by omega) dX11_record_43 (fun c11 => ?_) (fun c11 => ?_)
          · refine j_iload_n C 4 rfl dX11_record_51 ?_
            refine j_if_neN C 69 (by decide) (by omega) dX11_record_52 (fun c12 => ?_) (fun c12 => ?_)
            · refine j_iload C 0 rfl dX11_record_69 ?_
              exact j_iret C E (sF (sF (sF σ 16 w4) 17 w5) 18 w6) ⟨_, rfl, ⟨w4, w5, w6, rfl⟩⟩ rfl dX11_record_71
            · refine j_aload_n C 1 rfl dX11_record_55 ?_
              refine gM_0_24 C tb_897 dX11_record_56 ?_
              refine j_iload C 0 rfl dX11_record_59 ?_
              refine j_iload_n C 3 rfl dX11_record_61 ?_
              refine j_S01 C (m_at b9 yn) kyX11_at tb_1060 tb_1061 rfl (Nat.le_of_ble_eq_true rfl) ⟨by decide, by decide⟩ ⟨by decide, by decide⟩ dX11_record_62 rfl ?_
              refine rM_18 C (28 * b9 + yn) rfl (by omega) (w6 (28 * b9 + yn)) rfl dX11_record_65 ?_
              refine j_goto C 71 (by decide) dX11_record_66 ?_
              exact j_iret C E (sF (sF (sF σ 16 w4) 17 w5) 18 w6) ⟨_, rfl, ⟨w4, w5, w6, rfl⟩⟩ rfl dX11_record_71
          · refine j_bipush C ((-6)) (by decide) dX11_record_46 ?_
            refine j_goto C 71 (by decide) dX11_record_48 ?_
            exact j_iret C E (sF (sF (sF σ 16 w4) 17 w5) 18 w6) ⟨_, rfl, ⟨w4, w5, w6, rfl⟩⟩ rfl dX11_record_71
      · replace c3 := bI_f c3
        refine j_iconst C ((-1)) (by decide) dX11_record_27 ?_
        refine j_w (cM g kk (sF σ 16 (σ.2.1 16))) (congrArg (cM g kk) (wrFi (S := σ) (c := 16) (v := σ.2.1 16) rfl)) ?_
        refine j_w (cM g kk (sF (sF σ 16 (σ.2.1 16)) 17 (σ.2.1 17))) (congrArg (cM g kk) (wrFi (S := (sF σ 16 (σ.2.1 16))) (c := 17) (v := σ.2.1 17) (gtFF (by decide) rfl))) ?_
        refine j_w (cM g kk (sF (sF (sF σ 16 (σ.2.1 16)) 17 (σ.2.1 17)) 18 (σ.2.1 18))) (congrArg (cM g kk) (wrFi (S := (sF (sF σ 16 (σ.2.1 16)) 17 (σ.2.1 17))) (c := 18) (v := σ.2.1 18) (gtFF (by decide) (gtFF (by decide) rfl)))) ?_
        exact j_iret C E (sF (sF (sF σ 16 (σ.2.1 16)) 17 (σ.2.1 17)) 18 (σ.2.1 18)) ⟨_, rfl, ⟨(σ.2.1 16), (σ.2.1 17), (σ.2.1 18), rfl⟩⟩ rfl dX11_record_28
    · replace c2 := bI_f c2
      refine j_bipush C ((-2)) (by decide) dX11_record_17 ?_
      refine j_w (cM g kk (sF σ 16 (σ.2.1 16))) (congrArg (cM g kk) (wrFi (S := σ) (c := 16) (v := σ.2.1 16) rfl)) ?_
      refine j_w (cM g kk (sF (sF σ 16 (σ.2.1 16)) 17 (σ.2.1 17))) (congrArg (cM g kk) (wrFi (S := (sF σ 16 (σ.2.1 16))) (c := 17) (v := σ.2.1 17) (gtFF (by decide) rfl))) ?_
      refine j_w (cM g kk (sF (sF (sF σ 16 (σ.2.1 16)) 17 (σ.2.1 17)) 18 (σ.2.1 18))) (congrArg (cM g kk) (wrFi (S := (sF (sF σ 16 (σ.2.1 16)) 17 (σ.2.1 17))) (c := 18) (v := σ.2.1 18) (gtFF (by decide) (gtFF (by decide) rfl)))) ?_
      exact j_iret C E (sF (sF (sF σ 16 (σ.2.1 16)) 17 (σ.2.1 17)) 18 (σ.2.1 18)) ⟨_, rfl, ⟨(σ.2.1 16), (σ.2.1 17), (σ.2.1 18), rfl⟩⟩ rfl dX11_record_19
set_option maxRecDepth 100000 in
set_option maxHeartbeats 4000000 in
theorem n_seam (g kk : Nat → Nat) (σ : St) (k : Nat) (hk : σ.1 3 = nI k) (hk6 : k ≤ 6) (hI : iM σ)  (x : Int32) (y : Int32) : jM (S := St) yX11_seam cX11_seam 9 (some .int) { frames := 6, cells := 0, slots := 0, locals := 141 } kk (cM g kk σ) [.ref (g 0), .int x, .int y] (cM g kk) (rI (fun (r : Int32) (u : St) => ∃ (pF16 : Nat → Int32) (pF17 : Nat → Int32) (pF18 : Nat → Int32), u = sF (sF (sF σ 16 pF16) 17 pF17) 18 pF18)) := by
  refine j_entry [(0, .ref (g 0)), (1, .int x), (2, .int y)] (by decide) (Nat.le_of_ble_eq_true rfl) rfl ?_
  intro X C E HI
  refine j_iload_n C 1 rfl dX11_seam_0 ?_
  refine j_S01 C (m_isRow x) kyX11_isRow tb_1278 tb_1279 rfl (Nat.le_of_ble_eq_true rfl) ⟨by decide, by decide⟩ ⟨by decide, by decide⟩ dX11_seam_1 rfl ?_
  refine j_if_ne C 10 (by decide) dX11_seam_4 (fun c1 => ?_) (fun c1 => ?_)
  · replace c1 := bI_t c1
    obtain ⟨xn, xn1, rfl⟩ := rowB_nat c1
    refine j_aload_n C 0 rfl dX11_seam_10 ?_
    refine j_V1 C (n_findAll g kk σ k hk hk6 hI  ) kyX11_findAll tb_1131 tb_1133 sp_24 0 rfl (eM_0 g kk _) rfl (Nat.le_of_ble_eq_true rfl) ⟨by decide, by decide⟩ dX11_seam_11 rfl (fun vr ur hp => ?_)
    obtain ⟨rfl, w2, w3, w4, hu⟩ := hp
    replace hu := hu.symm
    subst hu
    refine j_bipush C ((-6)) (by decide) dX11_seam_14 ?_
    refine j_istore_n C [(3, .int (-6)), (0, .ref (g 0)), (1, .int (nI xn)), (2, .int y)] rfl (by decide) rfl dX11_seam_16 ?_
    refine j_iconst C (nI 0) (by decide) dX11_seam_17 ?_
    refine j_istore C [(4, .int (nI 0)), (3, .int (-6)), (0, .ref (g 0)), (1, .int (nI xn)), (2, .int y)] (by decide) rfl dX11_seam_18 ?_
    refine j_iconst C (nI 0) (by decide) dX11_seam_20 ?_
    refine j_istore C [(5, .int (nI 0)), (4, .int (nI 0)), (3, .int (-6)), (0, .ref (g 0)), (1, .int (nI xn)), (2, .int y)] (by decide) rfl dX11_seam_21 ?_
    refine j_bipush C ((-6)) (by decide) dX11_seam_23 ?_
    refine j_istore C [(6, .int (-6)), (5, .int (nI 0)), (4, .int (nI 0)), (3, .int (-6)), (0, .ref (g 0)), (1, .int (nI xn)), (2, .int y)] (by decide) rfl dX11_seam_25 ?_
    refine j_iconst C (nI 0) (by decide) dX11_seam_27 ?_
    refine j_istore C [(7, .int (nI 0)), (6, .int (-6)), (5, .int (nI 0)), (4, .int (nI 0)), (3, .int (-6)), (0, .ref (g 0)), (1, .int (nI xn)), (2, .int y)] (by decide) rfl dX11_seam_28 ?_
    have L30 : ∀ (n30 : Nat) (d : Nat) (y30_6 : Int32) (y30_5 : Int32) (y30_4 : Int32) (y30_3 : Int32) (i30_0 : d ≤ 28) (hm30 : 28 - d < n30), J X 0 0 (cM g kk (sF (sF (sF σ 16 w2) 17 w3) 18 w4)) [(7, .int (nI d)), (6, .int y30_6), (5, .int y30_5), (4, .int y30_4), (3, .int y30_3), (0, .ref (g 0)), (1, .int (nI xn)), (2, .int y)] 30 [] := by
      intro n30
      induction n30 with
      | zero => intro d y30_6 y30_5 y30_4 y30_3 i30_0 hm; exact absurd hm (Nat.not_lt_zero _)
      | succ n30 ih30 =>
        intro d y30_6 y30_5 y30_4 y30_3 i30_0 hm30
        refine j_iload C 0 rfl dX11_seam_30 ?_
        refine j_bipush C (nI 28) (by decide) dX11_seam_32 ?_
        refine j_icmp_geN C 105 (by decide) (by omega) (by omega) dX11_seam_34 (fun c5 => ?_) (fun c5 => ?_)
        · refine j_iload_n C 7 rfl dX11_seam_105 ?_
          refine j_bipush C ((-2)) (by decide) dX11_seam_106 ?_
          refine j_icmp_ne C 116 (by decide) dX11_seam_108 (fun c6 => ?_) (fun c6 => ?_)
          · refine j_iload_n C 7 rfl dX11_seam_116 ?_
            refine j_iconst C ((-1)) (by decide) dX11_seam_117 ?_
            refine j_icmp_ne C 126 (by decide) dX11_seam_118 (fun c7 => ?_) (fun c7 => ?_)
            · refine j_iload C 1 rfl dX11_seam_126 ?_
              exact j_iret C E (sF (sF (sF σ 16 w2) 17 w3) 18 w4) ⟨_, rfl, ⟨w2, w3, w4, rfl⟩⟩ rfl dX11_seam_128
            · refine j_iload C 3 rfl dX11_seam_121 ?_
              refine j_goto C 128 (by decide) dX11_seam_123 ?_
              exact j_iret C E (sF (sF (sF σ 16 w2) 17 w3) 18 w4) ⟨_, rfl, ⟨w2, w3, w4, rfl⟩⟩ rfl dX11_seam_128
          · refine j_iload C 2 rfl dX11_seam_111 ?_
            refine j_goto C 128 (by decide) dX11_seam_113 ?_
            exact j_iret C E (sF (sF (sF σ 16 w2) 17 w3) 18 w4) ⟨_, rfl, ⟨w2, w3, w4, rfl⟩⟩ rfl dX11_seam_128
        · refine j_aload_n C 5 rfl dX11_seam_37 ?_
          refine j_iload_n C 6 rfl dX11_seam_38 ?_
          refine j_iload C 0 rfl dX11_seam_39 ?_
          refine j_V1 C (n_toldBy g kk (sF (sF (sF σ 16 w2) 17 w3) 18 w4) k hk hk6 hI  xn (by first | assumption | omega) d (by first | assumption | omega)) kyX11_toldBy tb_1282 tb_1284 sp_43 0 rfl (eM_0 g kk _) rfl (Nat.le_of_ble_eq_true rfl) ⟨by decide, by decide⟩ dX11_seam_41 rfl (fun vr ur hp => ?_)
          obtain ⟨r9, rfl, hu, g8⟩ := hp
          replace hu := hu.symm
          subst hu
          rcases g8 with rfl | ⟨b10, hb10, rfl⟩
          · refine j_istore C [(8, .int (-6)), (7, .int (nI d)), (6, .int y30_6), (5, .int y30_5), (4, .int y30_4), (3, .int y30_3), (0, .ref (g 0)), (1, .int (nI xn)), (2, .int y)] (by decide) rfl dX11_seam_44 ?_
            refine j_iload C 0 rfl dX11_seam_46 ?_
            refine j_if_lt C 99 (by decide) dX11_seam_48 (fun c11 => ?_) (fun c11 => ?_)
            · refine j_iinc C (nI (d + 1)) [(7, .int (nI (d + 1))), (8, .int (-6)), (6, .int y30_6), (5, .int y30_5), (4, .int y30_4), (3, .int y30_3), (0, .ref (g 0)), (1, .int (nI xn)), (2, .int y)] 1 rfl (by rw [show Int32.ofInt 1 = nI 1 from by decide, nI_add]) (by decide) rfl dX11_seam_99 ?_
              refine j_goto C 30 (by decide) dX11_seam_102 ?_
              refine j_sub (lv' := [(7, .int (nI (d + 1))), (6, .int y30_6), (5, .int y30_5), (4, .int y30_4), (3, .int y30_3), (0, .ref (g 0)), (1, .int (nI xn)), (2, .int y)]) [0, 2, 3, 4, 5, 6, 7, 8] rfl ?_
              exact ih30 (d + 1) y30_6 y30_5 y30_4 y30_3 (by omega) (by omega)
            · exact absurd c11 (by decide)
          · refine j_istore C [(8, .int (nI b10)), (7, .int (nI d)), (6, .int y30_6), (5, .int y30_5), (4, .int y30_4), (3, .int y30_3), (0, .ref (g 0)), (1, .int (nI xn)), (2, .int y)] (by decide) rfl dX11_seam_44 ?_
            refine j_iload C 0 rfl dX11_seam_46 ?_
            refine j_if_ltN C 99 (by decide) (by omega) dX11_seam_48 (fun c12 => ?_) (fun c12 => ?_)
            · refine j_iinc C (nI (d + 1)) [(7, .int (nI (d + 1))), (8, .int (nI b10)), (6, .int y30_6), (5, .int y30_5), (4, .int y30_4), (3, .int y30_3), (0, .ref (g 0)), (1, .int (nI xn)), (2, .int y)] 1 rfl (by rw [show Int32.ofInt 1 = nI 1 from by decide, nI_add]) (by decide) rfl dX11_seam_99 ?_
              refine j_goto C 30 (by decide) dX11_seam_102 ?_
              refine j_sub (lv' := [(7, .int (nI (d + 1))), (6, .int y30_6), (5, .int y30_5), (4, .int y30_4), (3, .int y30_3), (0, .ref (g 0)), (1, .int (nI xn)), (2, .int y)]) [0, 2, 3, 4, 5, 6, 7, 8] rfl ?_
              exact ih30 (d + 1) y30_6 y30_5 y30_4 y30_3 (by omega) (by omega)
            · refine j_iload C 3 rfl dX11_seam_51 ?_
              refine j_aload_n C 6 rfl dX11_seam_53 ?_
              refine gM_0_24 C tb_897 dX11_seam_54 ?_
              refine j_iload C 0 rfl dX11_seam_57 ?_
              refine j_iload C 1 rfl dX11_seam_59 ?_
              refine j_S01 C (m_at b10 d) kyX11_at tb_1060 tb_1061 rfl (Nat.le_of_ble_eq_true rfl) ⟨by decide, by decide⟩ ⟨by decide, by decide⟩ dX11_seam_61 rfl ?_
              refine rM_18 C (28 * b10 + d) rfl (by omega) (w4 (28 * b10 + d)) rfl dX11_seam_64 ?_
              refine j_iadd C dX11_seam_65 ?_
              refine j_istore C [(5, .int (y30_5 + (w4 (28 * b10 + d)))), (8, .int (nI b10)), (7, .int (nI d)), (6, .int y30_6), (4, .int y30_4), (3, .int y30_3), (0, .ref (g 0)), (1, .int (nI xn)), (2, .int y)] (by decide) rfl dX11_seam_66 ?_
              refine j_iload_n C 5 rfl dX11_seam_68 ?_
              refine j_if_lt C 96 (by decide) dX11_seam_69 (fun c13 => ?_) (fun c13 => ?_)
              · refine j_iload C 1 rfl dX11_seam_96 ?_
                refine j_istore_n C [(3, .int (nI b10)), (5, .int (y30_5 + (w4 (28 * b10 + d)))), (8, .int (nI b10)), (7, .int (nI d)), (6, .int y30_6), (4, .int y30_4), (0, .ref (g 0)), (1, .int (nI xn)), (2, .int y)] rfl (by decide) rfl dX11_seam_98 ?_
                refine j_iinc C (nI (d + 1)) [(7, .int (nI (d + 1))), (3, .int (nI b10)), (5, .int (y30_5 + (w4 (28 * b10 + d)))), (8, .int (nI b10)), (6, .int y30_6), (4, .int y30_4), (0, .ref (g 0)), (1, .int (nI xn)), (2, .int y)] 3 rfl (by rw [show Int32.ofInt 1 = nI 1 from by decide, nI_add]) (by decide) rfl dX11_seam_99 ?_
                refine j_goto C 30 (by decide) dX11_seam_102 ?_
                refine j_sub (lv' := [(7, .int (nI (d + 1))), (6, .int y30_6), (5, .int (y30_5 + (w4 (28 * b10 + d)))), (4, .int y30_4), (3, .int (nI b10)), (0, .ref (g 0)), (1, .int (nI xn)), (2, .int y)]) [0, 4, 2, 5, 1, 6, 7, 8] rfl ?_
                exact ih30 (d + 1) y30_6 (y30_5 + (w4 (28 * b10 + d))) y30_4 (nI b10) (by omega) (by omega)
              · refine j_iload C 1 rfl dX11_seam_72 ?_
                refine j_iload_n C 5 rfl dX11_seam_74 ?_
                refine j_icmp_eq C 96 (by decide) dX11_seam_75 (fun c14 => ?_) (fun c14 => ?_)
                · refine j_iload C 1 rfl dX11_seam_96 ?_
                  refine j_istore_n C [(3, .int (nI b10)), (5, .int (y30_5 + (w4 (28 * b10 + d)))), (8, .int (nI b10)), (7, .int (nI d)), (6, .int y30_6), (4, .int y30_4), (0, .ref (g 0)), (1, .int (nI xn)), (2, .int y)] rfl (by decide) rfl dX11_seam_98 ?_
                  refine j_iinc C (nI (d + 1)) [(7, .int (nI (d + 1))), (3, .int (nI b10)), (5, .int (y30_5 + (w4 (28 * b10 + d)))), (8, .int (nI b10)), (6, .int y30_6), (4, .int y30_4), (0, .ref (g 0)), (1, .int (nI xn)), (2, .int y)] 3 rfl (by rw [show Int32.ofInt 1 = nI 1 from by decide, nI_add]) (by decide) rfl dX11_seam_99 ?_
                  refine j_goto C 30 (by decide) dX11_seam_102 ?_
                  refine j_sub (lv' := [(7, .int (nI (d + 1))), (6, .int y30_6), (5, .int (y30_5 + (w4 (28 * b10 + d)))), (4, .int y30_4), (3, .int (nI b10)), (0, .ref (g 0)), (1, .int (nI xn)), (2, .int y)]) [0, 4, 2, 5, 1, 6, 7, 8] rfl ?_
                  exact ih30 (d + 1) y30_6 (y30_5 + (w4 (28 * b10 + d))) y30_4 (nI b10) (by omega) (by omega)
                · refine j_iload C 4 rfl dX11_seam_78 ?_
                  refine j_iload_n C 8 rfl dX11_seam_80 ?_
                  refine j_icmp_ne C 89 (by decide) dX11_seam_81 (fun c15 => ?_) (fun c15 => ?_)
                  · refine j_iload C 3 rfl dX11_seam_89 ?_
                    refine j_istore C [(6, .int y30_6), (5, .int (y30_5 + (w4 (28 * b10 + d)))), (8, .int (nI b10)), (7, .int (nI d)), (4, .int y30_4), (3, .int y30_3), (0, .ref (g 0)), (1, .int (nI xn)), (2, .int y)] (by decide) rfl dX11_seam_91 ?_
                    refine j_iinc C (y30_4 + (1)) [(4, .int (y30_4 + (1))), (6, .int y30_6), (5, .int (y30_5 + (w4 (28 * b10 + d)))), (8, .int (nI b10)), (7, .int (nI d)), (3, .int y30_3), (0, .ref (g 0)), (1, .int (nI xn)), (2, .int y)] 4 rfl (by rw [show Int32.ofInt (1) = (1) from by decide]) (by decide) rfl dX11_seam_93 ?_
                    refine j_iload C 3 rfl dX11_seam_96 ?_
                    refine j_istore_n C [(3, .int (nI b10)), (4, .int (y30_4 + (1))), (6, .int y30_6), (5, .int (y30_5 + (w4 (28 * b10 + d)))), (8, .int (nI b10)), (7, .int (nI d)), (0, .ref (g 0)), (1, .int (nI xn)), (2, .int y)] rfl (by decide) rfl dX11_seam_98 ?_
                    refine j_iinc C (nI (d + 1)) [(7, .int (nI (d + 1))), (3, .int (nI b10)), (4, .int (y30_4 + (1))), (6, .int y30_6), (5, .int (y30_5 + (w4 (28 * b10 + d)))), (8, .int (nI b10)), (0, .ref (g 0)), (1, .int (nI xn)), (2, .int y)] 5 rfl (by rw [show Int32.ofInt 1 = nI 1 from by decide, nI_add]) (by decide) rfl dX11_seam_99 ?_
                    refine j_goto C 30 (by decide) dX11_seam_102 ?_
                    refine j_sub (lv' := [(7, .int (nI (d + 1))), (6, .int y30_6), (5, .int (y30_5 + (w4 (28 * b10 + d)))), (4, .int (y30_4 + (1))), (3, .int (nI b10)), (0, .ref (g 0)), (1, .int (nI xn)), (2, .int y)]) [0, 3, 4, 2, 1, 6, 7, 8] rfl ?_
                    exact ih30 (d + 1) y30_6 (y30_5 + (w4 (28 * b10 + d))) (y30_4 + (1)) (nI b10) (by omega) (by omega)
                  · refine j_iload C 2 rfl dX11_seam_84 ?_
                    refine j_goto C 91 (by decide) dX11_seam_86 ?_
                    refine j_istore C [(6, .int (nI d)), (5, .int (y30_5 + (w4 (28 * b10 + d)))), (8, .int (nI b10)), (7, .int (nI d)), (4, .int y30_4), (3, .int y30_3), (0, .ref (g 0)), (1, .int (nI xn)), (2, .int y)] (by decide) rfl dX11_seam_91 ?_
                    refine j_iinc C (y30_4 + (1)) [(4, .int (y30_4 + (1))), (6, .int (nI d)), (5, .int (y30_5 + (w4 (28 * b10 + d)))), (8, .int (nI b10)), (7, .int (nI d)), (3, .int y30_3), (0, .ref (g 0)), (1, .int (nI xn)), (2, .int y)] 4 rfl (by rw [show Int32.ofInt (1) = (1) from by decide]) (by decide) rfl dX11_seam_93 ?_
                    refine j_iload C 3 rfl dX11_seam_96 ?_
                    refine j_istore_n C [(3, .int (nI b10)), (4, .int (y30_4 + (1))), (6, .int (nI d)), (5, .int (y30_5 + (w4 (28 * b10 + d)))), (8, .int (nI b10)), (7, .int (nI d)), (0, .ref (g 0)), (1, .int (nI xn)), (2, .int y)] rfl (by decide) rfl dX11_seam_98 ?_
                    refine j_iinc C (nI (d + 1)) [(7, .int (nI (d + 1))), (3, .int (nI b10)), (4, .int (y30_4 + (1))), (6, .int (nI d)), (5, .int (y30_5 + (w4 (28 * b10 + d)))), (8, .int (nI b10)), (0, .ref (g 0)), (1, .int (nI xn)), (2, .int y)] 5 rfl (by rw [show Int32.ofInt 1 = nI 1 from by decide, nI_add]) (by decide) rfl dX11_seam_99 ?_
                    refine j_goto C 30 (by decide) dX11_seam_102 ?_
                    refine j_sub (lv' := [(7, .int (nI (d + 1))), (6, .int (nI d)), (5, .int (y30_5 + (w4 (28 * b10 + d)))), (4, .int (y30_4 + (1))), (3, .int (nI b10)), (0, .ref (g 0)), (1, .int (nI xn)), (2, .int y)]) [0, 3, 4, 2, 1, 6, 7, 8] rfl ?_
                    exact ih30 (d + 1) (nI d) (y30_5 + (w4 (28 * b10 + d))) (y30_4 + (1)) (nI b10) (by omega) (by omega)
    exact L30 _ 0 (-6) (nI 0) (nI 0) (-6) (by omega) (Nat.lt_succ_self _)
  · replace c1 := bI_f c1
    refine j_bipush C ((-2)) (by decide) dX11_seam_7 ?_
    refine j_w (cM g kk (sF σ 16 (σ.2.1 16))) (congrArg (cM g kk) (wrFi (S := σ) (c := 16) (v := σ.2.1 16) rfl)) ?_
    refine j_w (cM g kk (sF (sF σ 16 (σ.2.1 16)) 17 (σ.2.1 17))) (congrArg (cM g kk) (wrFi (S := (sF σ 16 (σ.2.1 16))) (c := 17) (v := σ.2.1 17) (gtFF (by decide) rfl))) ?_
    refine j_w (cM g kk (sF (sF (sF σ 16 (σ.2.1 16)) 17 (σ.2.1 17)) 18 (σ.2.1 18))) (congrArg (cM g kk) (wrFi (S := (sF (sF σ 16 (σ.2.1 16)) 17 (σ.2.1 17))) (c := 18) (v := σ.2.1 18) (gtFF (by decide) (gtFF (by decide) rfl)))) ?_
    exact j_iret C E (sF (sF (sF σ 16 (σ.2.1 16)) 17 (σ.2.1 17)) 18 (σ.2.1 18)) ⟨_, rfl, ⟨(σ.2.1 16), (σ.2.1 17), (σ.2.1 18), rfl⟩⟩ rfl dX11_seam_9
set_option maxRecDepth 100000 in
set_option maxHeartbeats 4000000 in
theorem n_spanEnd (g kk : Nat → Nat) (σ : St) (k : Nat) (hk : σ.1 3 = nI k) (hk6 : k ≤ 6) (hI : iM σ)  (v : Int32) : jM (S := St) yX11_spanEnd cX11_spanEnd 2 (some .int) { frames := 0, cells := 0, slots := 0, locals := 0 } kk (cM g kk σ) [.ref (g 0), .int v] (cM g kk) (rI (fun (r : Int32) (u : St) => u = σ)) := by
  refine j_entry [(0, .ref (g 0)), (1, .int v)] (by decide) (Nat.le_of_ble_eq_true rfl) rfl ?_
  intro X C E HI
  refine j_iload_n C 1 rfl dX11_spanEnd_0 ?_
  refine j_bipush C (nI 10) (by decide) dX11_spanEnd_1 ?_
  refine j_aload_n C 0 rfl dX11_spanEnd_3 ?_
  refine gM_0_13 C tb_886 (σ.1 13) rfl dX11_spanEnd_4 ?_
  refine j_iadd C dX11_spanEnd_7 ?_
  refine j_imul C dX11_spanEnd_8 ?_
  refine j_bipush C (nI 10) (by decide) dX11_spanEnd_9 ?_
  refine j_idiv C (by first | decide | assumption | exact nI_ne0 (by omega) (by omega) | exact i64ne (by assumption) | exact i64ne (nI_ne0 (by omega) (by omega))) dX11_spanEnd_11 ?_
  refine j_top (fun v1 => ?_)
  exact j_iret C E (σ) ⟨_, rfl, rfl⟩ rfl dX11_spanEnd_12
set_option maxRecDepth 100000 in
set_option maxHeartbeats 4000000 in
theorem n_claim (g kk : Nat → Nat) (σ : St) (k : Nat) (hk : σ.1 3 = nI k) (hk6 : k ≤ 6) (hI : iM σ)  (x : Int32) (y : Int32) : jM (S := St) yX11_claim cX11_claim 9 (some .int) { frames := 6, cells := 0, slots := 0, locals := 141 } kk (cM g kk σ) [.ref (g 0), .int x, .int y] (cM g kk) (rI (fun (r : Int32) (u : St) => ∃ (pF16 : Nat → Int32) (pF17 : Nat → Int32) (pF18 : Nat → Int32), u = sF (sF (sF σ 16 pF16) 17 pF17) 18 pF18)) := by
  refine j_entry [(0, .ref (g 0)), (1, .int x), (2, .int y)] (by decide) (Nat.le_of_ble_eq_true rfl) rfl ?_
  intro X C E HI
  refine j_aload_n C 0 rfl dX11_claim_0 ?_
  refine j_iload_n C 1 rfl dX11_claim_1 ?_
  refine j_V1 C (m_isCan g kk σ k hk hk6 x) kyX11_isCan tb_1067 tb_1069 sp_21 0 rfl (eM_0 g kk _) rfl (Nat.le_of_ble_eq_true rfl) ⟨by decide, by decide⟩ dX11_claim_2 rfl (fun vr ur hp => ?_)
  obtain ⟨r, rfl, rfl, hu⟩ := hp
  replace hu := hu.symm
  subst hu
  refine j_if_eq C 15 (by decide) dX11_claim_5 (fun c1 => ?_) (fun c1 => ?_)
  · replace c1 := bI_f c1
    refine j_iconst C ((-1)) (by decide) dX11_claim_15 ?_
    refine j_w (cM g kk (sF σ 16 (σ.2.1 16))) (congrArg (cM g kk) (wrFi (S := σ) (c := 16) (v := σ.2.1 16) rfl)) ?_
    refine j_w (cM g kk (sF (sF σ 16 (σ.2.1 16)) 17 (σ.2.1 17))) (congrArg (cM g kk) (wrFi (S := (sF σ 16 (σ.2.1 16))) (c := 17) (v := σ.2.1 17) (gtFF (by decide) rfl))) ?_
    refine j_w (cM g kk (sF (sF (sF σ 16 (σ.2.1 16)) 17 (σ.2.1 17)) 18 (σ.2.1 18))) (congrArg (cM g kk) (wrFi (S := (sF (sF σ 16 (σ.2.1 16)) 17 (σ.2.1 17))) (c := 18) (v := σ.2.1 18) (gtFF (by decide) (gtFF (by decide) rfl)))) ?_
    exact j_iret C E (sF (sF (sF σ 16 (σ.2.1 16)) 17 (σ.2.1 17)) 18 (σ.2.1 18)) ⟨_, rfl, ⟨(σ.2.1 16), (σ.2.1 17), (σ.2.1 18), rfl⟩⟩ rfl dX11_claim_16
  · replace c1 := bI_t c1
    obtain ⟨xn, xn1, rfl⟩ := cB_nat (by omega) c1
    refine j_iload_n C 2 rfl dX11_claim_8 ?_
    refine j_S01 C (m_isDay y) kyX11_isDay tb_1077 tb_1078 rfl (Nat.le_of_ble_eq_true rfl) ⟨by decide, by decide⟩ ⟨by decide, by decide⟩ dX11_claim_9 rfl ?_
    refine j_if_ne C 17 (by decide) dX11_claim_12 (fun c2 => ?_) (fun c2 => ?_)
    · replace c2 := bI_t c2
      obtain ⟨yn, yn1, yn2, rfl⟩ := wB_nat (by decide) (by decide) c2
      refine j_aload_n C 0 rfl dX11_claim_17 ?_
      refine j_V1 C (n_findAll g kk σ k hk hk6 hI  ) kyX11_findAll tb_1131 tb_1133 sp_24 0 rfl (eM_0 g kk _) rfl (Nat.le_of_ble_eq_true rfl) ⟨by decide, by decide⟩ dX11_claim_18 rfl (fun vr ur hp => ?_)
      obtain ⟨rfl, w3, w4, w5, hu⟩ := hp
      replace hu := hu.symm
      subst hu
      refine j_aload_n C 0 rfl dX11_claim_21 ?_
      refine gM_0_24 C tb_897 dX11_claim_22 ?_
      refine j_iload_n C 1 rfl dX11_claim_25 ?_
      refine j_iload_n C 2 rfl dX11_claim_26 ?_
      refine j_S01 C (m_at xn yn) kyX11_at tb_1060 tb_1061 rfl (Nat.le_of_ble_eq_true rfl) ⟨by decide, by decide⟩ ⟨by decide, by decide⟩ dX11_claim_27 rfl ?_
      refine rM_18 C (28 * xn + yn) rfl (by omega) (w5 (28 * xn + yn)) rfl dX11_claim_30 ?_
      refine j_istore_n C [(3, .int (w5 (28 * xn + yn))), (0, .ref (g 0)), (1, .int (nI xn)), (2, .int (nI yn))] rfl (by decide) rfl dX11_claim_31 ?_
      refine j_iload_n C 0 rfl dX11_claim_32 ?_
      refine j_if_ge C 39 (by decide) dX11_claim_33 (fun c6 => ?_) (fun c6 => ?_)
      · refine j_iconst C (nI 1) (by decide) dX11_claim_39 ?_
        refine j_istore C [(4, .int (nI 1)), (3, .int (w5 (28 * xn + yn))), (0, .ref (g 0)), (1, .int (nI xn)), (2, .int (nI yn))] (by decide) rfl dX11_claim_40 ?_
        refine j_iconst C (nI 0) (by decide) dX11_claim_42 ?_
        refine j_istore C [(5, .int (nI 0)), (4, .int (nI 1)), (3, .int (w5 (28 * xn + yn))), (0, .ref (g 0)), (1, .int (nI xn)), (2, .int (nI yn))] (by decide) rfl dX11_claim_43 ?_
        refine j_iconst C (nI 0) (by decide) dX11_claim_45 ?_
        refine j_istore C [(6, .int (nI 0)), (5, .int (nI 0)), (4, .int (nI 1)), (3, .int (w5 (28 * xn + yn))), (0, .ref (g 0)), (1, .int (nI xn)), (2, .int (nI yn))] (by decide) rfl dX11_claim_46 ?_
        have L48 : ∀ (n48 : Nat) (c : Nat) (y48_5 : Int32) (y48_4 : Int32) (i48_0 : c ≤ k) (hm48 : k - c < n48), J X 0 0 (cM g kk (sF (sF (sF σ 16 w3) 17 w4) 18 w5)) [(6, .int (nI c)), (5, .int y48_5), (4, .int y48_4), (3, .int (w5 (28 * xn + yn))), (0, .ref (g 0)), (1, .int (nI xn)), (2, .int (nI yn))] 48 [] := by
          intro n48
          induction n48 with
          | zero => intro c y48_5 y48_4 i48_0 hm; exact absurd hm (Nat.not_lt_zero _)
          | succ n48 ih48 =>
            intro c y48_5 y48_4 i48_0 hm48
            refine j_iload C 0 rfl dX11_claim_48 ?_
            refine j_aload_n C 4 rfl dX11_claim_50 ?_
            refine gM_0_3 C tb_876 (nI k) hk dX11_claim_51 ?_
            refine j_icmp_geN C 154 (by decide) (by omega) (by omega) dX11_claim_54 (fun c7 => ?_) (fun c7 => ?_)
            · refine j_iload C 2 rfl dX11_claim_154 ?_
              refine j_if_eq C 163 (by decide) dX11_claim_156 (fun c8 => ?_) (fun c8 => ?_)
              · refine j_iload C 1 rfl dX11_claim_163 ?_
                refine j_if_eq C 172 (by decide) dX11_claim_165 (fun c9 => ?_) (fun c9 => ?_)
                · refine j_iconst C (nI 1) (by decide) dX11_claim_172 ?_
                  exact j_iret C E (sF (sF (sF σ 16 w3) 17 w4) 18 w5) ⟨_, rfl, ⟨w3, w4, w5, rfl⟩⟩ rfl dX11_claim_173
                · refine j_iconst C (nI 0) (by decide) dX11_claim_168 ?_
                  refine j_goto C 173 (by decide) dX11_claim_169 ?_
                  exact j_iret C E (sF (sF (sF σ 16 w3) 17 w4) 18 w5) ⟨_, rfl, ⟨w3, w4, w5, rfl⟩⟩ rfl dX11_claim_173
              · refine j_iconst C (nI 2) (by decide) dX11_claim_159 ?_
                refine j_goto C 173 (by decide) dX11_claim_160 ?_
                exact j_iret C E (sF (sF (sF σ 16 w3) 17 w4) 18 w5) ⟨_, rfl, ⟨w3, w4, w5, rfl⟩⟩ rfl dX11_claim_173
            · refine j_iconst C (nI 0) (by decide) dX11_claim_57 ?_
              refine j_istore C [(7, .int (nI 0)), (6, .int (nI c)), (5, .int y48_5), (4, .int y48_4), (3, .int (w5 (28 * xn + yn))), (0, .ref (g 0)), (1, .int (nI xn)), (2, .int (nI yn))] (by decide) rfl dX11_claim_58 ?_
              have L60 : ∀ (n60 : Nat) (d : Nat) (y60_5 : Int32) (y60_4 : Int32) (i60_0 : d ≤ 28) (hm60 : 28 - d < n60), J X 0 0 (cM g kk (sF (sF (sF σ 16 w3) 17 w4) 18 w5)) [(7, .int (nI d)), (6, .int (nI c)), (5, .int y60_5), (4, .int y60_4), (3, .int (w5 (28 * xn + yn))), (0, .ref (g 0)), (1, .int (nI xn)), (2, .int (nI yn))] 60 [] := by
                intro n60
                induction n60 with
                | zero => intro d y60_5 y60_4 i60_0 hm; exact absurd hm (Nat.not_lt_zero _)
                | succ n60 ih60 =>
                  intro d y60_5 y60_4 i60_0 hm60
                  refine j_iload C 0 rfl dX11_claim_60 ?_
                  refine j_bipush C (nI 28) (by decide) dX11_claim_62 ?_
                  refine j_icmp_geN C 148 (by decide) (by omega) (by omega) dX11_claim_64 (fun c10 => ?_) (fun c10 => ?_)
                  · refine j_iinc C (nI (c + 1)) [(6, .int (nI (c + 1))), (7, .int (nI d)), (5, .int y60_5), (4, .int y60_4), (3, .int (w5 (28 * xn + yn))), (0, .ref (g 0)), (1, .int (nI xn)), (2, .int (nI yn))] 1 rfl (by rw [show Int32.ofInt 1 = nI 1 from by decide, nI_add]) (by decide) rfl dX11_claim_148 ?_
                    refine j_goto C 48 (by decide) dX11_claim_151 ?_
                    refine j_sub (lv' := [(6, .int (nI (c + 1))), (5, .int y60_5), (4, .int y60_4), (3, .int (w5 (28 * xn + yn))), (0, .ref (g 0)), (1, .int (nI xn)), (2, .int (nI yn))]) [0, 2, 3, 4, 5, 6, 7] rfl ?_
                    exact ih48 (c + 1) y60_5 y60_4 (by omega) (by omega)
                  · refine j_aload_n C 5 rfl dX11_claim_67 ?_
                    refine gM_0_24 C tb_897 dX11_claim_68 ?_
                    refine j_iload C 1 rfl dX11_claim_71 ?_
                    refine j_iload C 0 rfl dX11_claim_73 ?_
                    refine j_S01 C (m_at c d) kyX11_at tb_1060 tb_1061 rfl (Nat.le_of_ble_eq_true rfl) ⟨by decide, by decide⟩ ⟨by decide, by decide⟩ dX11_claim_75 rfl ?_
                    refine rM_18 C (28 * c + d) rfl (by omega) (w5 (28 * c + d)) rfl dX11_claim_78 ?_
                    refine j_istore C [(8, .int (w5 (28 * c + d))), (7, .int (nI d)), (6, .int (nI c)), (5, .int y60_5), (4, .int y60_4), (3, .int (w5 (28 * xn + yn))), (0, .ref (g 0)), (1, .int (nI xn)), (2, .int (nI yn))] (by decide) rfl dX11_claim_79 ?_
                    refine j_iload C 0 rfl dX11_claim_81 ?_
                    refine j_if_lt C 142 (by decide) dX11_claim_83 (fun c11 => ?_) (fun c11 => ?_)
                    · refine j_iinc C (nI (d + 1)) [(7, .int (nI (d + 1))), (8, .int (w5 (28 * c + d))), (6, .int (nI c)), (5, .int y60_5), (4, .int y60_4), (3, .int (w5 (28 * xn + yn))), (0, .ref (g 0)), (1, .int (nI xn)), (2, .int (nI yn))] 1 rfl (by rw [show Int32.ofInt 1 = nI 1 from by decide, nI_add]) (by decide) rfl dX11_claim_142 ?_
                      refine j_goto C 60 (by decide) dX11_claim_145 ?_
                      refine j_sub (lv' := [(7, .int (nI (d + 1))), (6, .int (nI c)), (5, .int y60_5), (4, .int y60_4), (3, .int (w5 (28 * xn + yn))), (0, .ref (g 0)), (1, .int (nI xn)), (2, .int (nI yn))]) [0, 2, 3, 4, 5, 6, 7, 8] rfl ?_
                      exact ih60 (d + 1) y60_5 y60_4 (by omega) (by omega)
                    · refine j_iload C 2 rfl dX11_claim_86 ?_
                      refine j_iload_n C 7 rfl dX11_claim_88 ?_
                      refine j_icmp_neN C 98 (by decide) (by omega) (by omega) dX11_claim_89 (fun c12 => ?_) (fun c12 => ?_)
                      · refine j_iload C 4 rfl dX11_claim_98 ?_
                        refine j_if_eq C 117 (by decide) dX11_claim_100 (fun c13 => ?_) (fun c13 => ?_)
                        · refine j_iconst C (nI 0) (by decide) dX11_claim_117 ?_
                          refine j_istore C [(4, .int (nI 0)), (8, .int (w5 (28 * c + d))), (7, .int (nI d)), (6, .int (nI c)), (5, .int y60_5), (3, .int (w5 (28 * xn + yn))), (0, .ref (g 0)), (1, .int (nI xn)), (2, .int (nI yn))] (by decide) rfl dX11_claim_118 ?_
                          refine j_iload C 4 rfl dX11_claim_120 ?_
                          refine j_if_ne C 135 (by decide) dX11_claim_122 (fun c14 => ?_) (fun c14 => ?_)
                          · refine j_iconst C (nI 1) (by decide) dX11_claim_135 ?_
                            refine j_goto C 140 (by decide) dX11_claim_136 ?_
                            refine j_istore C [(5, .int (nI 1)), (4, .int (nI 0)), (8, .int (w5 (28 * c + d))), (7, .int (nI d)), (6, .int (nI c)), (3, .int (w5 (28 * xn + yn))), (0, .ref (g 0)), (1, .int (nI xn)), (2, .int (nI yn))] (by decide) rfl dX11_claim_140 ?_
                            refine j_iinc C (nI (d + 1)) [(7, .int (nI (d + 1))), (5, .int (nI 1)), (4, .int (nI 0)), (8, .int (w5 (28 * c + d))), (6, .int (nI c)), (3, .int (w5 (28 * xn + yn))), (0, .ref (g 0)), (1, .int (nI xn)), (2, .int (nI yn))] 3 rfl (by rw [show Int32.ofInt 1 = nI 1 from by decide, nI_add]) (by decide) rfl dX11_claim_142 ?_
                            refine j_goto C 60 (by decide) dX11_claim_145 ?_
                            refine j_sub (lv' := [(7, .int (nI (d + 1))), (6, .int (nI c)), (5, .int (nI 1)), (4, .int (nI 0)), (3, .int (w5 (28 * xn + yn))), (0, .ref (g 0)), (1, .int (nI xn)), (2, .int (nI yn))]) [0, 4, 1, 2, 5, 6, 7, 8] rfl ?_
                            exact ih60 (d + 1) (nI 1) (nI 0) (by omega) (by omega)
                          · refine j_iload C 1 rfl dX11_claim_125 ?_
                            refine j_aload_n C 6 rfl dX11_claim_127 ?_
                            refine j_iload_n C 5 rfl dX11_claim_128 ?_
                            refine j_V1 C (n_spanEnd g kk (sF (sF (sF σ 16 w3) 17 w4) 18 w5) k hk hk6 hI  (w5 (28 * xn + yn))) kyX11_spanEnd tb_1294 tb_1296 sp_44 0 rfl (eM_0 g kk _) rfl (Nat.le_of_ble_eq_true rfl) ⟨by decide, by decide⟩ dX11_claim_129 rfl (fun vr ur hp => ?_)
                            obtain ⟨r15, rfl, hu⟩ := hp
                            replace hu := hu.symm
                            subst hu
                            refine j_icmp_le C 139 (by decide) dX11_claim_132 (fun c16 => ?_) (fun c16 => ?_)
                            · refine j_iconst C (nI 0) (by decide) dX11_claim_139 ?_
                              refine j_istore C [(5, .int (nI 0)), (4, .int (nI 0)), (8, .int (w5 (28 * c + d))), (7, .int (nI d)), (6, .int (nI c)), (3, .int (w5 (28 * xn + yn))), (0, .ref (g 0)), (1, .int (nI xn)), (2, .int (nI yn))] (by decide) rfl dX11_claim_140 ?_
                              refine j_iinc C (nI (d + 1)) [(7, .int (nI (d + 1))), (5, .int (nI 0)), (4, .int (nI 0)), (8, .int (w5 (28 * c + d))), (6, .int (nI c)), (3, .int (w5 (28 * xn + yn))), (0, .ref (g 0)), (1, .int (nI xn)), (2, .int (nI yn))] 3 rfl (by rw [show Int32.ofInt 1 = nI 1 from by decide, nI_add]) (by decide) rfl dX11_claim_142 ?_
                              refine j_goto C 60 (by decide) dX11_claim_145 ?_
                              refine j_sub (lv' := [(7, .int (nI (d + 1))), (6, .int (nI c)), (5, .int (nI 0)), (4, .int (nI 0)), (3, .int (w5 (28 * xn + yn))), (0, .ref (g 0)), (1, .int (nI xn)), (2, .int (nI yn))]) [0, 4, 1, 2, 5, 6, 7, 8] rfl ?_
                              exact ih60 (d + 1) (nI 0) (nI 0) (by omega) (by omega)
                            · refine j_iconst C (nI 1) (by decide) dX11_claim_135 ?_
                              refine j_goto C 140 (by decide) dX11_claim_136 ?_
                              refine j_istore C [(5, .int (nI 1)), (4, .int (nI 0)), (8, .int (w5 (28 * c + d))), (7, .int (nI d)), (6, .int (nI c)), (3, .int (w5 (28 * xn + yn))), (0, .ref (g 0)), (1, .int (nI xn)), (2, .int (nI yn))] (by decide) rfl dX11_claim_140 ?_
                              refine j_iinc C (nI (d + 1)) [(7, .int (nI (d + 1))), (5, .int (nI 1)), (4, .int (nI 0)), (8, .int (w5 (28 * c + d))), (6, .int (nI c)), (3, .int (w5 (28 * xn + yn))), (0, .ref (g 0)), (1, .int (nI xn)), (2, .int (nI yn))] 3 rfl (by rw [show Int32.ofInt 1 = nI 1 from by decide, nI_add]) (by decide) rfl dX11_claim_142 ?_
                              refine j_goto C 60 (by decide) dX11_claim_145 ?_
                              refine j_sub (lv' := [(7, .int (nI (d + 1))), (6, .int (nI c)), (5, .int (nI 1)), (4, .int (nI 0)), (3, .int (w5 (28 * xn + yn))), (0, .ref (g 0)), (1, .int (nI xn)), (2, .int (nI yn))]) [0, 4, 1, 2, 5, 6, 7, 8] rfl ?_
                              exact ih60 (d + 1) (nI 1) (nI 0) (by omega) (by omega)
                        · refine j_aload_n C 6 rfl dX11_claim_103 ?_
                          refine j_iload C 0 rfl dX11_claim_104 ?_
                          refine j_V1 C (n_spanEnd g kk (sF (sF (sF σ 16 w3) 17 w4) 18 w5) k hk hk6 hI  (w5 (28 * c + d))) kyX11_spanEnd tb_1294 tb_1296 sp_44 0 rfl (eM_0 g kk _) rfl (Nat.le_of_ble_eq_true rfl) ⟨by decide, by decide⟩ dX11_claim_106 rfl (fun vr ur hp => ?_)
                          obtain ⟨r17, rfl, hu⟩ := hp
                          replace hu := hu.symm
                          subst hu
                          refine j_iload_n C 5 rfl dX11_claim_109 ?_
                          refine j_icmp_ge C 117 (by decide) dX11_claim_110 (fun c18 => ?_) (fun c18 => ?_)
                          · refine j_iconst C (nI 0) (by decide) dX11_claim_117 ?_
                            refine j_istore C [(4, .int (nI 0)), (8, .int (w5 (28 * c + d))), (7, .int (nI d)), (6, .int (nI c)), (5, .int y60_5), (3, .int (w5 (28 * xn + yn))), (0, .ref (g 0)), (1, .int (nI xn)), (2, .int (nI yn))] (by decide) rfl dX11_claim_118 ?_
                            refine j_iload C 4 rfl dX11_claim_120 ?_
                            refine j_if_ne C 135 (by decide) dX11_claim_122 (fun c19 => ?_) (fun c19 => ?_)
                            · refine j_iconst C (nI 1) (by decide) dX11_claim_135 ?_
                              refine j_goto C 140 (by decide) dX11_claim_136 ?_
                              refine j_istore C [(5, .int (nI 1)), (4, .int (nI 0)), (8, .int (w5 (28 * c + d))), (7, .int (nI d)), (6, .int (nI c)), (3, .int (w5 (28 * xn + yn))), (0, .ref (g 0)), (1, .int (nI xn)), (2, .int (nI yn))] (by decide) rfl dX11_claim_140 ?_
                              refine j_iinc C (nI (d + 1)) [(7, .int (nI (d + 1))), (5, .int (nI 1)), (4, .int (nI 0)), (8, .int (w5 (28 * c + d))), (6, .int (nI c)), (3, .int (w5 (28 * xn + yn))), (0, .ref (g 0)), (1, .int (nI xn)), (2, .int (nI yn))] 3 rfl (by rw [show Int32.ofInt 1 = nI 1 from by decide, nI_add]) (by decide) rfl dX11_claim_142 ?_
                              refine j_goto C 60 (by decide) dX11_claim_145 ?_
                              refine j_sub (lv' := [(7, .int (nI (d + 1))), (6, .int (nI c)), (5, .int (nI 1)), (4, .int (nI 0)), (3, .int (w5 (28 * xn + yn))), (0, .ref (g 0)), (1, .int (nI xn)), (2, .int (nI yn))]) [0, 4, 1, 2, 5, 6, 7, 8] rfl ?_
                              exact ih60 (d + 1) (nI 1) (nI 0) (by omega) (by omega)
                            · refine j_iload C 1 rfl dX11_claim_125 ?_
                              refine j_aload_n C 6 rfl dX11_claim_127 ?_
                              refine j_iload_n C 5 rfl dX11_claim_128 ?_
                              refine j_V1 C (n_spanEnd g kk (sF (sF (sF σ 16 w3) 17 w4) 18 w5) k hk hk6 hI  (w5 (28 * xn + yn))) kyX11_spanEnd tb_1294 tb_1296 sp_44 0 rfl (eM_0 g kk _) rfl (Nat.le_of_ble_eq_true rfl) ⟨by decide, by decide⟩ dX11_claim_129 rfl (fun vr ur hp => ?_)
                              obtain ⟨r20, rfl, hu⟩ := hp
                              replace hu := hu.symm
                              subst hu
                              refine j_icmp_le C 139 (by decide) dX11_claim_132 (fun c21 => ?_) (fun c21 => ?_)
                              · refine j_iconst C (nI 0) (by decide) dX11_claim_139 ?_
                                refine j_istore C [(5, .int (nI 0)), (4, .int (nI 0)), (8, .int (w5 (28 * c + d))), (7, .int (nI d)), (6, .int (nI c)), (3, .int (w5 (28 * xn + yn))), (0, .ref (g 0)), (1, .int (nI xn)), (2, .int (nI yn))] (by decide) rfl dX11_claim_140 ?_
                                refine j_iinc C (nI (d + 1)) [(7, .int (nI (d + 1))), (5, .int (nI 0)), (4, .int (nI 0)), (8, .int (w5 (28 * c + d))), (6, .int (nI c)), (3, .int (w5 (28 * xn + yn))), (0, .ref (g 0)), (1, .int (nI xn)), (2, .int (nI yn))] 3 rfl (by rw [show Int32.ofInt 1 = nI 1 from by decide, nI_add]) (by decide) rfl dX11_claim_142 ?_
                                refine j_goto C 60 (by decide) dX11_claim_145 ?_
                                refine j_sub (lv' := [(7, .int (nI (d + 1))), (6, .int (nI c)), (5, .int (nI 0)), (4, .int (nI 0)), (3, .int (w5 (28 * xn + yn))), (0, .ref (g 0)), (1, .int (nI xn)), (2, .int (nI yn))]) [0, 4, 1, 2, 5, 6, 7, 8] rfl ?_
                                exact ih60 (d + 1) (nI 0) (nI 0) (by omega) (by omega)
                              · refine j_iconst C (nI 1) (by decide) dX11_claim_135 ?_
                                refine j_goto C 140 (by decide) dX11_claim_136 ?_
                                refine j_istore C [(5, .int (nI 1)), (4, .int (nI 0)), (8, .int (w5 (28 * c + d))), (7, .int (nI d)), (6, .int (nI c)), (3, .int (w5 (28 * xn + yn))), (0, .ref (g 0)), (1, .int (nI xn)), (2, .int (nI yn))] (by decide) rfl dX11_claim_140 ?_
                                refine j_iinc C (nI (d + 1)) [(7, .int (nI (d + 1))), (5, .int (nI 1)), (4, .int (nI 0)), (8, .int (w5 (28 * c + d))), (6, .int (nI c)), (3, .int (w5 (28 * xn + yn))), (0, .ref (g 0)), (1, .int (nI xn)), (2, .int (nI yn))] 3 rfl (by rw [show Int32.ofInt 1 = nI 1 from by decide, nI_add]) (by decide) rfl dX11_claim_142 ?_
                                refine j_goto C 60 (by decide) dX11_claim_145 ?_
                                refine j_sub (lv' := [(7, .int (nI (d + 1))), (6, .int (nI c)), (5, .int (nI 1)), (4, .int (nI 0)), (3, .int (w5 (28 * xn + yn))), (0, .ref (g 0)), (1, .int (nI xn)), (2, .int (nI yn))]) [0, 4, 1, 2, 5, 6, 7, 8] rfl ?_
                                exact ih60 (d + 1) (nI 1) (nI 0) (by omega) (by omega)
                          · refine j_iconst C (nI 1) (by decide) dX11_claim_113 ?_
                            refine j_goto C 118 (by decide) dX11_claim_114 ?_
                            refine j_istore C [(4, .int (nI 1)), (8, .int (w5 (28 * c + d))), (7, .int (nI d)), (6, .int (nI c)), (5, .int y60_5), (3, .int (w5 (28 * xn + yn))), (0, .ref (g 0)), (1, .int (nI xn)), (2, .int (nI yn))] (by decide) rfl dX11_claim_118 ?_
                            refine j_iload C 4 rfl dX11_claim_120 ?_
                            refine j_if_ne C 135 (by decide) dX11_claim_122 (fun c22 => ?_) (fun c22 => ?_)
                            · refine j_iconst C (nI 1) (by decide) dX11_claim_135 ?_
                              refine j_goto C 140 (by decide) dX11_claim_136 ?_
                              refine j_istore C [(5, .int (nI 1)), (4, .int (nI 1)), (8, .int (w5 (28 * c + d))), (7, .int (nI d)), (6, .int (nI c)), (3, .int (w5 (28 * xn + yn))), (0, .ref (g 0)), (1, .int (nI xn)), (2, .int (nI yn))] (by decide) rfl dX11_claim_140 ?_
                              refine j_iinc C (nI (d + 1)) [(7, .int (nI (d + 1))), (5, .int (nI 1)), (4, .int (nI 1)), (8, .int (w5 (28 * c + d))), (6, .int (nI c)), (3, .int (w5 (28 * xn + yn))), (0, .ref (g 0)), (1, .int (nI xn)), (2, .int (nI yn))] 3 rfl (by rw [show Int32.ofInt 1 = nI 1 from by decide, nI_add]) (by decide) rfl dX11_claim_142 ?_
                              refine j_goto C 60 (by decide) dX11_claim_145 ?_
                              refine j_sub (lv' := [(7, .int (nI (d + 1))), (6, .int (nI c)), (5, .int (nI 1)), (4, .int (nI 1)), (3, .int (w5 (28 * xn + yn))), (0, .ref (g 0)), (1, .int (nI xn)), (2, .int (nI yn))]) [0, 4, 1, 2, 5, 6, 7, 8] rfl ?_
                              exact ih60 (d + 1) (nI 1) (nI 1) (by omega) (by omega)
                            · refine j_iload C 1 rfl dX11_claim_125 ?_
                              refine j_aload_n C 6 rfl dX11_claim_127 ?_
                              refine j_iload_n C 5 rfl dX11_claim_128 ?_
                              refine j_V1 C (n_spanEnd g kk (sF (sF (sF σ 16 w3) 17 w4) 18 w5) k hk hk6 hI  (w5 (28 * xn + yn))) kyX11_spanEnd tb_1294 tb_1296 sp_44 0 rfl (eM_0 g kk _) rfl (Nat.le_of_ble_eq_true rfl) ⟨by decide, by decide⟩ dX11_claim_129 rfl (fun vr ur hp => ?_)
                              obtain ⟨r23, rfl, hu⟩ := hp
                              replace hu := hu.symm
                              subst hu
                              refine j_icmp_le C 139 (by decide) dX11_claim_132 (fun c24 => ?_) (fun c24 => ?_)
                              · refine j_iconst C (nI 0) (by decide) dX11_claim_139 ?_
                                refine j_istore C [(5, .int (nI 0)), (4, .int (nI 1)), (8, .int (w5 (28 * c + d))), (7, .int (nI d)), (6, .int (nI c)), (3, .int (w5 (28 * xn + yn))), (0, .ref (g 0)), (1, .int (nI xn)), (2, .int (nI yn))] (by decide) rfl dX11_claim_140 ?_
                                refine j_iinc C (nI (d + 1)) [(7, .int (nI (d + 1))), (5, .int (nI 0)), (4, .int (nI 1)), (8, .int (w5 (28 * c + d))), (6, .int (nI c)), (3, .int (w5 (28 * xn + yn))), (0, .ref (g 0)), (1, .int (nI xn)), (2, .int (nI yn))] 3 rfl (by rw [show Int32.ofInt 1 = nI 1 from by decide, nI_add]) (by decide) rfl dX11_claim_142 ?_
                                refine j_goto C 60 (by decide) dX11_claim_145 ?_
                                refine j_sub (lv' := [(7, .int (nI (d + 1))), (6, .int (nI c)), (5, .int (nI 0)), (4, .int (nI 1)), (3, .int (w5 (28 * xn + yn))), (0, .ref (g 0)), (1, .int (nI xn)), (2, .int (nI yn))]) [0, 4, 1, 2, 5, 6, 7, 8] rfl ?_
                                exact ih60 (d + 1) (nI 0) (nI 1) (by omega) (by omega)
                              · refine j_iconst C (nI 1) (by decide) dX11_claim_135 ?_
                                refine j_goto C 140 (by decide) dX11_claim_136 ?_
                                refine j_istore C [(5, .int (nI 1)), (4, .int (nI 1)), (8, .int (w5 (28 * c + d))), (7, .int (nI d)), (6, .int (nI c)), (3, .int (w5 (28 * xn + yn))), (0, .ref (g 0)), (1, .int (nI xn)), (2, .int (nI yn))] (by decide) rfl dX11_claim_140 ?_
                                refine j_iinc C (nI (d + 1)) [(7, .int (nI (d + 1))), (5, .int (nI 1)), (4, .int (nI 1)), (8, .int (w5 (28 * c + d))), (6, .int (nI c)), (3, .int (w5 (28 * xn + yn))), (0, .ref (g 0)), (1, .int (nI xn)), (2, .int (nI yn))] 3 rfl (by rw [show Int32.ofInt 1 = nI 1 from by decide, nI_add]) (by decide) rfl dX11_claim_142 ?_
                                refine j_goto C 60 (by decide) dX11_claim_145 ?_
                                refine j_sub (lv' := [(7, .int (nI (d + 1))), (6, .int (nI c)), (5, .int (nI 1)), (4, .int (nI 1)), (3, .int (w5 (28 * xn + yn))), (0, .ref (g 0)), (1, .int (nI xn)), (2, .int (nI yn))]) [0, 4, 1, 2, 5, 6, 7, 8] rfl ?_
                                exact ih60 (d + 1) (nI 1) (nI 1) (by omega) (by omega)
                      · refine j_iload C 1 rfl dX11_claim_92 ?_
                        refine j_iload_n C 8 rfl dX11_claim_94 ?_
                        refine j_icmp_eqN C 142 (by decide) (by omega) (by omega) dX11_claim_95 (fun c25 => ?_) (fun c25 => ?_)
                        · refine j_iinc C (nI (d + 1)) [(7, .int (nI (d + 1))), (8, .int (w5 (28 * c + d))), (6, .int (nI c)), (5, .int y60_5), (4, .int y60_4), (3, .int (w5 (28 * xn + yn))), (0, .ref (g 0)), (1, .int (nI xn)), (2, .int (nI yn))] 1 rfl (by rw [show Int32.ofInt 1 = nI 1 from by decide, nI_add]) (by decide) rfl dX11_claim_142 ?_
                          refine j_goto C 60 (by decide) dX11_claim_145 ?_
                          refine j_sub (lv' := [(7, .int (nI (d + 1))), (6, .int (nI c)), (5, .int y60_5), (4, .int y60_4), (3, .int (w5 (28 * xn + yn))), (0, .ref (g 0)), (1, .int (nI xn)), (2, .int (nI yn))]) [0, 2, 3, 4, 5, 6, 7, 8] rfl ?_
                          exact ih60 (d + 1) y60_5 y60_4 (by omega) (by omega)
                        · refine j_iload C 4 rfl dX11_claim_98 ?_
                          refine j_if_eq C 117 (by decide) dX11_claim_100 (fun c26 => ?_) (fun c26 => ?_)
                          · refine j_iconst C (nI 0) (by decide) dX11_claim_117 ?_
                            refine j_istore C [(4, .int (nI 0)), (8, .int (w5 (28 * c + d))), (7, .int (nI d)), (6, .int (nI c)), (5, .int y60_5), (3, .int (w5 (28 * xn + yn))), (0, .ref (g 0)), (1, .int (nI xn)), (2, .int (nI yn))] (by decide) rfl dX11_claim_118 ?_
                            refine j_iload C 4 rfl dX11_claim_120 ?_
                            refine j_if_ne C 135 (by decide) dX11_claim_122 (fun c27 => ?_) (fun c27 => ?_)
                            · refine j_iconst C (nI 1) (by decide) dX11_claim_135 ?_
                              refine j_goto C 140 (by decide) dX11_claim_136 ?_
                              refine j_istore C [(5, .int (nI 1)), (4, .int (nI 0)), (8, .int (w5 (28 * c + d))), (7, .int (nI d)), (6, .int (nI c)), (3, .int (w5 (28 * xn + yn))), (0, .ref (g 0)), (1, .int (nI xn)), (2, .int (nI yn))] (by decide) rfl dX11_claim_140 ?_
                              refine j_iinc C (nI (d + 1)) [(7, .int (nI (d + 1))), (5, .int (nI 1)), (4, .int (nI 0)), (8, .int (w5 (28 * c + d))), (6, .int (nI c)), (3, .int (w5 (28 * xn + yn))), (0, .ref (g 0)), (1, .int (nI xn)), (2, .int (nI yn))] 3 rfl (by rw [show Int32.ofInt 1 = nI 1 from by decide, nI_add]) (by decide) rfl dX11_claim_142 ?_
                              refine j_goto C 60 (by decide) dX11_claim_145 ?_
                              refine j_sub (lv' := [(7, .int (nI (d + 1))), (6, .int (nI c)), (5, .int (nI 1)), (4, .int (nI 0)), (3, .int (w5 (28 * xn + yn))), (0, .ref (g 0)), (1, .int (nI xn)), (2, .int (nI yn))]) [0, 4, 1, 2, 5, 6, 7, 8] rfl ?_
                              exact ih60 (d + 1) (nI 1) (nI 0) (by omega) (by omega)
                            · refine j_iload C 1 rfl dX11_claim_125 ?_
                              refine j_aload_n C 6 rfl dX11_claim_127 ?_
                              refine j_iload_n C 5 rfl dX11_claim_128 ?_
                              refine j_V1 C (n_spanEnd g kk (sF (sF (sF σ 16 w3) 17 w4) 18 w5) k hk hk6 hI  (w5 (28 * xn + yn))) kyX11_spanEnd tb_1294 tb_1296 sp_44 0 rfl (eM_0 g kk _) rfl (Nat.le_of_ble_eq_true rfl) ⟨by decide, by decide⟩ dX11_claim_129 rfl (fun vr ur hp => ?_)
                              obtain ⟨r28, rfl, hu⟩ := hp
                              replace hu := hu.symm
                              subst hu
                              refine j_icmp_le C 139 (by decide) dX11_claim_132 (fun c29 => ?_) (fun c29 => ?_)
                              · refine j_iconst C (nI 0) (by decide) dX11_claim_139 ?_
                                refine j_istore C [(5, .int (nI 0)), (4, .int (nI 0)), (8, .int (w5 (28 * c + d))), (7, .int (nI d)), (6, .int (nI c)), (3, .int (w5 (28 * xn + yn))), (0, .ref (g 0)), (1, .int (nI xn)), (2, .int (nI yn))] (by decide) rfl dX11_claim_140 ?_
                                refine j_iinc C (nI (d + 1)) [(7, .int (nI (d + 1))), (5, .int (nI 0)), (4, .int (nI 0)), (8, .int (w5 (28 * c + d))), (6, .int (nI c)), (3, .int (w5 (28 * xn + yn))), (0, .ref (g 0)), (1, .int (nI xn)), (2, .int (nI yn))] 3 rfl (by rw [show Int32.ofInt 1 = nI 1 from by decide, nI_add]) (by decide) rfl dX11_claim_142 ?_
                                refine j_goto C 60 (by decide) dX11_claim_145 ?_
                                refine j_sub (lv' := [(7, .int (nI (d + 1))), (6, .int (nI c)), (5, .int (nI 0)), (4, .int (nI 0)), (3, .int (w5 (28 * xn + yn))), (0, .ref (g 0)), (1, .int (nI xn)), (2, .int (nI yn))]) [0, 4, 1, 2, 5, 6, 7, 8] rfl ?_
                                exact ih60 (d + 1) (nI 0) (nI 0) (by omega) (by omega)
                              · refine j_iconst C (nI 1) (by decide) dX11_claim_135 ?_
                                refine j_goto C 140 (by decide) dX11_claim_136 ?_
                                refine j_istore C [(5, .int (nI 1)), (4, .int (nI 0)), (8, .int (w5 (28 * c + d))), (7, .int (nI d)), (6, .int (nI c)), (3, .int (w5 (28 * xn + yn))), (0, .ref (g 0)), (1, .int (nI xn)), (2, .int (nI yn))] (by decide) rfl dX11_claim_140 ?_
                                refine j_iinc C (nI (d + 1)) [(7, .int (nI (d + 1))), (5, .int (nI 1)), (4, .int (nI 0)), (8, .int (w5 (28 * c + d))), (6, .int (nI c)), (3, .int (w5 (28 * xn + yn))), (0, .ref (g 0)), (1, .int (nI xn)), (2, .int (nI yn))] 3 rfl (by rw [show Int32.ofInt 1 = nI 1 from by decide, nI_add]) (by decide) rfl dX11_claim_142 ?_
                                refine j_goto C 60 (by decide) dX11_claim_145 ?_
                                refine j_sub (lv' := [(7, .int (nI (d + 1))), (6, .int (nI c)), (5, .int (nI 1)), (4, .int (nI 0)), (3, .int (w5 (28 * xn + yn))), (0, .ref (g 0)), (1, .int (nI xn)), (2, .int (nI yn))]) [0, 4, 1, 2, 5, 6, 7, 8] rfl ?_
                                exact ih60 (d + 1) (nI 1) (nI 0) (by omega) (by omega)
                          · refine j_aload_n C 6 rfl dX11_claim_103 ?_
                            refine j_iload C 0 rfl dX11_claim_104 ?_
                            refine j_V1 C (n_spanEnd g kk (sF (sF (sF σ 16 w3) 17 w4) 18 w5) k hk hk6 hI  (w5 (28 * c + d))) kyX11_spanEnd tb_1294 tb_1296 sp_44 0 rfl (eM_0 g kk _) rfl (Nat.le_of_ble_eq_true rfl) ⟨by decide, by decide⟩ dX11_claim_106 rfl (fun vr ur hp => ?_)
                            obtain ⟨r30, rfl, hu⟩ := hp
                            replace hu := hu.symm
                            subst hu
                            refine j_iload_n C 5 rfl dX11_claim_109 ?_
                            refine j_icmp_ge C 117 (by decide) dX11_claim_110 (fun c31 => ?_) (fun c31 => ?_)
                            · refine j_iconst C (nI 0) (by decide) dX11_claim_117 ?_
                              refine j_istore C [(4, .int (nI 0)), (8, .int (w5 (28 * c + d))), (7, .int (nI d)), (6, .int (nI c)), (5, .int y60_5), (3, .int (w5 (28 * xn + yn))), (0, .ref (g 0)), (1, .int (nI xn)), (2, .int (nI yn))] (by decide) rfl dX11_claim_118 ?_
                              refine j_iload C 4 rfl dX11_claim_120 ?_
                              refine j_if_ne C 135 (by decide) dX11_claim_122 (fun c32 => ?_) (fun c32 => ?_)
                              · refine j_iconst C (nI 1) (by decide) dX11_claim_135 ?_
                                refine j_goto C 140 (by decide) dX11_claim_136 ?_
                                refine j_istore C [(5, .int (nI 1)), (4, .int (nI 0)), (8, .int (w5 (28 * c + d))), (7, .int (nI d)), (6, .int (nI c)), (3, .int (w5 (28 * xn + yn))), (0, .ref (g 0)), (1, .int (nI xn)), (2, .int (nI yn))] (by decide) rfl dX11_claim_140 ?_
                                refine j_iinc C (nI (d + 1)) [(7, .int (nI (d + 1))), (5, .int (nI 1)), (4, .int (nI 0)), (8, .int (w5 (28 * c + d))), (6, .int (nI c)), (3, .int (w5 (28 * xn + yn))), (0, .ref (g 0)), (1, .int (nI xn)), (2, .int (nI yn))] 3 rfl (by rw [show Int32.ofInt 1 = nI 1 from by decide, nI_add]) (by decide) rfl dX11_claim_142 ?_
                                refine j_goto C 60 (by decide) dX11_claim_145 ?_
                                refine j_sub (lv' := [(7, .int (nI (d + 1))), (6, .int (nI c)), (5, .int (nI 1)), (4, .int (nI 0)), (3, .int (w5 (28 * xn + yn))), (0, .ref (g 0)), (1, .int (nI xn)), (2, .int (nI yn))]) [0, 4, 1, 2, 5, 6, 7, 8] rfl ?_
                                exact ih60 (d + 1) (nI 1) (nI 0) (by omega) (by omega)
                              · refine j_iload C 1 rfl dX11_claim_125 ?_
                                refine j_aload_n C 6 rfl dX11_claim_127 ?_
                                refine j_iload_n C 5 rfl dX11_claim_128 ?_
                                refine j_V1 C (n_spanEnd g kk (sF (sF (sF σ 16 w3) 17 w4) 18 w5) k hk hk6 hI  (w5 (28 * xn + yn))) kyX11_spanEnd tb_1294 tb_1296 sp_44 0 rfl (eM_0 g kk _) rfl (Nat.le_of_ble_eq_true rfl) ⟨by decide, by decide⟩ dX11_claim_129 rfl (fun vr ur hp => ?_)
                                obtain ⟨r33, rfl, hu⟩ := hp
                                replace hu := hu.symm
                                subst hu
                                refine j_icmp_le C 139 (by decide) dX11_claim_132 (fun c34 => ?_) (fun c34 => ?_)
                                · refine j_iconst C (nI 0) (by decide) dX11_claim_139 ?_
                                  refine j_istore C [(5, .int (nI 0)), (4, .int (nI 0)), (8, .int (w5 (28 * c + d))), (7, .int (nI d)), (6, .int (nI c)), (3, .int (w5 (28 * xn + yn))), (0, .ref (g 0)), (1, .int (nI xn)), (2, .int (nI yn))] (by decide) rfl dX11_claim_140 ?_
                                  refine j_iinc C (nI (d + 1)) [(7, .int (nI (d + 1))), (5, .int (nI 0)), (4, .int (nI 0)), (8, .int (w5 (28 * c + d))), (6, .int (nI c)), (3, .int (w5 (28 * xn + yn))), (0, .ref (g 0)), (1, .int (nI xn)), (2, .int (nI yn))] 3 rfl (by rw [show Int32.ofInt 1 = nI 1 from by decide, nI_add]) (by decide) rfl dX11_claim_142 ?_
                                  refine j_goto C 60 (by decide) dX11_claim_145 ?_
                                  refine j_sub (lv' := [(7, .int (nI (d + 1))), (6, .int (nI c)), (5, .int (nI 0)), (4, .int (nI 0)), (3, .int (w5 (28 * xn + yn))), (0, .ref (g 0)), (1, .int (nI xn)), (2, .int (nI yn))]) [0, 4, 1, 2, 5, 6, 7, 8] rfl ?_
                                  exact ih60 (d + 1) (nI 0) (nI 0) (by omega) (by omega)
                                · refine j_iconst C (nI 1) (by decide) dX11_claim_135 ?_
                                  refine j_goto C 140 (by decide) dX11_claim_136 ?_
                                  refine j_istore C [(5, .int (nI 1)), (4, .int (nI 0)), (8, .int (w5 (28 * c + d))), (7, .int (nI d)), (6, .int (nI c)), (3, .int (w5 (28 * xn + yn))), (0, .ref (g 0)), (1, .int (nI xn)), (2, .int (nI yn))] (by decide) rfl dX11_claim_140 ?_
                                  refine j_iinc C (nI (d + 1)) [(7, .int (nI (d + 1))), (5, .int (nI 1)), (4, .int (nI 0)), (8, .int (w5 (28 * c + d))), (6, .int (nI c)), (3, .int (w5 (28 * xn + yn))), (0, .ref (g 0)), (1, .int (nI xn)), (2, .int (nI yn))] 3 rfl (by rw [show Int32.ofInt 1 = nI 1 from by decide, nI_add]) (by decide) rfl dX11_claim_142 ?_
                                  refine j_goto C 60 (by decide) dX11_claim_145 ?_
                                  refine j_sub (lv' := [(7, .int (nI (d + 1))), (6, .int (nI c)), (5, .int (nI 1)), (4, .int (nI 0)), (3, .int (w5 (28 * xn + yn))), (0, .ref (g 0)), (1, .int (nI xn)), (2, .int (nI yn))]) [0, 4, 1, 2, 5, 6, 7, 8] rfl ?_
                                  exact ih60 (d + 1) (nI 1) (nI 0) (by omega) (by omega)
                            · refine j_iconst C (nI 1) (by decide) dX11_claim_113 ?_
                              refine j_goto C 118 (by decide) dX11_claim_114 ?_
                              refine j_istore C [(4, .int (nI 1)), (8, .int (w5 (28 * c + d))), (7, .int (nI d)), (6, .int (nI c)), (5, .int y60_5), (3, .int (w5 (28 * xn + yn))), (0, .ref (g 0)), (1, .int (nI xn)), (2, .int (nI yn))] (by decide) rfl dX11_claim_118 ?_
                              refine j_iload C 4 rfl dX11_claim_120 ?_
                              refine j_if_ne C 135 (by decide) dX11_claim_122 (fun c35 => ?_) (fun c35 => ?_)
                              · refine j_iconst C (nI 1) (by decide) dX11_claim_135 ?_
                                refine j_goto C 140 (by decide) dX11_claim_136 ?_
                                refine j_istore C [(5, .int (nI 1)), (4, .int (nI 1)), (8, .int (w5 (28 * c + d))), (7, .int (nI d)), (6, .int (nI c)), (3, .int (w5 (28 * xn + yn))), (0, .ref (g 0)), (1, .int (nI xn)), (2, .int (nI yn))] (by decide) rfl dX11_claim_140 ?_
                                refine j_iinc C (nI (d + 1)) [(7, .int (nI (d + 1))), (5, .int (nI 1)), (4, .int (nI 1)), (8, .int (w5 (28 * c + d))), (6, .int (nI c)), (3, .int (w5 (28 * xn + yn))), (0, .ref (g 0)), (1, .int (nI xn)), (2, .int (nI yn))] 3 rfl (by rw [show Int32.ofInt 1 = nI 1 from by decide, nI_add]) (by decide) rfl dX11_claim_142 ?_
                                refine j_goto C 60 (by decide) dX11_claim_145 ?_
                                refine j_sub (lv' := [(7, .int (nI (d + 1))), (6, .int (nI c)), (5, .int (nI 1)), (4, .int (nI 1)), (3, .int (w5 (28 * xn + yn))), (0, .ref (g 0)), (1, .int (nI xn)), (2, .int (nI yn))]) [0, 4, 1, 2, 5, 6, 7, 8] rfl ?_
                                exact ih60 (d + 1) (nI 1) (nI 1) (by omega) (by omega)
                              · refine j_iload C 1 rfl dX11_claim_125 ?_
                                refine j_aload_n C 6 rfl dX11_claim_127 ?_
                                refine j_iload_n C 5 rfl dX11_claim_128 ?_
                                refine j_V1 C (n_spanEnd g kk (sF (sF (sF σ 16 w3) 17 w4) 18 w5) k hk hk6 hI  (w5 (28 * xn + yn))) kyX11_spanEnd tb_1294 tb_1296 sp_44 0 rfl (eM_0 g kk _) rfl (Nat.le_of_ble_eq_true rfl) ⟨by decide, by decide⟩ dX11_claim_129 rfl (fun vr ur hp => ?_)
                                obtain ⟨r36, rfl, hu⟩ := hp
                                replace hu := hu.symm
                                subst hu
                                refine j_icmp_le C 139 (by decide) dX11_claim_132 (fun c37 => ?_) (fun c37 => ?_)
                                · refine j_iconst C (nI 0) (by decide) dX11_claim_139 ?_
                                  refine j_istore C [(5, .int (nI 0)), (4, .int (nI 1)), (8, .int (w5 (28 * c + d))), (7, .int (nI d)), (6, .int (nI c)), (3, .int (w5 (28 * xn + yn))), (0, .ref (g 0)), (1, .int (nI xn)), (2, .int (nI yn))] (by decide) rfl dX11_claim_140 ?_
                                  refine j_iinc C (nI (d + 1)) [(7, .int (nI (d + 1))), (5, .int (nI 0)), (4, .int (nI 1)), (8, .int (w5 (28 * c + d))), (6, .int (nI c)), (3, .int (w5 (28 * xn + yn))), (0, .ref (g 0)), (1, .int (nI xn)), (2, .int (nI yn))] 3 rfl (by rw [show Int32.ofInt 1 = nI 1 from by decide, nI_add]) (by decide) rfl dX11_claim_142 ?_
                                  refine j_goto C 60 (by decide) dX11_claim_145 ?_
                                  refine j_sub (lv' := [(7, .int (nI (d + 1))), (6, .int (nI c)), (5, .int (nI 0)), (4, .int (nI 1)), (3, .int (w5 (28 * xn + yn))), (0, .ref (g 0)), (1, .int (nI xn)), (2, .int (nI yn))]) [0, 4, 1, 2, 5, 6, 7, 8] rfl ?_
                                  exact ih60 (d + 1) (nI 0) (nI 1) (by omega) (by omega)
                                · refine j_iconst C (nI 1) (by decide) dX11_claim_135 ?_
                                  refine j_goto C 140 (by decide) dX11_claim_136 ?_
                                  refine j_istore C [(5, .int (nI 1)), (4, .int (nI 1)), (8, .int (w5 (28 * c + d))), (7, .int (nI d)), (6, .int (nI c)), (3, .int (w5 (28 * xn + yn))), (0, .ref (g 0)), (1, .int (nI xn)), (2, .int (nI yn))] (by decide) rfl dX11_claim_140 ?_
                                  refine j_iinc C (nI (d + 1)) [(7, .int (nI (d + 1))), (5, .int (nI 1)), (4, .int (nI 1)), (8, .int (w5 (28 * c + d))), (6, .int (nI c)), (3, .int (w5 (28 * xn + yn))), (0, .ref (g 0)), (1, .int (nI xn)), (2, .int (nI yn))] 3 rfl (by rw [show Int32.ofInt 1 = nI 1 from by decide, nI_add]) (by decide) rfl dX11_claim_142 ?_
                                  refine j_goto C 60 (by decide) dX11_claim_145 ?_
                                  refine j_sub (lv' := [(7, .int (nI (d + 1))), (6, .int (nI c)), (5, .int (nI 1)), (4, .int (nI 1)), (3, .int (w5 (28 * xn + yn))), (0, .ref (g 0)), (1, .int (nI xn)), (2, .int (nI yn))]) [0, 4, 1, 2, 5, 6, 7, 8] rfl ?_
                                  exact ih60 (d + 1) (nI 1) (nI 1) (by omega) (by omega)
              exact L60 _ 0 y48_5 y48_4 (by omega) (Nat.lt_succ_self _)
        exact L48 _ 0 (nI 0) (nI 1) (by omega) (Nat.lt_succ_self _)
      · refine j_bipush C ((-3)) (by decide) dX11_claim_36 ?_
        exact j_iret C E (sF (sF (sF σ 16 w3) 17 w4) 18 w5) ⟨_, rfl, ⟨w3, w4, w5, rfl⟩⟩ rfl dX11_claim_38
    · replace c2 := bI_f c2
      refine j_iconst C ((-1)) (by decide) dX11_claim_15 ?_
      refine j_w (cM g kk (sF σ 16 (σ.2.1 16))) (congrArg (cM g kk) (wrFi (S := σ) (c := 16) (v := σ.2.1 16) rfl)) ?_
      refine j_w (cM g kk (sF (sF σ 16 (σ.2.1 16)) 17 (σ.2.1 17))) (congrArg (cM g kk) (wrFi (S := (sF σ 16 (σ.2.1 16))) (c := 17) (v := σ.2.1 17) (gtFF (by decide) rfl))) ?_
      refine j_w (cM g kk (sF (sF (sF σ 16 (σ.2.1 16)) 17 (σ.2.1 17)) 18 (σ.2.1 18))) (congrArg (cM g kk) (wrFi (S := (sF (sF σ 16 (σ.2.1 16)) 17 (σ.2.1 17))) (c := 18) (v := σ.2.1 18) (gtFF (by decide) (gtFF (by decide) rfl)))) ?_
      exact j_iret C E (sF (sF (sF σ 16 (σ.2.1 16)) 17 (σ.2.1 17)) 18 (σ.2.1 18)) ⟨_, rfl, ⟨(σ.2.1 16), (σ.2.1 17), (σ.2.1 18), rfl⟩⟩ rfl dX11_claim_16
set_option maxRecDepth 100000 in
set_option maxHeartbeats 4000000 in
theorem n_findFives (g kk : Nat → Nat) (σ : St) (k : Nat) (hk : σ.1 3 = nI k) (hk6 : k ≤ 6) (hI : iM σ)  (c : Nat) (hc0 : c < 6) : jM (S := St) yX11_findFives cX11_findFives 4 none { frames := 1, cells := 0, slots := 0, locals := 21 } kk (cM g kk σ) [.ref (g 0), .int (nI c)] (cM g kk) (rV (fun u : St => ∃ (b : Nat) (a : Nat), u = sI (sI σ 51 (nI b)) 52 (nI a) ∧ (b ≤ a ∧ a ≤ 26))) := by
  refine j_entry [(0, .ref (g 0)), (1, .int (nI c))] (by decide) (Nat.le_of_ble_eq_true rfl) rfl ?_
  intro X C E HI
  refine j_aload_n C 0 rfl dX11_findFives_0 ?_
  refine j_iconst C (nI 0) (by decide) dX11_findFives_1 ?_
  refine pM_0_51 C tb_924 dX11_findFives_2 ?_
  refine j_aload_n C 0 rfl dX11_findFives_5 ?_
  refine j_iconst C (nI 0) (by decide) dX11_findFives_6 ?_
  refine pM_0_52 C tb_925 dX11_findFives_7 ?_
  refine j_iconst C (nI 0) (by decide) dX11_findFives_10 ?_
  refine j_istore_n C [(2, .int (nI 0)), (0, .ref (g 0)), (1, .int (nI c))] rfl (by decide) rfl dX11_findFives_11 ?_
  have L12 : ∀ (n12 : Nat) (d : Nat) (b : Nat) (a : Nat) (i12_0 : d ≤ 28) (i12_1 : b ≤ a) (i12_2 : a ≤ 26) (hm12 : 28 - d < n12), J X 0 0 (cM g kk (sI (sI σ 51 (nI b)) 52 (nI a))) [(2, .int (nI d)), (0, .ref (g 0)), (1, .int (nI c))] 12 [] := by
    intro n12
    induction n12 with
    | zero => intro d b a i12_0 i12_1 i12_2 hm; exact absurd hm (Nat.not_lt_zero _)
    | succ n12 ih12 =>
      intro d b a i12_0 i12_1 i12_2 hm12
      refine j_iload_n C 0 rfl dX11_findFives_12 ?_
      refine j_bipush C (nI 28) (by decide) dX11_findFives_13 ?_
      refine j_icmp_geN C 78 (by decide) (by omega) (by omega) dX11_findFives_15 (fun c1 => ?_) (fun c1 => ?_)
      · exact j_vret C E (sI (sI σ 51 (nI b)) 52 (nI a)) ⟨rfl, ⟨b, a, rfl, (by omega)⟩⟩ rfl dX11_findFives_78
      · refine j_aload_n C 1 rfl dX11_findFives_18 ?_
        refine gM_0_52 C tb_925 (nI a) rfl dX11_findFives_19 ?_
        refine j_bipush C (nI 26) (by decide) dX11_findFives_22 ?_
        refine j_icmp_geN C 78 (by decide) (by omega) (by omega) dX11_findFives_24 (fun c2 => ?_) (fun c2 => ?_)
        · exact j_vret C E (sI (sI σ 51 (nI b)) 52 (nI a)) ⟨rfl, ⟨b, a, rfl, (by omega)⟩⟩ rfl dX11_findFives_78
        · refine j_aload_n C 1 rfl dX11_findFives_27 ?_
          refine gM_0_5 C tb_878 dX11_findFives_28 ?_
          refine j_iload_n C 2 rfl dX11_findFives_31 ?_
          refine j_iload_n C 0 rfl dX11_findFives_32 ?_
          refine j_S01 C (m_at c d) kyX11_at tb_1060 tb_1061 rfl (Nat.le_of_ble_eq_true rfl) ⟨by decide, by decide⟩ ⟨by decide, by decide⟩ dX11_findFives_33 rfl ?_
          refine rM_5 C (28 * c + d) rfl (by omega) ((σ.2.1 5) (28 * c + d)) rfl dX11_findFives_36 ?_
          refine j_istore_n C [(3, .int ((σ.2.1 5) (28 * c + d))), (2, .int (nI d)), (0, .ref (g 0)), (1, .int (nI c))] rfl (by decide) rfl dX11_findFives_37 ?_
          refine j_iload_n C 0 rfl dX11_findFives_38 ?_
          refine j_if_le C 72 (by decide) dX11_findFives_39 (fun c3 => ?_) (fun c3 => ?_)
          · refine j_iinc C (nI (d + 1)) [(2, .int (nI (d + 1))), (3, .int ((σ.2.1 5) (28 * c + d))), (0, .ref (g 0)), (1, .int (nI c))] 1 rfl (by rw [show Int32.ofInt 1 = nI 1 from by decide, nI_add]) (by decide) rfl dX11_findFives_72 ?_
            refine j_goto C 12 (by decide) dX11_findFives_75 ?_
            refine j_sub (lv' := [(2, .int (nI (d + 1))), (0, .ref (g 0)), (1, .int (nI c))]) [0, 2, 3] rfl ?_
            exact ih12 (d + 1) b a (by omega) (by omega) (by omega) (by omega)
          · refine j_aload_n C 2 rfl dX11_findFives_42 ?_
            refine j_dup C rfl dX11_findFives_43 ?_
            refine gM_0_52 C tb_925 (nI a) rfl dX11_findFives_44 ?_
            refine j_iconst C (nI 1) (by decide) dX11_findFives_47 ?_
            refine j_iaddN C dX11_findFives_48 ?_
            refine pM_0_52 C tb_925 dX11_findFives_49 ?_
            refine j_aload_n C 2 rfl dX11_findFives_52 ?_
            refine j_dup C rfl dX11_findFives_53 ?_
            refine gM_0_51 C tb_924 (nI b) rfl dX11_findFives_54 ?_
            refine j_iload_n C 0 rfl dX11_findFives_57 ?_
            refine j_iconst C (nI 5) (by decide) dX11_findFives_58 ?_
            refine j_irem C (by first | decide | assumption | exact nI_ne0 (by omega) (by omega) | exact i64ne (by assumption) | exact i64ne (nI_ne0 (by omega) (by omega))) dX11_findFives_59 ?_
            refine j_top (fun v4 => ?_)
            refine j_if_ne C 67 (by decide) dX11_findFives_60 (fun c5 => ?_) (fun c5 => ?_)
            · refine j_iconst C (nI 0) (by decide) dX11_findFives_67 ?_
              refine j_iaddN C dX11_findFives_68 ?_
              refine pM_0_51 C tb_924 dX11_findFives_69 ?_
              refine j_iinc C (nI (d + 1)) [(2, .int (nI (d + 1))), (3, .int ((σ.2.1 5) (28 * c + d))), (0, .ref (g 0)), (1, .int (nI c))] 1 rfl (by rw [show Int32.ofInt 1 = nI 1 from by decide, nI_add]) (by decide) rfl dX11_findFives_72 ?_
              refine j_goto C 12 (by decide) dX11_findFives_75 ?_
              refine j_sub (lv' := [(2, .int (nI (d + 1))), (0, .ref (g 0)), (1, .int (nI c))]) [0, 2, 3] rfl ?_
              refine j_w (cM g kk (sI (sI σ 51 (nI (b + 0))) 52 (nI (a + 1)))) (congrArg (cM g kk) (show sI (sI (sI (sI σ 51 (nI b)) 52 (nI a)) 52 (nI (a + 1))) 51 (nI (b + 0)) = sI (sI σ 51 (nI (b + 0))) 52 (nI (a + 1)) from (Eq.trans (wrI wrIs) (Eq.trans (wrIc (by decide)) (wrI wrIs))))) ?_
              exact ih12 (d + 1) (b + 0) (a + 1) (by omega) (by omega) (by omega) (by omega)
            · refine j_iconst C (nI 1) (by decide) dX11_findFives_63 ?_
              refine j_goto C 68 (by decide) dX11_findFives_64 ?_
              refine j_iaddN C dX11_findFives_68 ?_
              refine pM_0_51 C tb_924 dX11_findFives_69 ?_
              refine j_iinc C (nI (d + 1)) [(2, .int (nI (d + 1))), (3, .int ((σ.2.1 5) (28 * c + d))), (0, .ref (g 0)), (1, .int (nI c))] 1 rfl (by rw [show Int32.ofInt 1 = nI 1 from by decide, nI_add]) (by decide) rfl dX11_findFives_72 ?_
              refine j_goto C 12 (by decide) dX11_findFives_75 ?_
              refine j_sub (lv' := [(2, .int (nI (d + 1))), (0, .ref (g 0)), (1, .int (nI c))]) [0, 2, 3] rfl ?_
              refine j_w (cM g kk (sI (sI σ 51 (nI (b + 1))) 52 (nI (a + 1)))) (congrArg (cM g kk) (show sI (sI (sI (sI σ 51 (nI b)) 52 (nI a)) 52 (nI (a + 1))) 51 (nI (b + 1)) = sI (sI σ 51 (nI (b + 1))) 52 (nI (a + 1)) from (Eq.trans (wrI wrIs) (Eq.trans (wrIc (by decide)) (wrI wrIs))))) ?_
              exact ih12 (d + 1) (b + 1) (a + 1) (by omega) (by omega) (by omega) (by omega)
  exact L12 _ 0 0 0 (by omega) (by omega) (by omega) (Nat.lt_succ_self _)
set_option maxRecDepth 100000 in
set_option maxHeartbeats 4000000 in
theorem n_fives (g kk : Nat → Nat) (σ : St) (k : Nat) (hk : σ.1 3 = nI k) (hk6 : k ≤ 6) (hI : iM σ)  (x : Int32) (y : Int32) : jM (S := St) yX11_fives cX11_fives 3 (some .int) { frames := 2, cells := 0, slots := 0, locals := 46 } kk (cM g kk σ) [.ref (g 0), .int x, .int y] (cM g kk) (rI (fun (r : Int32) (u : St) => ∃ (pI51 : Int32) (pI52 : Int32), u = sI (sI σ 51 pI51) 52 pI52)) := by
  refine j_entry [(0, .ref (g 0)), (1, .int x), (2, .int y)] (by decide) (Nat.le_of_ble_eq_true rfl) rfl ?_
  intro X C E HI
  refine j_aload_n C 0 rfl dX11_fives_0 ?_
  refine j_iload_n C 1 rfl dX11_fives_1 ?_
  refine j_V1 C (m_isCan g kk σ k hk hk6 x) kyX11_isCan tb_1067 tb_1069 sp_21 0 rfl (eM_0 g kk _) rfl (Nat.le_of_ble_eq_true rfl) ⟨by decide, by decide⟩ dX11_fives_2 rfl (fun vr ur hp => ?_)
  obtain ⟨r, rfl, rfl, hu⟩ := hp
  replace hu := hu.symm
  subst hu
  refine j_if_ne C 10 (by decide) dX11_fives_5 (fun c1 => ?_) (fun c1 => ?_)
  · replace c1 := bI_t c1
    obtain ⟨xn, xn1, rfl⟩ := cB_nat (by omega) c1
    refine j_iload_n C 2 rfl dX11_fives_10 ?_
    refine j_i2l C dX11_fives_11 ?_
    refine j_lconst C 0 (by decide) dX11_fives_12 ?_
    refine j_lconst C 1 (by decide) dX11_fives_13 ?_
    refine j_S01 C (m_inB y (nI 0) (nI 1) 0 1 (by decide) (by decide)) kyX11_in tb_1057 tb_1058 rfl (Nat.le_of_ble_eq_true rfl) ⟨by decide, by decide⟩ ⟨by decide, by decide⟩ dX11_fives_14 rfl ?_
    refine j_if_ne C 23 (by decide) dX11_fives_17 (fun c2 => ?_) (fun c2 => ?_)
    · replace c2 := bI_t c2
      obtain ⟨yn, yn1, yn2, rfl⟩ := wB_nat (by decide) (by decide) c2
      refine j_aload_n C 0 rfl dX11_fives_23 ?_
      refine j_iload_n C 1 rfl dX11_fives_24 ?_
      refine j_V1 C (n_findFives g kk σ k hk hk6 hI  xn (by first | assumption | omega)) kyX11_findFives tb_1302 tb_1304 sp_45 0 rfl (eM_0 g kk _) rfl (Nat.le_of_ble_eq_true rfl) ⟨by decide, by decide⟩ dX11_fives_25 rfl (fun vr ur hp => ?_)
      obtain ⟨rfl, w3, w4, hu, g5⟩ := hp
      replace hu := hu.symm
      subst hu
      refine j_iload_n C 2 rfl dX11_fives_28 ?_
      refine j_if_neN C 39 (by decide) (by omega) dX11_fives_29 (fun c6 => ?_) (fun c6 => ?_)
      · refine j_aload_n C 0 rfl dX11_fives_39 ?_
        refine gM_0_52 C tb_925 (nI w4) rfl dX11_fives_40 ?_
        exact j_iret C E (sI (sI σ 51 (nI w3)) 52 (nI w4)) ⟨_, rfl, ⟨(nI w3), (nI w4), rfl⟩⟩ rfl dX11_fives_43
      · refine j_aload_n C 0 rfl dX11_fives_32 ?_
        refine gM_0_51 C tb_924 (nI w3) rfl dX11_fives_33 ?_
        refine j_goto C 43 (by decide) dX11_fives_36 ?_
        exact j_iret C E (sI (sI σ 51 (nI w3)) 52 (nI w4)) ⟨_, rfl, ⟨(nI w3), (nI w4), rfl⟩⟩ rfl dX11_fives_43
    · replace c2 := bI_f c2
      refine j_bipush C ((-2)) (by decide) dX11_fives_20 ?_
      refine j_w (cM g kk (sI σ 51 (σ.1 51))) (congrArg (cM g kk) (wrIi (S := σ) (c := 51) (v := σ.1 51) rfl)) ?_
      refine j_w (cM g kk (sI (sI σ 51 (σ.1 51)) 52 (σ.1 52))) (congrArg (cM g kk) (wrIi (S := (sI σ 51 (σ.1 51))) (c := 52) (v := σ.1 52) (gtII (by decide) rfl))) ?_
      exact j_iret C E (sI (sI σ 51 (σ.1 51)) 52 (σ.1 52)) ⟨_, rfl, ⟨(σ.1 51), (σ.1 52), rfl⟩⟩ rfl dX11_fives_22
  · replace c1 := bI_f c1
    refine j_iconst C ((-1)) (by decide) dX11_fives_8 ?_
    refine j_w (cM g kk (sI σ 51 (σ.1 51))) (congrArg (cM g kk) (wrIi (S := σ) (c := 51) (v := σ.1 51) rfl)) ?_
    refine j_w (cM g kk (sI (sI σ 51 (σ.1 51)) 52 (σ.1 52))) (congrArg (cM g kk) (wrIi (S := (sI σ 51 (σ.1 51))) (c := 52) (v := σ.1 52) (gtII (by decide) rfl))) ?_
    exact j_iret C E (sI (sI σ 51 (σ.1 51)) 52 (σ.1 52)) ⟨_, rfl, ⟨(σ.1 51), (σ.1 52), rfl⟩⟩ rfl dX11_fives_9
set_option maxRecDepth 100000 in
set_option maxHeartbeats 4000000 in
theorem n_odds (g kk : Nat → Nat) (σ : St) (k : Nat) (hk : σ.1 3 = nI k) (hk6 : k ≤ 6) (hI : iM σ)  (x : Int32) (y : Int32) : jM (S := St) yX11_odds cX11_odds 13 (some .long) { frames := 2, cells := 0, slots := 0, locals := 46 } kk (cM g kk σ) [.ref (g 0), .int x, .int y] (cM g kk) (rL (fun (r : Int64) (u : St) => ∃ (pG31 : Nat → Int64) (pI51 : Int32) (pI52 : Int32), u = sI (sI (sG σ 31 pG31) 51 pI51) 52 pI52)) := by
  refine j_entry [(0, .ref (g 0)), (1, .int x), (2, .int y)] (by decide) (Nat.le_of_ble_eq_true rfl) rfl ?_
  intro X C E HI
  refine j_aload_n C 0 rfl dX11_odds_0 ?_
  refine j_iload_n C 1 rfl dX11_odds_1 ?_
  refine j_V1 C (m_isCan g kk σ k hk hk6 x) kyX11_isCan tb_1067 tb_1069 sp_21 0 rfl (eM_0 g kk _) rfl (Nat.le_of_ble_eq_true rfl) ⟨by decide, by decide⟩ dX11_odds_2 rfl (fun vr ur hp => ?_)
  obtain ⟨r, rfl, rfl, hu⟩ := hp
  replace hu := hu.symm
  subst hu
  refine j_if_ne C 12 (by decide) dX11_odds_5 (fun c1 => ?_) (fun c1 => ?_)
  · replace c1 := bI_t c1
    obtain ⟨xn, xn1, rfl⟩ := cB_nat (by omega) c1
    refine j_iload_n C 2 rfl dX11_odds_12 ?_
    refine j_S01 C (m_isEnd y) kyX11_isEnd tb_1234 tb_1235 rfl (Nat.le_of_ble_eq_true rfl) ⟨by decide, by decide⟩ ⟨by decide, by decide⟩ dX11_odds_13 rfl ?_
    refine j_if_ne C 23 (by decide) dX11_odds_16 (fun c2 => ?_) (fun c2 => ?_)
    · replace c2 := bI_t c2
      obtain ⟨yn, yn1, yn2, rfl⟩ := wB_nat (by decide) (by decide) c2
      refine j_aload_n C 0 rfl dX11_odds_23 ?_
      refine j_iload_n C 1 rfl dX11_odds_24 ?_
      refine j_V1 C (n_findFives g kk σ k hk hk6 hI  xn (by first | assumption | omega)) kyX11_findFives tb_1302 tb_1304 sp_45 0 rfl (eM_0 g kk _) rfl (Nat.le_of_ble_eq_true rfl) ⟨by decide, by decide⟩ dX11_odds_25 rfl (fun vr ur hp => ?_)
      obtain ⟨rfl, w3, w4, hu, g5⟩ := hp
      replace hu := hu.symm
      subst hu
      refine j_iconst C (nI 0) (by decide) dX11_odds_28 ?_
      refine j_istore_n C [(3, .int (nI 0)), (0, .ref (g 0)), (1, .int (nI xn)), (2, .int (nI yn))] rfl (by decide) rfl dX11_odds_29 ?_
      have L30 : ∀ (n30 : Nat) (i : Nat) (z30_G31 : Nat → Int64) (i30_0 : i ≤ 28) (hm30 : 28 - i < n30), J X 0 0 (cM g kk (sI (sI (sG σ 31 z30_G31) 51 (nI w3)) 52 (nI w4))) [(3, .int (nI i)), (0, .ref (g 0)), (1, .int (nI xn)), (2, .int (nI yn))] 30 [] := by
        intro n30
        induction n30 with
        | zero => intro i z30_G31 i30_0 hm; exact absurd hm (Nat.not_lt_zero _)
        | succ n30 ih30 =>
          intro i z30_G31 i30_0 hm30
          refine j_iload_n C 0 rfl dX11_odds_30 ?_
          refine j_bipush C (nI 28) (by decide) dX11_odds_31 ?_
          refine j_icmp_geN C 57 (by decide) (by omega) (by omega) dX11_odds_33 (fun c6 => ?_) (fun c6 => ?_)
          · refine j_lconst C 1 (by decide) dX11_odds_57 ?_
            refine j_lstore_n C [(3, .long 1), (0, .ref (g 0)), (1, .int (nI xn)), (2, .int (nI yn))] rfl (by decide) rfl dX11_odds_58 ?_
            refine j_iconst C (nI 0) (by decide) dX11_odds_59 ?_
            refine j_istore C [(5, .int (nI 0)), (3, .long 1), (0, .ref (g 0)), (1, .int (nI xn)), (2, .int (nI yn))] (by decide) rfl dX11_odds_60 ?_
            have L62 : ∀ (n62 : Nat) (n : Nat) (y62_3 : Int64) (z62_G31 : Nat → Int64) (i62_0 : n ≤ 26) (ha : y62_3 = p5 n) (hm62 : 26 - n < n62), J X 0 0 (cM g kk (sI (sI (sG σ 31 z62_G31) 51 (nI w3)) 52 (nI w4))) [(5, .int (nI n)), (3, .long y62_3), (0, .ref (g 0)), (1, .int (nI xn)), (2, .int (nI yn))] 62 [] := by
              intro n62
              induction n62 with
              | zero => intro n y62_3 z62_G31 i62_0 ha hm; exact absurd hm (Nat.not_lt_zero _)
              | succ n62 ih62 =>
                intro n y62_3 z62_G31 i62_0 ha hm62
                refine j_iload C 0 rfl dX11_odds_62 ?_
                refine j_aload_n C 2 rfl dX11_odds_64 ?_
                refine gM_0_52 C tb_925 (nI w4) rfl dX11_odds_65 ?_
                refine j_icmp_geN C 137 (by decide) (by omega) (by omega) dX11_odds_68 (fun c7 => ?_) (fun c7 => ?_)
                · refine j_lconst C 0 (by decide) dX11_odds_137 ?_
                  refine j_lstore C [(5, .long 0), (3, .long y62_3), (0, .ref (g 0)), (1, .int (nI xn)), (2, .int (nI yn))] (by decide) rfl dX11_odds_138 ?_
                  refine j_aload_n C 2 rfl dX11_odds_140 ?_
                  refine gM_0_51 C tb_924 (nI w3) rfl dX11_odds_141 ?_
                  refine j_istore C [(7, .int (nI w3)), (5, .long 0), (3, .long y62_3), (0, .ref (g 0)), (1, .int (nI xn)), (2, .int (nI yn))] (by decide) rfl dX11_odds_144 ?_
                  have L146 : ∀ (n146 : Nat) (j : Nat) (y146_5 : Int64) (i146_0 : j ≤ 27) (hm146 : 27 - j < n146), J X 0 0 (cM g kk (sI (sI (sG σ 31 z62_G31) 51 (nI w3)) 52 (nI w4))) [(7, .int (nI j)), (5, .long y146_5), (3, .long y62_3), (0, .ref (g 0)), (1, .int (nI xn)), (2, .int (nI yn))] 146 [] := by
                    intro n146
                    induction n146 with
                    | zero => intro j y146_5 i146_0 hm; exact absurd hm (Nat.not_lt_zero _)
                    | succ n146 ih146 =>
                      intro j y146_5 i146_0 hm146
                      refine j_iload C 0 rfl dX11_odds_146 ?_
                      refine j_aload_n C 3 rfl dX11_odds_148 ?_
                      refine gM_0_52 C tb_925 (nI w4) rfl dX11_odds_149 ?_
                      refine j_icmp_gtN C 173 (by decide) (by omega) (by omega) dX11_odds_152 (fun c8 => ?_) (fun c8 => ?_)
                      · refine j_lload C 1 rfl dX11_odds_173 ?_
                        refine j_lstore C [(7, .long y146_5), (5, .long y146_5), (3, .long y62_3), (0, .ref (g 0)), (1, .int (nI xn)), (2, .int (nI yn))] (by decide) rfl dX11_odds_175 ?_
                        refine j_lload_n C 2 rfl dX11_odds_177 ?_
                        refine j_lstore C [(9, .long y62_3), (7, .long y146_5), (5, .long y146_5), (3, .long y62_3), (0, .ref (g 0)), (1, .int (nI xn)), (2, .int (nI yn))] (by decide) rfl dX11_odds_178 ?_
                        have L180 : ∀ (n180 : Nat) (y180_9 : Int64) (y180_7 : Int64) (hx : ¬ y180_9 = 0 ∨ ¬ y180_7 = 0) (hm180 : y180_9.toInt.natAbs < n180), J X 0 0 (cM g kk (sI (sI (sG σ 31 z62_G31) 51 (nI w3)) 52 (nI w4))) [(9, .long y180_9), (7, .long y180_7), (5, .long y146_5), (3, .long y62_3), (0, .ref (g 0)), (1, .int (nI xn)), (2, .int (nI yn))] 180 [] := by
                          intro n180
                          induction n180 with
                          | zero => intro y180_9 y180_7 hx hm; exact absurd hm (Nat.not_lt_zero _)
                          | succ n180 ih180 =>
                            intro y180_9 y180_7 hx hm180
                            refine j_lload C 0 rfl dX11_odds_180 ?_
                            refine j_lconst C 0 (by decide) dX11_odds_182 ?_
                            refine j_lcmp C dX11_odds_183 ?_
                            refine j_if_eq C 205 (by decide) dX11_odds_184 (fun c9 => ?_) (fun c9 => ?_)
                            · replace c9 := (lg_cmp_eq _ _).mp c9
                              have hx0 := hx.resolve_left (fun q => q (by first | assumption | exact (lg_cmp_eq _ _).mp (by assumption)))
                              refine j_iload_n C 6 rfl dX11_odds_205 ?_
                              refine j_if_neN C 217 (by decide) (by omega) dX11_odds_206 (fun c10 => ?_) (fun c10 => ?_)
                              · refine j_lload_n C 3 rfl dX11_odds_217 ?_
                                refine j_lload C 1 rfl dX11_odds_218 ?_
                                refine j_ldiv C (by first | decide | assumption | exact nI_ne0 (by omega) (by omega) | exact i64ne (by assumption) | exact i64ne (nI_ne0 (by omega) (by omega))) dX11_odds_220 ?_
                                exact j_lret C E (sI (sI (sG σ 31 z62_G31) 51 (nI w3)) 52 (nI w4)) ⟨_, rfl, ⟨z62_G31, (nI w3), (nI w4), rfl⟩⟩ rfl dX11_odds_221
                              · refine j_lload C 2 rfl dX11_odds_209 ?_
                                refine j_lload C 1 rfl dX11_odds_211 ?_
                                refine j_ldiv C (by first | decide | assumption | exact nI_ne0 (by omega) (by omega) | exact i64ne (by assumption) | exact i64ne (nI_ne0 (by omega) (by omega))) dX11_odds_213 ?_
                                refine j_goto C 221 (by decide) dX11_odds_214 ?_
                                exact j_lret C E (sI (sI (sG σ 31 z62_G31) 51 (nI w3)) 52 (nI w4)) ⟨_, rfl, ⟨z62_G31, (nI w3), (nI w4), rfl⟩⟩ rfl dX11_odds_221
                            · replace c9 := fun q => c9 ((lg_cmp_eq _ _).mpr q)
                              refine j_lload C 1 rfl dX11_odds_187 ?_
                              refine j_lload C 0 rfl dX11_odds_189 ?_
                              refine j_lrem C (by first | decide | assumption | exact nI_ne0 (by omega) (by omega) | exact i64ne (by assumption) | exact i64ne (nI_ne0 (by omega) (by omega))) dX11_odds_191 ?_
                              refine j_topLe (fun lr hlr => ?_)
                              refine j_lstore C [(11, .long lr), (9, .long y180_9), (7, .long y180_7), (5, .long y146_5), (3, .long y62_3), (0, .ref (g 0)), (1, .int (nI xn)), (2, .int (nI yn))] (by decide) rfl dX11_odds_192 ?_
                              refine j_lload C 1 rfl dX11_odds_194 ?_
                              refine j_lstore C [(7, .long y180_9), (11, .long lr), (9, .long y180_9), (5, .long y146_5), (3, .long y62_3), (0, .ref (g 0)), (1, .int (nI xn)), (2, .int (nI yn))] (by decide) rfl dX11_odds_196 ?_
                              refine j_lload C 1 rfl dX11_odds_198 ?_
                              refine j_lstore C [(9, .long lr), (7, .long y180_9), (11, .long lr), (5, .long y146_5), (3, .long y62_3), (0, .ref (g 0)), (1, .int (nI xn)), (2, .int (nI yn))] (by decide) rfl dX11_odds_200 ?_
                              refine j_goto C 180 (by decide) dX11_odds_202 ?_
                              refine j_sub (lv' := [(9, .long lr), (7, .long y180_9), (5, .long y146_5), (3, .long y62_3), (0, .ref (g 0)), (1, .int (nI xn)), (2, .int (nI yn))]) [0, 1, 3, 4, 5, 6, 7] rfl ?_
                              exact ih180 lr y180_9 (Or.inr (by assumption)) (by rw [hlr]; exact Nat.lt_of_lt_of_le (lrem_lt (by assumption)) (by omega))
                        exact L180 _ y62_3 y146_5 (Or.inl (by rw [ha]; exact p5_ne ⟨n, by omega⟩)) (Nat.lt_succ_self _)
                      · refine j_lload C 1 rfl dX11_odds_155 ?_
                        refine j_aload_n C 3 rfl dX11_odds_157 ?_
                        refine gM_0_53 C tb_926 dX11_odds_158 ?_
                        refine j_iload C 0 rfl dX11_odds_161 ?_
                        refine rM_31 C j rfl (by omega) (z62_G31 j) rfl dX11_odds_163 ?_
                        refine j_ladd C dX11_odds_164 ?_
                        refine j_lstore C [(5, .long (y146_5 + (z62_G31 j))), (7, .int (nI j)), (3, .long y62_3), (0, .ref (g 0)), (1, .int (nI xn)), (2, .int (nI yn))] (by decide) rfl dX11_odds_165 ?_
                        refine j_iinc C (nI (j + 1)) [(7, .int (nI (j + 1))), (5, .long (y146_5 + (z62_G31 j))), (3, .long y62_3), (0, .ref (g 0)), (1, .int (nI xn)), (2, .int (nI yn))] 1 rfl (by rw [show Int32.ofInt 1 = nI 1 from by decide, nI_add]) (by decide) rfl dX11_odds_167 ?_
                        refine j_goto C 146 (by decide) dX11_odds_170 ?_
                        exact ih146 (j + 1) (y146_5 + (z62_G31 j)) (by omega) (by omega)
                  exact L146 _ w3 0 (by omega) (Nat.lt_succ_self _)
                · refine j_iload C 0 rfl dX11_odds_71 ?_
                  refine j_iconst C (nI 1) (by decide) dX11_odds_73 ?_
                  refine j_iaddN C dX11_odds_74 ?_
                  refine j_istore C [(6, .int (nI (n + 1))), (5, .int (nI n)), (3, .long y62_3), (0, .ref (g 0)), (1, .int (nI xn)), (2, .int (nI yn))] (by decide) rfl dX11_odds_75 ?_
                  have L77 : ∀ (n77 : Nat) (y77_6 : Int32) (z77_G31 : Nat → Int64) (hy : lm_ (n + 1) y77_6) (hm77 : ms y77_6 < n77), J X 0 0 (cM g kk (sI (sI (sG σ 31 z77_G31) 51 (nI w3)) 52 (nI w4))) [(6, .int y77_6), (5, .int (nI n)), (3, .long y62_3), (0, .ref (g 0)), (1, .int (nI xn)), (2, .int (nI yn))] 77 [] := by
                    intro n77
                    induction n77 with
                    | zero => intro y77_6 z77_G31 hy hm; exact absurd hm (Nat.not_lt_zero _)
                    | succ n77 ih77 =>
                      intro y77_6 z77_G31 hy hm77
                      refine j_iload C 0 rfl dX11_odds_77 ?_
                      refine j_if_lt C 125 (by decide) dX11_odds_79 (fun c11 => ?_) (fun c11 => ?_)
                      · refine j_lload_n C 2 rfl dX11_odds_125 ?_
                        refine j_ldc2 C tb_1313 dX11_odds_126 ?_
                        refine j_lmul C dX11_odds_129 ?_
                        refine j_lstore_n C [(3, .long (y62_3 * (5))), (6, .int y77_6), (5, .int (nI n)), (0, .ref (g 0)), (1, .int (nI xn)), (2, .int (nI yn))] rfl (by decide) rfl dX11_odds_130 ?_
                        refine j_iinc C (nI (n + 1)) [(5, .int (nI (n + 1))), (3, .long (y62_3 * (5))), (6, .int y77_6), (0, .ref (g 0)), (1, .int (nI xn)), (2, .int (nI yn))] 2 rfl (by rw [show Int32.ofInt 1 = nI 1 from by decide, nI_add]) (by decide) rfl dX11_odds_131 ?_
                        refine j_goto C 62 (by decide) dX11_odds_134 ?_
                        refine j_sub (lv' := [(5, .int (nI (n + 1))), (3, .long (y62_3 * (5))), (0, .ref (g 0)), (1, .int (nI xn)), (2, .int (nI yn))]) [0, 1, 3, 4, 5] rfl ?_
                        exact ih62 (n + 1) (y62_3 * (5)) z77_G31 (by omega) (by rw [ha]; rfl) (by omega)
                      · obtain ⟨y77_6n, y77_6n1, rfl⟩ := nI_of c11
                        have hyb := lm_nat hy (by omega) (by omega)
                        refine j_aload_n C 3 rfl dX11_odds_82 ?_
                        refine gM_0_53 C tb_926 dX11_odds_83 ?_
                        refine j_iload C 0 rfl dX11_odds_86 ?_
                        refine j_ldc2 C tb_1312 dX11_odds_88 ?_
                        refine j_aload_n C 3 rfl dX11_odds_91 ?_
                        refine gM_0_53 C tb_926 dX11_odds_92 ?_
                        refine j_iload C 0 rfl dX11_odds_95 ?_
                        refine rM_31 C y77_6n rfl (by omega) (z77_G31 y77_6n) rfl dX11_odds_97 ?_
                        refine j_lmul C dX11_odds_98 ?_
                        refine j_iload C 0 rfl dX11_odds_99 ?_
                        refine j_if_leN C 116 (by decide) (by omega) dX11_odds_101 (fun c12 => ?_) (fun c12 => ?_)
                        · refine j_lconst C 0 (by decide) dX11_odds_116 ?_
                          refine j_ladd C dX11_odds_117 ?_
                          refine tM_31 C y77_6n rfl (by omega) dX11_odds_118 ?_
                          refine j_iinc C ((nI y77_6n) + (-1)) [(6, .int ((nI y77_6n) + (-1))), (5, .int (nI n)), (3, .long y62_3), (0, .ref (g 0)), (1, .int (nI xn)), (2, .int (nI yn))] 0 rfl (by rw [show Int32.ofInt (-1) = (-1) from by decide]) (by decide) rfl dX11_odds_119 ?_
                          refine j_goto C 77 (by decide) dX11_odds_122 ?_
                          refine j_w (cM g kk (sI (sI (sG σ 31 (vp_updL z77_G31 y77_6n (((4) * (z77_G31 y77_6n)) + 0))) 51 (nI w3)) 52 (nI w4))) (congrArg (cM g kk) (show sG (sI (sI (sG σ 31 z77_G31) 51 (nI w3)) 52 (nI w4)) 31 (vp_updL z77_G31 y77_6n (((4) * (z77_G31 y77_6n)) + 0)) = sI (sI (sG σ 31 (vp_updL z77_G31 y77_6n (((4) * (z77_G31 y77_6n)) + 0))) 51 (nI w3)) 52 (nI w4) from (Eq.trans wrGI (wrI (Eq.trans wrGI (wrI wrGs)))))) ?_
                          exact ih77 ((nI y77_6n) + (-1)) (vp_updL z77_G31 y77_6n (((4) * (z77_G31 y77_6n)) + 0)) (lm_dec hyb) (by rw [ms_d (by omega)]; rw [ms_nI (by omega)] at hm77; omega)
                        · refine j_aload_n C 3 rfl dX11_odds_104 ?_
                          refine gM_0_53 C tb_926 dX11_odds_105 ?_
                          refine j_iload C 0 rfl dX11_odds_108 ?_
                          refine j_iconst C (nI 1) (by decide) dX11_odds_110 ?_
                          refine j_isubN C (by omega) dX11_odds_111 ?_
                          refine rM_31 C (y77_6n - 1) rfl (by omega) (z77_G31 (y77_6n - 1)) rfl dX11_odds_112 ?_
                          refine j_goto C 117 (by decide) dX11_odds_113 ?_
                          refine j_ladd C dX11_odds_117 ?_
                          refine j_topL (fun v13 => ?_)
                          refine tM_31 C y77_6n rfl (by omega) dX11_odds_118 ?_
                          refine j_iinc C ((nI y77_6n) + (-1)) [(6, .int ((nI y77_6n) + (-1))), (5, .int (nI n)), (3, .long y62_3), (0, .ref (g 0)), (1, .int (nI xn)), (2, .int (nI yn))] 0 rfl (by rw [show Int32.ofInt (-1) = (-1) from by decide]) (by decide) rfl dX11_odds_119 ?_
                          refine j_goto C 77 (by decide) dX11_odds_122 ?_
                          refine j_w (cM g kk (sI (sI (sG σ 31 (vp_updL z77_G31 y77_6n v13)) 51 (nI w3)) 52 (nI w4))) (congrArg (cM g kk) (show sG (sI (sI (sG σ 31 z77_G31) 51 (nI w3)) 52 (nI w4)) 31 (vp_updL z77_G31 y77_6n v13) = sI (sI (sG σ 31 (vp_updL z77_G31 y77_6n v13)) 51 (nI w3)) 52 (nI w4) from (Eq.trans wrGI (wrI (Eq.trans wrGI (wrI wrGs)))))) ?_
                          exact ih77 ((nI y77_6n) + (-1)) (vp_updL z77_G31 y77_6n v13) (lm_dec hyb) (by rw [ms_d (by omega)]; rw [ms_nI (by omega)] at hm77; omega)
                  exact L77 _ (nI (n + 1)) z62_G31 (Or.inr ⟨_, by omega, rfl⟩) (Nat.lt_succ_self _)
            exact L62 _ 0 1 z30_G31 (by omega) rfl (Nat.lt_succ_self _)
          · refine j_aload_n C 1 rfl dX11_odds_36 ?_
            refine gM_0_53 C tb_926 dX11_odds_37 ?_
            refine j_iload_n C 0 rfl dX11_odds_40 ?_
            refine j_iload_n C 0 rfl dX11_odds_41 ?_
            refine j_if_neN C 49 (by decide) (by omega) dX11_odds_42 (fun c14 => ?_) (fun c14 => ?_)
            · refine j_lconst C 0 (by decide) dX11_odds_49 ?_
              refine tM_31 C i rfl (by omega) dX11_odds_50 ?_
              refine j_iinc C (nI (i + 1)) [(3, .int (nI (i + 1))), (0, .ref (g 0)), (1, .int (nI xn)), (2, .int (nI yn))] 0 rfl (by rw [show Int32.ofInt 1 = nI 1 from by decide, nI_add]) (by decide) rfl dX11_odds_51 ?_
              refine j_goto C 30 (by decide) dX11_odds_54 ?_
              refine j_w (cM g kk (sI (sI (sG σ 31 (vp_updL z30_G31 i 0)) 51 (nI w3)) 52 (nI w4))) (congrArg (cM g kk) (show sG (sI (sI (sG σ 31 z30_G31) 51 (nI w3)) 52 (nI w4)) 31 (vp_updL z30_G31 i 0) = sI (sI (sG σ 31 (vp_updL z30_G31 i 0)) 51 (nI w3)) 52 (nI w4) from (Eq.trans wrGI (wrI (Eq.trans wrGI (wrI wrGs)))))) ?_
              exact ih30 (i + 1) (vp_updL z30_G31 i 0) (by omega) (by omega)
            · refine j_lconst C 1 (by decide) dX11_odds_45 ?_
              refine j_goto C 50 (by decide) dX11_odds_46 ?_
              refine tM_31 C i rfl (by omega) dX11_odds_50 ?_
              refine j_iinc C (nI (i + 1)) [(3, .int (nI (i + 1))), (0, .ref (g 0)), (1, .int (nI xn)), (2, .int (nI yn))] 0 rfl (by rw [show Int32.ofInt 1 = nI 1 from by decide, nI_add]) (by decide) rfl dX11_odds_51 ?_
              refine j_goto C 30 (by decide) dX11_odds_54 ?_
              refine j_w (cM g kk (sI (sI (sG σ 31 (vp_updL z30_G31 i 1)) 51 (nI w3)) 52 (nI w4))) (congrArg (cM g kk) (show sG (sI (sI (sG σ 31 z30_G31) 51 (nI w3)) 52 (nI w4)) 31 (vp_updL z30_G31 i 1) = sI (sI (sG σ 31 (vp_updL z30_G31 i 1)) 51 (nI w3)) 52 (nI w4) from (Eq.trans wrGI (wrI (Eq.trans wrGI (wrI wrGs)))))) ?_
              exact ih30 (i + 1) (vp_updL z30_G31 i 1) (by omega) (by omega)
      refine j_w (cM g kk (sG (sI (sI σ 51 (nI w3)) 52 (nI w4)) 31 (σ.2.2.2 31))) (congrArg (cM g kk) (wrGi (S := (sI (sI σ 51 (nI w3)) 52 (nI w4))) (c := 31) (v := σ.2.2.2 31) (gtGI (gtGI rfl)))) ?_
      refine j_w (cM g kk (sI (sI (sG σ 31 (σ.2.2.2 31)) 51 (nI w3)) 52 (nI w4))) (congrArg (cM g kk) (show sG (sI (sI σ 51 (nI w3)) 52 (nI w4)) 31 (σ.2.2.2 31) = sI (sI (sG σ 31 (σ.2.2.2 31)) 51 (nI w3)) 52 (nI w4) from (Eq.trans wrGI (wrI wrGI)))) ?_
      exact L30 _ 0 (σ.2.2.2 31) (by omega) (Nat.lt_succ_self _)
    · replace c2 := bI_f c2
      refine j_ldc2 C tb_1311 dX11_odds_19 ?_
      refine j_w (cM g kk (sG σ 31 (σ.2.2.2 31))) (congrArg (cM g kk) (wrGi (S := σ) (c := 31) (v := σ.2.2.2 31) rfl)) ?_
      refine j_w (cM g kk (sI (sG σ 31 (σ.2.2.2 31)) 51 (σ.1 51))) (congrArg (cM g kk) (wrIi (S := (sG σ 31 (σ.2.2.2 31))) (c := 51) (v := σ.1 51) (gtIG rfl))) ?_
      refine j_w (cM g kk (sI (sI (sG σ 31 (σ.2.2.2 31)) 51 (σ.1 51)) 52 (σ.1 52))) (congrArg (cM g kk) (wrIi (S := (sI (sG σ 31 (σ.2.2.2 31)) 51 (σ.1 51))) (c := 52) (v := σ.1 52) (gtII (by decide) (gtIG rfl)))) ?_
      exact j_lret C E (sI (sI (sG σ 31 (σ.2.2.2 31)) 51 (σ.1 51)) 52 (σ.1 52)) ⟨_, rfl, ⟨(σ.2.2.2 31), (σ.1 51), (σ.1 52), rfl⟩⟩ rfl dX11_odds_22
  · replace c1 := bI_f c1
    refine j_ldc2 C tb_1310 dX11_odds_8 ?_
    refine j_w (cM g kk (sG σ 31 (σ.2.2.2 31))) (congrArg (cM g kk) (wrGi (S := σ) (c := 31) (v := σ.2.2.2 31) rfl)) ?_
    refine j_w (cM g kk (sI (sG σ 31 (σ.2.2.2 31)) 51 (σ.1 51))) (congrArg (cM g kk) (wrIi (S := (sG σ 31 (σ.2.2.2 31))) (c := 51) (v := σ.1 51) (gtIG rfl))) ?_
    refine j_w (cM g kk (sI (sI (sG σ 31 (σ.2.2.2 31)) 51 (σ.1 51)) 52 (σ.1 52))) (congrArg (cM g kk) (wrIi (S := (sI (sG σ 31 (σ.2.2.2 31)) 51 (σ.1 51))) (c := 52) (v := σ.1 52) (gtII (by decide) (gtIG rfl)))) ?_
    exact j_lret C E (sI (sI (sG σ 31 (σ.2.2.2 31)) 51 (σ.1 51)) 52 (σ.1 52)) ⟨_, rfl, ⟨(σ.2.2.2 31), (σ.1 51), (σ.1 52), rfl⟩⟩ rfl dX11_odds_11
set_option maxRecDepth 100000 in
set_option maxHeartbeats 4000000 in
theorem n_forgets (g kk : Nat → Nat) (σ : St) (k : Nat) (hk : σ.1 3 = nI k) (hk6 : k ≤ 6) (hI : iM σ)  (x : Int32) (y : Int32) : jM (S := St) yX11_forgets cX11_forgets 8 (some .int) { frames := 2, cells := 0, slots := 0, locals := 46 } kk (cM g kk σ) [.ref (g 0), .int x, .int y] (cM g kk) (rI (fun (r : Int32) (u : St) => u = σ)) := by
  refine j_entry [(0, .ref (g 0)), (1, .int x), (2, .int y)] (by decide) (Nat.le_of_ble_eq_true rfl) rfl ?_
  intro X C E HI
  refine j_aload_n C 0 rfl dX11_forgets_0 ?_
  refine j_iload_n C 1 rfl dX11_forgets_1 ?_
  refine j_V1 C (m_isCan g kk σ k hk hk6 x) kyX11_isCan tb_1067 tb_1069 sp_21 0 rfl (eM_0 g kk _) rfl (Nat.le_of_ble_eq_true rfl) ⟨by decide, by decide⟩ dX11_forgets_2 rfl (fun vr ur hp => ?_)
  obtain ⟨r, rfl, rfl, hu⟩ := hp
  replace hu := hu.symm
  subst hu
  refine j_if_ne C 10 (by decide) dX11_forgets_5 (fun c1 => ?_) (fun c1 => ?_)
  · replace c1 := bI_t c1
    obtain ⟨xn, xn1, rfl⟩ := cB_nat (by omega) c1
    refine j_iload_n C 2 rfl dX11_forgets_10 ?_
    refine j_i2l C dX11_forgets_11 ?_
    refine j_lconst C 0 (by decide) dX11_forgets_12 ?_
    refine j_lconst C 1 (by decide) dX11_forgets_13 ?_
    refine j_S01 C (m_inB y (nI 0) (nI 1) 0 1 (by decide) (by decide)) kyX11_in tb_1057 tb_1058 rfl (Nat.le_of_ble_eq_true rfl) ⟨by decide, by decide⟩ ⟨by decide, by decide⟩ dX11_forgets_14 rfl ?_
    refine j_if_ne C 23 (by decide) dX11_forgets_17 (fun c2 => ?_) (fun c2 => ?_)
    · replace c2 := bI_t c2
      obtain ⟨yn, yn1, yn2, rfl⟩ := wB_nat (by decide) (by decide) c2
      refine j_iconst C (nI 0) (by decide) dX11_forgets_23 ?_
      refine j_istore_n C [(3, .int (nI 0)), (0, .ref (g 0)), (1, .int (nI xn)), (2, .int (nI yn))] rfl (by decide) rfl dX11_forgets_24 ?_
      refine j_bipush C ((-6)) (by decide) dX11_forgets_25 ?_
      refine j_istore C [(4, .int (-6)), (3, .int (nI 0)), (0, .ref (g 0)), (1, .int (nI xn)), (2, .int (nI yn))] (by decide) rfl dX11_forgets_27 ?_
      refine j_iconst C (nI 0) (by decide) dX11_forgets_29 ?_
      refine j_istore C [(5, .int (nI 0)), (4, .int (-6)), (3, .int (nI 0)), (0, .ref (g 0)), (1, .int (nI xn)), (2, .int (nI yn))] (by decide) rfl dX11_forgets_30 ?_
      have L32 : ∀ (n32 : Nat) (w : Nat) (y32_4 : Int32) (y32_3 : Int32) (i32_0 : w ≤ 7) (hm32 : 7 - w < n32), J X 0 0 (cM g kk σ) [(5, .int (nI w)), (4, .int y32_4), (3, .int y32_3), (0, .ref (g 0)), (1, .int (nI xn)), (2, .int (nI yn))] 32 [] := by
        intro n32
        induction n32 with
        | zero => intro w y32_4 y32_3 i32_0 hm; exact absurd hm (Nat.not_lt_zero _)
        | succ n32 ih32 =>
          intro w y32_4 y32_3 i32_0 hm32
          refine j_iload C 0 rfl dX11_forgets_32 ?_
          refine j_bipush C (nI 7) (by decide) dX11_forgets_34 ?_
          refine j_icmp_geN C 103 (by decide) (by omega) (by omega) dX11_forgets_36 (fun c3 => ?_) (fun c3 => ?_)
          · refine j_iload_n C 5 rfl dX11_forgets_103 ?_
            refine j_if_neN C 111 (by decide) (by omega) dX11_forgets_104 (fun c4 => ?_) (fun c4 => ?_)
            · refine j_iload C 1 rfl dX11_forgets_111 ?_
              exact j_iret C E (σ) ⟨_, rfl, rfl⟩ rfl dX11_forgets_113
            · refine j_iload_n C 2 rfl dX11_forgets_107 ?_
              refine j_goto C 113 (by decide) dX11_forgets_108 ?_
              exact j_iret C E (σ) ⟨_, rfl, rfl⟩ rfl dX11_forgets_113
          · refine j_iconst C (nI 0) (by decide) dX11_forgets_39 ?_
            refine j_istore C [(6, .int (nI 0)), (5, .int (nI w)), (4, .int y32_4), (3, .int y32_3), (0, .ref (g 0)), (1, .int (nI xn)), (2, .int (nI yn))] (by decide) rfl dX11_forgets_40 ?_
            refine j_iload C 1 rfl dX11_forgets_42 ?_
            refine j_istore C [(7, .int (nI w)), (6, .int (nI 0)), (5, .int (nI w)), (4, .int y32_4), (3, .int y32_3), (0, .ref (g 0)), (1, .int (nI xn)), (2, .int (nI yn))] (by decide) rfl dX11_forgets_44 ?_
            have L46 : ∀ (n46 : Nat) (d : Nat) (y46_6 : Int32) (i46_0 : d ≤ 34) (hm46 : 34 - d < n46), J X 0 0 (cM g kk σ) [(7, .int (nI d)), (6, .int y46_6), (5, .int (nI w)), (4, .int y32_4), (3, .int y32_3), (0, .ref (g 0)), (1, .int (nI xn)), (2, .int (nI yn))] 46 [] := by
              intro n46
              induction n46 with
              | zero => intro d y46_6 i46_0 hm; exact absurd hm (Nat.not_lt_zero _)
              | succ n46 ih46 =>
                intro d y46_6 i46_0 hm46
                refine j_iload C 0 rfl dX11_forgets_46 ?_
                refine j_bipush C (nI 28) (by decide) dX11_forgets_48 ?_
                refine j_icmp_geN C 83 (by decide) (by omega) (by omega) dX11_forgets_50 (fun c5 => ?_) (fun c5 => ?_)
                · refine j_iload C 1 rfl dX11_forgets_83 ?_
                  refine j_iload C 3 rfl dX11_forgets_85 ?_
                  refine j_icmp_le C 97 (by decide) dX11_forgets_87 (fun c6 => ?_) (fun c6 => ?_)
                  · refine j_iinc C (nI (w + 1)) [(5, .int (nI (w + 1))), (7, .int (nI d)), (6, .int y46_6), (4, .int y32_4), (3, .int y32_3), (0, .ref (g 0)), (1, .int (nI xn)), (2, .int (nI yn))] 2 rfl (by rw [show Int32.ofInt 1 = nI 1 from by decide, nI_add]) (by decide) rfl dX11_forgets_97 ?_
                    refine j_goto C 32 (by decide) dX11_forgets_100 ?_
                    refine j_sub (lv' := [(5, .int (nI (w + 1))), (4, .int y32_4), (3, .int y32_3), (0, .ref (g 0)), (1, .int (nI xn)), (2, .int (nI yn))]) [0, 3, 4, 5, 6, 7] rfl ?_
                    exact ih32 (w + 1) y32_4 y32_3 (by omega) (by omega)
                  · refine j_iload C 2 rfl dX11_forgets_90 ?_
                    refine j_istore_n C [(3, .int (nI w)), (7, .int (nI d)), (6, .int y46_6), (5, .int (nI w)), (4, .int y32_4), (0, .ref (g 0)), (1, .int (nI xn)), (2, .int (nI yn))] rfl (by decide) rfl dX11_forgets_92 ?_
                    refine j_iload C 2 rfl dX11_forgets_93 ?_
                    refine j_istore C [(4, .int y46_6), (3, .int (nI w)), (7, .int (nI d)), (6, .int y46_6), (5, .int (nI w)), (0, .ref (g 0)), (1, .int (nI xn)), (2, .int (nI yn))] (by decide) rfl dX11_forgets_95 ?_
                    refine j_iinc C (nI (w + 1)) [(5, .int (nI (w + 1))), (4, .int y46_6), (3, .int (nI w)), (7, .int (nI d)), (6, .int y46_6), (0, .ref (g 0)), (1, .int (nI xn)), (2, .int (nI yn))] 4 rfl (by rw [show Int32.ofInt 1 = nI 1 from by decide, nI_add]) (by decide) rfl dX11_forgets_97 ?_
                    refine j_goto C 32 (by decide) dX11_forgets_100 ?_
                    refine j_sub (lv' := [(5, .int (nI (w + 1))), (4, .int y46_6), (3, .int (nI w)), (0, .ref (g 0)), (1, .int (nI xn)), (2, .int (nI yn))]) [0, 1, 2, 5, 6, 7] rfl ?_
                    exact ih32 (w + 1) y46_6 (nI w) (by omega) (by omega)
                · refine j_iload C 1 rfl dX11_forgets_53 ?_
                  refine j_aload_n C 5 rfl dX11_forgets_55 ?_
                  refine gM_0_5 C tb_878 dX11_forgets_56 ?_
                  refine j_iload_n C 6 rfl dX11_forgets_59 ?_
                  refine j_iload C 0 rfl dX11_forgets_60 ?_
                  refine j_S01 C (m_at xn d) kyX11_at tb_1060 tb_1061 rfl (Nat.le_of_ble_eq_true rfl) ⟨by decide, by decide⟩ ⟨by decide, by decide⟩ dX11_forgets_62 rfl ?_
                  refine rM_5 C (28 * xn + d) rfl (by omega) ((σ.2.1 5) (28 * xn + d)) rfl dX11_forgets_65 ?_
                  refine j_if_ge C 73 (by decide) dX11_forgets_66 (fun c7 => ?_) (fun c7 => ?_)
                  · refine j_iconst C (nI 0) (by decide) dX11_forgets_73 ?_
                    refine j_iadd C dX11_forgets_74 ?_
                    refine j_istore C [(6, .int (y46_6 + (nI 0))), (7, .int (nI d)), (5, .int (nI w)), (4, .int y32_4), (3, .int y32_3), (0, .ref (g 0)), (1, .int (nI xn)), (2, .int (nI yn))] (by decide) rfl dX11_forgets_75 ?_
                    refine j_iinc C (nI (d + 7)) [(7, .int (nI (d + 7))), (6, .int (y46_6 + (nI 0))), (5, .int (nI w)), (4, .int y32_4), (3, .int y32_3), (0, .ref (g 0)), (1, .int (nI xn)), (2, .int (nI yn))] 1 rfl (by rw [show Int32.ofInt 7 = nI 7 from by decide, nI_add]) (by decide) rfl dX11_forgets_77 ?_
                    refine j_goto C 46 (by decide) dX11_forgets_80 ?_
                    exact ih46 (d + 7) (y46_6 + (nI 0)) (by omega) (by omega)
                  · refine j_iconst C (nI 1) (by decide) dX11_forgets_69 ?_
                    refine j_goto C 74 (by decide) dX11_forgets_70 ?_
                    refine j_iadd C dX11_forgets_74 ?_
                    refine j_istore C [(6, .int (y46_6 + (nI 1))), (7, .int (nI d)), (5, .int (nI w)), (4, .int y32_4), (3, .int y32_3), (0, .ref (g 0)), (1, .int (nI xn)), (2, .int (nI yn))] (by decide) rfl dX11_forgets_75 ?_
                    refine j_iinc C (nI (d + 7)) [(7, .int (nI (d + 7))), (6, .int (y46_6 + (nI 1))), (5, .int (nI w)), (4, .int y32_4), (3, .int y32_3), (0, .ref (g 0)), (1, .int (nI xn)), (2, .int (nI yn))] 1 rfl (by rw [show Int32.ofInt 7 = nI 7 from by decide, nI_add]) (by decide) rfl dX11_forgets_77 ?_
                    refine j_goto C 46 (by decide) dX11_forgets_80 ?_
                    exact ih46 (d + 7) (y46_6 + (nI 1)) (by omega) (by omega)
            exact L46 _ w (nI 0) (by omega) (Nat.lt_succ_self _)
      exact L32 _ 0 (-6) (nI 0) (by omega) (Nat.lt_succ_self _)
    · replace c2 := bI_f c2
      refine j_bipush C ((-2)) (by decide) dX11_forgets_20 ?_
      exact j_iret C E (σ) ⟨_, rfl, rfl⟩ rfl dX11_forgets_22
  · replace c1 := bI_f c1
    refine j_iconst C ((-1)) (by decide) dX11_forgets_8 ?_
    exact j_iret C E (σ) ⟨_, rfl, rfl⟩ rfl dX11_forgets_9
