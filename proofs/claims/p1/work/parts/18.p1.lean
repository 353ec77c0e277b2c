theorem rowB_nat {x : Int32} (h : rowB x = true) : ∃ r : Nat, 1 ≤ r ∧ r ≤ 666666 ∧ x = nI r := wB_nat (by decide) (by decide) (andL h)
theorem dgB_0 : ∀ n : Nat, dgB n 0 = true
  | 0 => rfl
  | n + 1 => by simp [dgB, dgB_0 n]
theorem dgB_6 {n q : Nat} (h : q ≤ 666666) : dgB (n + 6) q = dgB 6 q := by
  have e : q / 10 / 10 / 10 / 10 / 10 / 10 = 0 := by omega
  simp only [dgB, e, dgB_0]
theorem rowM {m : Nat} (hm : m < 2 ^ 31) : (wB (nI m) (nI 1) (nI 666666) && dgB (m + 6) m) = rowB (nI m) := by
  unfold rowB
  rw [nI_clamp hm]
  cases e : wB (nI m) (nI 1) (nI 666666) with
  | false => rfl
  | true =>
    obtain ⟨r, h1, h2, h3⟩ := wB_nat (by decide) (by decide) e
    have : m = r := (nI_eq hm (by omega)).mp h3
    rw [dgB_6 (by omega)]
theorem rs1 {b G : Bool} {n q : Nat} (h : (b && dgB (n + 1) q) = G) (hb : b = true) (hd : q % 10 ≤ 6) : (true && dgB n (q / 10)) = G := by
  subst hb
  simpa only [dgB, decide_eq_true hd, Bool.true_and] using h
theorem rs2 {b G : Bool} {n q : Nat} (h : (b && dgB (n + 1) q) = G) (hb : b = false) : (false && dgB n (q / 10)) = G := by
  subst hb
  exact h
theorem rs3 {b G : Bool} {n q : Nat} (h : (b && dgB (n + 1) q) = G) (hd : 6 < q % 10) : (false && dgB n (q / 10)) = G := by
  simpa only [dgB, decide_eq_false (Nat.not_le.mpr hd), Bool.false_and, Bool.and_false] using h
theorem rs4 {b G : Bool} {n q : Nat} (h : (b && dgB n q) = G) (hq : q ≤ 0) : b = G := by
  have : q = 0 := by omega
  subst this
  simpa only [dgB_0, Bool.and_true] using h
theorem wB_low {x : Int32} (h : x ≤ 0) : rowB x = false := by
  unfold rowB
  rw [wB_lt (Int32.lt_iff_toInt_lt.mpr ?_), Bool.false_and]
  have h1 := Int32.le_iff_toInt_le.mp h
  have z : (0 : Int32).toInt = 0 := by decide
  rw [z] at h1
  rw [nI_toInt (by decide)]
  omega
set_option maxRecDepth 100000 in
set_option maxHeartbeats 4000000 in
theorem c_rgatherZ (g kk : Nat → Nat) (σ : St) (hk : σ.1 16 = nI 0) (r : Nat) (hr : r ≤ 666666) : jM (S := St) yX8_gather cX8_gather 4 none { frames := 0, cells := 0, slots := 0, locals := 0 } kk (cX g kk σ) [.ref (g 50), .int (nI r)] (cX g kk) (rV (fun u => u = sI σ 803 (nI 0))) := by
  refine j_entry [(0, .ref (g 50)), (1, .int (nI r))] (by decide) (Nat.le_of_ble_eq_true rfl) rfl ?_
  intro X C E HI
  refine j_aload_n C 0 rfl dX8_gather_0 ?_
  refine j_iconst C (nI 0) (by decide) dX8_gather_1 ?_
  refine pX_50_3 C tb_372 dX8_gather_2 ?_
  refine j_ldc (v := nI 100000) C tb_786 dX8_gather_5 ?_
  refine j_istore_n C [(2, .int (nI 100000)), (0, .ref (g 50)), (1, .int (nI r))] rfl (by decide) rfl dX8_gather_7 ?_
  have L8 : ∀ (nL8 : Nat) (un : Nat) (hu : un ≤ 100000) (hmL8 : un < nL8), J X 0 0 (cX g kk (sI σ 803 (nI 0))) [(0, .ref (g 50)), (1, .int (nI r)), (2, .int (nI un))] 8 [] := by
    intro nL8
    induction nL8 with
    | zero => intro un hu hm; exact absurd hm (Nat.not_lt_zero _)
    | succ nL8 ihL8 =>
      intro un hu hmL8
      refine j_iload_n C 2 rfl dX8_gather_8 ?_
      refine j_iconst C (nI 1) (by decide) dX8_gather_9 ?_
      refine j_icmp_ltN C 69 (by decide) (by omega) (by omega) dX8_gather_10 (fun c1 => ?_) (fun c1 => ?_)
      · exact j_vret C E (sI σ 803 (nI 0)) ⟨rfl, rfl⟩ rfl dX8_gather_69
      · have hdv : r / un ≤ r := Nat.div_le_self r un
        refine j_iload_n C 1 rfl dX8_gather_13 ?_
        refine j_iload_n C 2 rfl dX8_gather_14 ?_
        refine j_idivN C (by omega) (by omega) (by omega) dX8_gather_15 ?_
        refine j_bipush C (nI 10) (by decide) dX8_gather_16 ?_
        refine j_iremN C (by omega) (by omega) (by omega) dX8_gather_18 ?_
        refine j_istore_n C [(3, .int (nI ((r / un) % 10))), (0, .ref (g 50)), (1, .int (nI r)), (2, .int (nI un))] rfl (by decide) rfl dX8_gather_19 ?_
        refine j_iload_n C 0 rfl dX8_gather_20 ?_
        refine j_iconst C (nI 1) (by decide) dX8_gather_21 ?_
        refine j_icmp_ltN C 61 (by decide) (by omega) (by omega) dX8_gather_22 (fun c2 => ?_) (fun c2 => ?_)
        · refine j_iload_n C 3 rfl dX8_gather_61 ?_
          refine j_bipush C (nI 10) (by decide) dX8_gather_62 ?_
          refine j_idivN C (by omega) (by omega) (by omega) dX8_gather_64 ?_
          refine j_istore_n C [(2, .int (nI (un / 10))), (3, .int (nI ((r / un) % 10))), (0, .ref (g 50)), (1, .int (nI r))] rfl (by decide) rfl dX8_gather_65 ?_
          refine j_goto C 8 (by decide) dX8_gather_66 ?_
          refine j_sub (lv' := [(0, .ref (g 50)), (1, .int (nI r)), (2, .int (nI (un / 10)))]) [2, 3, 0] rfl ?_
          exact ihL8 (un / 10) (by omega) (by omega)
        · refine j_iload_n C 0 rfl dX8_gather_25 ?_
          refine j_aload_n C 1 rfl dX8_gather_26 ?_
          refine gX_50_0 C tb_368 dX8_gather_27 ?_
          refine gX_27_0 C tb_200 dX8_gather_30 ?_
          refine gX_1_0 C tb_101 (nI 0) hk dX8_gather_33 ?_
          refine j_icmp_gtN C 61 (by decide) (by omega) (by omega) dX8_gather_36 (fun c3 => ?_) (fun c3 => ?_)
          · refine j_iload_n C 3 rfl dX8_gather_61 ?_
            refine j_bipush C (nI 10) (by decide) dX8_gather_62 ?_
            refine j_idivN C (by omega) (by omega) (by omega) dX8_gather_64 ?_
            refine j_istore_n C [(2, .int (nI (un / 10))), (3, .int (nI ((r / un) % 10))), (0, .ref (g 50)), (1, .int (nI r))] rfl (by decide) rfl dX8_gather_65 ?_
            refine j_goto C 8 (by decide) dX8_gather_66 ?_
            refine j_sub (lv' := [(0, .ref (g 50)), (1, .int (nI r)), (2, .int (nI (un / 10)))]) [2, 3, 0] rfl ?_
            exact ihL8 (un / 10) (by omega) (by omega)
          · omega
  refine j_sub (lv' := [(0, .ref (g 50)), (1, .int (nI r)), (2, .int (nI 100000))]) [1, 2, 0] rfl ?_
  exact L8 _ 100000 (by decide) (Nat.lt_succ_self _)
set_option maxRecDepth 100000 in
set_option maxHeartbeats 4000000 in
theorem c_canOnZ (g kk : Nat → Nat) (σ : St) (ho : σ.1 803 = nI 0) (x : Int32) : jM (S := St) yX8_canOn cX8_canOn 3 (some .int) { frames := 0, cells := 0, slots := 0, locals := 0 } kk (cX g kk σ) [.ref (g 50), .int x] (cX g kk) (rI (fun (r : Int32) (u : St) => (r = (-1) ∧ u = σ))) := by
  refine j_entry [(0, .ref (g 50)), (1, .int x)] (by decide) (Nat.le_of_ble_eq_true rfl) rfl ?_
  intro X C E HI
  refine j_iconst C (nI 0) (by decide) dX8_canOn_0 ?_
  refine j_istore_n C [(2, .int (nI 0)), (0, .ref (g 50)), (1, .int x)] rfl (by decide) rfl dX8_canOn_1 ?_
  refine j_iload_n C 0 rfl dX8_canOn_2 ?_
  refine j_aload_n C 1 rfl dX8_canOn_3 ?_
  refine gX_50_3 C tb_372 (nI 0) ho dX8_canOn_4 ?_
  refine j_icmp_geN C 46 (by decide) (by omega) (by omega) dX8_canOn_7 (fun c1 => ?_) (fun c1 => ?_)
  · refine j_iconst C ((-1)) (by decide) dX8_canOn_46 ?_
    exact j_iret C E (σ) ⟨_, rfl, ⟨rfl, rfl⟩⟩ rfl dX8_canOn_47
  · exact absurd c1 (by decide)
set_option maxRecDepth 100000 in
set_option maxHeartbeats 4000000 in
theorem c_joinZ (g kk : Nat → Nat) (σ : St) (ho : σ.1 803 = nI 0) : jM (S := St) yX8_join cX8_join 4 none { frames := 1, cells := 0, slots := 0, locals := 22 } kk (cX g kk σ) [.ref (g 50)] (cX g kk) (rV (fun u => u = sI (sI σ 804 (nI 0)) 805 (nI 0))) := by
  refine j_entry [(0, .ref (g 50))] (by decide) (Nat.le_of_ble_eq_true rfl) rfl ?_
  intro X C E HI
  refine j_aload_n C 0 rfl dX8_join_0 ?_
  refine j_iconst C (nI 0) (by decide) dX8_join_1 ?_
  refine pX_50_4 C tb_373 dX8_join_2 ?_
  refine j_aload_n C 0 rfl dX8_join_5 ?_
  refine j_iconst C (nI 0) (by decide) dX8_join_6 ?_
  refine pX_50_5 C tb_375 dX8_join_7 ?_
  refine j_iconst C ((-1)) (by decide) dX8_join_10 ?_
  refine j_istore_n C [(1, .int (-1)), (0, .ref (g 50))] rfl (by decide) rfl dX8_join_11 ?_
  refine j_iconst C (nI 0) (by decide) dX8_join_12 ?_
  refine j_istore_n C [(2, .int (nI 0)), (1, .int (-1)), (0, .ref (g 50))] rfl (by decide) rfl dX8_join_13 ?_
  have L14 : ∀ (nL14 : Nat) (d : Nat) (hd : d ≤ 28) (hmL14 : 28 - d < nL14), J X 0 0 (cX g kk (sI (sI σ 804 (nI 0)) 805 (nI 0))) [(0, .ref (g 50)), (1, .int (-1)), (2, .int (nI d))] 14 [] := by
    intro nL14
    induction nL14 with
    | zero => intro d hd hm; exact absurd hm (Nat.not_lt_zero _)
    | succ nL14 ihL14 =>
      intro d hd hmL14
      refine j_iload_n C 2 rfl dX8_join_14 ?_
      refine j_bipush C (nI 28) (by decide) dX8_join_15 ?_
      refine j_icmp_geN C 95 (by decide) (by omega) (by omega) dX8_join_17 (fun c1 => ?_) (fun c1 => ?_)
      · exact j_vret C E (sI (sI σ 804 (nI 0)) 805 (nI 0)) ⟨rfl, rfl⟩ rfl dX8_join_95
      · refine j_aload_n C 0 rfl dX8_join_20 ?_
        refine j_iload_n C 2 rfl dX8_join_21 ?_
        refine j_V1 C (c_canOnZ g kk (sI (sI σ 804 (nI 0)) 805 (nI 0)) ho (nI d)) kyX8_canOn tb_799 tb_788 tb_789 50 rfl (eX_50 g kk _) rfl (Nat.le_of_ble_eq_true rfl) ⟨by decide, by decide⟩ dX8_join_22 rfl (fun vr ur hp => ?_)
        obtain ⟨r, rfl, rfl, hu⟩ := hp
        replace hu := hu.symm
        subst hu
        refine j_istore_n C [(3, .int (-1)), (0, .ref (g 50)), (1, .int (-1)), (2, .int (nI d))] rfl (by decide) rfl dX8_join_25 ?_
        refine j_iload_n C 0 rfl dX8_join_26 ?_
        refine j_iconst C ((-1)) (by decide) dX8_join_27 ?_
        refine j_icmp_ne C 34 (by decide) dX8_join_28 (fun c2 => ?_) (fun c2 => ?_)
        · exact absurd rfl c2
        · refine j_goto C 89 (by decide) dX8_join_31 ?_
          refine j_iinc C (nI (d + 1)) [(2, .int (nI (d + 1))), (3, .int (-1)), (0, .ref (g 50)), (1, .int (-1))] 3 rfl (by rw [show Int32.ofInt 1 = nI 1 from by decide, nI_add]) (by decide) rfl dX8_join_89 ?_
          refine j_goto C 14 (by decide) dX8_join_92 ?_
          refine j_sub (lv' := [(0, .ref (g 50)), (1, .int (-1)), (2, .int (nI (d + 1)))]) [2, 3, 0] rfl ?_
          exact ihL14 (d + 1) (by omega) (by omega)
  refine j_sub (lv' := [(0, .ref (g 50)), (1, .int (-1)), (2, .int (nI 0))]) [2, 1, 0] rfl ?_
  exact L14 _ 0 (by decide) (Nat.lt_succ_self _)
set_option maxRecDepth 100000 in
set_option maxHeartbeats 4000000 in
theorem c_recordZ (g kk : Nat → Nat) (σ : St) (hk : σ.1 16 = nI 0) (hs : σ.1 437 = nI 1) (x y z : Int32) : jM (S := St) yX10_record cX10_record 5 (some .int) { frames := 2, cells := 0, slots := 0, locals := 44 } kk (cX g kk σ) [.ref (g 0), .int x, .int y, .int z] (cX g kk) (rI (fun r _ => ((rowB x = false ∨ wB z (nI 0) (nI 1) = false) ∧ r = -2) ∨ (rowB x = true ∧ wB z (nI 0) (nI 1) = true ∧ wB y (nI 0) (nI 27) = false ∧ r = -1) ∨ (rowB x = true ∧ wB z (nI 0) (nI 1) = true ∧ wB y (nI 0) (nI 27) = true ∧ r = -6))) := by
  refine j_entry [(0, .ref (g 0)), (1, .int x), (2, .int y), (3, .int z)] (by decide) (Nat.le_of_ble_eq_true rfl) rfl ?_
  intro X C E HI
  refine j_iload_n C 1 rfl dX10_record_0 ?_
  refine j_S01 C (c_isRow x) kyX10_isRow tb_778 tb_779 rfl (Nat.le_of_ble_eq_true rfl) ⟨by decide, by decide⟩ ⟨by decide, by decide⟩ dX10_record_1 rfl ?_
  refine j_if_eq C 16 (by decide) dX10_record_4 (fun c1 => ?_) (fun c1 => ?_)
  · replace c1 := bI_f c1
    refine j_bipush C ((-2)) (by decide) dX10_record_16 ?_
    exact j_iret C E (σ) ⟨_, rfl, Or.inl ⟨by first | exact Or.inl c1 | exact Or.inr c2, rfl⟩⟩ rfl dX10_record_18
  · replace c1 := bI_t c1
    refine j_iload_n C 3 rfl dX10_record_7 ?_
    refine j_iconst C (nI 0) (by decide) dX10_record_8 ?_
    refine j_iconst C (nI 1) (by decide) dX10_record_9 ?_
    refine j_S01 C (c_isWithin z (nI 0) (nI 1)) kyX10_isWithin tb_467 tb_468 rfl (Nat.le_of_ble_eq_true rfl) ⟨by decide, by decide⟩ ⟨by decide, by decide⟩ dX10_record_10 rfl ?_
    refine j_if_ne C 19 (by decide) dX10_record_13 (fun c2 => ?_) (fun c2 => ?_)
    · replace c2 := bI_t c2
      refine j_iload_n C 2 rfl dX10_record_19 ?_
      refine j_S01 C (c_isDay y) kyX10_isDay tb_486 tb_487 rfl (Nat.le_of_ble_eq_true rfl) ⟨by decide, by decide⟩ ⟨by decide, by decide⟩ dX10_record_20 rfl ?_
      refine j_if_ne C 28 (by decide) dX10_record_23 (fun c3 => ?_) (fun c3 => ?_)
      · replace c3 := bI_t c3
        obtain ⟨r0, r1, r2, re⟩ := rowB_nat c1
        rw [re]
        refine j_aload_n C 0 rfl dX10_record_28 ?_
        refine gX_0_2 C tb_430 dX10_record_29 ?_
        refine j_V1 C (c_refreshZ g kk σ hk hs) kyX7_refresh tb_562 tb_563 tb_564 27 rfl (eX_27 g kk _) rfl (Nat.le_of_ble_eq_true rfl) ⟨by decide, by decide⟩ dX10_record_32 rfl (fun vr ur hp => ?_)
        obtain ⟨rfl, hu⟩ := hp
        replace hu := hu.symm
        subst hu
        refine j_aload_n C 0 rfl dX10_record_35 ?_
        refine gX_0_6 C tb_434 dX10_record_36 ?_
        refine j_iload_n C 1 rfl dX10_record_39 ?_
        refine j_V1 C (c_rgatherZ g kk (sI σ 437 (nI 0)) hk r0 (by omega)) kyX8_gather tb_782 tb_783 tb_784 50 rfl (eX_50 g kk _) rfl (Nat.le_of_ble_eq_true rfl) ⟨by decide, by decide⟩ dX10_record_40 rfl (fun vr ur hp => ?_)
        obtain ⟨rfl, hu⟩ := hp
        replace hu := hu.symm
        subst hu
        refine j_aload_n C 0 rfl dX10_record_43 ?_
        refine gX_0_6 C tb_434 dX10_record_44 ?_
        refine j_iload_n C 2 rfl dX10_record_47 ?_
        refine j_V1 C (c_canOnZ g kk (sI (sI σ 437 (nI 0)) 803 (nI 0)) rfl y) kyX8_canOn tb_787 tb_788 tb_789 50 rfl (eX_50 g kk _) rfl (Nat.le_of_ble_eq_true rfl) ⟨by decide, by decide⟩ dX10_record_48 rfl (fun vr ur hp => ?_)
        obtain ⟨r, rfl, rfl, hu⟩ := hp
        replace hu := hu.symm
        subst hu
        refine j_istore C [(4, .int (-1)), (0, .ref (g 0)), (1, .int (nI r0)), (2, .int y), (3, .int z)] (by decide) rfl dX10_record_51 ?_
        refine j_iload C 0 rfl dX10_record_53 ?_
        refine j_iconst C ((-1)) (by decide) dX10_record_55 ?_
        refine j_icmp_ne C 62 (by decide) dX10_record_56 (fun c4 => ?_) (fun c4 => ?_)
        · exact absurd rfl c4
        · refine j_bipush C ((-6)) (by decide) dX10_record_59 ?_
          exact j_iret C E (sI (sI σ 437 (nI 0)) 803 (nI 0)) ⟨_, rfl, Or.inr (Or.inr ⟨c1, c2, c3, rfl⟩)⟩ rfl dX10_record_61
      · replace c3 := bI_f c3
        refine j_iconst C ((-1)) (by decide) dX10_record_26 ?_
        exact j_iret C E (σ) ⟨_, rfl, Or.inr (Or.inl ⟨c1, c2, c3, rfl⟩)⟩ rfl dX10_record_27
    · replace c2 := bI_f c2
      refine j_bipush C ((-2)) (by decide) dX10_record_16 ?_
      exact j_iret C E (σ) ⟨_, rfl, Or.inl ⟨by first | exact Or.inl c1 | exact Or.inr c2, rfl⟩⟩ rfl dX10_record_18
set_option maxRecDepth 100000 in
set_option maxHeartbeats 4000000 in
theorem c_seamZ (g kk : Nat → Nat) (σ : St) (hk : σ.1 16 = nI 0) (hs : σ.1 437 = nI 1) (x y : Int32) : jM (S := St) yX10_seam cX10_seam 3 (some .int) { frames := 2, cells := 0, slots := 0, locals := 45 } kk (cX g kk σ) [.ref (g 0), .int x, .int y] (cX g kk) (rI (fun r _ => (rowB x = false ∧ r = -2) ∨ (rowB x = true ∧ r = if y = -2 then nI 0 else if y = -1 then nI 0 else -6))) := by
  refine j_entry [(0, .ref (g 0)), (1, .int x), (2, .int y)] (by decide) (Nat.le_of_ble_eq_true rfl) rfl ?_
  intro X C E HI
  refine j_iload_n C 1 rfl dX10_seam_0 ?_
  refine j_S01 C (c_isRow x) kyX10_isRow tb_778 tb_779 rfl (Nat.le_of_ble_eq_true rfl) ⟨by decide, by decide⟩ ⟨by decide, by decide⟩ dX10_seam_1 rfl ?_
  refine j_if_ne C 10 (by decide) dX10_seam_4 (fun c1 => ?_) (fun c1 => ?_)
  · replace c1 := bI_t c1
    obtain ⟨r0, r1, r2, re⟩ := rowB_nat c1
    rw [re]
    refine j_aload_n C 0 rfl dX10_seam_10 ?_
    refine gX_0_2 C tb_430 dX10_seam_11 ?_
    refine j_V1 C (c_refreshZ g kk σ hk hs) kyX7_refresh tb_562 tb_563 tb_564 27 rfl (eX_27 g kk _) rfl (Nat.le_of_ble_eq_true rfl) ⟨by decide, by decide⟩ dX10_seam_14 rfl (fun vr ur hp => ?_)
    obtain ⟨rfl, hu⟩ := hp
    replace hu := hu.symm
    subst hu
    refine j_aload_n C 0 rfl dX10_seam_17 ?_
    refine gX_0_6 C tb_434 dX10_seam_18 ?_
    refine j_iload_n C 1 rfl dX10_seam_21 ?_
    refine j_V1 C (c_rgatherZ g kk (sI σ 437 (nI 0)) hk r0 (by omega)) kyX8_gather tb_782 tb_783 tb_784 50 rfl (eX_50 g kk _) rfl (Nat.le_of_ble_eq_true rfl) ⟨by decide, by decide⟩ dX10_seam_22 rfl (fun vr ur hp => ?_)
    obtain ⟨rfl, hu⟩ := hp
    replace hu := hu.symm
    subst hu
    refine j_aload_n C 0 rfl dX10_seam_25 ?_
    refine gX_0_6 C tb_434 dX10_seam_26 ?_
    refine j_V1 C (c_joinZ g kk (sI (sI σ 437 (nI 0)) 803 (nI 0)) rfl) kyX8_join tb_795 tb_796 tb_797 50 rfl (eX_50 g kk _) rfl (Nat.le_of_ble_eq_true rfl) ⟨by decide, by decide⟩ dX10_seam_29 rfl (fun vr ur hp => ?_)
    obtain ⟨rfl, hu⟩ := hp
    replace hu := hu.symm
    subst hu
    refine j_iload_n C 2 rfl dX10_seam_32 ?_
    refine j_bipush C ((-2)) (by decide) dX10_seam_33 ?_
    refine j_icmp_ne C 46 (by decide) dX10_seam_35 (fun c2 => ?_) (fun c2 => ?_)
    · refine j_iload_n C 2 rfl dX10_seam_46 ?_
      refine j_iconst C ((-1)) (by decide) dX10_seam_47 ?_
      refine j_icmp_ne C 59 (by decide) dX10_seam_48 (fun c3 => ?_) (fun c3 => ?_)
      · refine j_iload_n C 2 rfl dX10_seam_59 ?_
        refine j_if_lt C 86 (by decide) dX10_seam_60 (fun c4 => ?_) (fun c4 => ?_)
        · refine j_bipush C ((-6)) (by decide) dX10_seam_86 ?_
          exact j_iret C E (sI (sI (sI (sI σ 437 (nI 0)) 803 (nI 0)) 804 (nI 0)) 805 (nI 0)) ⟨_, rfl, Or.inr ⟨c1, ((if_neg c2).trans (if_neg c3)).symm⟩⟩ rfl dX10_seam_88
        · refine j_iload_n C 2 rfl dX10_seam_63 ?_
          refine j_aload_n C 0 rfl dX10_seam_64 ?_
          refine gX_0_6 C tb_434 dX10_seam_65 ?_
          refine gX_50_4 C tb_374 (nI 0) rfl dX10_seam_68 ?_
          refine j_icmp_ge C 86 (by decide) dX10_seam_71 (fun c5 => ?_) (fun c5 => ?_)
          · refine j_bipush C ((-6)) (by decide) dX10_seam_86 ?_
            exact j_iret C E (sI (sI (sI (sI σ 437 (nI 0)) 803 (nI 0)) 804 (nI 0)) 805 (nI 0)) ⟨_, rfl, Or.inr ⟨c1, ((if_neg c2).trans (if_neg c3)).symm⟩⟩ rfl dX10_seam_88
          · exact absurd (show nI 0 ≤ y from Int32.not_lt.mp c4) c5
      · refine j_aload_n C 0 rfl dX10_seam_51 ?_
        refine gX_0_6 C tb_434 dX10_seam_52 ?_
        refine gX_50_4 C tb_374 (nI 0) rfl dX10_seam_55 ?_
        exact j_iret C E (sI (sI (sI (sI σ 437 (nI 0)) 803 (nI 0)) 804 (nI 0)) 805 (nI 0)) ⟨_, rfl, Or.inr ⟨c1, ((if_neg c2).trans (if_pos c3)).symm⟩⟩ rfl dX10_seam_58
    · refine j_aload_n C 0 rfl dX10_seam_38 ?_
      refine gX_0_6 C tb_434 dX10_seam_39 ?_
      refine gX_50_5 C tb_376 (nI 0) rfl dX10_seam_42 ?_
      exact j_iret C E (sI (sI (sI (sI σ 437 (nI 0)) 803 (nI 0)) 804 (nI 0)) 805 (nI 0)) ⟨_, rfl, Or.inr ⟨c1, (if_pos c2).symm⟩⟩ rfl dX10_seam_45
  · replace c1 := bI_f c1
    refine j_bipush C ((-2)) (by decide) dX10_seam_7 ?_
    exact j_iret C E (σ) ⟨_, rfl, Or.inl ⟨c1, rfl⟩⟩ rfl dX10_seam_9
set_option maxRecDepth 100000 in
set_option maxHeartbeats 4000000 in
theorem m_isRowN (m : Nat) (hm : m < 2 ^ 31) : jMp yX11_isRow cX11_isRow 3 (some .boolean) { frames := 1, cells := 0, slots := 0, locals := 25 } [.int (nI m)] (some (.int (bI (rowB (nI m))))) := fun kk => by
  refine j_entry [(0, .int (nI m))] (by decide) (Nat.le_of_ble_eq_true rfl) rfl ?_
  intro X C E HI
  refine j_iload_n C 0 rfl dX11_isRow_0 ?_
  refine j_i2l C dX11_isRow_1 ?_
  refine j_lconst C 1 (by decide) dX11_isRow_2 ?_
  refine j_ldc2 C tb_1281 dX11_isRow_3 ?_
  refine j_S01 C (m_inB (nI m) (nI 1) (nI 666666) 1 (666666) (by decide) (by decide)) kyX11_in tb_1057 tb_1058 rfl (Nat.le_of_ble_eq_true rfl) ⟨by decide, by decide⟩ ⟨by decide, by decide⟩ dX11_isRow_6 rfl ?_
  refine j_istore_n C [(1, .int (bI (wB (nI m) (nI 1) (nI 666666)))), (0, .int (nI m))] rfl (by decide) rfl dX11_isRow_9 ?_
  refine j_iload_n C 1 rfl dX11_isRow_10 ?_
  refine j_istore_n C [(2, .int (nI m)), (1, .int (bI (wB (nI m) (nI 1) (nI 666666)))), (0, .int (nI m))] rfl (by decide) rfl dX11_isRow_11 ?_
  have L12 : ∀ (nL12 : Nat) (n q : Nat) (b : Bool) (hq : q ≤ n) (hq2 : q < 2 ^ 31) (hG : (b && dgB n q) = (wB (nI m) (nI 1) (nI 666666) && dgB (m + 6) m)) (hmL12 : q < nL12), J X 0 0 [] [(0, .int (nI m)), (1, .int (bI b)), (2, .int (nI q))] 12 [] := by
    intro nL12
    induction nL12 with
    | zero => intro n q b hq hq2 hG hm; exact absurd hm (Nat.not_lt_zero _)
    | succ nL12 ihL12 =>
      intro n q b hq hq2 hG hmL12
      refine j_iload_n C 2 rfl dX11_isRow_12 ?_
      refine j_if_leN C 43 (by decide) (by omega) dX11_isRow_13 (fun c1 => ?_) (fun c1 => ?_)
      · refine j_iload_n C 1 rfl dX11_isRow_43 ?_
        exact j_zret C E (bI_n _) (()) (congrArg (fun z => some (Value.int (bI z))) ((rs4 hG (by omega)).trans (rowM hm))) rfl dX11_isRow_44
      · obtain ⟨n0, hn0⟩ : ∃ n0, n = n0 + 1 := ⟨n - 1, by omega⟩
        subst hn0
        refine j_iload_n C 1 rfl dX11_isRow_16 ?_
        refine j_if_eq C 33 (by decide) dX11_isRow_17 (fun c2 => ?_) (fun c2 => ?_)
        · replace c2 := bI_f c2
          have h91 := c2
          refine j_iconst C (nI 0) (by decide) dX11_isRow_33 ?_
          refine j_istore_n C [(1, .int (nI 0)), (0, .int (nI m)), (2, .int (nI q))] rfl (by decide) rfl dX11_isRow_34 ?_
          refine j_iload_n C 2 rfl dX11_isRow_35 ?_
          refine j_bipush C (nI 10) (by decide) dX11_isRow_36 ?_
          refine j_idivN C (by omega) (by omega) (by omega) dX11_isRow_38 ?_
          refine j_istore_n C [(2, .int (nI (q / 10))), (1, .int (nI 0)), (0, .int (nI m))] rfl (by decide) rfl dX11_isRow_39 ?_
          refine j_goto C 12 (by decide) dX11_isRow_40 ?_
          refine j_sub (lv' := [(0, .int (nI m)), (1, .int (nI 0)), (2, .int (nI (q / 10)))]) [2, 1, 0] rfl ?_
          exact ihL12 n0 (q / 10) false (by omega) (by omega) (by first | exact rs2 hG h91 | exact rs3 hG h92) (by omega)
        · replace c2 := bI_t c2
          have h91 := c2
          refine j_iload_n C 2 rfl dX11_isRow_20 ?_
          refine j_bipush C (nI 10) (by decide) dX11_isRow_21 ?_
          refine j_iremN C (by omega) (by omega) (by omega) dX11_isRow_23 ?_
          refine j_bipush C (nI 6) (by decide) dX11_isRow_24 ?_
          refine j_icmp_gtN C 33 (by decide) (by omega) (by omega) dX11_isRow_26 (fun c3 => ?_) (fun c3 => ?_)
          · have h92 := c3
            refine j_iconst C (nI 0) (by decide) dX11_isRow_33 ?_
            refine j_istore_n C [(1, .int (nI 0)), (0, .int (nI m)), (2, .int (nI q))] rfl (by decide) rfl dX11_isRow_34 ?_
            refine j_iload_n C 2 rfl dX11_isRow_35 ?_
            refine j_bipush C (nI 10) (by decide) dX11_isRow_36 ?_
            refine j_idivN C (by omega) (by omega) (by omega) dX11_isRow_38 ?_
            refine j_istore_n C [(2, .int (nI (q / 10))), (1, .int (nI 0)), (0, .int (nI m))] rfl (by decide) rfl dX11_isRow_39 ?_
            refine j_goto C 12 (by decide) dX11_isRow_40 ?_
            refine j_sub (lv' := [(0, .int (nI m)), (1, .int (nI 0)), (2, .int (nI (q / 10)))]) [2, 1, 0] rfl ?_
            exact ihL12 n0 (q / 10) false (by omega) (by omega) (by first | exact rs2 hG h91 | exact rs3 hG h92) (by omega)
          · have h92 := c3
            refine j_iconst C (nI 1) (by decide) dX11_isRow_29 ?_
            refine j_goto C 34 (by decide) dX11_isRow_30 ?_
            refine j_istore_n C [(1, .int (nI 1)), (0, .int (nI m)), (2, .int (nI q))] rfl (by decide) rfl dX11_isRow_34 ?_
            refine j_iload_n C 2 rfl dX11_isRow_35 ?_
            refine j_bipush C (nI 10) (by decide) dX11_isRow_36 ?_
            refine j_idivN C (by omega) (by omega) (by omega) dX11_isRow_38 ?_
            refine j_istore_n C [(2, .int (nI (q / 10))), (1, .int (nI 1)), (0, .int (nI m))] rfl (by decide) rfl dX11_isRow_39 ?_
            refine j_goto C 12 (by decide) dX11_isRow_40 ?_
            refine j_sub (lv' := [(0, .int (nI m)), (1, .int (nI 1)), (2, .int (nI (q / 10)))]) [2, 1, 0] rfl ?_
            exact ihL12 n0 (q / 10) true (by omega) (by omega) (rs1 hG h91 h92) (by omega)
  refine j_sub (lv' := [(0, .int (nI m)), (1, .int (bI (wB (nI m) (nI 1) (nI 666666)))), (2, .int (nI m))]) [2, 1, 0] rfl ?_
  exact L12 _ (m + 6) m (wB (nI m) (nI 1) (nI 666666)) (by omega) hm rfl (Nat.lt_succ_self _)
set_option maxRecDepth 100000 in
set_option maxHeartbeats 4000000 in
theorem m_isRowL (x : Int32) (hx : x ≤ 0) : jMp yX11_isRow cX11_isRow 3 (some .boolean) { frames := 1, cells := 0, slots := 0, locals := 25 } [.int x] (some (.int (bI (rowB x)))) := fun kk => by
  refine j_entry [(0, .int x)] (by decide) (Nat.le_of_ble_eq_true rfl) rfl ?_
  intro X C E HI
  refine j_iload_n C 0 rfl dX11_isRow_0 ?_
  refine j_i2l C dX11_isRow_1 ?_
  refine j_lconst C 1 (by decide) dX11_isRow_2 ?_
  refine j_ldc2 C tb_1281 dX11_isRow_3 ?_
  refine j_S01 C (m_inB x (nI 1) (nI 666666) 1 (666666) (by decide) (by decide)) kyX11_in tb_1057 tb_1058 rfl (Nat.le_of_ble_eq_true rfl) ⟨by decide, by decide⟩ ⟨by decide, by decide⟩ dX11_isRow_6 rfl ?_
  refine j_istore_n C [(1, .int (bI (wB x (nI 1) (nI 666666)))), (0, .int x)] rfl (by decide) rfl dX11_isRow_9 ?_
  refine j_iload_n C 1 rfl dX11_isRow_10 ?_
  refine j_istore_n C [(2, .int x), (1, .int (bI (wB x (nI 1) (nI 666666)))), (0, .int x)] rfl (by decide) rfl dX11_isRow_11 ?_
  refine j_iload_n C 0 rfl dX11_isRow_12 ?_
  refine j_if_le C 43 (by decide) dX11_isRow_13 (fun c1 => ?_) (fun c1 => ?_)
  · refine j_iload_n C 1 rfl dX11_isRow_43 ?_
    exact j_zret C E (bI_n _) (()) (congrArg (fun z => some (Value.int (bI z))) (by rw [wB_low hx]; exact Bool.eq_false_iff.mpr (fun q => by have := wB_low hx; rw [rowB] at this; rw [q] at this; exact absurd (wB_nat (by decide) (by decide) q) (fun ⟨r, h1, h2, h3⟩ => by subst h3; exact absurd ((nI_leI (a := r) (b := 0) (by omega) (by decide)).mp hx) (by omega))))) rfl dX11_isRow_44
  · exact absurd hx c1
theorem m_isRow (x : Int32) : jMp yX11_isRow cX11_isRow 3 (some .boolean) { frames := 1, cells := 0, slots := 0, locals := 25 } [.int x] (some (.int (bI (rowB x)))) := by
  rcases Classical.em (x ≤ 0) with h | h
  · exact m_isRowL x h
  · obtain ⟨m, hm, e⟩ := nI_of (x := x) (fun q => h (Int32.le_of_lt q))
    subst e
    exact m_isRowN m hm
set_option maxRecDepth 100000 in
set_option maxHeartbeats 4000000 in
theorem m_toldBy0 (g kk : Nat → Nat) (σ : St) (k : Nat) (hk : σ.1 3 = nI k) (hk6 : k ≤ 6) (hk0 : k = 0) (r : Nat) (hr : r ≤ 666666) (y : Int32) : jM (S := St) yX11_toldBy cX11_toldBy 6 (some .int) { frames := 2, cells := 0, slots := 0, locals := 46 } kk (cM g kk σ) [.ref (g 0), .int (nI r), .int y] (cM g kk) (rI (fun v u => v = -6 ∧ u = σ)) := by
  refine j_entry [(0, .ref (g 0)), (1, .int (nI r)), (2, .int y)] (by decide) (Nat.le_of_ble_eq_true rfl) rfl ?_
  intro X C E HI
  refine j_bipush C ((-6)) (by decide) dX11_toldBy_0 ?_
  refine j_istore_n C [(3, .int (-6)), (0, .ref (g 0)), (1, .int (nI r)), (2, .int y)] rfl (by decide) rfl dX11_toldBy_2 ?_
  refine j_iload_n C 2 rfl dX11_toldBy_3 ?_
  refine j_istore C [(4, .int (nI r)), (3, .int (-6)), (0, .ref (g 0)), (1, .int (nI r)), (2, .int y)] (by decide) rfl dX11_toldBy_4 ?_
  have L6 : ∀ (nL6 : Nat) (q : Nat) (hq : q ≤ 666666) (hmL6 : q < nL6), J X 0 0 (cM g kk σ) [(0, .ref (g 0)), (1, .int (nI r)), (2, .int y), (3, .int (-6)), (4, .int (nI q))] 6 [] := by
    intro nL6
    induction nL6 with
    | zero => intro q hq hm; exact absurd hm (Nat.not_lt_zero _)
    | succ nL6 ihL6 =>
      intro q hq hmL6
      refine j_iload C 4 rfl dX11_toldBy_6 ?_
      refine j_if_leN C 60 (by decide) (by omega) dX11_toldBy_8 (fun c1 => ?_) (fun c1 => ?_)
      · refine j_iload_n C 3 rfl dX11_toldBy_60 ?_
        exact j_iret C E (σ) ⟨_, rfl, rfl, rfl⟩ rfl dX11_toldBy_61
      · refine j_iload C 4 rfl dX11_toldBy_11 ?_
        refine j_bipush C (nI 10) (by decide) dX11_toldBy_13 ?_
        refine j_iremN C (by omega) (by omega) (by omega) dX11_toldBy_15 ?_
        refine j_iconst C (nI 1) (by decide) dX11_toldBy_16 ?_
        refine j_isub C dX11_toldBy_17 ?_
        refine j_istore C [(5, .int ((nI (q % 10)) - (nI 1))), (0, .ref (g 0)), (1, .int (nI r)), (2, .int y), (3, .int (-6)), (4, .int (nI q))] (by decide) rfl dX11_toldBy_18 ?_
        refine j_aload_n C 1 rfl dX11_toldBy_20 ?_
        refine j_iload C 0 rfl dX11_toldBy_21 ?_
        refine j_V1 C (m_isCan g kk σ k hk hk6 ((nI (q % 10)) - (nI 1))) kyX11_isCan tb_1067 tb_1069 sp_21 0 rfl (eM_0 g kk _) rfl (Nat.le_of_ble_eq_true rfl) ⟨by decide, by decide⟩ dX11_toldBy_23 rfl (fun vr ur hp => ?_)
        obtain ⟨r, rfl, rfl, hu⟩ := hp
        replace hu := hu.symm
        subst hu
        refine j_if_eq C 48 (by decide) dX11_toldBy_26 (fun c2 => ?_) (fun c2 => ?_)
        · replace c2 := bI_f c2
          refine j_iload_n C 4 rfl dX11_toldBy_48 ?_
          refine j_istore_n C [(3, .int (-6)), (5, .int ((nI (q % 10)) - (nI 1))), (0, .ref (g 0)), (1, .int (nI r)), (2, .int y), (4, .int (nI q))] rfl (by decide) rfl dX11_toldBy_49 ?_
          refine j_iload C 5 rfl dX11_toldBy_50 ?_
          refine j_bipush C (nI 10) (by decide) dX11_toldBy_52 ?_
          refine j_idivN C (by omega) (by omega) (by omega) dX11_toldBy_54 ?_
          refine j_istore C [(4, .int (nI (q / 10))), (3, .int (-6)), (5, .int ((nI (q % 10)) - (nI 1))), (0, .ref (g 0)), (1, .int (nI r)), (2, .int y)] (by decide) rfl dX11_toldBy_55 ?_
          refine j_goto C 6 (by decide) dX11_toldBy_57 ?_
          refine j_sub (lv' := [(0, .ref (g 0)), (1, .int (nI r)), (2, .int y), (3, .int (-6)), (4, .int (nI (q / 10)))]) [3, 4, 5, 1, 0] rfl ?_
          exact ihL6 (q / 10) (by omega) (by omega)
        · replace c2 := bI_t c2
          subst hk0
          rw [cB_0] at c2
          cases c2
  refine j_sub (lv' := [(0, .ref (g 0)), (1, .int (nI r)), (2, .int y), (3, .int (-6)), (4, .int (nI r))]) [2, 3, 4, 1, 0] rfl ?_
  exact L6 _ r hr (Nat.lt_succ_self _)
set_option maxRecDepth 100000 in
set_option maxHeartbeats 4000000 in
theorem m_recordZ (g kk : Nat → Nat) (σ : St) (hk : σ.1 3 = nI 0) (x y z : Int32) : jM (S := St) yX11_record cX11_record 5 (some .int) { frames := 3, cells := 0, slots := 0, locals := 71 } kk (cM g kk σ) [.ref (g 0), .int x, .int y, .int z] (cM g kk) (rI (fun r _ => ((rowB x = false ∨ wB z (nI 0) (nI 1) = false) ∧ r = -2) ∨ (rowB x = true ∧ wB z (nI 0) (nI 1) = true ∧ wB y (nI 0) (nI 27) = false ∧ r = -1) ∨ (rowB x = true ∧ wB z (nI 0) (nI 1) = true ∧ wB y (nI 0) (nI 27) = true ∧ r = -6))) := by
  refine j_entry [(0, .ref (g 0)), (1, .int x), (2, .int y), (3, .int z)] (by decide) (Nat.le_of_ble_eq_true rfl) rfl ?_
  intro X C E HI
  refine j_iload_n C 1 rfl dX11_record_0 ?_
  refine j_S01 C (m_isRow x) kyX11_isRow tb_1278 tb_1279 rfl (Nat.le_of_ble_eq_true rfl) ⟨by decide, by decide⟩ ⟨by decide, by decide⟩ dX11_record_1 rfl ?_
  refine j_if_eq C 17 (by decide) dX11_record_4 (fun c1 => ?_) (fun c1 => ?_)
  · replace c1 := bI_f c1
    refine j_bipush C ((-2)) (by decide) dX11_record_17 ?_
    exact j_iret C E (σ) ⟨_, rfl, Or.inl ⟨by first | exact Or.inl c1 | exact Or.inr c2, rfl⟩⟩ rfl dX11_record_19
  · replace c1 := bI_t c1
    refine j_iload_n C 3 rfl dX11_record_7 ?_
    refine j_i2l C dX11_record_8 ?_
    refine j_lconst C 0 (by decide) dX11_record_9 ?_
    refine j_lconst C 1 (by decide) dX11_record_10 ?_
    refine j_S01 C (m_inB z (nI 0) (nI 1) 0 1 (by decide) (by decide)) kyX11_in tb_1057 tb_1058 rfl (Nat.le_of_ble_eq_true rfl) ⟨by decide, by decide⟩ ⟨by decide, by decide⟩ dX11_record_11 rfl ?_
    refine j_if_ne C 20 (by decide) dX11_record_14 (fun c2 => ?_) (fun c2 => ?_)
    · replace c2 := bI_t c2
      refine j_iload_n C 2 rfl dX11_record_20 ?_
      refine j_S01 C (m_isDay y) kyX11_isDay tb_1077 tb_1078 rfl (Nat.le_of_ble_eq_true rfl) ⟨by decide, by decide⟩ ⟨by decide, by decide⟩ dX11_record_21 rfl ?_
      refine j_if_ne C 29 (by decide) dX11_record_24 (fun c3 => ?_) (fun c3 => ?_)
      · replace c3 := bI_t c3
        obtain ⟨r0, r1, r2, re⟩ := rowB_nat c1
        rw [re]
        refine j_aload_n C 0 rfl dX11_record_29 ?_
        refine j_V1 C (m_findAllZ g kk σ hk) kyX11_findAll tb_1131 tb_1133 sp_24 0 rfl (eM_0 g kk _) rfl (Nat.le_of_ble_eq_true rfl) ⟨by decide, by decide⟩ dX11_record_30 rfl (fun vr ur hp => ?_)
        obtain ⟨rfl, hu⟩ := hp
        replace hu := hu.symm
        subst hu
        refine j_aload_n C 0 rfl dX11_record_33 ?_
        refine j_iload_n C 1 rfl dX11_record_34 ?_
        refine j_iload_n C 2 rfl dX11_record_35 ?_
        refine j_V1 C (m_toldBy0 g kk σ 0 hk (by decide) rfl r0 (by omega) y) kyX11_toldBy tb_1282 tb_1284 sp_43 0 rfl (eM_0 g kk _) rfl (Nat.le_of_ble_eq_true rfl) ⟨by decide, by decide⟩ dX11_record_36 rfl (fun vr ur hp => ?_)
        obtain ⟨r, rfl, rfl, hu⟩ := hp
        replace hu := hu.symm
        subst hu
        refine j_istore C [(4, .int (-6)), (0, .ref (g 0)), (1, .int (nI r0)), (2, .int y), (3, .int z)] (by decide) rfl dX11_record_39 ?_
        refine j_iload C 0 rfl dX11_record_41 ?_
        refine j_if_ge C 51 (by decide) dX11_record_43 (fun c4 => ?_) (fun c4 => ?_)
        · exact absurd c4 (by decide)
        · refine j_bipush C ((-6)) (by decide) dX11_record_46 ?_
          refine j_goto C 71 (by decide) dX11_record_48 ?_
          exact j_iret C E (σ) ⟨_, rfl, Or.inr (Or.inr ⟨c1, c2, c3, rfl⟩)⟩ rfl dX11_record_71
      · replace c3 := bI_f c3
        refine j_iconst C ((-1)) (by decide) dX11_record_27 ?_
        exact j_iret C E (σ) ⟨_, rfl, Or.inr (Or.inl ⟨c1, c2, c3, rfl⟩)⟩ rfl dX11_record_28
    · replace c2 := bI_f c2
      refine j_bipush C ((-2)) (by decide) dX11_record_17 ?_
      exact j_iret C E (σ) ⟨_, rfl, Or.inl ⟨by first | exact Or.inl c1 | exact Or.inr c2, rfl⟩⟩ rfl dX11_record_19
set_option maxRecDepth 100000 in
set_option maxHeartbeats 4000000 in
theorem m_seamZ (g kk : Nat → Nat) (σ : St) (hk : σ.1 3 = nI 0) (x y : Int32) : jM (S := St) yX11_seam cX11_seam 9 (some .int) { frames := 3, cells := 0, slots := 0, locals := 71 } kk (cM g kk σ) [.ref (g 0), .int x, .int y] (cM g kk) (rI (fun r _ => (rowB x = false ∧ r = -2) ∨ (rowB x = true ∧ r = if y = -2 then nI 0 else if y = -1 then nI 0 else -6))) := by
  refine j_entry [(0, .ref (g 0)), (1, .int x), (2, .int y)] (by decide) (Nat.le_of_ble_eq_true rfl) rfl ?_
  intro X C E HI
  refine j_iload_n C 1 rfl dX11_seam_0 ?_
  refine j_S01 C (m_isRow x) kyX11_isRow tb_1278 tb_1279 rfl (Nat.le_of_ble_eq_true rfl) ⟨by decide, by decide⟩ ⟨by decide, by decide⟩ dX11_seam_1 rfl ?_
  refine j_if_ne C 10 (by decide) dX11_seam_4 (fun c1 => ?_) (fun c1 => ?_)
  · replace c1 := bI_t c1
    obtain ⟨r0, r1, r2, re⟩ := rowB_nat c1
    rw [re]
    refine j_aload_n C 0 rfl dX11_seam_10 ?_
    refine j_V1 C (m_findAllZ g kk σ hk) kyX11_findAll tb_1131 tb_1133 sp_24 0 rfl (eM_0 g kk _) rfl (Nat.le_of_ble_eq_true rfl) ⟨by decide, by decide⟩ dX11_seam_11 rfl (fun vr ur hp => ?_)
    obtain ⟨rfl, hu⟩ := hp
    replace hu := hu.symm
    subst hu
    refine j_bipush C ((-6)) (by decide) dX11_seam_14 ?_
    refine j_istore_n C [(3, .int (-6)), (0, .ref (g 0)), (1, .int (nI r0)), (2, .int y)] rfl (by decide) rfl dX11_seam_16 ?_
    refine j_iconst C (nI 0) (by decide) dX11_seam_17 ?_
    refine j_istore C [(4, .int (nI 0)), (3, .int (-6)), (0, .ref (g 0)), (1, .int (nI r0)), (2, .int y)] (by decide) rfl dX11_seam_18 ?_
    refine j_iconst C (nI 0) (by decide) dX11_seam_20 ?_
    refine j_istore C [(5, .int (nI 0)), (4, .int (nI 0)), (3, .int (-6)), (0, .ref (g 0)), (1, .int (nI r0)), (2, .int y)] (by decide) rfl dX11_seam_21 ?_
    refine j_bipush C ((-6)) (by decide) dX11_seam_23 ?_
    refine j_istore C [(6, .int (-6)), (5, .int (nI 0)), (4, .int (nI 0)), (3, .int (-6)), (0, .ref (g 0)), (1, .int (nI r0)), (2, .int y)] (by decide) rfl dX11_seam_25 ?_
    refine j_iconst C (nI 0) (by decide) dX11_seam_27 ?_
    refine j_istore C [(7, .int (nI 0)), (6, .int (-6)), (5, .int (nI 0)), (4, .int (nI 0)), (3, .int (-6)), (0, .ref (g 0)), (1, .int (nI r0)), (2, .int y)] (by decide) rfl dX11_seam_28 ?_
    have L30 : ∀ (nL30 : Nat) (d : Nat) (hd : d ≤ 28) (hmL30 : 28 - d < nL30), J X 0 0 (cM g kk σ) [(0, .ref (g 0)), (1, .int (nI r0)), (2, .int y), (3, .int (-6)), (4, .int (nI 0)), (5, .int (nI 0)), (6, .int (-6)), (7, .int (nI d))] 30 [] := by
      intro nL30
      induction nL30 with
      | zero => intro d hd hm; exact absurd hm (Nat.not_lt_zero _)
      | succ nL30 ihL30 =>
        intro d hd hmL30
        refine j_iload C 7 rfl dX11_seam_30 ?_
        refine j_bipush C (nI 28) (by decide) dX11_seam_32 ?_
        refine j_icmp_geN C 105 (by decide) (by omega) (by omega) dX11_seam_34 (fun c2 => ?_) (fun c2 => ?_)
        · refine j_iload_n C 2 rfl dX11_seam_105 ?_
          refine j_bipush C ((-2)) (by decide) dX11_seam_106 ?_
          refine j_icmp_ne C 116 (by decide) dX11_seam_108 (fun c3 => ?_) (fun c3 => ?_)
          · refine j_iload_n C 2 rfl dX11_seam_116 ?_
            refine j_iconst C ((-1)) (by decide) dX11_seam_117 ?_
            refine j_icmp_ne C 126 (by decide) dX11_seam_118 (fun c4 => ?_) (fun c4 => ?_)
            · refine j_iload C 6 rfl dX11_seam_126 ?_
              exact j_iret C E (σ) ⟨_, rfl, Or.inr ⟨c1, ((if_neg c3).trans (if_neg c4)).symm⟩⟩ rfl dX11_seam_128
            · refine j_iload C 4 rfl dX11_seam_121 ?_
              refine j_goto C 128 (by decide) dX11_seam_123 ?_
              exact j_iret C E (σ) ⟨_, rfl, Or.inr ⟨c1, ((if_neg c3).trans (if_pos c4)).symm⟩⟩ rfl dX11_seam_128
          · refine j_iload C 5 rfl dX11_seam_111 ?_
            refine j_goto C 128 (by decide) dX11_seam_113 ?_
            exact j_iret C E (σ) ⟨_, rfl, Or.inr ⟨c1, (if_pos c3).symm⟩⟩ rfl dX11_seam_128
        · refine j_aload_n C 0 rfl dX11_seam_37 ?_
          refine j_iload_n C 1 rfl dX11_seam_38 ?_
          refine j_iload C 7 rfl dX11_seam_39 ?_
          refine j_V1 C (m_toldBy0 g kk σ 0 hk (by decide) rfl r0 (by omega) (nI d)) kyX11_toldBy tb_1282 tb_1284 sp_43 0 rfl (eM_0 g kk _) rfl (Nat.le_of_ble_eq_true rfl) ⟨by decide, by decide⟩ dX11_seam_41 rfl (fun vr ur hp => ?_)
          obtain ⟨r, rfl, rfl, hu⟩ := hp
          replace hu := hu.symm
          subst hu
          refine j_istore C [(8, .int (-6)), (0, .ref (g 0)), (1, .int (nI r0)), (2, .int y), (3, .int (-6)), (4, .int (nI 0)), (5, .int (nI 0)), (6, .int (-6)), (7, .int (nI d))] (by decide) rfl dX11_seam_44 ?_
          refine j_iload C 0 rfl dX11_seam_46 ?_
          refine j_if_lt C 99 (by decide) dX11_seam_48 (fun c5 => ?_) (fun c5 => ?_)
          · refine j_iinc C (nI (d + 1)) [(7, .int (nI (d + 1))), (8, .int (-6)), (0, .ref (g 0)), (1, .int (nI r0)), (2, .int y), (3, .int (-6)), (4, .int (nI 0)), (5, .int (nI 0)), (6, .int (-6))] 8 rfl (by rw [show Int32.ofInt 1 = nI 1 from by decide, nI_add]) (by decide) rfl dX11_seam_99 ?_
            refine j_goto C 30 (by decide) dX11_seam_102 ?_
            refine j_sub (lv' := [(0, .ref (g 0)), (1, .int (nI r0)), (2, .int y), (3, .int (-6)), (4, .int (nI 0)), (5, .int (nI 0)), (6, .int (-6)), (7, .int (nI (d + 1)))]) [2, 3, 4, 5, 6, 7, 8, 0] rfl ?_
            exact ihL30 (d + 1) (by omega) (by omega)
          · exact absurd (show (-6 : Int32) < 0 by decide) c5
    refine j_sub (lv' := [(0, .ref (g 0)), (1, .int (nI r0)), (2, .int y), (3, .int (-6)), (4, .int (nI 0)), (5, .int (nI 0)), (6, .int (-6)), (7, .int (nI 0))]) [5, 6, 7, 4, 3, 2, 1, 0] rfl ?_
    exact L30 _ 0 (by decide) (Nat.lt_succ_self _)
  · replace c1 := bI_f c1
    refine j_bipush C ((-2)) (by decide) dX11_seam_7 ?_
    exact j_iret C E (σ) ⟨_, rfl, Or.inl ⟨c1, rfl⟩⟩ rfl dX11_seam_9
