theorem rect_s {x i w p : Nat} (hx : i ≤ x) (hp : p = (x - i) * w) : p + w = (x + 1 - i) * w := by
  rw [show x + 1 - i = (x - i) + 1 by omega, Nat.succ_mul, hp]
theorem rect_b {i j k l : Nat} (h1 : j ≤ 20) (h2 : l ≤ 20) : (j + 1 - i) * (l + 1 - k) ≤ 441 := Nat.le_trans (Nat.mul_le_mul (show j + 1 - i ≤ 21 by omega) (show l + 1 - k ≤ 21 by omega)) (by decide)
theorem rect_m {x i j k l : Nat} (h0 : x ≤ j + 1) (h1 : j ≤ 20) (h2 : l ≤ 20) : (x - i) * (l + 1 - k) ≤ 441 := Nat.le_trans (Nat.mul_le_mul (show x - i ≤ 21 by omega) (show l + 1 - k ≤ 21 by omega)) (by decide)
theorem flow_0 (z : Int64) : ((nI 0).toInt64 * z / 100).toInt32 = nI 0 := by
  have e : (nI 0).toInt64 = 0 := by decide
  rw [e, Int64.zero_mul]
  decide
set_option maxRecDepth 100000 in
set_option maxHeartbeats 4000000 in
theorem c_refreshZ (g kk : Nat → Nat) (σ : St) (hk : σ.1 16 = nI 0) (hs : σ.1 437 = nI 1) : jM (S := St) yX7_refresh cX7_refresh 3 none { frames := 0, cells := 0, slots := 0, locals := 0 } kk (cX g kk σ) [.ref (g 27)] (cX g kk) (rV (fun u : St => (u = sI σ 437 (nI 0)))) := by
  refine j_entry [(0, .ref (g 27))] (by decide) (Nat.le_of_ble_eq_true rfl) rfl ?_
  intro X C E HI
  refine j_aload_n C 0 rfl dX7_refresh_0 ?_
  refine gX_27_5 C tb_213 (nI 1) hs dX7_refresh_1 ?_
  refine j_if_neN C 8 (by decide) (by omega) dX7_refresh_4 (fun c1 => ?_) (fun c1 => ?_)
  · refine j_iconst C (nI 0) (by decide) dX7_refresh_8 ?_
    refine j_istore_n C [(1, .int (nI 0)), (0, .ref (g 27))] rfl (by decide) rfl dX7_refresh_9 ?_
    refine j_iload_n C 0 rfl dX7_refresh_10 ?_
    refine j_aload_n C 1 rfl dX7_refresh_11 ?_
    refine gX_27_0 C tb_198 dX7_refresh_12 ?_
    refine gX_1_0 C tb_100 (nI 0) hk dX7_refresh_15 ?_
    refine j_icmp_geN C 47 (by decide) (by omega) (by omega) dX7_refresh_18 (fun c2 => ?_) (fun c2 => ?_)
    · refine j_iconst C (nI 0) (by decide) dX7_refresh_47 ?_
      refine j_istore_n C [(1, .int (nI 0)), (0, .ref (g 27))] rfl (by decide) rfl dX7_refresh_48 ?_
      refine j_iload_n C 0 rfl dX7_refresh_49 ?_
      refine j_aload_n C 1 rfl dX7_refresh_50 ?_
      refine gX_27_0 C tb_198 dX7_refresh_51 ?_
      refine gX_1_0 C tb_100 (nI 0) hk dX7_refresh_54 ?_
      refine j_icmp_geN C 71 (by decide) (by omega) (by omega) dX7_refresh_57 (fun c3 => ?_) (fun c3 => ?_)
      · refine j_iconst C (nI 0) (by decide) dX7_refresh_71 ?_
        refine j_istore_n C [(1, .int (nI 0)), (0, .ref (g 27))] rfl (by decide) rfl dX7_refresh_72 ?_
        refine j_iload_n C 0 rfl dX7_refresh_73 ?_
        refine j_aload_n C 1 rfl dX7_refresh_74 ?_
        refine gX_27_0 C tb_198 dX7_refresh_75 ?_
        refine gX_1_0 C tb_100 (nI 0) hk dX7_refresh_78 ?_
        refine j_icmp_geN C 95 (by decide) (by omega) (by omega) dX7_refresh_81 (fun c4 => ?_) (fun c4 => ?_)
        · refine j_aload_n C 1 rfl dX7_refresh_95 ?_
          refine j_iconst C (nI 0) (by decide) dX7_refresh_96 ?_
          refine pX_27_5 C tb_213 rfl rfl dX7_refresh_97 ?_
          exact j_vret C E (sI σ 437 (nI 0)) ⟨rfl, rfl⟩ rfl dX7_refresh_100
        · exact absurd c4 (by decide)
      · exact absurd c3 (by decide)
    · exact absurd c2 (by decide)
  · exact absurd c1 (by decide)
set_option maxRecDepth 100000 in
set_option maxHeartbeats 4000000 in
theorem c_gatherZ (g kk : Nat → Nat) (σ : St) (hk : σ.1 16 = nI 0) (hra : σ.1 256 = nI 0) (x : Int32) : jM (S := St) yX4_gather cX4_gather 4 none { frames := 0, cells := 0, slots := 0, locals := 0 } kk (cX g kk σ) [.ref (g 42), .int x] (cX g kk) (rV (fun u : St => (u = sI σ 678 (nI 0)))) := by
  refine j_entry [(0, .ref (g 42)), (1, .int x)] (by decide) (Nat.le_of_ble_eq_true rfl) rfl ?_
  intro X C E HI
  refine j_aload_n C 0 rfl dX4_gather_0 ?_
  refine j_iconst C (nI 0) (by decide) dX4_gather_1 ?_
  refine pX_42_6 C tb_318 dX4_gather_2 ?_
  refine j_iconst C (nI 0) (by decide) dX4_gather_5 ?_
  refine j_istore_n C [(2, .int (nI 0)), (0, .ref (g 42)), (1, .int x)] rfl (by decide) rfl dX4_gather_6 ?_
  refine j_iload_n C 0 rfl dX4_gather_7 ?_
  refine j_aload_n C 1 rfl dX4_gather_8 ?_
  refine gX_42_1 C tb_313 dX4_gather_9 ?_
  refine gX_1_0 C tb_98 (nI 0) hk dX4_gather_12 ?_
  refine j_icmp_geN C 68 (by decide) (by omega) (by omega) dX4_gather_15 (fun c1 => ?_) (fun c1 => ?_)
  · refine j_aload_n C 1 rfl dX4_gather_68 ?_
    refine gX_42_1 C tb_313 dX4_gather_69 ?_
    refine gX_1_11 C tb_135 dX4_gather_72 ?_
    refine j_astore_n C [(2, .ref (g 16)), (0, .ref (g 42)), (1, .int x)] rfl (by decide) rfl dX4_gather_75 ?_
    refine j_iconst C (nI 0) (by decide) dX4_gather_76 ?_
    refine j_istore_n C [(3, .int (nI 0)), (2, .ref (g 16)), (0, .ref (g 42)), (1, .int x)] rfl (by decide) rfl dX4_gather_77 ?_
    refine j_iload_n C 0 rfl dX4_gather_78 ?_
    refine j_aload_n C 1 rfl dX4_gather_79 ?_
    refine gX_16_0 C tb_66 (nI 0) hra dX4_gather_80 ?_
    refine j_icmp_geN C 130 (by decide) (by omega) (by omega) dX4_gather_83 (fun c2 => ?_) (fun c2 => ?_)
    · exact j_vret C E (sI σ 678 (nI 0)) ⟨rfl, rfl⟩ rfl dX4_gather_130
    · exact absurd c2 (by decide)
  · exact absurd c1 (by decide)
set_option maxRecDepth 100000 in
set_option maxHeartbeats 4000000 in
theorem c_boundsAtZ (g kk : Nat → Nat) (σ : St) (ha : σ.1 678 = nI 0) (x y : Int32) : jM (S := St) yX4_boundsAt cX4_boundsAt 5 (some .boolean) { frames := 0, cells := 0, slots := 0, locals := 0 } kk (cX g kk σ) [.ref (g 42), .int x, .int y] (cX g kk) (rI (fun (r : Int32) (u : St) => (r = (nI 1) ∧ u = sI (sI σ 679 (nI 0)) 680 (nI 9999)))) := by
  refine j_entry [(0, .ref (g 42)), (1, .int x), (2, .int y)] (by decide) (Nat.le_of_ble_eq_true rfl) rfl ?_
  intro X C E HI
  refine j_aload_n C 0 rfl dX4_boundsAt_0 ?_
  refine j_iconst C (nI 0) (by decide) dX4_boundsAt_1 ?_
  refine pX_42_7 C tb_319 dX4_boundsAt_2 ?_
  refine j_aload_n C 0 rfl dX4_boundsAt_5 ?_
  refine j_sipush C (nI 9999) (by decide) dX4_boundsAt_6 ?_
  refine pX_42_8 C tb_321 dX4_boundsAt_9 ?_
  refine j_iconst C (nI 0) (by decide) dX4_boundsAt_12 ?_
  refine j_istore_n C [(3, .int (nI 0)), (0, .ref (g 42)), (1, .int x), (2, .int y)] rfl (by decide) rfl dX4_boundsAt_13 ?_
  refine j_iload_n C 0 rfl dX4_boundsAt_14 ?_
  refine j_aload_n C 1 rfl dX4_boundsAt_15 ?_
  refine gX_42_6 C tb_318 (nI 0) ha dX4_boundsAt_16 ?_
  refine j_icmp_geN C 97 (by decide) (by omega) (by omega) dX4_boundsAt_19 (fun c1 => ?_) (fun c1 => ?_)
  · refine j_aload_n C 1 rfl dX4_boundsAt_97 ?_
    refine gX_42_7 C tb_319 (nI 0) rfl dX4_boundsAt_98 ?_
    refine j_aload_n C 1 rfl dX4_boundsAt_101 ?_
    refine gX_42_8 C tb_321 (nI 9999) rfl dX4_boundsAt_102 ?_
    refine j_icmp_gtN C 112 (by decide) (by omega) (by omega) dX4_boundsAt_105 (fun c2 => ?_) (fun c2 => ?_)
    · exact absurd c2 (by decide)
    · refine j_iconst C (nI 1) (by decide) dX4_boundsAt_108 ?_
      refine j_goto C 113 (by decide) dX4_boundsAt_109 ?_
      exact j_zret C E (by first | rfl | decide) (sI (sI σ 679 (nI 0)) 680 (nI 9999)) ⟨_, rfl, ⟨rfl, rfl⟩⟩ rfl dX4_boundsAt_113
  · exact absurd c1 (by decide)
set_option maxRecDepth 100000 in
set_option maxHeartbeats 4000000 in
theorem c_boundZ (g kk : Nat → Nat) (σ : St) (hk : σ.1 16 = nI 0) (hs : σ.1 437 = nI 1) (hra : σ.1 256 = nI 0) (a b c d : Int32) : jM (S := St) yX10_bound cX10_bound 5 (some .int) { frames := 2, cells := 0, slots := 0, locals := 43 } kk (cX g kk σ) [.ref (g 0), .int a, .int b, .int c, .int d] (cX g kk) (rI (fun (r : Int32) (u : St) => (((wB a (nI 0) (nI 27)) = true) ∧ ((wB b (nI 0) (nI 20) && wB c (nI 0) (nI 20)) = false) ∧ r = (-2) ∧ u = σ) ∨ (((wB a (nI 0) (nI 27)) = true) ∧ ((wB b (nI 0) (nI 20) && wB c (nI 0) (nI 20)) = true) ∧ ((wB d (nI 0) (nI 1)) = true) ∧ (¬ d = 0) ∧ r = (nI 9999) ∧ u = sI (sI (sI (sI σ 437 (nI 0)) 678 (nI 0)) 679 (nI 0)) 680 (nI 9999)) ∨ (((wB a (nI 0) (nI 27)) = true) ∧ ((wB b (nI 0) (nI 20) && wB c (nI 0) (nI 20)) = true) ∧ ((wB d (nI 0) (nI 1)) = true) ∧ (d = 0) ∧ r = (nI 0) ∧ u = sI (sI (sI (sI σ 437 (nI 0)) 678 (nI 0)) 679 (nI 0)) 680 (nI 9999)) ∨ (((wB a (nI 0) (nI 27)) = true) ∧ ((wB b (nI 0) (nI 20) && wB c (nI 0) (nI 20)) = true) ∧ ((wB d (nI 0) (nI 1)) = false) ∧ r = (-2) ∧ u = σ) ∨ (((wB a (nI 0) (nI 27)) = false) ∧ r = (-1) ∧ u = σ))) := by
  refine j_entry [(0, .ref (g 0)), (1, .int a), (2, .int b), (3, .int c), (4, .int d)] (by decide) (Nat.le_of_ble_eq_true rfl) rfl ?_
  intro X C E HI
  refine j_iload_n C 1 rfl dX10_bound_0 ?_
  refine j_S01 C (c_isDay a) kyX10_isDay tb_486 tb_487 rfl (Nat.le_of_ble_eq_true rfl) ⟨by decide, by decide⟩ ⟨by decide, by decide⟩ dX10_bound_1 rfl ?_
  refine j_if_ne C 9 (by decide) dX10_bound_4 (fun c1 => ?_) (fun c1 => ?_)
  · replace c1 := bI_t c1
    refine j_iload_n C 2 rfl dX10_bound_9 ?_
    refine j_iload_n C 3 rfl dX10_bound_10 ?_
    refine j_S01 C (c_isPlace b c) kyX10_isPlace tb_464 tb_465 rfl (Nat.le_of_ble_eq_true rfl) ⟨by decide, by decide⟩ ⟨by decide, by decide⟩ dX10_bound_11 rfl ?_
    refine j_if_eq C 27 (by decide) dX10_bound_14 (fun c2 => ?_) (fun c2 => ?_)
    · replace c2 := bI_f c2
      refine j_bipush C ((-2)) (by decide) dX10_bound_27 ?_
      exact j_iret C E (σ) ⟨_, rfl, Or.inl ⟨c1, c2, rfl, rfl⟩⟩ rfl dX10_bound_29
    · replace c2 := bI_t c2
      refine j_iload C 4 rfl dX10_bound_17 ?_
      refine j_iconst C (nI 0) (by decide) dX10_bound_19 ?_
      refine j_iconst C (nI 1) (by decide) dX10_bound_20 ?_
      refine j_S01 C (c_isWithin d (nI 0) (nI 1)) kyX10_isWithin tb_467 tb_468 rfl (Nat.le_of_ble_eq_true rfl) ⟨by decide, by decide⟩ ⟨by decide, by decide⟩ dX10_bound_21 rfl ?_
      refine j_if_ne C 30 (by decide) dX10_bound_24 (fun c3 => ?_) (fun c3 => ?_)
      · replace c3 := bI_t c3
        refine j_aload_n C 0 rfl dX10_bound_30 ?_
        refine gX_0_2 C tb_430 dX10_bound_31 ?_
        refine j_V1 C (c_refreshZ g kk σ hk hs) kyX7_refresh tb_562 tb_563 tb_564 27 rfl (eX_27 g kk _) rfl (Nat.le_of_ble_eq_true rfl) ⟨by decide, by decide⟩ dX10_bound_34 rfl (fun vr ur hp => ?_)
        obtain ⟨rfl, hu⟩ := hp
        replace hu := hu.symm
        subst hu
        refine j_aload_n C 0 rfl dX10_bound_37 ?_
        refine gX_0_5 C tb_433 dX10_bound_38 ?_
        refine j_iload_n C 1 rfl dX10_bound_41 ?_
        refine j_V1 C (c_gatherZ g kk (sI σ 437 (nI 0)) hk hra a) kyX4_gather tb_712 tb_713 tb_714 42 rfl (eX_42 g kk _) rfl (Nat.le_of_ble_eq_true rfl) ⟨by decide, by decide⟩ dX10_bound_42 rfl (fun vr ur hp => ?_)
        obtain ⟨rfl, hu⟩ := hp
        replace hu := hu.symm
        subst hu
        refine j_aload_n C 0 rfl dX10_bound_45 ?_
        refine gX_0_5 C tb_433 dX10_bound_46 ?_
        refine j_iload_n C 2 rfl dX10_bound_49 ?_
        refine j_iload_n C 3 rfl dX10_bound_50 ?_
        refine j_V1 C (c_boundsAtZ g kk (sI (sI σ 437 (nI 0)) 678 (nI 0)) rfl b c) kyX4_boundsAt tb_720 tb_721 tb_722 42 rfl (eX_42 g kk _) rfl (Nat.le_of_ble_eq_true rfl) ⟨by decide, by decide⟩ dX10_bound_51 rfl (fun vr ur hp => ?_)
        obtain ⟨r, rfl, rfl, hu⟩ := hp
        replace hu := hu.symm
        subst hu
        refine j_if_neN C 60 (by decide) (by omega) dX10_bound_54 (fun c4 => ?_) (fun c4 => ?_)
        · refine j_iload C 4 rfl dX10_bound_60 ?_
          refine j_if_ne C 75 (by decide) dX10_bound_62 (fun c5 => ?_) (fun c5 => ?_)
          · refine j_aload_n C 0 rfl dX10_bound_75 ?_
            refine gX_0_5 C tb_433 dX10_bound_76 ?_
            refine gX_42_8 C tb_322 (nI 9999) rfl dX10_bound_79 ?_
            exact j_iret C E (sI (sI (sI (sI σ 437 (nI 0)) 678 (nI 0)) 679 (nI 0)) 680 (nI 9999)) ⟨_, rfl, Or.inr (Or.inl ⟨c1, c2, c3, c5, rfl, rfl⟩)⟩ rfl dX10_bound_82
          · refine j_aload_n C 0 rfl dX10_bound_65 ?_
            refine gX_0_5 C tb_433 dX10_bound_66 ?_
            refine gX_42_7 C tb_320 (nI 0) rfl dX10_bound_69 ?_
            refine j_goto C 82 (by decide) dX10_bound_72 ?_
            exact j_iret C E (sI (sI (sI (sI σ 437 (nI 0)) 678 (nI 0)) 679 (nI 0)) 680 (nI 9999)) ⟨_, rfl, Or.inr (Or.inr (Or.inl ⟨c1, c2, c3, c5, rfl, rfl⟩))⟩ rfl dX10_bound_82
        · exact absurd c4 (by decide)
      · replace c3 := bI_f c3
        refine j_bipush C ((-2)) (by decide) dX10_bound_27 ?_
        exact j_iret C E (σ) ⟨_, rfl, Or.inr (Or.inr (Or.inr (Or.inl ⟨c1, c2, c3, rfl, rfl⟩)))⟩ rfl dX10_bound_29
  · replace c1 := bI_f c1
    refine j_iconst C ((-1)) (by decide) dX10_bound_7 ?_
    exact j_iret C E (σ) ⟨_, rfl, Or.inr (Or.inr (Or.inr (Or.inr (⟨c1, rfl, rfl⟩))))⟩ rfl dX10_bound_8
set_option maxRecDepth 100000 in
set_option maxHeartbeats 4000000 in
theorem c_sumZ (g kk : Nat → Nat) (σ : St) (ha : σ.1 678 = nI 0) (i j k l : Nat) (hij : i ≤ j) (hj : j ≤ 20) (hkl : k ≤ l) (hl : l ≤ 20) : jM (S := St) yX4_sum cX4_sum 7 (some .boolean) { frames := 1, cells := 0, slots := 0, locals := 24 } kk (cX g kk σ) [.ref (g 42), .int (nI i), .int (nI j), .int (nI k), .int (nI l)] (cX g kk) (rI (fun r u => r = nI 1 ∧ ∃ a b : Int32, u = sI (sI (sI (sI σ 681 (nI 0)) 682 (nI (9999 * ((j + 1 - i) * (l + 1 - k))))) 679 a) 680 b)) := by
  refine j_entry [(0, .ref (g 42)), (1, .int (nI i)), (2, .int (nI j)), (3, .int (nI k)), (4, .int (nI l))] (by decide) (Nat.le_of_ble_eq_true rfl) rfl ?_
  intro X C E HI
  refine j_aload_n C 0 rfl dX4_sum_0 ?_
  refine j_iconst C (nI 0) (by decide) dX4_sum_1 ?_
  refine pX_42_9 C tb_323 dX4_sum_2 ?_
  refine j_aload_n C 0 rfl dX4_sum_5 ?_
  refine j_iconst C (nI 0) (by decide) dX4_sum_6 ?_
  refine pX_42_10 C tb_325 dX4_sum_7 ?_
  refine j_iload_n C 1 rfl dX4_sum_10 ?_
  refine j_istore C [(5, .int (nI i)), (0, .ref (g 42)), (1, .int (nI i)), (2, .int (nI j)), (3, .int (nI k)), (4, .int (nI l))] (by decide) rfl dX4_sum_11 ?_
  have L13 : ∀ (nL13 : Nat) (x p t : Nat) (p1 p2 : Int32) (h1 : i ≤ x) (h2 : x ≤ j + 1) (h3 : p = (x - i) * (l + 1 - k)) (h4 : t = 9999 * p) (hmL13 : j + 1 - x < nL13), J X 0 0 (cX g kk (sI (sI (sI (sI (sI (sI σ 681 (nI 0)) 682 (nI 0)) 679 p1) 680 p2) 681 (nI 0)) 682 (nI t))) [(0, .ref (g 42)), (1, .int (nI i)), (2, .int (nI j)), (3, .int (nI k)), (4, .int (nI l)), (5, .int (nI x))] 13 [] := by
    intro nL13
    induction nL13 with
    | zero => intro x p t p1 p2 h1 h2 h3 h4 hm; exact absurd hm (Nat.not_lt_zero _)
    | succ nL13 ihL13 =>
      intro x p t p1 p2 h1 h2 h3 h4 hmL13
      refine j_iload C 5 rfl dX4_sum_13 ?_
      refine j_iload_n C 2 rfl dX4_sum_15 ?_
      refine j_icmp_gtN C 80 (by decide) (by omega) (by omega) dX4_sum_16 (fun c1 => ?_) (fun c1 => ?_)
      · have ex : x = j + 1 := by omega
        subst ex
        subst h3
        subst h4
        refine j_iconst C (nI 1) (by decide) dX4_sum_80 ?_
        exact j_zret C E (by first | rfl | decide) (_) ⟨_, rfl, rfl, p1, p2, rfl⟩ rfl dX4_sum_81
      · refine j_iload_n C 3 rfl dX4_sum_19 ?_
        refine j_istore C [(6, .int (nI k)), (0, .ref (g 42)), (1, .int (nI i)), (2, .int (nI j)), (3, .int (nI k)), (4, .int (nI l)), (5, .int (nI x))] (by decide) rfl dX4_sum_20 ?_
        have L22 : ∀ (nL22 : Nat) (y t2 : Nat) (p3 p4 : Int32) (g1 : k ≤ y) (g2 : y ≤ l + 1) (g4 : t2 = 9999 * (p + (y - k))) (hmL22 : l + 1 - y < nL22), J X 0 0 (cX g kk (sI (sI (sI (sI (sI (sI (sI (sI (sI (sI σ 681 (nI 0)) 682 (nI 0)) 679 p1) 680 p2) 681 (nI 0)) 682 (nI t)) 679 p3) 680 p4) 681 (nI 0)) 682 (nI t2))) [(0, .ref (g 42)), (1, .int (nI i)), (2, .int (nI j)), (3, .int (nI k)), (4, .int (nI l)), (5, .int (nI x)), (6, .int (nI y))] 22 [] := by
          intro nL22
          induction nL22 with
          | zero => intro y t2 p3 p4 g1 g2 g4 hm; exact absurd hm (Nat.not_lt_zero _)
          | succ nL22 ihL22 =>
            intro y t2 p3 p4 g1 g2 g4 hmL22
            have gp := rect_m (i := i) (k := k) h2 hj hl
            rw [← h3] at gp
            refine j_iload C 6 rfl dX4_sum_22 ?_
            refine j_iload C 4 rfl dX4_sum_24 ?_
            refine j_icmp_gtN C 74 (by decide) (by omega) (by omega) dX4_sum_26 (fun c2 => ?_) (fun c2 => ?_)
            · refine j_iinc C (nI (x + 1)) [(5, .int (nI (x + 1))), (0, .ref (g 42)), (1, .int (nI i)), (2, .int (nI j)), (3, .int (nI k)), (4, .int (nI l)), (6, .int (nI y))] 5 rfl (by rw [show Int32.ofInt 1 = nI 1 from by decide, nI_add]) (by decide) rfl dX4_sum_74 ?_
              refine j_goto C 13 (by decide) dX4_sum_77 ?_
              refine j_sub (lv' := [(0, .ref (g 42)), (1, .int (nI i)), (2, .int (nI j)), (3, .int (nI k)), (4, .int (nI l)), (5, .int (nI (x + 1)))]) [1, 2, 3, 4, 5, 0] rfl ?_
              refine j_w (cX g kk (sI (sI (sI (sI (sI (sI σ 681 (nI 0)) 682 (nI 0)) 679 p3) 680 p4) 681 (nI 0)) 682 (nI t2))) rfl ?_
              exact ihL13 (x + 1) (p + (l + 1 - k)) t2 _ _ (by omega) (by omega) (rect_s h1 h3) (by omega) (by omega)
            · refine j_aload_n C 0 rfl dX4_sum_29 ?_
              refine j_iload C 5 rfl dX4_sum_30 ?_
              refine j_iload C 6 rfl dX4_sum_32 ?_
              refine j_V1 C (c_boundsAtZ g kk (sI (sI (sI (sI (sI (sI (sI (sI (sI (sI σ 681 (nI 0)) 682 (nI 0)) 679 p1) 680 p2) 681 (nI 0)) 682 (nI t)) 679 p3) 680 p4) 681 (nI 0)) 682 (nI t2)) ha (nI x) (nI y)) kyX4_boundsAt tb_740 tb_721 tb_722 42 rfl (eX_42 g kk _) rfl (Nat.le_of_ble_eq_true rfl) ⟨by decide, by decide⟩ dX4_sum_34 rfl (fun vr ur hp => ?_)
              obtain ⟨r, rfl, rfl, hu⟩ := hp
              replace hu := hu.symm
              subst hu
              refine j_if_neN C 42 (by decide) (by omega) dX4_sum_37 (fun c3 => ?_) (fun c3 => ?_)
              · refine j_aload_n C 0 rfl dX4_sum_42 ?_
                refine j_dup C rfl dX4_sum_43 ?_
                refine gX_42_9 C tb_323 (nI 0) rfl dX4_sum_44 ?_
                refine j_aload_n C 0 rfl dX4_sum_47 ?_
                refine gX_42_7 C tb_319 (nI 0) rfl dX4_sum_48 ?_
                refine j_iaddN C dX4_sum_51 ?_
                refine pX_42_9 C tb_323 dX4_sum_52 ?_
                refine j_aload_n C 0 rfl dX4_sum_55 ?_
                refine j_dup C rfl dX4_sum_56 ?_
                refine gX_42_10 C tb_325 (nI t2) rfl dX4_sum_57 ?_
                refine j_aload_n C 0 rfl dX4_sum_60 ?_
                refine gX_42_8 C tb_321 (nI 9999) rfl dX4_sum_61 ?_
                refine j_iaddN C dX4_sum_64 ?_
                refine pX_42_10 C tb_325 dX4_sum_65 ?_
                refine j_iinc C (nI (y + 1)) [(6, .int (nI (y + 1))), (0, .ref (g 42)), (1, .int (nI i)), (2, .int (nI j)), (3, .int (nI k)), (4, .int (nI l)), (5, .int (nI x))] 6 rfl (by rw [show Int32.ofInt 1 = nI 1 from by decide, nI_add]) (by decide) rfl dX4_sum_68 ?_
                refine j_goto C 22 (by decide) dX4_sum_71 ?_
                refine j_sub (lv' := [(0, .ref (g 42)), (1, .int (nI i)), (2, .int (nI j)), (3, .int (nI k)), (4, .int (nI l)), (5, .int (nI x)), (6, .int (nI (y + 1)))]) [1, 2, 3, 4, 5, 6, 0] rfl ?_
                refine j_w (cX g kk (sI (sI (sI (sI (sI (sI (sI (sI (sI (sI σ 681 (nI 0)) 682 (nI 0)) 679 p1) 680 p2) 681 (nI 0)) 682 (nI t)) 679 (nI 0)) 680 (nI 9999)) 681 (nI 0)) 682 (nI (t2 + 9999)))) rfl ?_
                exact ihL22 (y + 1) (t2 + 9999) _ _ (by omega) (by omega) (by omega) (by omega)
              · exact absurd c3 (by decide)
        refine j_sub (lv' := [(0, .ref (g 42)), (1, .int (nI i)), (2, .int (nI j)), (3, .int (nI k)), (4, .int (nI l)), (5, .int (nI x)), (6, .int (nI k))]) [1, 2, 3, 4, 5, 6, 0] rfl ?_
        refine j_w (cX g kk (sI (sI (sI (sI (sI (sI (sI (sI (sI (sI σ 681 (nI 0)) 682 (nI 0)) 679 p1) 680 p2) 681 (nI 0)) 682 (nI t)) 679 p1) 680 p2) 681 (nI 0)) 682 (nI t))) rfl ?_
        exact L22 _ k t _ _ (Nat.le_refl _) (by omega) (by omega) (Nat.lt_succ_self _)
  refine j_sub (lv' := [(0, .ref (g 42)), (1, .int (nI i)), (2, .int (nI j)), (3, .int (nI k)), (4, .int (nI l)), (5, .int (nI i))]) [1, 2, 3, 4, 5, 0] rfl ?_
  refine j_w (cX g kk (sI (sI (sI (sI (sI (sI σ 681 (nI 0)) 682 (nI 0)) 679 (σ.1 679)) 680 (σ.1 680)) 681 (nI 0)) 682 (nI 0))) rfl ?_
  exact L13 _ i 0 0 _ _ (Nat.le_refl _) (by omega) (by rw [Nat.sub_self, Nat.zero_mul]) rfl (Nat.lt_succ_self _)
set_option maxRecDepth 100000 in
set_option maxHeartbeats 4000000 in
theorem c_overZ (g kk : Nat → Nat) (σ : St) (hk : σ.1 16 = nI 0) (hs : σ.1 437 = nI 1) (hra : σ.1 256 = nI 0) (q a b c d z : Int32) : jM (S := St) yX10_over cX10_over 7 (some .int) { frames := 3, cells := 0, slots := 0, locals := 66 } kk (cX g kk σ) [.ref (g 0), .int q, .int a, .int b, .int c, .int d, .int z] (cX g kk) (rI (fun r _ => (wB q (nI 0) (nI 27) = false ∧ r = -1) ∨ (wB q (nI 0) (nI 27) = true ∧ (ldB a b c d = false ∨ wB z (nI 0) (nI 1) = false) ∧ r = -2) ∨ (wB q (nI 0) (nI 27) = true ∧ wB z (nI 0) (nI 1) = true ∧ ∃ i j k l : Nat, i ≤ j ∧ j ≤ 20 ∧ k ≤ l ∧ l ≤ 20 ∧ a = nI i ∧ b = nI j ∧ c = nI k ∧ d = nI l ∧ r = if z = 0 then nI 0 else nI (9999 * ((j + 1 - i) * (l + 1 - k)))))) := by
  refine j_entry [(0, .ref (g 0)), (1, .int q), (2, .int a), (3, .int b), (4, .int c), (5, .int d), (6, .int z)] (by decide) (Nat.le_of_ble_eq_true rfl) rfl ?_
  intro X C E HI
  refine j_iload_n C 1 rfl dX10_over_0 ?_
  refine j_S01 C (c_isDay q) kyX10_isDay tb_486 tb_487 rfl (Nat.le_of_ble_eq_true rfl) ⟨by decide, by decide⟩ ⟨by decide, by decide⟩ dX10_over_1 rfl ?_
  refine j_if_ne C 9 (by decide) dX10_over_4 (fun c1 => ?_) (fun c1 => ?_)
  · replace c1 := bI_t c1
    refine j_iload_n C 2 rfl dX10_over_9 ?_
    refine j_iload_n C 3 rfl dX10_over_10 ?_
    refine j_iload C 4 rfl dX10_over_11 ?_
    refine j_iload C 5 rfl dX10_over_13 ?_
    refine j_S01 C (c_isLand a b c d) kyX10_isLand tb_733 tb_734 rfl (Nat.le_of_ble_eq_true rfl) ⟨by decide, by decide⟩ ⟨by decide, by decide⟩ dX10_over_15 rfl ?_
    refine j_if_eq C 31 (by decide) dX10_over_18 (fun c2 => ?_) (fun c2 => ?_)
    · replace c2 := bI_f c2
      refine j_bipush C ((-2)) (by decide) dX10_over_31 ?_
      exact j_iret C E (σ) ⟨_, rfl, Or.inr (Or.inl ⟨c1, by first | exact Or.inl c2 | exact Or.inr c3, rfl⟩)⟩ rfl dX10_over_33
    · replace c2 := bI_t c2
      refine j_iload C 6 rfl dX10_over_21 ?_
      refine j_iconst C (nI 0) (by decide) dX10_over_23 ?_
      refine j_iconst C (nI 1) (by decide) dX10_over_24 ?_
      refine j_S01 C (c_isWithin z (nI 0) (nI 1)) kyX10_isWithin tb_467 tb_468 rfl (Nat.le_of_ble_eq_true rfl) ⟨by decide, by decide⟩ ⟨by decide, by decide⟩ dX10_over_25 rfl ?_
      refine j_if_ne C 34 (by decide) dX10_over_28 (fun c3 => ?_) (fun c3 => ?_)
      · replace c3 := bI_t c3
        obtain ⟨i, j, k, l, hij, hj, hkl, hl, e1, e2, e3, e4⟩ := ldB_nat c2
        rw [e1, e2, e3, e4]
        refine j_aload_n C 0 rfl dX10_over_34 ?_
        refine gX_0_2 C tb_430 dX10_over_35 ?_
        refine j_V1 C (c_refreshZ g kk σ hk hs) kyX7_refresh tb_562 tb_563 tb_564 27 rfl (eX_27 g kk _) rfl (Nat.le_of_ble_eq_true rfl) ⟨by decide, by decide⟩ dX10_over_38 rfl (fun vr ur hp => ?_)
        obtain ⟨rfl, hu⟩ := hp
        replace hu := hu.symm
        subst hu
        refine j_aload_n C 0 rfl dX10_over_41 ?_
        refine gX_0_5 C tb_433 dX10_over_42 ?_
        refine j_iload_n C 1 rfl dX10_over_45 ?_
        refine j_V1 C (c_gatherZ g kk (sI σ 437 (nI 0)) hk hra q) kyX4_gather tb_712 tb_713 tb_714 42 rfl (eX_42 g kk _) rfl (Nat.le_of_ble_eq_true rfl) ⟨by decide, by decide⟩ dX10_over_46 rfl (fun vr ur hp => ?_)
        obtain ⟨rfl, hu⟩ := hp
        replace hu := hu.symm
        subst hu
        refine j_aload_n C 0 rfl dX10_over_49 ?_
        refine gX_0_5 C tb_433 dX10_over_50 ?_
        refine j_iload_n C 2 rfl dX10_over_53 ?_
        refine j_iload_n C 3 rfl dX10_over_54 ?_
        refine j_iload C 4 rfl dX10_over_55 ?_
        refine j_iload C 5 rfl dX10_over_57 ?_
        refine j_V1 C (c_sumZ g kk (sI (sI σ 437 (nI 0)) 678 (nI 0)) rfl i j k l hij hj hkl hl) kyX4_sum tb_736 tb_737 tb_738 42 rfl (eX_42 g kk _) rfl (Nat.le_of_ble_eq_true rfl) ⟨by decide, by decide⟩ dX10_over_59 rfl (fun vr ur hp => ?_)
        obtain ⟨r, rfl, rfl, pa, pb, hu⟩ := hp
        replace hu := hu.symm
        subst hu
        refine j_if_neN C 68 (by decide) (by omega) dX10_over_62 (fun c4 => ?_) (fun c4 => ?_)
        · refine j_iload C 6 rfl dX10_over_68 ?_
          refine j_if_ne C 83 (by decide) dX10_over_70 (fun c5 => ?_) (fun c5 => ?_)
          · refine j_aload_n C 0 rfl dX10_over_83 ?_
            refine gX_0_5 C tb_433 dX10_over_84 ?_
            refine gX_42_10 C tb_326 (nI (9999 * ((j + 1 - i) * (l + 1 - k)))) rfl dX10_over_87 ?_
            exact j_iret C E (sI (sI (sI (sI (sI (sI σ 437 (nI 0)) 678 (nI 0)) 681 (nI 0)) 682 (nI (9999 * ((j + 1 - i) * (l + 1 - k))))) 679 pa) 680 pb) ⟨_, rfl, Or.inr (Or.inr ⟨c1, c3, i, j, k, l, hij, hj, hkl, hl, e1, e2, e3, e4, by rw [if_neg c5]⟩)⟩ rfl dX10_over_90
          · refine j_aload_n C 0 rfl dX10_over_73 ?_
            refine gX_0_5 C tb_433 dX10_over_74 ?_
            refine gX_42_9 C tb_324 (nI 0) rfl dX10_over_77 ?_
            refine j_goto C 90 (by decide) dX10_over_80 ?_
            exact j_iret C E (sI (sI (sI (sI (sI (sI σ 437 (nI 0)) 678 (nI 0)) 681 (nI 0)) 682 (nI (9999 * ((j + 1 - i) * (l + 1 - k))))) 679 pa) 680 pb) ⟨_, rfl, Or.inr (Or.inr ⟨c1, c3, i, j, k, l, hij, hj, hkl, hl, e1, e2, e3, e4, by rw [if_pos c5]⟩)⟩ rfl dX10_over_90
        · exact absurd c4 (by decide)
      · replace c3 := bI_f c3
        refine j_bipush C ((-2)) (by decide) dX10_over_31 ?_
        exact j_iret C E (σ) ⟨_, rfl, Or.inr (Or.inl ⟨c1, by first | exact Or.inl c2 | exact Or.inr c3, rfl⟩)⟩ rfl dX10_over_33
  · replace c1 := bI_f c1
    refine j_iconst C ((-1)) (by decide) dX10_over_7 ?_
    exact j_iret C E (σ) ⟨_, rfl, Or.inl ⟨c1, rfl⟩⟩ rfl dX10_over_8
set_option maxRecDepth 100000 in
set_option maxHeartbeats 4000000 in
theorem c_beyondZ (g kk : Nat → Nat) (σ : St) (S p f : Nat) (h1 : σ.1 681 = nI 0) (h2 : σ.1 682 = nI S) (hS : S ≤ 4409559) (hp : p ≤ 100) (hf : f ≤ 9999999) : jM (S := St) yX4_beyond cX4_beyond 4 (some .int) { frames := 0, cells := 0, slots := 0, locals := 0 } kk (cX g kk σ) [.ref (g 42), .int (nI p), .int (nI f)] (cX g kk) (rI (fun r u => r = (if f ≤ S then nI 0 else nI f - nI S) ∧ u = σ)) := by
  refine j_entry [(0, .ref (g 42)), (1, .int (nI p)), (2, .int (nI f))] (by decide) (Nat.le_of_ble_eq_true rfl) rfl ?_
  intro X C E HI
  refine j_aload_n C 0 rfl dX4_beyond_0 ?_
  refine gX_42_9 C tb_323 (nI 0) h1 dX4_beyond_1 ?_
  refine j_bipush C (nI 100) (by decide) dX4_beyond_4 ?_
  refine j_iload_n C 1 rfl dX4_beyond_6 ?_
  refine j_isubN C (by omega) dX4_beyond_7 ?_
  refine j_imulN C dX4_beyond_8 ?_
  refine j_bipush C (nI 100) (by decide) dX4_beyond_9 ?_
  refine j_idivN C (by omega) (by omega) (by omega) dX4_beyond_11 ?_
  refine j_istore_n C [(3, .int (nI ((0 * (100 - p)) / 100))), (0, .ref (g 42)), (1, .int (nI p)), (2, .int (nI f))] rfl (by decide) rfl dX4_beyond_12 ?_
  refine j_iload_n C 3 rfl dX4_beyond_13 ?_
  refine j_aload_n C 1 rfl dX4_beyond_14 ?_
  refine gX_42_10 C tb_325 (nI S) h2 dX4_beyond_15 ?_
  refine j_icmp_leN C 28 (by decide) (by omega) (by omega) dX4_beyond_18 (fun c1 => ?_) (fun c1 => ?_)
  · refine j_iload_n C 3 rfl dX4_beyond_28 ?_
    refine j_iload_n C 0 rfl dX4_beyond_29 ?_
    refine j_icmp_geN C 39 (by decide) (by omega) (by omega) dX4_beyond_30 (fun c2 => ?_) (fun c2 => ?_)
    · refine j_iconst C (nI 0) (by decide) dX4_beyond_39 ?_
      exact j_iret C E (σ) ⟨_, rfl, (if_pos (by omega)).symm, rfl⟩ rfl dX4_beyond_40
    · exact absurd c2 (by omega)
  · refine j_iload_n C 3 rfl dX4_beyond_21 ?_
    refine j_aload_n C 1 rfl dX4_beyond_22 ?_
    refine gX_42_10 C tb_325 (nI S) h2 dX4_beyond_23 ?_
    refine j_isub C dX4_beyond_26 ?_
    exact j_iret C E (σ) ⟨_, rfl, (if_neg (by omega)).symm, rfl⟩ rfl dX4_beyond_27
set_option maxRecDepth 100000 in
set_option maxHeartbeats 4000000 in
theorem c_flowZ (g kk : Nat → Nat) (σ : St) (hk : σ.1 16 = nI 0) (hs : σ.1 437 = nI 1) (hra : σ.1 256 = nI 0) (q a b c d x y : Int32) : jM (S := St) yX10_flow cX10_flow 8 (some .int) { frames := 3, cells := 0, slots := 0, locals := 66 } kk (cX g kk σ) [.ref (g 0), .int q, .int a, .int b, .int c, .int d, .int x, .int y] (cX g kk) (rI (fun r _ => (wB q (nI 0) (nI 27) = false ∧ r = -1000000001) ∨ (wB q (nI 0) (nI 27) = true ∧ (ldB a b c d = false ∨ wB x (nI 0) (nI 100) = false ∨ wB y (nI 0) (nI 9999999) = false) ∧ r = -1000000002) ∨ (wB q (nI 0) (nI 27) = true ∧ wB x (nI 0) (nI 100) = true ∧ wB y (nI 0) (nI 9999999) = true ∧ ∃ i j k l n : Nat, i ≤ j ∧ j ≤ 20 ∧ k ≤ l ∧ l ≤ 20 ∧ a = nI i ∧ b = nI j ∧ c = nI k ∧ d = nI l ∧ n ≤ 9999999 ∧ y = nI n ∧ r = if n ≤ 9999 * ((j + 1 - i) * (l + 1 - k)) then nI 0 else nI n - nI (9999 * ((j + 1 - i) * (l + 1 - k)))))) := by
  refine j_entry [(0, .ref (g 0)), (1, .int q), (2, .int a), (3, .int b), (4, .int c), (5, .int d), (6, .int x), (7, .int y)] (by decide) (Nat.le_of_ble_eq_true rfl) rfl ?_
  intro X C E HI
  refine j_iload_n C 1 rfl dX10_flow_0 ?_
  refine j_S01 C (c_isDay q) kyX10_isDay tb_486 tb_487 rfl (Nat.le_of_ble_eq_true rfl) ⟨by decide, by decide⟩ ⟨by decide, by decide⟩ dX10_flow_1 rfl ?_
  refine j_if_ne C 10 (by decide) dX10_flow_4 (fun c1 => ?_) (fun c1 => ?_)
  · replace c1 := bI_t c1
    refine j_iload_n C 2 rfl dX10_flow_10 ?_
    refine j_iload_n C 3 rfl dX10_flow_11 ?_
    refine j_iload C 4 rfl dX10_flow_12 ?_
    refine j_iload C 5 rfl dX10_flow_14 ?_
    refine j_S01 C (c_isLand a b c d) kyX10_isLand tb_733 tb_734 rfl (Nat.le_of_ble_eq_true rfl) ⟨by decide, by decide⟩ ⟨by decide, by decide⟩ dX10_flow_16 rfl ?_
    refine j_if_eq C 44 (by decide) dX10_flow_19 (fun c2 => ?_) (fun c2 => ?_)
    · replace c2 := bI_f c2
      refine j_ldc C tb_651 dX10_flow_44 ?_
      exact j_iret C E (σ) ⟨_, rfl, Or.inr (Or.inl ⟨c1, by first | exact Or.inl c2 | exact Or.inr (Or.inl c3) | exact Or.inr (Or.inr c4), rfl⟩)⟩ rfl dX10_flow_46
    · replace c2 := bI_t c2
      refine j_iload C 6 rfl dX10_flow_22 ?_
      refine j_iconst C (nI 0) (by decide) dX10_flow_24 ?_
      refine j_bipush C (nI 100) (by decide) dX10_flow_25 ?_
      refine j_S01 C (c_isWithin x (nI 0) (nI 100)) kyX10_isWithin tb_467 tb_468 rfl (Nat.le_of_ble_eq_true rfl) ⟨by decide, by decide⟩ ⟨by decide, by decide⟩ dX10_flow_27 rfl ?_
      refine j_if_eq C 44 (by decide) dX10_flow_30 (fun c3 => ?_) (fun c3 => ?_)
      · replace c3 := bI_f c3
        refine j_ldc C tb_651 dX10_flow_44 ?_
        exact j_iret C E (σ) ⟨_, rfl, Or.inr (Or.inl ⟨c1, by first | exact Or.inl c2 | exact Or.inr (Or.inl c3) | exact Or.inr (Or.inr c4), rfl⟩)⟩ rfl dX10_flow_46
      · replace c3 := bI_t c3
        refine j_iload C 7 rfl dX10_flow_33 ?_
        refine j_iconst C (nI 0) (by decide) dX10_flow_35 ?_
        refine j_ldc (v := nI 9999999) C tb_745 dX10_flow_36 ?_
        refine j_S01 C (c_isWithin y (nI 0) (nI 9999999)) kyX10_isWithin tb_467 tb_468 rfl (Nat.le_of_ble_eq_true rfl) ⟨by decide, by decide⟩ ⟨by decide, by decide⟩ dX10_flow_38 rfl ?_
        refine j_if_ne C 47 (by decide) dX10_flow_41 (fun c4 => ?_) (fun c4 => ?_)
        · replace c4 := bI_t c4
          obtain ⟨i, j, k, l, hij, hj, hkl, hl, e1, e2, e3, e4⟩ := ldB_nat c2
          rw [e1, e2, e3, e4]
          obtain ⟨m, m1, m2, me⟩ := wB_nat (by decide) (by decide) c3
          rw [me]
          obtain ⟨n, n1, n2, ne⟩ := wB_nat (by decide) (by decide) c4
          rw [ne]
          refine j_aload_n C 0 rfl dX10_flow_47 ?_
          refine gX_0_2 C tb_430 dX10_flow_48 ?_
          refine j_V1 C (c_refreshZ g kk σ hk hs) kyX7_refresh tb_562 tb_563 tb_564 27 rfl (eX_27 g kk _) rfl (Nat.le_of_ble_eq_true rfl) ⟨by decide, by decide⟩ dX10_flow_51 rfl (fun vr ur hp => ?_)
          obtain ⟨rfl, hu⟩ := hp
          replace hu := hu.symm
          subst hu
          refine j_aload_n C 0 rfl dX10_flow_54 ?_
          refine gX_0_5 C tb_433 dX10_flow_55 ?_
          refine j_iload_n C 1 rfl dX10_flow_58 ?_
          refine j_V1 C (c_gatherZ g kk (sI σ 437 (nI 0)) hk hra q) kyX4_gather tb_712 tb_713 tb_714 42 rfl (eX_42 g kk _) rfl (Nat.le_of_ble_eq_true rfl) ⟨by decide, by decide⟩ dX10_flow_59 rfl (fun vr ur hp => ?_)
          obtain ⟨rfl, hu⟩ := hp
          replace hu := hu.symm
          subst hu
          refine j_aload_n C 0 rfl dX10_flow_62 ?_
          refine gX_0_5 C tb_433 dX10_flow_63 ?_
          refine j_iload_n C 2 rfl dX10_flow_66 ?_
          refine j_iload_n C 3 rfl dX10_flow_67 ?_
          refine j_iload C 4 rfl dX10_flow_68 ?_
          refine j_iload C 5 rfl dX10_flow_70 ?_
          refine j_V1 C (c_sumZ g kk (sI (sI σ 437 (nI 0)) 678 (nI 0)) rfl i j k l hij hj hkl hl) kyX4_sum tb_736 tb_737 tb_738 42 rfl (eX_42 g kk _) rfl (Nat.le_of_ble_eq_true rfl) ⟨by decide, by decide⟩ dX10_flow_72 rfl (fun vr ur hp => ?_)
          obtain ⟨r, rfl, rfl, pa, pb, hu⟩ := hp
          replace hu := hu.symm
          subst hu
          refine j_if_neN C 81 (by decide) (by omega) dX10_flow_75 (fun c5 => ?_) (fun c5 => ?_)
          · refine j_aload_n C 0 rfl dX10_flow_81 ?_
            refine gX_0_5 C tb_433 dX10_flow_82 ?_
            refine j_iload C 6 rfl dX10_flow_85 ?_
            refine j_iload C 7 rfl dX10_flow_87 ?_
            refine j_V1 C (c_beyondZ g kk (sI (sI (sI (sI (sI (sI σ 437 (nI 0)) 678 (nI 0)) 681 (nI 0)) 682 (nI (9999 * ((j + 1 - i) * (l + 1 - k))))) 679 pa) 680 pb) _ m n rfl rfl (by have := rect_b (i := i) (k := k) hj hl; omega) (by omega) (by omega)) kyX4_beyond tb_746 tb_747 tb_748 42 rfl (eX_42 g kk _) rfl (Nat.le_of_ble_eq_true rfl) ⟨by decide, by decide⟩ dX10_flow_89 rfl (fun vr ur hp => ?_)
            obtain ⟨r, rfl, rfl, hu⟩ := hp
            replace hu := hu.symm
            subst hu
            exact j_iret C E (sI (sI (sI (sI (sI (sI σ 437 (nI 0)) 678 (nI 0)) 681 (nI 0)) 682 (nI (9999 * ((j + 1 - i) * (l + 1 - k))))) 679 pa) 680 pb) ⟨_, rfl, Or.inr (Or.inr ⟨c1, c3, c4, i, j, k, l, n, hij, hj, hkl, hl, e1, e2, e3, e4, n2, ne, rfl⟩)⟩ rfl dX10_flow_92
          · exact absurd c5 (by decide)
        · replace c4 := bI_f c4
          refine j_ldc C tb_651 dX10_flow_44 ?_
          exact j_iret C E (σ) ⟨_, rfl, Or.inr (Or.inl ⟨c1, by first | exact Or.inl c2 | exact Or.inr (Or.inl c3) | exact Or.inr (Or.inr c4), rfl⟩)⟩ rfl dX10_flow_46
  · replace c1 := bI_f c1
    refine j_ldc C tb_650 dX10_flow_7 ?_
    exact j_iret C E (σ) ⟨_, rfl, Or.inl ⟨c1, rfl⟩⟩ rfl dX10_flow_9
set_option maxRecDepth 100000 in
set_option maxHeartbeats 4000000 in
theorem m_findAllZ (g kk : Nat → Nat) (σ : St) (hk : σ.1 3 = nI 0) : jM (S := St) yX11_findAll cX11_findAll 3 none { frames := 0, cells := 0, slots := 0, locals := 0 } kk (cM g kk σ) [.ref (g 0)] (cM g kk) (rV (fun u : St => (u = σ))) := by
  refine j_entry [(0, .ref (g 0))] (by decide) (Nat.le_of_ble_eq_true rfl) rfl ?_
  intro X C E HI
  refine j_iconst C (nI 0) (by decide) dX11_findAll_0 ?_
  refine j_istore_n C [(1, .int (nI 0)), (0, .ref (g 0))] rfl (by decide) rfl dX11_findAll_1 ?_
  refine j_iload_n C 0 rfl dX11_findAll_2 ?_
  refine j_aload_n C 1 rfl dX11_findAll_3 ?_
  refine gM_0_3 C tb_876 (nI 0) hk dX11_findAll_4 ?_
  refine j_icmp_geN C 65 (by decide) (by omega) (by omega) dX11_findAll_7 (fun c1 => ?_) (fun c1 => ?_)
  · refine j_iconst C (nI 0) (by decide) dX11_findAll_65 ?_
    refine j_istore_n C [(1, .int (nI 0)), (0, .ref (g 0))] rfl (by decide) rfl dX11_findAll_66 ?_
    refine j_iload_n C 0 rfl dX11_findAll_67 ?_
    refine j_aload_n C 1 rfl dX11_findAll_68 ?_
    refine gM_0_3 C tb_876 (nI 0) hk dX11_findAll_69 ?_
    refine j_icmp_geN C 189 (by decide) (by omega) (by omega) dX11_findAll_72 (fun c2 => ?_) (fun c2 => ?_)
    · exact j_vret C E (σ) ⟨rfl, rfl⟩ rfl dX11_findAll_189
    · exact absurd c2 (by decide)
  · exact absurd c1 (by decide)
set_option maxRecDepth 100000 in
set_option maxHeartbeats 4000000 in
theorem m_findBoundZ (g kk : Nat → Nat) (σ : St) (hk : σ.1 3 = nI 0) (hra : σ.1 46 = nI 0) (x y z : Int32) : jM (S := St) yX11_findBound cX11_findBound 6 (some .boolean) { frames := 0, cells := 0, slots := 0, locals := 0 } kk (cM g kk σ) [.ref (g 0), .int x, .int y, .int z] (cM g kk) (rI (fun (r : Int32) (u : St) => (r = (nI 1) ∧ u = sI (sI σ 47 (nI 0)) 48 (nI 9999)))) := by
  refine j_entry [(0, .ref (g 0)), (1, .int x), (2, .int y), (3, .int z)] (by decide) (Nat.le_of_ble_eq_true rfl) rfl ?_
  intro X C E HI
  refine j_aload_n C 0 rfl dX11_findBound_0 ?_
  refine j_iconst C (nI 0) (by decide) dX11_findBound_1 ?_
  refine pM_0_47 C tb_920 dX11_findBound_2 ?_
  refine j_aload_n C 0 rfl dX11_findBound_5 ?_
  refine j_sipush C (nI 9999) (by decide) dX11_findBound_6 ?_
  refine pM_0_48 C tb_921 dX11_findBound_9 ?_
  refine j_iconst C (nI 0) (by decide) dX11_findBound_12 ?_
  refine j_istore C [(4, .int (nI 0)), (0, .ref (g 0)), (1, .int x), (2, .int y), (3, .int z)] (by decide) rfl dX11_findBound_13 ?_
  refine j_iload C 0 rfl dX11_findBound_15 ?_
  refine j_aload_n C 1 rfl dX11_findBound_17 ?_
  refine gM_0_3 C tb_876 (nI 0) hk dX11_findBound_18 ?_
  refine j_icmp_geN C 79 (by decide) (by omega) (by omega) dX11_findBound_21 (fun c1 => ?_) (fun c1 => ?_)
  · refine j_iconst C (nI 0) (by decide) dX11_findBound_79 ?_
    refine j_istore C [(4, .int (nI 0)), (0, .ref (g 0)), (1, .int x), (2, .int y), (3, .int z)] (by decide) rfl dX11_findBound_80 ?_
    refine j_iload C 0 rfl dX11_findBound_82 ?_
    refine j_aload_n C 1 rfl dX11_findBound_84 ?_
    refine gM_0_46 C tb_919 (nI 0) hra dX11_findBound_85 ?_
    refine j_icmp_geN C 149 (by decide) (by omega) (by omega) dX11_findBound_88 (fun c2 => ?_) (fun c2 => ?_)
    · refine j_aload_n C 1 rfl dX11_findBound_149 ?_
      refine gM_0_47 C tb_920 (nI 0) rfl dX11_findBound_150 ?_
      refine j_aload_n C 1 rfl dX11_findBound_153 ?_
      refine gM_0_48 C tb_921 (nI 9999) rfl dX11_findBound_154 ?_
      refine j_icmp_gtN C 164 (by decide) (by omega) (by omega) dX11_findBound_157 (fun c3 => ?_) (fun c3 => ?_)
      · exact absurd c3 (by decide)
      · refine j_iconst C (nI 1) (by decide) dX11_findBound_160 ?_
        refine j_goto C 165 (by decide) dX11_findBound_161 ?_
        exact j_zret C E (by first | rfl | decide) (sI (sI σ 47 (nI 0)) 48 (nI 9999)) ⟨_, rfl, ⟨rfl, rfl⟩⟩ rfl dX11_findBound_165
    · exact absurd c2 (by decide)
  · exact absurd c1 (by decide)
set_option maxRecDepth 100000 in
set_option maxHeartbeats 4000000 in
theorem m_boundZ (g kk : Nat → Nat) (σ : St) (hk : σ.1 3 = nI 0) (hra : σ.1 46 = nI 0) (a b c d : Int32) : jM (S := St) yX11_bound cX11_bound 5 (some .int) { frames := 2, cells := 0, slots := 0, locals := 46 } kk (cM g kk σ) [.ref (g 0), .int a, .int b, .int c, .int d] (cM g kk) (rI (fun (r : Int32) (u : St) => (((wB a (nI 0) (nI 27)) = true) ∧ ((wB b (nI 0) (nI 20) && wB c (nI 0) (nI 20)) = false) ∧ r = (-2) ∧ u = σ) ∨ (((wB a (nI 0) (nI 27)) = true) ∧ ((wB b (nI 0) (nI 20) && wB c (nI 0) (nI 20)) = true) ∧ ((wB d (nI 0) (nI 1)) = true) ∧ (¬ d = 0) ∧ r = (nI 9999) ∧ u = sI (sI σ 47 (nI 0)) 48 (nI 9999)) ∨ (((wB a (nI 0) (nI 27)) = true) ∧ ((wB b (nI 0) (nI 20) && wB c (nI 0) (nI 20)) = true) ∧ ((wB d (nI 0) (nI 1)) = true) ∧ (d = 0) ∧ r = (nI 0) ∧ u = sI (sI σ 47 (nI 0)) 48 (nI 9999)) ∨ (((wB a (nI 0) (nI 27)) = true) ∧ ((wB b (nI 0) (nI 20) && wB c (nI 0) (nI 20)) = true) ∧ ((wB d (nI 0) (nI 1)) = false) ∧ r = (-2) ∧ u = σ) ∨ (((wB a (nI 0) (nI 27)) = false) ∧ r = (-1) ∧ u = σ))) := by
  refine j_entry [(0, .ref (g 0)), (1, .int a), (2, .int b), (3, .int c), (4, .int d)] (by decide) (Nat.le_of_ble_eq_true rfl) rfl ?_
  intro X C E HI
  refine j_iload_n C 1 rfl dX11_bound_0 ?_
  refine j_S01 C (m_isDay a) kyX11_isDay tb_1077 tb_1078 rfl (Nat.le_of_ble_eq_true rfl) ⟨by decide, by decide⟩ ⟨by decide, by decide⟩ dX11_bound_1 rfl ?_
  refine j_if_ne C 9 (by decide) dX11_bound_4 (fun c1 => ?_) (fun c1 => ?_)
  · replace c1 := bI_t c1
    refine j_iload_n C 2 rfl dX11_bound_9 ?_
    refine j_iload_n C 3 rfl dX11_bound_10 ?_
    refine j_S01 C (m_isPlace b c) kyX11_isPlace tb_1053 tb_1054 rfl (Nat.le_of_ble_eq_true rfl) ⟨by decide, by decide⟩ ⟨by decide, by decide⟩ dX11_bound_11 rfl ?_
    refine j_if_eq C 25 (by decide) dX11_bound_14 (fun c2 => ?_) (fun c2 => ?_)
    · replace c2 := bI_f c2
      refine j_bipush C ((-2)) (by decide) dX11_bound_25 ?_
      exact j_iret C E (σ) ⟨_, rfl, Or.inl ⟨c1, c2, rfl, rfl⟩⟩ rfl dX11_bound_27
    · replace c2 := bI_t c2
      refine j_iload C 4 rfl dX11_bound_17 ?_
      refine j_S01 C (m_isEnd d) kyX11_isEnd tb_1234 tb_1235 rfl (Nat.le_of_ble_eq_true rfl) ⟨by decide, by decide⟩ ⟨by decide, by decide⟩ dX11_bound_19 rfl ?_
      refine j_if_ne C 28 (by decide) dX11_bound_22 (fun c3 => ?_) (fun c3 => ?_)
      · replace c3 := bI_t c3
        refine j_aload_n C 0 rfl dX11_bound_28 ?_
        refine j_V1 C (m_findAllZ g kk σ hk) kyX11_findAll tb_1131 tb_1133 sp_24 0 rfl (eM_0 g kk _) rfl (Nat.le_of_ble_eq_true rfl) ⟨by decide, by decide⟩ dX11_bound_29 rfl (fun vr ur hp => ?_)
        obtain ⟨rfl, hu⟩ := hp
        replace hu := hu.symm
        subst hu
        refine j_aload_n C 0 rfl dX11_bound_32 ?_
        refine j_iload_n C 1 rfl dX11_bound_33 ?_
        refine j_iload_n C 2 rfl dX11_bound_34 ?_
        refine j_iload_n C 3 rfl dX11_bound_35 ?_
        refine j_V1 C (m_findBoundZ g kk σ hk hra a b c) kyX11_findBound tb_1237 tb_1239 sp_39 0 rfl (eM_0 g kk _) rfl (Nat.le_of_ble_eq_true rfl) ⟨by decide, by decide⟩ dX11_bound_36 rfl (fun vr ur hp => ?_)
        obtain ⟨r, rfl, rfl, hu⟩ := hp
        replace hu := hu.symm
        subst hu
        refine j_if_neN C 47 (by decide) (by omega) dX11_bound_39 (fun c4 => ?_) (fun c4 => ?_)
        · refine j_iload C 4 rfl dX11_bound_47 ?_
          refine j_if_ne C 59 (by decide) dX11_bound_49 (fun c5 => ?_) (fun c5 => ?_)
          · refine j_aload_n C 0 rfl dX11_bound_59 ?_
            refine gM_0_48 C tb_921 (nI 9999) rfl dX11_bound_60 ?_
            exact j_iret C E (sI (sI σ 47 (nI 0)) 48 (nI 9999)) ⟨_, rfl, Or.inr (Or.inl ⟨c1, c2, c3, c5, rfl, rfl⟩)⟩ rfl dX11_bound_63
          · refine j_aload_n C 0 rfl dX11_bound_52 ?_
            refine gM_0_47 C tb_920 (nI 0) rfl dX11_bound_53 ?_
            refine j_goto C 63 (by decide) dX11_bound_56 ?_
            exact j_iret C E (sI (sI σ 47 (nI 0)) 48 (nI 9999)) ⟨_, rfl, Or.inr (Or.inr (Or.inl ⟨c1, c2, c3, c5, rfl, rfl⟩))⟩ rfl dX11_bound_63
        · exact absurd c4 (by decide)
      · replace c3 := bI_f c3
        refine j_bipush C ((-2)) (by decide) dX11_bound_25 ?_
        exact j_iret C E (σ) ⟨_, rfl, Or.inr (Or.inr (Or.inr (Or.inl ⟨c1, c2, c3, rfl, rfl⟩)))⟩ rfl dX11_bound_27
  · replace c1 := bI_f c1
    refine j_iconst C ((-1)) (by decide) dX11_bound_7 ?_
    exact j_iret C E (σ) ⟨_, rfl, Or.inr (Or.inr (Or.inr (Or.inr (⟨c1, rfl, rfl⟩))))⟩ rfl dX11_bound_8
set_option maxRecDepth 100000 in
set_option maxHeartbeats 4000000 in
theorem m_findOverZ (g kk : Nat → Nat) (σ : St) (hk : σ.1 3 = nI 0) (hra : σ.1 46 = nI 0) (q : Int32) (i j k l : Nat) (hij : i ≤ j) (hj : j ≤ 20) (hkl : k ≤ l) (hl : l ≤ 20) : jM (S := St) yX11_findOver cX11_findOver 8 (some .boolean) { frames := 1, cells := 0, slots := 0, locals := 25 } kk (cM g kk σ) [.ref (g 0), .int q, .int (nI i), .int (nI j), .int (nI k), .int (nI l)] (cM g kk) (rI (fun r u => r = nI 1 ∧ ∃ a b : Int32, u = sI (sI (sI (sI σ 49 (nI 0)) 50 (nI (9999 * ((j + 1 - i) * (l + 1 - k))))) 47 a) 48 b)) := by
  refine j_entry [(0, .ref (g 0)), (1, .int q), (2, .int (nI i)), (3, .int (nI j)), (4, .int (nI k)), (5, .int (nI l))] (by decide) (Nat.le_of_ble_eq_true rfl) rfl ?_
  intro X C E HI
  refine j_aload_n C 0 rfl dX11_findOver_0 ?_
  refine j_V1 C (m_findAllZ g kk σ hk) kyX11_findAll tb_1131 tb_1133 sp_24 0 rfl (eM_0 g kk _) rfl (Nat.le_of_ble_eq_true rfl) ⟨by decide, by decide⟩ dX11_findOver_1 rfl (fun vr ur hp => ?_)
  obtain ⟨rfl, hu⟩ := hp
  replace hu := hu.symm
  subst hu
  refine j_aload_n C 0 rfl dX11_findOver_4 ?_
  refine j_iconst C (nI 0) (by decide) dX11_findOver_5 ?_
  refine pM_0_49 C tb_922 dX11_findOver_6 ?_
  refine j_aload_n C 0 rfl dX11_findOver_9 ?_
  refine j_iconst C (nI 0) (by decide) dX11_findOver_10 ?_
  refine pM_0_50 C tb_923 dX11_findOver_11 ?_
  refine j_iload_n C 2 rfl dX11_findOver_14 ?_
  refine j_istore C [(6, .int (nI i)), (0, .ref (g 0)), (1, .int q), (2, .int (nI i)), (3, .int (nI j)), (4, .int (nI k)), (5, .int (nI l))] (by decide) rfl dX11_findOver_15 ?_
  have L17 : ∀ (nL17 : Nat) (x p t : Nat) (p1 p2 : Int32) (h1 : i ≤ x) (h2 : x ≤ j + 1) (h3 : p = (x - i) * (l + 1 - k)) (h4 : t = 9999 * p) (hmL17 : j + 1 - x < nL17), J X 0 0 (cM g kk (sI (sI (sI (sI (sI (sI σ 49 (nI 0)) 50 (nI 0)) 47 p1) 48 p2) 49 (nI 0)) 50 (nI t))) [(0, .ref (g 0)), (1, .int q), (2, .int (nI i)), (3, .int (nI j)), (4, .int (nI k)), (5, .int (nI l)), (6, .int (nI x))] 17 [] := by
    intro nL17
    induction nL17 with
    | zero => intro x p t p1 p2 h1 h2 h3 h4 hm; exact absurd hm (Nat.not_lt_zero _)
    | succ nL17 ihL17 =>
      intro x p t p1 p2 h1 h2 h3 h4 hmL17
      refine j_iload C 6 rfl dX11_findOver_17 ?_
      refine j_iload_n C 3 rfl dX11_findOver_19 ?_
      refine j_icmp_gtN C 86 (by decide) (by omega) (by omega) dX11_findOver_20 (fun c1 => ?_) (fun c1 => ?_)
      · have ex : x = j + 1 := by omega
        subst ex
        subst h3
        subst h4
        refine j_iconst C (nI 1) (by decide) dX11_findOver_86 ?_
        exact j_zret C E (by first | rfl | decide) (_) ⟨_, rfl, rfl, p1, p2, rfl⟩ rfl dX11_findOver_87
      · refine j_iload C 4 rfl dX11_findOver_23 ?_
        refine j_istore C [(7, .int (nI k)), (0, .ref (g 0)), (1, .int q), (2, .int (nI i)), (3, .int (nI j)), (4, .int (nI k)), (5, .int (nI l)), (6, .int (nI x))] (by decide) rfl dX11_findOver_25 ?_
        have L27 : ∀ (nL27 : Nat) (y t2 : Nat) (p3 p4 : Int32) (g1 : k ≤ y) (g2 : y ≤ l + 1) (g4 : t2 = 9999 * (p + (y - k))) (hmL27 : l + 1 - y < nL27), J X 0 0 (cM g kk (sI (sI (sI (sI (sI (sI (sI (sI (sI (sI σ 49 (nI 0)) 50 (nI 0)) 47 p1) 48 p2) 49 (nI 0)) 50 (nI t)) 47 p3) 48 p4) 49 (nI 0)) 50 (nI t2))) [(0, .ref (g 0)), (1, .int q), (2, .int (nI i)), (3, .int (nI j)), (4, .int (nI k)), (5, .int (nI l)), (6, .int (nI x)), (7, .int (nI y))] 27 [] := by
          intro nL27
          induction nL27 with
          | zero => intro y t2 p3 p4 g1 g2 g4 hm; exact absurd hm (Nat.not_lt_zero _)
          | succ nL27 ihL27 =>
            intro y t2 p3 p4 g1 g2 g4 hmL27
            have gp := rect_m (i := i) (k := k) h2 hj hl
            rw [← h3] at gp
            refine j_iload C 7 rfl dX11_findOver_27 ?_
            refine j_iload C 5 rfl dX11_findOver_29 ?_
            refine j_icmp_gtN C 80 (by decide) (by omega) (by omega) dX11_findOver_31 (fun c2 => ?_) (fun c2 => ?_)
            · refine j_iinc C (nI (x + 1)) [(6, .int (nI (x + 1))), (0, .ref (g 0)), (1, .int q), (2, .int (nI i)), (3, .int (nI j)), (4, .int (nI k)), (5, .int (nI l)), (7, .int (nI y))] 6 rfl (by rw [show Int32.ofInt 1 = nI 1 from by decide, nI_add]) (by decide) rfl dX11_findOver_80 ?_
              refine j_goto C 17 (by decide) dX11_findOver_83 ?_
              refine j_sub (lv' := [(0, .ref (g 0)), (1, .int q), (2, .int (nI i)), (3, .int (nI j)), (4, .int (nI k)), (5, .int (nI l)), (6, .int (nI (x + 1)))]) [1, 2, 3, 4, 5, 6, 0] rfl ?_
              refine j_w (cM g kk (sI (sI (sI (sI (sI (sI σ 49 (nI 0)) 50 (nI 0)) 47 p3) 48 p4) 49 (nI 0)) 50 (nI t2))) rfl ?_
              exact ihL17 (x + 1) (p + (l + 1 - k)) t2 _ _ (by omega) (by omega) (rect_s h1 h3) (by omega) (by omega)
            · refine j_aload_n C 0 rfl dX11_findOver_34 ?_
              refine j_iload_n C 1 rfl dX11_findOver_35 ?_
              refine j_iload C 6 rfl dX11_findOver_36 ?_
              refine j_iload C 7 rfl dX11_findOver_38 ?_
              refine j_V1 C (m_findBoundZ g kk (sI (sI (sI (sI (sI (sI (sI (sI (sI (sI σ 49 (nI 0)) 50 (nI 0)) 47 p1) 48 p2) 49 (nI 0)) 50 (nI t)) 47 p3) 48 p4) 49 (nI 0)) 50 (nI t2)) hk hra q (nI x) (nI y)) kyX11_findBound tb_1237 tb_1239 sp_39 0 rfl (eM_0 g kk _) rfl (Nat.le_of_ble_eq_true rfl) ⟨by decide, by decide⟩ dX11_findOver_40 rfl (fun vr ur hp => ?_)
              obtain ⟨r, rfl, rfl, hu⟩ := hp
              replace hu := hu.symm
              subst hu
              refine j_if_neN C 48 (by decide) (by omega) dX11_findOver_43 (fun c3 => ?_) (fun c3 => ?_)
              · refine j_aload_n C 0 rfl dX11_findOver_48 ?_
                refine j_dup C rfl dX11_findOver_49 ?_
                refine gM_0_49 C tb_922 (nI 0) rfl dX11_findOver_50 ?_
                refine j_aload_n C 0 rfl dX11_findOver_53 ?_
                refine gM_0_47 C tb_920 (nI 0) rfl dX11_findOver_54 ?_
                refine j_iaddN C dX11_findOver_57 ?_
                refine pM_0_49 C tb_922 dX11_findOver_58 ?_
                refine j_aload_n C 0 rfl dX11_findOver_61 ?_
                refine j_dup C rfl dX11_findOver_62 ?_
                refine gM_0_50 C tb_923 (nI t2) rfl dX11_findOver_63 ?_
                refine j_aload_n C 0 rfl dX11_findOver_66 ?_
                refine gM_0_48 C tb_921 (nI 9999) rfl dX11_findOver_67 ?_
                refine j_iaddN C dX11_findOver_70 ?_
                refine pM_0_50 C tb_923 dX11_findOver_71 ?_
                refine j_iinc C (nI (y + 1)) [(7, .int (nI (y + 1))), (0, .ref (g 0)), (1, .int q), (2, .int (nI i)), (3, .int (nI j)), (4, .int (nI k)), (5, .int (nI l)), (6, .int (nI x))] 7 rfl (by rw [show Int32.ofInt 1 = nI 1 from by decide, nI_add]) (by decide) rfl dX11_findOver_74 ?_
                refine j_goto C 27 (by decide) dX11_findOver_77 ?_
                refine j_sub (lv' := [(0, .ref (g 0)), (1, .int q), (2, .int (nI i)), (3, .int (nI j)), (4, .int (nI k)), (5, .int (nI l)), (6, .int (nI x)), (7, .int (nI (y + 1)))]) [1, 2, 3, 4, 5, 6, 7, 0] rfl ?_
                refine j_w (cM g kk (sI (sI (sI (sI (sI (sI (sI (sI (sI (sI σ 49 (nI 0)) 50 (nI 0)) 47 p1) 48 p2) 49 (nI 0)) 50 (nI t)) 47 (nI 0)) 48 (nI 9999)) 49 (nI 0)) 50 (nI (t2 + 9999)))) rfl ?_
                exact ihL27 (y + 1) (t2 + 9999) _ _ (by omega) (by omega) (by omega) (by omega)
              · exact absurd c3 (by decide)
        refine j_sub (lv' := [(0, .ref (g 0)), (1, .int q), (2, .int (nI i)), (3, .int (nI j)), (4, .int (nI k)), (5, .int (nI l)), (6, .int (nI x)), (7, .int (nI k))]) [1, 2, 3, 4, 5, 6, 7, 0] rfl ?_
        refine j_w (cM g kk (sI (sI (sI (sI (sI (sI (sI (sI (sI (sI σ 49 (nI 0)) 50 (nI 0)) 47 p1) 48 p2) 49 (nI 0)) 50 (nI t)) 47 p1) 48 p2) 49 (nI 0)) 50 (nI t))) rfl ?_
        exact L27 _ k t _ _ (Nat.le_refl _) (by omega) (by omega) (Nat.lt_succ_self _)
  refine j_sub (lv' := [(0, .ref (g 0)), (1, .int q), (2, .int (nI i)), (3, .int (nI j)), (4, .int (nI k)), (5, .int (nI l)), (6, .int (nI i))]) [1, 2, 3, 4, 5, 6, 0] rfl ?_
  refine j_w (cM g kk (sI (sI (sI (sI (sI (sI σ 49 (nI 0)) 50 (nI 0)) 47 (σ.1 47)) 48 (σ.1 48)) 49 (nI 0)) 50 (nI 0))) rfl ?_
  exact L17 _ i 0 0 _ _ (Nat.le_refl _) (by omega) (by rw [Nat.sub_self, Nat.zero_mul]) rfl (Nat.lt_succ_self _)
set_option maxRecDepth 100000 in
set_option maxHeartbeats 4000000 in
theorem m_overZ (g kk : Nat → Nat) (σ : St) (hk : σ.1 3 = nI 0) (hra : σ.1 46 = nI 0) (q a b c d z : Int32) : jM (S := St) yX11_over cX11_over 7 (some .int) { frames := 2, cells := 0, slots := 0, locals := 52 } kk (cM g kk σ) [.ref (g 0), .int q, .int a, .int b, .int c, .int d, .int z] (cM g kk) (rI (fun r _ => (wB q (nI 0) (nI 27) = false ∧ r = -1) ∨ (wB q (nI 0) (nI 27) = true ∧ (ldB a b c d = false ∨ wB z (nI 0) (nI 1) = false) ∧ r = -2) ∨ (wB q (nI 0) (nI 27) = true ∧ wB z (nI 0) (nI 1) = true ∧ ∃ i j k l : Nat, i ≤ j ∧ j ≤ 20 ∧ k ≤ l ∧ l ≤ 20 ∧ a = nI i ∧ b = nI j ∧ c = nI k ∧ d = nI l ∧ r = if z = 0 then nI 0 else nI (9999 * ((j + 1 - i) * (l + 1 - k)))))) := by
  refine j_entry [(0, .ref (g 0)), (1, .int q), (2, .int a), (3, .int b), (4, .int c), (5, .int d), (6, .int z)] (by decide) (Nat.le_of_ble_eq_true rfl) rfl ?_
  intro X C E HI
  refine j_iload_n C 1 rfl dX11_over_0 ?_
  refine j_S01 C (m_isDay q) kyX11_isDay tb_1077 tb_1078 rfl (Nat.le_of_ble_eq_true rfl) ⟨by decide, by decide⟩ ⟨by decide, by decide⟩ dX11_over_1 rfl ?_
  refine j_if_ne C 9 (by decide) dX11_over_4 (fun c1 => ?_) (fun c1 => ?_)
  · replace c1 := bI_t c1
    refine j_iload_n C 2 rfl dX11_over_9 ?_
    refine j_iload_n C 3 rfl dX11_over_10 ?_
    refine j_iload C 4 rfl dX11_over_11 ?_
    refine j_iload C 5 rfl dX11_over_13 ?_
    refine j_S01 C (m_isLand a b c d) kyX11_isLand tb_1249 tb_1250 rfl (Nat.le_of_ble_eq_true rfl) ⟨by decide, by decide⟩ ⟨by decide, by decide⟩ dX11_over_15 rfl ?_
    refine j_if_eq C 29 (by decide) dX11_over_18 (fun c2 => ?_) (fun c2 => ?_)
    · replace c2 := bI_f c2
      refine j_bipush C ((-2)) (by decide) dX11_over_29 ?_
      exact j_iret C E (σ) ⟨_, rfl, Or.inr (Or.inl ⟨c1, by first | exact Or.inl c2 | exact Or.inr c3, rfl⟩)⟩ rfl dX11_over_31
    · replace c2 := bI_t c2
      refine j_iload C 6 rfl dX11_over_21 ?_
      refine j_S01 C (m_isEnd z) kyX11_isEnd tb_1234 tb_1235 rfl (Nat.le_of_ble_eq_true rfl) ⟨by decide, by decide⟩ ⟨by decide, by decide⟩ dX11_over_23 rfl ?_
      refine j_if_ne C 32 (by decide) dX11_over_26 (fun c3 => ?_) (fun c3 => ?_)
      · replace c3 := bI_t c3
        obtain ⟨i, j, k, l, hij, hj, hkl, hl, e1, e2, e3, e4⟩ := ldB_nat c2
        rw [e1, e2, e3, e4]
        refine j_aload_n C 0 rfl dX11_over_32 ?_
        refine j_iload_n C 1 rfl dX11_over_33 ?_
        refine j_iload_n C 2 rfl dX11_over_34 ?_
        refine j_iload_n C 3 rfl dX11_over_35 ?_
        refine j_iload C 4 rfl dX11_over_36 ?_
        refine j_iload C 5 rfl dX11_over_38 ?_
        refine j_V1 C (m_findOverZ g kk σ hk hra q i j k l hij hj hkl hl) kyX11_findOver tb_1252 tb_1254 sp_41 0 rfl (eM_0 g kk _) rfl (Nat.le_of_ble_eq_true rfl) ⟨by decide, by decide⟩ dX11_over_40 rfl (fun vr ur hp => ?_)
        obtain ⟨r, rfl, rfl, pa, pb, hu⟩ := hp
        replace hu := hu.symm
        subst hu
        refine j_if_neN C 51 (by decide) (by omega) dX11_over_43 (fun c4 => ?_) (fun c4 => ?_)
        · refine j_iload C 6 rfl dX11_over_51 ?_
          refine j_if_ne C 63 (by decide) dX11_over_53 (fun c5 => ?_) (fun c5 => ?_)
          · refine j_aload_n C 0 rfl dX11_over_63 ?_
            refine gM_0_50 C tb_923 (nI (9999 * ((j + 1 - i) * (l + 1 - k)))) rfl dX11_over_64 ?_
            exact j_iret C E (sI (sI (sI (sI σ 49 (nI 0)) 50 (nI (9999 * ((j + 1 - i) * (l + 1 - k))))) 47 pa) 48 pb) ⟨_, rfl, Or.inr (Or.inr ⟨c1, c3, i, j, k, l, hij, hj, hkl, hl, e1, e2, e3, e4, by rw [if_neg c5]⟩)⟩ rfl dX11_over_67
          · refine j_aload_n C 0 rfl dX11_over_56 ?_
            refine gM_0_49 C tb_922 (nI 0) rfl dX11_over_57 ?_
            refine j_goto C 67 (by decide) dX11_over_60 ?_
            exact j_iret C E (sI (sI (sI (sI σ 49 (nI 0)) 50 (nI (9999 * ((j + 1 - i) * (l + 1 - k))))) 47 pa) 48 pb) ⟨_, rfl, Or.inr (Or.inr ⟨c1, c3, i, j, k, l, hij, hj, hkl, hl, e1, e2, e3, e4, by rw [if_pos c5]⟩)⟩ rfl dX11_over_67
        · exact absurd c4 (by decide)
      · replace c3 := bI_f c3
        refine j_bipush C ((-2)) (by decide) dX11_over_29 ?_
        exact j_iret C E (σ) ⟨_, rfl, Or.inr (Or.inl ⟨c1, by first | exact Or.inl c2 | exact Or.inr c3, rfl⟩)⟩ rfl dX11_over_31
  · replace c1 := bI_f c1
    refine j_iconst C ((-1)) (by decide) dX11_over_7 ?_
    exact j_iret C E (σ) ⟨_, rfl, Or.inl ⟨c1, rfl⟩⟩ rfl dX11_over_8
set_option maxRecDepth 100000 in
set_option maxHeartbeats 4000000 in
theorem m_flowZ (g kk : Nat → Nat) (σ : St) (hk : σ.1 3 = nI 0) (hra : σ.1 46 = nI 0) (q a b c d x y : Int32) : jM (S := St) yX11_flow cX11_flow 9 (some .int) { frames := 2, cells := 0, slots := 0, locals := 52 } kk (cM g kk σ) [.ref (g 0), .int q, .int a, .int b, .int c, .int d, .int x, .int y] (cM g kk) (rI (fun r _ => (wB q (nI 0) (nI 27) = false ∧ r = -1000000001) ∨ (wB q (nI 0) (nI 27) = true ∧ (ldB a b c d = false ∨ wB x (nI 0) (nI 100) = false ∨ wB y (nI 0) (nI 9999999) = false) ∧ r = -1000000002) ∨ (wB q (nI 0) (nI 27) = true ∧ wB x (nI 0) (nI 100) = true ∧ wB y (nI 0) (nI 9999999) = true ∧ ∃ i j k l n : Nat, i ≤ j ∧ j ≤ 20 ∧ k ≤ l ∧ l ≤ 20 ∧ a = nI i ∧ b = nI j ∧ c = nI k ∧ d = nI l ∧ n ≤ 9999999 ∧ y = nI n ∧ r = if n ≤ 9999 * ((j + 1 - i) * (l + 1 - k)) then nI 0 else nI n - nI (9999 * ((j + 1 - i) * (l + 1 - k)))))) := by
  refine j_entry [(0, .ref (g 0)), (1, .int q), (2, .int a), (3, .int b), (4, .int c), (5, .int d), (6, .int x), (7, .int y)] (by decide) (Nat.le_of_ble_eq_true rfl) rfl ?_
  intro X C E HI
  refine j_iload_n C 1 rfl dX11_flow_0 ?_
  refine j_S01 C (m_isDay q) kyX11_isDay tb_1077 tb_1078 rfl (Nat.le_of_ble_eq_true rfl) ⟨by decide, by decide⟩ ⟨by decide, by decide⟩ dX11_flow_1 rfl ?_
  refine j_if_ne C 11 (by decide) dX11_flow_4 (fun c1 => ?_) (fun c1 => ?_)
  · replace c1 := bI_t c1
    refine j_iload_n C 2 rfl dX11_flow_11 ?_
    refine j_iload_n C 3 rfl dX11_flow_12 ?_
    refine j_iload C 4 rfl dX11_flow_13 ?_
    refine j_iload C 5 rfl dX11_flow_15 ?_
    refine j_S01 C (m_isLand a b c d) kyX11_isLand tb_1249 tb_1250 rfl (Nat.le_of_ble_eq_true rfl) ⟨by decide, by decide⟩ ⟨by decide, by decide⟩ dX11_flow_17 rfl ?_
    refine j_if_eq C 49 (by decide) dX11_flow_20 (fun c2 => ?_) (fun c2 => ?_)
    · replace c2 := bI_f c2
      refine j_ldcw C tb_1206 dX11_flow_49 ?_
      exact j_iret C E (σ) ⟨_, rfl, Or.inr (Or.inl ⟨c1, by first | exact Or.inl c2 | exact Or.inr (Or.inl c3) | exact Or.inr (Or.inr c4), rfl⟩)⟩ rfl dX11_flow_52
    · replace c2 := bI_t c2
      refine j_iload C 6 rfl dX11_flow_23 ?_
      refine j_i2l C dX11_flow_25 ?_
      refine j_lconst C 0 (by decide) dX11_flow_26 ?_
      refine j_ldc2 C tb_1260 dX11_flow_27 ?_
      refine j_S01 C (m_inB x (nI 0) (nI 100) 0 (100) (by decide) (by decide)) kyX11_in tb_1057 tb_1058 rfl (Nat.le_of_ble_eq_true rfl) ⟨by decide, by decide⟩ ⟨by decide, by decide⟩ dX11_flow_30 rfl ?_
      refine j_if_eq C 49 (by decide) dX11_flow_33 (fun c3 => ?_) (fun c3 => ?_)
      · replace c3 := bI_f c3
        refine j_ldcw C tb_1206 dX11_flow_49 ?_
        exact j_iret C E (σ) ⟨_, rfl, Or.inr (Or.inl ⟨c1, by first | exact Or.inl c2 | exact Or.inr (Or.inl c3) | exact Or.inr (Or.inr c4), rfl⟩)⟩ rfl dX11_flow_52
      · replace c3 := bI_t c3
        refine j_iload C 7 rfl dX11_flow_36 ?_
        refine j_i2l C dX11_flow_38 ?_
        refine j_lconst C 0 (by decide) dX11_flow_39 ?_
        refine j_ldc2 C tb_1261 dX11_flow_40 ?_
        refine j_S01 C (m_inB y (nI 0) (nI 9999999) 0 (9999999) (by decide) (by decide)) kyX11_in tb_1057 tb_1058 rfl (Nat.le_of_ble_eq_true rfl) ⟨by decide, by decide⟩ ⟨by decide, by decide⟩ dX11_flow_43 rfl ?_
        refine j_if_ne C 53 (by decide) dX11_flow_46 (fun c4 => ?_) (fun c4 => ?_)
        · replace c4 := bI_t c4
          obtain ⟨i, j, k, l, hij, hj, hkl, hl, e1, e2, e3, e4⟩ := ldB_nat c2
          rw [e1, e2, e3, e4]
          obtain ⟨m, m1, m2, me⟩ := wB_nat (by decide) (by decide) c3
          rw [me]
          obtain ⟨n, n1, n2, ne⟩ := wB_nat (by decide) (by decide) c4
          rw [ne]
          refine j_aload_n C 0 rfl dX11_flow_53 ?_
          refine j_iload_n C 1 rfl dX11_flow_54 ?_
          refine j_iload_n C 2 rfl dX11_flow_55 ?_
          refine j_iload_n C 3 rfl dX11_flow_56 ?_
          refine j_iload C 4 rfl dX11_flow_57 ?_
          refine j_iload C 5 rfl dX11_flow_59 ?_
          refine j_V1 C (m_findOverZ g kk σ hk hra q i j k l hij hj hkl hl) kyX11_findOver tb_1252 tb_1254 sp_41 0 rfl (eM_0 g kk _) rfl (Nat.le_of_ble_eq_true rfl) ⟨by decide, by decide⟩ dX11_flow_61 rfl (fun vr ur hp => ?_)
          obtain ⟨r, rfl, rfl, pa, pb, hu⟩ := hp
          replace hu := hu.symm
          subst hu
          refine j_if_neN C 71 (by decide) (by have hrb := rect_b (i := i) (k := k) hj hl; omega) dX11_flow_64 (fun c5 => ?_) (fun c5 => ?_)
          · refine j_aload_n C 0 rfl dX11_flow_71 ?_
            refine gM_0_49 C tb_922 (nI 0) rfl dX11_flow_72 ?_
            refine j_i2l C dX11_flow_75 ?_
            refine j_bipush C (nI 100) (by decide) dX11_flow_76 ?_
            refine j_iload C 6 rfl dX11_flow_78 ?_
            refine j_isub C dX11_flow_80 ?_
            refine j_i2l C dX11_flow_81 ?_
            refine j_lmul C dX11_flow_82 ?_
            refine j_ldc2 C tb_1260 dX11_flow_83 ?_
            refine j_ldiv C (by decide) dX11_flow_86 ?_
            refine j_l2i C dX11_flow_87 ?_
            rw [flow_0]
            refine j_istore C [(8, .int (nI 0)), (0, .ref (g 0)), (1, .int q), (2, .int (nI i)), (3, .int (nI j)), (4, .int (nI k)), (5, .int (nI l)), (6, .int (nI m)), (7, .int (nI n))] (by decide) rfl dX11_flow_88 ?_
            refine j_iload C 8 rfl dX11_flow_90 ?_
            refine j_iload C 0 rfl dX11_flow_92 ?_
            refine j_icmp_geN C 105 (by decide) (by have hrb := rect_b (i := i) (k := k) hj hl; omega) (by have hrb := rect_b (i := i) (k := k) hj hl; omega) dX11_flow_94 (fun c6 => ?_) (fun c6 => ?_)
            · refine j_iload C 8 rfl dX11_flow_105 ?_
              refine j_aload_n C 1 rfl dX11_flow_107 ?_
              refine gM_0_50 C tb_923 (nI (9999 * ((j + 1 - i) * (l + 1 - k)))) rfl dX11_flow_108 ?_
              refine j_icmp_leN C 124 (by decide) (by have hrb := rect_b (i := i) (k := k) hj hl; omega) (by have hrb := rect_b (i := i) (k := k) hj hl; omega) dX11_flow_111 (fun c7 => ?_) (fun c7 => ?_)
              · refine j_iconst C (nI 0) (by decide) dX11_flow_124 ?_
                exact j_iret C E (sI (sI (sI (sI σ 49 (nI 0)) 50 (nI (9999 * ((j + 1 - i) * (l + 1 - k))))) 47 pa) 48 pb) ⟨_, rfl, Or.inr (Or.inr ⟨c1, c3, c4, i, j, k, l, n, hij, hj, hkl, hl, e1, e2, e3, e4, n2, ne, (if_pos (by omega)).symm⟩)⟩ rfl dX11_flow_125
              · refine j_iload C 8 rfl dX11_flow_114 ?_
                refine j_aload_n C 1 rfl dX11_flow_116 ?_
                refine gM_0_50 C tb_923 (nI (9999 * ((j + 1 - i) * (l + 1 - k)))) rfl dX11_flow_117 ?_
                refine j_isub C dX11_flow_120 ?_
                refine j_goto C 125 (by decide) dX11_flow_121 ?_
                exact j_iret C E (sI (sI (sI (sI σ 49 (nI 0)) 50 (nI (9999 * ((j + 1 - i) * (l + 1 - k))))) 47 pa) 48 pb) ⟨_, rfl, Or.inr (Or.inr ⟨c1, c3, c4, i, j, k, l, n, hij, hj, hkl, hl, e1, e2, e3, e4, n2, ne, (if_neg (by omega)).symm⟩)⟩ rfl dX11_flow_125
            · omega
          · exact absurd c5 (by decide)
        · replace c4 := bI_f c4
          refine j_ldcw C tb_1206 dX11_flow_49 ?_
          exact j_iret C E (σ) ⟨_, rfl, Or.inr (Or.inl ⟨c1, by first | exact Or.inl c2 | exact Or.inr (Or.inl c3) | exact Or.inr (Or.inr c4), rfl⟩)⟩ rfl dX11_flow_52
  · replace c1 := bI_f c1
    refine j_ldcw C tb_1205 dX11_flow_7 ?_
    exact j_iret C E (σ) ⟨_, rfl, Or.inl ⟨c1, rfl⟩⟩ rfl dX11_flow_10
