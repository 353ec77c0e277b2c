set_option maxRecDepth 100000 in
set_option maxHeartbeats 4000000 in
theorem c_isCan (g kk : Nat → Nat) (σ : St) (k : Nat) (hk : σ.1 16 = nI k) (hk6 : k ≤ 6) (c : Int32) : jM (S := St) yX10_isCan cX10_isCan 2 (some .boolean) { frames := 0, cells := 0, slots := 0, locals := 0 } kk (cX g kk σ) [.ref (g 0), .int c] (cX g kk) (rI (fun r u => r = bI (cB c (nI k)) ∧ u = σ)) := by
  refine j_entry [(0, .ref (g 0)), (1, .int c)] (by decide) (Nat.le_of_ble_eq_true rfl) rfl ?_
  intro X C E HI
  refine j_iload_n C 1 rfl dX10_isCan_0 ?_
  refine j_if_lt C 19 (by decide) dX10_isCan_1 (fun c1 => ?_) (fun c1 => ?_)
  · refine j_iconst C (nI 0) (by decide) dX10_isCan_19 ?_
    exact j_zret C E (by first | rfl | decide) (σ) ⟨_, rfl, bI_0 (by first | exact cB_lt c1 | exact cB_ge c2), rfl⟩ rfl dX10_isCan_20
  · refine j_iload_n C 1 rfl dX10_isCan_4 ?_
    refine j_aload_n C 0 rfl dX10_isCan_5 ?_
    refine gX_0_0 C tb_428 dX10_isCan_6 ?_
    refine gX_1_0 C tb_99 (nI k) hk dX10_isCan_9 ?_
    refine j_icmp_ge C 19 (by decide) dX10_isCan_12 (fun c2 => ?_) (fun c2 => ?_)
    · refine j_iconst C (nI 0) (by decide) dX10_isCan_19 ?_
      exact j_zret C E (by first | rfl | decide) (σ) ⟨_, rfl, bI_0 (by first | exact cB_lt c1 | exact cB_ge c2), rfl⟩ rfl dX10_isCan_20
    · refine j_iconst C (nI 1) (by decide) dX10_isCan_15 ?_
      refine j_goto C 20 (by decide) dX10_isCan_16 ?_
      exact j_zret C E (by first | rfl | decide) (σ) ⟨_, rfl, bI_1 (cB_in c1 c2), rfl⟩ rfl dX10_isCan_20
set_option maxRecDepth 100000 in
set_option maxHeartbeats 4000000 in
theorem c_addCan (g kk : Nat → Nat) (σ : St) (k : Nat) (hk : σ.1 16 = nI k) (hk5 : k < 6) (x y : Int32) : jM (S := St) yX2_addCan cX2_addCan 3 (some .int) { frames := 0, cells := 0, slots := 0, locals := 0 } kk (cX g kk σ) [.ref (g 1), .int x, .int y] (cX g kk) (rI (fun (r : Int32) (u : St) => (r = (nI ((k + 1) - 1)) ∧ u = sI (sF (sF σ 2 (upd (σ.2.1 2) k x)) 3 (upd (σ.2.1 3) k y)) 16 (nI (k + 1))))) := by
  refine j_entry [(0, .ref (g 1)), (1, .int x), (2, .int y)] (by decide) (Nat.le_of_ble_eq_true rfl) rfl ?_
  intro X C E HI
  refine j_aload_n C 0 rfl dX2_addCan_0 ?_
  refine gX_1_1 C tb_102 dX2_addCan_1 ?_
  refine j_aload_n C 0 rfl dX2_addCan_4 ?_
  refine gX_1_0 C tb_97 (nI k) hk dX2_addCan_5 ?_
  refine j_iload_n C 1 rfl dX2_addCan_8 ?_
  refine tX_2 C k rfl (by omega) dX2_addCan_9 ?_
  refine j_aload_n C 0 rfl dX2_addCan_10 ?_
  refine gX_1_2 C tb_106 dX2_addCan_11 ?_
  refine j_aload_n C 0 rfl dX2_addCan_14 ?_
  refine gX_1_0 C tb_97 (nI k) hk dX2_addCan_15 ?_
  refine j_iload_n C 2 rfl dX2_addCan_18 ?_
  refine tX_3 C k rfl (by omega) dX2_addCan_19 ?_
  refine j_aload_n C 0 rfl dX2_addCan_20 ?_
  refine j_dup C rfl dX2_addCan_21 ?_
  refine gX_1_0 C tb_97 (nI k) hk dX2_addCan_22 ?_
  refine j_iconst C (nI 1) (by decide) dX2_addCan_25 ?_
  refine j_iaddN C dX2_addCan_26 ?_
  refine pX_1_0 C tb_97 dX2_addCan_27 ?_
  refine j_aload_n C 0 rfl dX2_addCan_30 ?_
  refine gX_1_0 C tb_97 (nI (k + 1)) rfl dX2_addCan_31 ?_
  refine j_iconst C (nI 1) (by decide) dX2_addCan_34 ?_
  refine j_isubN C (by omega) dX2_addCan_35 ?_
  exact j_iret C E (sI (sF (sF σ 2 (upd (σ.2.1 2) k x)) 3 (upd (σ.2.1 3) k y)) 16 (nI (k + 1))) ⟨_, rfl, ⟨rfl, rfl⟩⟩ rfl dX2_addCan_36
set_option maxRecDepth 100000 in
set_option maxHeartbeats 4000000 in
theorem c_can (g kk : Nat → Nat) (σ : St) (k : Nat) (hk : σ.1 16 = nI k) (hk6 : k ≤ 6) (x y : Int32) : jM (S := St) yX10_can cX10_can 3 (some .int) { frames := 2, cells := 0, slots := 0, locals := 43 } kk (cX g kk σ) [.ref (g 0), .int x, .int y] (cX g kk) (rI (fun (r : Int32) (u : St) => (((wB x (nI 0) (nI 20) && wB y (nI 0) (nI 20)) = true) ∧ (k < 6) ∧ r = (nI (k + 1 - 1)) ∧ u = sI (sF (sF (sI σ 437 (nI 1)) 2 (upd (σ.2.1 2) k x)) 3 (upd (σ.2.1 3) k y)) 16 (nI (k + 1))) ∨ (((wB x (nI 0) (nI 20) && wB y (nI 0) (nI 20)) = true) ∧ (6 ≤ k) ∧ r = (-4) ∧ u = σ) ∨ (((wB x (nI 0) (nI 20) && wB y (nI 0) (nI 20)) = false) ∧ r = (-2) ∧ u = σ))) := by
  refine j_entry [(0, .ref (g 0)), (1, .int x), (2, .int y)] (by decide) (Nat.le_of_ble_eq_true rfl) rfl ?_
  intro X C E HI
  refine j_iload_n C 1 rfl dX10_can_0 ?_
  refine j_iload_n C 2 rfl dX10_can_1 ?_
  refine j_S01 C (c_isPlace x y) kyX10_isPlace tb_464 tb_465 rfl (Nat.le_of_ble_eq_true rfl) ⟨by decide, by decide⟩ ⟨by decide, by decide⟩ dX10_can_2 rfl ?_
  refine j_if_ne C 11 (by decide) dX10_can_5 (fun c1 => ?_) (fun c1 => ?_)
  · replace c1 := bI_t c1
    refine j_aload_n C 0 rfl dX10_can_11 ?_
    refine gX_0_0 C tb_428 dX10_can_12 ?_
    refine gX_1_0 C tb_99 (nI k) hk dX10_can_15 ?_
    refine j_bipush C (nI 6) (by decide) dX10_can_18 ?_
    refine j_icmp_ltN C 26 (by decide) (by omega) (by omega) dX10_can_20 (fun c2 => ?_) (fun c2 => ?_)
    · refine j_aload_n C 0 rfl dX10_can_26 ?_
      refine gX_0_2 C tb_430 dX10_can_27 ?_
      refine j_iconst C (nI 1) (by decide) dX10_can_30 ?_
      refine pX_27_5 C tb_214 rfl rfl dX10_can_31 ?_
      refine j_aload_n C 0 rfl dX10_can_34 ?_
      refine gX_0_0 C tb_428 dX10_can_35 ?_
      refine j_iload_n C 1 rfl dX10_can_38 ?_
      refine j_iload_n C 2 rfl dX10_can_39 ?_
      refine j_V1 C (c_addCan g kk (sI σ 437 (nI 1)) k hk (by omega) x y) kyX2_addCan tb_470 tb_471 tb_472 1 rfl (eX_1 g kk _) rfl (Nat.le_of_ble_eq_true rfl) ⟨by decide, by decide⟩ dX10_can_40 rfl (fun vr ur hp => ?_)
      obtain ⟨r, rfl, rfl, hu⟩ := hp
      replace hu := hu.symm
      subst hu
      exact j_iret C E (sI (sF (sF (sI σ 437 (nI 1)) 2 (upd (σ.2.1 2) k x)) 3 (upd (σ.2.1 3) k y)) 16 (nI (k + 1))) ⟨_, rfl, Or.inl ⟨c1, c2, rfl, rfl⟩⟩ rfl dX10_can_43
    · refine j_bipush C ((-4)) (by decide) dX10_can_23 ?_
      exact j_iret C E (σ) ⟨_, rfl, Or.inr (Or.inl ⟨c1, c2, rfl, rfl⟩)⟩ rfl dX10_can_25
  · replace c1 := bI_f c1
    refine j_bipush C ((-2)) (by decide) dX10_can_8 ?_
    exact j_iret C E (σ) ⟨_, rfl, Or.inr (Or.inr (⟨c1, rfl, rfl⟩))⟩ rfl dX10_can_10
set_option maxRecDepth 100000 in
set_option maxHeartbeats 4000000 in
theorem c_miss (g kk : Nat → Nat) (σ : St) (k : Nat) (hk : σ.1 16 = nI k) (hk6 : k ≤ 6) (x y z : Int32) : jM (S := St) yX10_miss cX10_miss 6 (some .int) { frames := 1, cells := 0, slots := 0, locals := 22 } kk (cX g kk σ) [.ref (g 0), .int x, .int y, .int z] (cX g kk) (rI (fun (r : Int32) (u : St) => (((cB x (nI k)) = true) ∧ ((wB y (nI 0) (nI 2)) = false) ∧ r = (-2) ∧ u = σ) ∨ (∃ n m : Nat, ((cB x (nI k)) = true) ∧ ((wB y (nI 0) (nI 2)) = true) ∧ ((wB z (nI 0) (nI 9)) = true) ∧ (n < k) ∧ (x = nI n) ∧ (0 ≤ m) ∧ (m ≤ 2) ∧ (y = nI m) ∧ r = ((σ.2.1 4) ((n * 3) + m)) ∧ u = sI (sF σ 4 (upd (σ.2.1 4) ((n * 3) + m) z)) 437 (nI 1)) ∨ (((cB x (nI k)) = true) ∧ ((wB y (nI 0) (nI 2)) = true) ∧ ((wB z (nI 0) (nI 9)) = false) ∧ r = (-2) ∧ u = σ) ∨ (((cB x (nI k)) = false) ∧ r = (-1) ∧ u = σ))) := by
  refine j_entry [(0, .ref (g 0)), (1, .int x), (2, .int y), (3, .int z)] (by decide) (Nat.le_of_ble_eq_true rfl) rfl ?_
  intro X C E HI
  refine j_aload_n C 0 rfl dX10_miss_0 ?_
  refine j_iload_n C 1 rfl dX10_miss_1 ?_
  refine j_V1 C (c_isCan g kk σ k hk hk6 x) kyX10_isCan tb_478 tb_480 sp_0 0 rfl (eX_0 g kk _) rfl (Nat.le_of_ble_eq_true rfl) ⟨by decide, by decide⟩ dX10_miss_2 rfl (fun vr ur hp => ?_)
  obtain ⟨r, rfl, rfl, hu⟩ := hp
  replace hu := hu.symm
  subst hu
  refine j_if_ne C 10 (by decide) dX10_miss_5 (fun c1 => ?_) (fun c1 => ?_)
  · replace c1 := bI_t c1
    refine j_iload_n C 2 rfl dX10_miss_10 ?_
    refine j_iconst C (nI 0) (by decide) dX10_miss_11 ?_
    refine j_iconst C (nI 2) (by decide) dX10_miss_12 ?_
    refine j_S01 C (c_isWithin y (nI 0) (nI 2)) kyX10_isWithin tb_467 tb_468 rfl (Nat.le_of_ble_eq_true rfl) ⟨by decide, by decide⟩ ⟨by decide, by decide⟩ dX10_miss_13 rfl ?_
    refine j_if_eq C 29 (by decide) dX10_miss_16 (fun c2 => ?_) (fun c2 => ?_)
    · replace c2 := bI_f c2
      refine j_bipush C ((-2)) (by decide) dX10_miss_29 ?_
      exact j_iret C E (σ) ⟨_, rfl, Or.inl ⟨c1, c2, rfl, rfl⟩⟩ rfl dX10_miss_31
    · replace c2 := bI_t c2
      refine j_iload_n C 3 rfl dX10_miss_19 ?_
      refine j_iconst C (nI 0) (by decide) dX10_miss_20 ?_
      refine j_bipush C (nI 9) (by decide) dX10_miss_21 ?_
      refine j_S01 C (c_isWithin z (nI 0) (nI 9)) kyX10_isWithin tb_467 tb_468 rfl (Nat.le_of_ble_eq_true rfl) ⟨by decide, by decide⟩ ⟨by decide, by decide⟩ dX10_miss_23 rfl ?_
      refine j_if_ne C 32 (by decide) dX10_miss_26 (fun c3 => ?_) (fun c3 => ?_)
      · replace c3 := bI_t c3
        obtain ⟨n, n1, ne⟩ := cB_nat (by omega) c1
        rw [ne]
        obtain ⟨m, m1, m2, me⟩ := wB_nat (by decide) (by decide) c2
        rw [me]
        refine j_iload_n C 1 rfl dX10_miss_32 ?_
        refine j_iconst C (nI 3) (by decide) dX10_miss_33 ?_
        refine j_imulN C dX10_miss_34 ?_
        refine j_iload_n C 2 rfl dX10_miss_35 ?_
        refine j_iaddN C dX10_miss_36 ?_
        refine j_istore C [(4, .int (nI ((n * 3) + m))), (0, .ref (g 0)), (1, .int (nI n)), (2, .int (nI m)), (3, .int z)] (by decide) rfl dX10_miss_37 ?_
        refine j_aload_n C 1 rfl dX10_miss_39 ?_
        refine gX_0_0 C tb_428 dX10_miss_40 ?_
        refine gX_1_3 C tb_111 dX10_miss_43 ?_
        refine j_iload C 0 rfl dX10_miss_46 ?_
        refine rX_4 C ((n * 3) + m) rfl (by omega) ((σ.2.1 4) ((n * 3) + m)) rfl dX10_miss_48 ?_
        refine j_istore C [(5, .int ((σ.2.1 4) ((n * 3) + m))), (4, .int (nI ((n * 3) + m))), (0, .ref (g 0)), (1, .int (nI n)), (2, .int (nI m)), (3, .int z)] (by decide) rfl dX10_miss_49 ?_
        refine j_aload_n C 2 rfl dX10_miss_51 ?_
        refine gX_0_0 C tb_428 dX10_miss_52 ?_
        refine gX_1_3 C tb_111 dX10_miss_55 ?_
        refine j_iload C 1 rfl dX10_miss_58 ?_
        refine j_iload_n C 5 rfl dX10_miss_60 ?_
        refine tX_4 C ((n * 3) + m) rfl (by omega) dX10_miss_61 ?_
        refine j_aload_n C 2 rfl dX10_miss_62 ?_
        refine gX_0_2 C tb_430 dX10_miss_63 ?_
        refine j_iconst C (nI 1) (by decide) dX10_miss_66 ?_
        refine pX_27_5 C tb_214 rfl rfl dX10_miss_67 ?_
        refine j_iload C 0 rfl dX10_miss_70 ?_
        exact j_iret C E (sI (sF σ 4 (upd (σ.2.1 4) ((n * 3) + m) z)) 437 (nI 1)) ⟨_, rfl, Or.inr (Or.inl ⟨n, m, c1, c2, c3, n1, ne, m1, m2, me, rfl, rfl⟩)⟩ rfl dX10_miss_72
      · replace c3 := bI_f c3
        refine j_bipush C ((-2)) (by decide) dX10_miss_29 ?_
        exact j_iret C E (σ) ⟨_, rfl, Or.inr (Or.inr (Or.inl ⟨c1, c2, c3, rfl, rfl⟩))⟩ rfl dX10_miss_31
  · replace c1 := bI_f c1
    refine j_iconst C ((-1)) (by decide) dX10_miss_8 ?_
    exact j_iret C E (σ) ⟨_, rfl, Or.inr (Or.inr (Or.inr (⟨c1, rfl, rfl⟩)))⟩ rfl dX10_miss_9
set_option maxRecDepth 100000 in
set_option maxHeartbeats 4000000 in
theorem c_wind (g kk : Nat → Nat) (σ : St) (x y : Int32) : jM (S := St) yX10_wind cX10_wind 4 (some .int) { frames := 2, cells := 0, slots := 0, locals := 42 } kk (cX g kk σ) [.ref (g 0), .int x, .int y] (cX g kk) (rI (fun (r : Int32) (u : St) => (∃ n : Nat, ((wB x (nI 0) (nI 27)) = true) ∧ ((wB y (nI 0) (nI 2)) = true) ∧ (0 ≤ n) ∧ (n ≤ 27) ∧ (x = nI n) ∧ r = ((σ.2.1 5) n) ∧ u = sI (sF σ 5 (upd (σ.2.1 5) n y)) 437 (nI 1)) ∨ (((wB x (nI 0) (nI 27)) = true) ∧ ((wB y (nI 0) (nI 2)) = false) ∧ r = (-2) ∧ u = σ) ∨ (((wB x (nI 0) (nI 27)) = false) ∧ r = (-1) ∧ u = σ))) := by
  refine j_entry [(0, .ref (g 0)), (1, .int x), (2, .int y)] (by decide) (Nat.le_of_ble_eq_true rfl) rfl ?_
  intro X C E HI
  refine j_iload_n C 1 rfl dX10_wind_0 ?_
  refine j_S01 C (c_isDay x) kyX10_isDay tb_486 tb_487 rfl (Nat.le_of_ble_eq_true rfl) ⟨by decide, by decide⟩ ⟨by decide, by decide⟩ dX10_wind_1 rfl ?_
  refine j_if_ne C 9 (by decide) dX10_wind_4 (fun c1 => ?_) (fun c1 => ?_)
  · replace c1 := bI_t c1
    refine j_iload_n C 2 rfl dX10_wind_9 ?_
    refine j_iconst C (nI 0) (by decide) dX10_wind_10 ?_
    refine j_iconst C (nI 2) (by decide) dX10_wind_11 ?_
    refine j_S01 C (c_isWithin y (nI 0) (nI 2)) kyX10_isWithin tb_467 tb_468 rfl (Nat.le_of_ble_eq_true rfl) ⟨by decide, by decide⟩ ⟨by decide, by decide⟩ dX10_wind_12 rfl ?_
    refine j_if_ne C 21 (by decide) dX10_wind_15 (fun c2 => ?_) (fun c2 => ?_)
    · replace c2 := bI_t c2
      obtain ⟨n, n1, n2, ne⟩ := wB_nat (by decide) (by decide) c1
      rw [ne]
      refine j_aload_n C 0 rfl dX10_wind_21 ?_
      refine gX_0_0 C tb_428 dX10_wind_22 ?_
      refine gX_1_4 C tb_114 dX10_wind_25 ?_
      refine j_iload_n C 1 rfl dX10_wind_28 ?_
      refine rX_5 C n rfl (by omega) ((σ.2.1 5) n) rfl dX10_wind_29 ?_
      refine j_istore_n C [(3, .int ((σ.2.1 5) n)), (0, .ref (g 0)), (1, .int (nI n)), (2, .int y)] rfl (by decide) rfl dX10_wind_30 ?_
      refine j_aload_n C 1 rfl dX10_wind_31 ?_
      refine gX_0_0 C tb_428 dX10_wind_32 ?_
      refine gX_1_4 C tb_114 dX10_wind_35 ?_
      refine j_iload_n C 2 rfl dX10_wind_38 ?_
      refine j_iload_n C 3 rfl dX10_wind_39 ?_
      refine tX_5 C n rfl (by omega) dX10_wind_40 ?_
      refine j_aload_n C 1 rfl dX10_wind_41 ?_
      refine gX_0_2 C tb_430 dX10_wind_42 ?_
      refine j_iconst C (nI 1) (by decide) dX10_wind_45 ?_
      refine pX_27_5 C tb_214 rfl rfl dX10_wind_46 ?_
      refine j_iload_n C 0 rfl dX10_wind_49 ?_
      exact j_iret C E (sI (sF σ 5 (upd (σ.2.1 5) n y)) 437 (nI 1)) ⟨_, rfl, Or.inl ⟨n, c1, c2, n1, n2, ne, rfl, rfl⟩⟩ rfl dX10_wind_50
    · replace c2 := bI_f c2
      refine j_bipush C ((-2)) (by decide) dX10_wind_18 ?_
      exact j_iret C E (σ) ⟨_, rfl, Or.inr (Or.inl ⟨c1, c2, rfl, rfl⟩)⟩ rfl dX10_wind_20
  · replace c1 := bI_f c1
    refine j_iconst C ((-1)) (by decide) dX10_wind_7 ?_
    exact j_iret C E (σ) ⟨_, rfl, Or.inr (Or.inr (⟨c1, rfl, rfl⟩))⟩ rfl dX10_wind_8
set_option maxRecDepth 100000 in
set_option maxHeartbeats 4000000 in
theorem c_raw (g kk : Nat → Nat) (σ : St) (k : Nat) (hk : σ.1 16 = nI k) (hk6 : k ≤ 6) (x y z : Int32) : jM (S := St) yX10_raw cX10_raw 6 (some .int) { frames := 2, cells := 0, slots := 0, locals := 42 } kk (cX g kk σ) [.ref (g 0), .int x, .int y, .int z] (cX g kk) (rI (fun (r : Int32) (u : St) => (((cB x (nI k)) = false) ∧ r = (-1) ∧ u = σ) ∨ (∃ n m : Nat, ((cB x (nI k)) = true) ∧ ((wB y (nI 0) (nI 27)) = true) ∧ ((wB z (-1) (nI 999)) = true) ∧ (n < k) ∧ (x = nI n) ∧ (0 ≤ m) ∧ (m ≤ 27) ∧ (y = nI m) ∧ r = (if ((σ.2.1 6) ((n * 28) + m)) = -1 then -6 else ((σ.2.1 6) ((n * 28) + m))) ∧ u = sI (sF σ 6 (upd (σ.2.1 6) ((n * 28) + m) z)) 437 (nI 1)) ∨ (((cB x (nI k)) = true) ∧ ((wB y (nI 0) (nI 27)) = true) ∧ ((wB z (-1) (nI 999)) = false) ∧ r = (-2) ∧ u = σ) ∨ (((cB x (nI k)) = true) ∧ ((wB y (nI 0) (nI 27)) = false) ∧ r = (-1) ∧ u = σ))) := by
  refine j_entry [(0, .ref (g 0)), (1, .int x), (2, .int y), (3, .int z)] (by decide) (Nat.le_of_ble_eq_true rfl) rfl ?_
  intro X C E HI
  refine j_aload_n C 0 rfl dX10_raw_0 ?_
  refine j_iload_n C 1 rfl dX10_raw_1 ?_
  refine j_V1 C (c_isCan g kk σ k hk hk6 x) kyX10_isCan tb_478 tb_480 sp_0 0 rfl (eX_0 g kk _) rfl (Nat.le_of_ble_eq_true rfl) ⟨by decide, by decide⟩ dX10_raw_2 rfl (fun vr ur hp => ?_)
  obtain ⟨r, rfl, rfl, hu⟩ := hp
  replace hu := hu.symm
  subst hu
  refine j_if_eq C 15 (by decide) dX10_raw_5 (fun c1 => ?_) (fun c1 => ?_)
  · replace c1 := bI_f c1
    refine j_iconst C ((-1)) (by decide) dX10_raw_15 ?_
    exact j_iret C E (σ) ⟨_, rfl, Or.inl ⟨c1, rfl, rfl⟩⟩ rfl dX10_raw_16
  · replace c1 := bI_t c1
    refine j_iload_n C 2 rfl dX10_raw_8 ?_
    refine j_S01 C (c_isDay y) kyX10_isDay tb_486 tb_487 rfl (Nat.le_of_ble_eq_true rfl) ⟨by decide, by decide⟩ ⟨by decide, by decide⟩ dX10_raw_9 rfl ?_
    refine j_if_ne C 17 (by decide) dX10_raw_12 (fun c2 => ?_) (fun c2 => ?_)
    · replace c2 := bI_t c2
      refine j_iload_n C 3 rfl dX10_raw_17 ?_
      refine j_iconst C ((-1)) (by decide) dX10_raw_18 ?_
      refine j_sipush C (nI 999) (by decide) dX10_raw_19 ?_
      refine j_S01 C (c_isWithin z (-1) (nI 999)) kyX10_isWithin tb_467 tb_468 rfl (Nat.le_of_ble_eq_true rfl) ⟨by decide, by decide⟩ ⟨by decide, by decide⟩ dX10_raw_22 rfl ?_
      refine j_if_ne C 31 (by decide) dX10_raw_25 (fun c3 => ?_) (fun c3 => ?_)
      · replace c3 := bI_t c3
        obtain ⟨n, n1, ne⟩ := cB_nat (by omega) c1
        rw [ne]
        obtain ⟨m, m1, m2, me⟩ := wB_nat (by decide) (by decide) c2
        rw [me]
        refine j_iload_n C 1 rfl dX10_raw_31 ?_
        refine j_bipush C (nI 28) (by decide) dX10_raw_32 ?_
        refine j_imulN C dX10_raw_34 ?_
        refine j_iload_n C 2 rfl dX10_raw_35 ?_
        refine j_iaddN C dX10_raw_36 ?_
        refine j_istore C [(4, .int (nI ((n * 28) + m))), (0, .ref (g 0)), (1, .int (nI n)), (2, .int (nI m)), (3, .int z)] (by decide) rfl dX10_raw_37 ?_
        refine j_aload_n C 1 rfl dX10_raw_39 ?_
        refine gX_0_0 C tb_428 dX10_raw_40 ?_
        refine gX_1_5 C tb_119 dX10_raw_43 ?_
        refine j_iload C 0 rfl dX10_raw_46 ?_
        refine rX_6 C ((n * 28) + m) rfl (by omega) ((σ.2.1 6) ((n * 28) + m)) rfl dX10_raw_48 ?_
        refine j_istore C [(5, .int ((σ.2.1 6) ((n * 28) + m))), (4, .int (nI ((n * 28) + m))), (0, .ref (g 0)), (1, .int (nI n)), (2, .int (nI m)), (3, .int z)] (by decide) rfl dX10_raw_49 ?_
        refine j_aload_n C 2 rfl dX10_raw_51 ?_
        refine gX_0_0 C tb_428 dX10_raw_52 ?_
        refine gX_1_5 C tb_119 dX10_raw_55 ?_
        refine j_iload C 1 rfl dX10_raw_58 ?_
        refine j_iload_n C 5 rfl dX10_raw_60 ?_
        refine tX_6 C ((n * 28) + m) rfl (by omega) dX10_raw_61 ?_
        refine j_aload_n C 2 rfl dX10_raw_62 ?_
        refine gX_0_2 C tb_430 dX10_raw_63 ?_
        refine j_iconst C (nI 1) (by decide) dX10_raw_66 ?_
        refine pX_27_5 C tb_214 rfl rfl dX10_raw_67 ?_
        refine j_iload C 0 rfl dX10_raw_70 ?_
        refine j_S01 C (c_orNone ((σ.2.1 6) ((n * 28) + m))) kyX10_orNone tb_493 tb_494 rfl (Nat.le_of_ble_eq_true rfl) ⟨by decide, by decide⟩ ⟨by decide, by decide⟩ dX10_raw_72 rfl ?_
        exact j_iret C E (sI (sF σ 6 (upd (σ.2.1 6) ((n * 28) + m) z)) 437 (nI 1)) ⟨_, rfl, Or.inr (Or.inl ⟨n, m, c1, c2, c3, n1, ne, m1, m2, me, rfl, rfl⟩)⟩ rfl dX10_raw_75
      · replace c3 := bI_f c3
        refine j_bipush C ((-2)) (by decide) dX10_raw_28 ?_
        exact j_iret C E (σ) ⟨_, rfl, Or.inr (Or.inr (Or.inl ⟨c1, c2, c3, rfl, rfl⟩))⟩ rfl dX10_raw_30
    · replace c2 := bI_f c2
      refine j_iconst C ((-1)) (by decide) dX10_raw_15 ?_
      exact j_iret C E (σ) ⟨_, rfl, Or.inr (Or.inr (Or.inr (⟨c1, c2, rfl, rfl⟩)))⟩ rfl dX10_raw_16
set_option maxRecDepth 100000 in
set_option maxHeartbeats 4000000 in
theorem c_fadd (g kk : Nat → Nat) (σ : St) (f : Nat) (hf : σ.1 176 = nI f) (hf19 : f < 20) (q : Nat) (hq : q < 168) (v : Int32) : jM (S := St) yX1_add cX1_add 3 none { frames := 0, cells := 0, slots := 0, locals := 0 } kk (cX g kk σ) [.ref (g 11), .int (nI q), .int v] (cX g kk) (rV (fun u : St => (u = sI (sF (sF (sF (sF σ 12 (upd (σ.2.1 12) f (nI q))) 13 (upd (σ.2.1 13) f v)) 14 (upd (σ.2.1 14) f ((σ.2.1 15) q))) 15 (upd (σ.2.1 15) q (nI f))) 176 (nI (f + 1))))) := by
  refine j_entry [(0, .ref (g 11)), (1, .int (nI q)), (2, .int v)] (by decide) (Nat.le_of_ble_eq_true rfl) rfl ?_
  intro X C E HI
  refine j_aload_n C 0 rfl dX1_add_0 ?_
  refine gX_11_1 C tb_41 dX1_add_1 ?_
  refine j_aload_n C 0 rfl dX1_add_4 ?_
  refine gX_11_0 C tb_39 (nI f) hf dX1_add_5 ?_
  refine j_iload_n C 1 rfl dX1_add_8 ?_
  refine tX_12 C f rfl (by omega) dX1_add_9 ?_
  refine j_aload_n C 0 rfl dX1_add_10 ?_
  refine gX_11_2 C tb_42 dX1_add_11 ?_
  refine j_aload_n C 0 rfl dX1_add_14 ?_
  refine gX_11_0 C tb_39 (nI f) hf dX1_add_15 ?_
  refine j_iload_n C 2 rfl dX1_add_18 ?_
  refine tX_13 C f rfl (by omega) dX1_add_19 ?_
  refine j_aload_n C 0 rfl dX1_add_20 ?_
  refine gX_11_3 C tb_44 dX1_add_21 ?_
  refine j_aload_n C 0 rfl dX1_add_24 ?_
  refine gX_11_0 C tb_39 (nI f) hf dX1_add_25 ?_
  refine j_aload_n C 0 rfl dX1_add_28 ?_
  refine gX_11_4 C tb_45 dX1_add_29 ?_
  refine j_iload_n C 1 rfl dX1_add_32 ?_
  refine rX_15 C q rfl (by omega) ((σ.2.1 15) q) rfl dX1_add_33 ?_
  refine tX_14 C f rfl (by omega) dX1_add_34 ?_
  refine j_aload_n C 0 rfl dX1_add_35 ?_
  refine gX_11_4 C tb_45 dX1_add_36 ?_
  refine j_iload_n C 1 rfl dX1_add_39 ?_
  refine j_aload_n C 0 rfl dX1_add_40 ?_
  refine gX_11_0 C tb_39 (nI f) hf dX1_add_41 ?_
  refine tX_15 C q rfl (by omega) dX1_add_44 ?_
  refine j_aload_n C 0 rfl dX1_add_45 ?_
  refine j_dup C rfl dX1_add_46 ?_
  refine gX_11_0 C tb_39 (nI f) hf dX1_add_47 ?_
  refine j_iconst C (nI 1) (by decide) dX1_add_50 ?_
  refine j_iaddN C dX1_add_51 ?_
  refine pX_11_0 C tb_39 dX1_add_52 ?_
  exact j_vret C E (sI (sF (sF (sF (sF σ 12 (upd (σ.2.1 12) f (nI q))) 13 (upd (σ.2.1 13) f v)) 14 (upd (σ.2.1 14) f ((σ.2.1 15) q))) 15 (upd (σ.2.1 15) q (nI f))) 176 (nI (f + 1))) ⟨rfl, rfl⟩ rfl dX1_add_55
set_option maxRecDepth 100000 in
set_option maxHeartbeats 4000000 in
theorem c_fix (g kk : Nat → Nat) (σ : St) (k : Nat) (hk : σ.1 16 = nI k) (hk6 : k ≤ 6) (f : Nat) (hf : σ.1 176 = nI f) (hf20 : f ≤ 20) (x y z : Int32) : jM (S := St) yX10_fix cX10_fix 4 (some .int) { frames := 2, cells := 0, slots := 0, locals := 42 } kk (cX g kk σ) [.ref (g 0), .int x, .int y, .int z] (cX g kk) (rI (fun (r : Int32) (u : St) => (((cB x (nI k)) = false) ∧ r = (-1) ∧ u = σ) ∨ (∃ n m : Nat, ((cB x (nI k)) = true) ∧ ((wB y (nI 0) (nI 27)) = true) ∧ ((wB z (-1) (nI 999)) = true) ∧ (f < 20) ∧ (n < k) ∧ (x = nI n) ∧ (0 ≤ m) ∧ (m ≤ 27) ∧ (y = nI m) ∧ r = (nI (f + 1)) ∧ u = sI (sI (sF (sF (sF (sF σ 12 (upd (σ.2.1 12) f (nI ((n * 28) + m)))) 13 (upd (σ.2.1 13) f z)) 14 (upd (σ.2.1 14) f (σ.2.1 15 ((n * 28) + m)))) 15 (upd (σ.2.1 15) ((n * 28) + m) (nI f))) 176 (nI (f + 1))) 437 (nI 1)) ∨ (((cB x (nI k)) = true) ∧ ((wB y (nI 0) (nI 27)) = true) ∧ ((wB z (-1) (nI 999)) = true) ∧ (20 ≤ f) ∧ r = (-4) ∧ u = σ) ∨ (((cB x (nI k)) = true) ∧ ((wB y (nI 0) (nI 27)) = true) ∧ ((wB z (-1) (nI 999)) = false) ∧ r = (-2) ∧ u = σ) ∨ (((cB x (nI k)) = true) ∧ ((wB y (nI 0) (nI 27)) = false) ∧ r = (-1) ∧ u = σ))) := by
  refine j_entry [(0, .ref (g 0)), (1, .int x), (2, .int y), (3, .int z)] (by decide) (Nat.le_of_ble_eq_true rfl) rfl ?_
  intro X C E HI
  refine j_aload_n C 0 rfl dX10_fix_0 ?_
  refine j_iload_n C 1 rfl dX10_fix_1 ?_
  refine j_V1 C (c_isCan g kk σ k hk hk6 x) kyX10_isCan tb_478 tb_480 sp_0 0 rfl (eX_0 g kk _) rfl (Nat.le_of_ble_eq_true rfl) ⟨by decide, by decide⟩ dX10_fix_2 rfl (fun vr ur hp => ?_)
  obtain ⟨r, rfl, rfl, hu⟩ := hp
  replace hu := hu.symm
  subst hu
  refine j_if_eq C 15 (by decide) dX10_fix_5 (fun c1 => ?_) (fun c1 => ?_)
  · replace c1 := bI_f c1
    refine j_iconst C ((-1)) (by decide) dX10_fix_15 ?_
    exact j_iret C E (σ) ⟨_, rfl, Or.inl ⟨c1, rfl, rfl⟩⟩ rfl dX10_fix_16
  · replace c1 := bI_t c1
    refine j_iload_n C 2 rfl dX10_fix_8 ?_
    refine j_S01 C (c_isDay y) kyX10_isDay tb_486 tb_487 rfl (Nat.le_of_ble_eq_true rfl) ⟨by decide, by decide⟩ ⟨by decide, by decide⟩ dX10_fix_9 rfl ?_
    refine j_if_ne C 17 (by decide) dX10_fix_12 (fun c2 => ?_) (fun c2 => ?_)
    · replace c2 := bI_t c2
      refine j_iload_n C 3 rfl dX10_fix_17 ?_
      refine j_iconst C ((-1)) (by decide) dX10_fix_18 ?_
      refine j_sipush C (nI 999) (by decide) dX10_fix_19 ?_
      refine j_S01 C (c_isWithin z (-1) (nI 999)) kyX10_isWithin tb_467 tb_468 rfl (Nat.le_of_ble_eq_true rfl) ⟨by decide, by decide⟩ ⟨by decide, by decide⟩ dX10_fix_22 rfl ?_
      refine j_if_ne C 31 (by decide) dX10_fix_25 (fun c3 => ?_) (fun c3 => ?_)
      · replace c3 := bI_t c3
        refine j_aload_n C 0 rfl dX10_fix_31 ?_
        refine gX_0_0 C tb_428 dX10_fix_32 ?_
        refine gX_1_10 C tb_133 dX10_fix_35 ?_
        refine gX_11_0 C tb_40 (nI f) hf dX10_fix_38 ?_
        refine j_bipush C (nI 20) (by decide) dX10_fix_41 ?_
        refine j_icmp_ltN C 49 (by decide) (by omega) (by omega) dX10_fix_43 (fun c4 => ?_) (fun c4 => ?_)
        · obtain ⟨n, n1, ne⟩ := cB_nat (by omega) c1
          rw [ne]
          obtain ⟨m, m1, m2, me⟩ := wB_nat (by decide) (by decide) c2
          rw [me]
          refine j_aload_n C 0 rfl dX10_fix_49 ?_
          refine gX_0_0 C tb_428 dX10_fix_50 ?_
          refine gX_1_10 C tb_133 dX10_fix_53 ?_
          refine j_iload_n C 1 rfl dX10_fix_56 ?_
          refine j_bipush C (nI 28) (by decide) dX10_fix_57 ?_
          refine j_imulN C dX10_fix_59 ?_
          refine j_iload_n C 2 rfl dX10_fix_60 ?_
          refine j_iaddN C dX10_fix_61 ?_
          refine j_iload_n C 3 rfl dX10_fix_62 ?_
          refine j_V1 C (c_fadd g kk σ f hf (by omega) ((n * 28) + m) (by omega) z) kyX1_add tb_500 tb_501 tb_502 11 rfl (eX_11 g kk _) rfl (Nat.le_of_ble_eq_true rfl) ⟨by decide, by decide⟩ dX10_fix_63 rfl (fun vr ur hp => ?_)
          obtain ⟨rfl, hu⟩ := hp
          replace hu := hu.symm
          subst hu
          refine j_aload_n C 0 rfl dX10_fix_66 ?_
          refine gX_0_2 C tb_430 dX10_fix_67 ?_
          refine j_iconst C (nI 1) (by decide) dX10_fix_70 ?_
          refine pX_27_5 C tb_214 rfl rfl dX10_fix_71 ?_
          refine j_aload_n C 0 rfl dX10_fix_74 ?_
          refine gX_0_0 C tb_428 dX10_fix_75 ?_
          refine gX_1_10 C tb_133 dX10_fix_78 ?_
          refine gX_11_0 C tb_40 (nI (f + 1)) rfl dX10_fix_81 ?_
          exact j_iret C E (sI (sI (sF (sF (sF (sF σ 12 (upd (σ.2.1 12) f (nI ((n * 28) + m)))) 13 (upd (σ.2.1 13) f z)) 14 (upd (σ.2.1 14) f (σ.2.1 15 ((n * 28) + m)))) 15 (upd (σ.2.1 15) ((n * 28) + m) (nI f))) 176 (nI (f + 1))) 437 (nI 1)) ⟨_, rfl, Or.inr (Or.inl ⟨n, m, c1, c2, c3, c4, n1, ne, m1, m2, me, rfl, rfl⟩)⟩ rfl dX10_fix_84
        · refine j_bipush C ((-4)) (by decide) dX10_fix_46 ?_
          exact j_iret C E (σ) ⟨_, rfl, Or.inr (Or.inr (Or.inl ⟨c1, c2, c3, c4, rfl, rfl⟩))⟩ rfl dX10_fix_48
      · replace c3 := bI_f c3
        refine j_bipush C ((-2)) (by decide) dX10_fix_28 ?_
        exact j_iret C E (σ) ⟨_, rfl, Or.inr (Or.inr (Or.inr (Or.inl ⟨c1, c2, c3, rfl, rfl⟩)))⟩ rfl dX10_fix_30
    · replace c2 := bI_f c2
      refine j_iconst C ((-1)) (by decide) dX10_fix_15 ?_
      exact j_iret C E (σ) ⟨_, rfl, Or.inr (Or.inr (Or.inr (Or.inr (⟨c1, c2, rfl, rfl⟩))))⟩ rfl dX10_fix_16
set_option maxRecDepth 100000 in
set_option maxHeartbeats 4000000 in
theorem c_takeBack (g kk : Nat → Nat) (σ : St) (f : Nat) (hf : σ.1 176 = nI (f + 1)) (hf19 : f < 20) (q : Nat) (hq : q < 168) (eq : σ.2.1 12 f = nI q) : jM (S := St) yX1_takeBack cX1_takeBack 1 none { frames := 0, cells := 0, slots := 0, locals := 0 } kk (cX g kk σ) [.ref (g 11)] (cX g kk) (rV (fun u : St => (u = sF (sI σ 176 (nI ((f + 1) - 1))) 15 (upd (σ.2.1 15) q ((σ.2.1 14) ((f + 1) - 1)))))) := by
  refine j_entry [(0, .ref (g 11))] (by decide) (Nat.le_of_ble_eq_true rfl) rfl ?_
  intro X C E HI
  refine j_aload_n C 0 rfl dX1_takeBack_0 ?_
  refine j_dup C rfl dX1_takeBack_1 ?_
  refine gX_11_0 C tb_39 (nI (f + 1)) hf dX1_takeBack_2 ?_
  refine j_iconst C (nI 1) (by decide) dX1_takeBack_5 ?_
  refine j_isubN C (by omega) dX1_takeBack_6 ?_
  refine pX_11_0 C tb_39 dX1_takeBack_7 ?_
  refine j_aload_n C 0 rfl dX1_takeBack_10 ?_
  refine gX_11_4 C tb_45 dX1_takeBack_11 ?_
  refine j_aload_n C 0 rfl dX1_takeBack_14 ?_
  refine gX_11_1 C tb_41 dX1_takeBack_15 ?_
  refine j_aload_n C 0 rfl dX1_takeBack_18 ?_
  refine gX_11_0 C tb_39 (nI ((f + 1) - 1)) rfl dX1_takeBack_19 ?_
  refine rX_12 C ((f + 1) - 1) rfl (by omega) (nI q) eq dX1_takeBack_22 ?_
  refine j_aload_n C 0 rfl dX1_takeBack_23 ?_
  refine gX_11_3 C tb_44 dX1_takeBack_24 ?_
  refine j_aload_n C 0 rfl dX1_takeBack_27 ?_
  refine gX_11_0 C tb_39 (nI ((f + 1) - 1)) rfl dX1_takeBack_28 ?_
  refine rX_14 C ((f + 1) - 1) rfl (by omega) ((σ.2.1 14) ((f + 1) - 1)) rfl dX1_takeBack_31 ?_
  refine tX_15 C q rfl (by omega) dX1_takeBack_32 ?_
  exact j_vret C E (sF (sI σ 176 (nI ((f + 1) - 1))) 15 (upd (σ.2.1 15) q ((σ.2.1 14) ((f + 1) - 1)))) ⟨rfl, rfl⟩ rfl dX1_takeBack_33
set_option maxRecDepth 100000 in
set_option maxHeartbeats 4000000 in
theorem c_undo (g kk : Nat → Nat) (σ : St) (f : Nat) (hf : σ.1 176 = nI (f + 1)) (hf19 : f < 20) (q : Nat) (hq : q < 168) (eq : σ.2.1 12 f = nI q) : jM (S := St) yX10_undo cX10_undo 1 (some .int) { frames := 1, cells := 0, slots := 0, locals := 20 } kk (cX g kk σ) [.ref (g 0)] (cX g kk) (rI (fun (r : Int32) (u : St) => ((¬ (f + 1) = 0) ∧ r = (nI (f + 1 - 1)) ∧ u = sI (sF (sI σ 176 (nI (f + 1 - 1))) 15 (upd (σ.2.1 15) q (σ.2.1 14 (f + 1 - 1)))) 437 (nI 1)) ∨ (((f + 1) = 0) ∧ r = (-5) ∧ u = σ))) := by
  refine j_entry [(0, .ref (g 0))] (by decide) (Nat.le_of_ble_eq_true rfl) rfl ?_
  intro X C E HI
  refine j_aload_n C 0 rfl dX10_undo_0 ?_
  refine gX_0_0 C tb_428 dX10_undo_1 ?_
  refine gX_1_10 C tb_133 dX10_undo_4 ?_
  refine gX_11_0 C tb_40 (nI (f + 1)) hf dX10_undo_7 ?_
  refine j_if_neN C 16 (by decide) (by omega) dX10_undo_10 (fun c1 => ?_) (fun c1 => ?_)
  · refine j_aload_n C 0 rfl dX10_undo_16 ?_
    refine gX_0_0 C tb_428 dX10_undo_17 ?_
    refine gX_1_10 C tb_133 dX10_undo_20 ?_
    refine j_V1 C (c_takeBack g kk σ f hf hf19 q hq eq) kyX1_takeBack tb_508 tb_509 tb_510 11 rfl (eX_11 g kk _) rfl (Nat.le_of_ble_eq_true rfl) ⟨by decide, by decide⟩ dX10_undo_23 rfl (fun vr ur hp => ?_)
    obtain ⟨rfl, hu⟩ := hp
    replace hu := hu.symm
    subst hu
    refine j_aload_n C 0 rfl dX10_undo_26 ?_
    refine gX_0_2 C tb_430 dX10_undo_27 ?_
    refine j_iconst C (nI 1) (by decide) dX10_undo_30 ?_
    refine pX_27_5 C tb_214 rfl rfl dX10_undo_31 ?_
    refine j_aload_n C 0 rfl dX10_undo_34 ?_
    refine gX_0_0 C tb_428 dX10_undo_35 ?_
    refine gX_1_10 C tb_133 dX10_undo_38 ?_
    refine gX_11_0 C tb_40 (nI (f + 1 - 1)) rfl dX10_undo_41 ?_
    exact j_iret C E (sI (sF (sI σ 176 (nI (f + 1 - 1))) 15 (upd (σ.2.1 15) q (σ.2.1 14 (f + 1 - 1)))) 437 (nI 1)) ⟨_, rfl, Or.inl ⟨c1, rfl, rfl⟩⟩ rfl dX10_undo_44
  · refine j_bipush C ((-5)) (by decide) dX10_undo_13 ?_
    exact j_iret C E (σ) ⟨_, rfl, Or.inr (⟨c1, rfl, rfl⟩)⟩ rfl dX10_undo_15
set_option maxRecDepth 100000 in
set_option maxHeartbeats 4000000 in
theorem c_undo0 (g kk : Nat → Nat) (σ : St) (hf : σ.1 176 = nI 0) : jM (S := St) yX10_undo cX10_undo 1 (some .int) { frames := 1, cells := 0, slots := 0, locals := 20 } kk (cX g kk σ) [.ref (g 0)] (cX g kk) (rI (fun (r : Int32) (u : St) => (r = (-5) ∧ u = σ))) := by
  refine j_entry [(0, .ref (g 0))] (by decide) (Nat.le_of_ble_eq_true rfl) rfl ?_
  intro X C E HI
  refine j_aload_n C 0 rfl dX10_undo_0 ?_
  refine gX_0_0 C tb_428 dX10_undo_1 ?_
  refine gX_1_10 C tb_133 dX10_undo_4 ?_
  refine gX_11_0 C tb_40 (nI 0) hf dX10_undo_7 ?_
  refine j_if_neN C 16 (by decide) (by omega) dX10_undo_10 (fun c1 => ?_) (fun c1 => ?_)
  · exact absurd c1 (by decide)
  · refine j_bipush C ((-5)) (by decide) dX10_undo_13 ?_
    exact j_iret C E (σ) ⟨_, rfl, ⟨rfl, rfl⟩⟩ rfl dX10_undo_15
set_option maxRecDepth 100000 in
set_option maxHeartbeats 4000000 in
theorem c_padd (g kk : Nat → Nat) (σ : St) (p : Nat) (hp : σ.1 352 = nI p) (hp39 : p < 40) (v : Int32) : jM (S := St) yX5_add cX5_add 2 (some .int) { frames := 0, cells := 0, slots := 0, locals := 0 } kk (cX g kk σ) [.ref (g 22), .int v] (cX g kk) (rI (fun (r : Int32) (u : St) => (r = (nI (p + 1)) ∧ u = sI (sF σ 23 (upd (σ.2.1 23) p v)) 352 (nI (p + 1))))) := by
  refine j_entry [(0, .ref (g 22)), (1, .int v)] (by decide) (Nat.le_of_ble_eq_true rfl) rfl ?_
  intro X C E HI
  refine j_aload_n C 0 rfl dX5_add_0 ?_
  refine gX_22_2 C tb_172 dX5_add_1 ?_
  refine j_aload_n C 0 rfl dX5_add_4 ?_
  refine gX_22_0 C tb_168 (nI p) hp dX5_add_5 ?_
  refine j_iload_n C 1 rfl dX5_add_8 ?_
  refine tX_23 C p rfl (by omega) dX5_add_9 ?_
  refine j_aload_n C 0 rfl dX5_add_10 ?_
  refine j_dup C rfl dX5_add_11 ?_
  refine gX_22_0 C tb_168 (nI p) hp dX5_add_12 ?_
  refine j_iconst C (nI 1) (by decide) dX5_add_15 ?_
  refine j_iaddN C dX5_add_16 ?_
  refine pX_22_0 C tb_168 dX5_add_17 ?_
  refine j_aload_n C 0 rfl dX5_add_20 ?_
  refine gX_22_0 C tb_168 (nI (p + 1)) rfl dX5_add_21 ?_
  exact j_iret C E (sI (sF σ 23 (upd (σ.2.1 23) p v)) 352 (nI (p + 1))) ⟨_, rfl, ⟨rfl, rfl⟩⟩ rfl dX5_add_24
set_option maxRecDepth 100000 in
set_option maxHeartbeats 4000000 in
theorem c_say (g kk : Nat → Nat) (σ : St) (p : Nat) (hp : σ.1 352 = nI p) (hp40 : p ≤ 40) (x : Int32) : jM (S := St) yX10_say cX10_say 2 (some .int) { frames := 1, cells := 0, slots := 0, locals := 22 } kk (cX g kk σ) [.ref (g 0), .int x] (cX g kk) (rI (fun (r : Int32) (u : St) => (((wB x (nI 33) (nI 126)) = true) ∧ (p < 40) ∧ r = (nI (p + 1)) ∧ u = sI (sF σ 23 (upd (σ.2.1 23) p x)) 352 (nI (p + 1))) ∨ (((wB x (nI 33) (nI 126)) = true) ∧ (40 ≤ p) ∧ r = (-4) ∧ u = σ) ∨ (((wB x (nI 33) (nI 126)) = false) ∧ r = (-2) ∧ u = σ))) := by
  refine j_entry [(0, .ref (g 0)), (1, .int x)] (by decide) (Nat.le_of_ble_eq_true rfl) rfl ?_
  intro X C E HI
  refine j_iload_n C 1 rfl dX10_say_0 ?_
  refine j_bipush C (nI 33) (by decide) dX10_say_1 ?_
  refine j_bipush C (nI 126) (by decide) dX10_say_3 ?_
  refine j_S01 C (c_isWithin x (nI 33) (nI 126)) kyX10_isWithin tb_467 tb_468 rfl (Nat.le_of_ble_eq_true rfl) ⟨by decide, by decide⟩ ⟨by decide, by decide⟩ dX10_say_5 rfl ?_
  refine j_if_ne C 14 (by decide) dX10_say_8 (fun c1 => ?_) (fun c1 => ?_)
  · replace c1 := bI_t c1
    refine j_aload_n C 0 rfl dX10_say_14 ?_
    refine gX_0_1 C tb_429 dX10_say_15 ?_
    refine gX_22_0 C tb_169 (nI p) hp dX10_say_18 ?_
    refine j_bipush C (nI 40) (by decide) dX10_say_21 ?_
    refine j_icmp_ltN C 29 (by decide) (by omega) (by omega) dX10_say_23 (fun c2 => ?_) (fun c2 => ?_)
    · refine j_aload_n C 0 rfl dX10_say_29 ?_
      refine gX_0_1 C tb_429 dX10_say_30 ?_
      refine j_iload_n C 1 rfl dX10_say_33 ?_
      refine j_V1 C (c_padd g kk σ p hp (by omega) x) kyX5_add tb_516 tb_517 tb_518 22 rfl (eX_22 g kk _) rfl (Nat.le_of_ble_eq_true rfl) ⟨by decide, by decide⟩ dX10_say_34 rfl (fun vr ur hp => ?_)
      obtain ⟨r, rfl, rfl, hu⟩ := hp
      replace hu := hu.symm
      subst hu
      exact j_iret C E (sI (sF σ 23 (upd (σ.2.1 23) p x)) 352 (nI (p + 1))) ⟨_, rfl, Or.inl ⟨c1, c2, rfl, rfl⟩⟩ rfl dX10_say_37
    · refine j_bipush C ((-4)) (by decide) dX10_say_26 ?_
      exact j_iret C E (σ) ⟨_, rfl, Or.inr (Or.inl ⟨c1, c2, rfl, rfl⟩)⟩ rfl dX10_say_28
  · replace c1 := bI_f c1
    refine j_bipush C ((-2)) (by decide) dX10_say_11 ?_
    exact j_iret C E (σ) ⟨_, rfl, Or.inr (Or.inr (⟨c1, rfl, rfl⟩))⟩ rfl dX10_say_13
set_option maxRecDepth 100000 in
set_option maxHeartbeats 4000000 in
theorem c_wipe (g kk : Nat → Nat) (σ : St)  : jM (S := St) yX10_wipe cX10_wipe 2 (some .int) { frames := 0, cells := 0, slots := 0, locals := 0 } kk (cX g kk σ) [.ref (g 0)] (cX g kk) (rI (fun (r : Int32) (u : St) => (r = (σ.1 352) ∧ u = sI σ 352 (nI 0)))) := by
  refine j_entry [(0, .ref (g 0))] (by decide) (Nat.le_of_ble_eq_true rfl) rfl ?_
  intro X C E HI
  refine j_aload_n C 0 rfl dX10_wipe_0 ?_
  refine gX_0_1 C tb_429 dX10_wipe_1 ?_
  refine gX_22_0 C tb_169 (σ.1 352) rfl dX10_wipe_4 ?_
  refine j_istore_n C [(1, .int (σ.1 352)), (0, .ref (g 0))] rfl (by decide) rfl dX10_wipe_7 ?_
  refine j_aload_n C 1 rfl dX10_wipe_8 ?_
  refine gX_0_1 C tb_429 dX10_wipe_9 ?_
  refine j_iconst C (nI 0) (by decide) dX10_wipe_12 ?_
  refine pX_22_0 C tb_169 dX10_wipe_13 ?_
  refine j_iload_n C 0 rfl dX10_wipe_16 ?_
  exact j_iret C E (sI σ 352 (nI 0)) ⟨_, rfl, ⟨rfl, rfl⟩⟩ rfl dX10_wipe_17
set_option maxRecDepth 100000 in
set_option maxHeartbeats 4000000 in
theorem c_radd (g kk : Nat → Nat) (σ : St) (ra : Nat) (hra : σ.1 256 = nI ra) (hra5 : ra < 6) (a b c d e : Int32) : jM (S := St) yX6_add cX6_add 6 (some .int) { frames := 0, cells := 0, slots := 0, locals := 0 } kk (cX g kk σ) [.ref (g 16), .int a, .int b, .int c, .int d, .int e] (cX g kk) (rI (fun (r : Int32) (u : St) => (r = (nI ((ra + 1) - 1)) ∧ u = sI (sF (sF (sF (sF (sF σ 17 (upd (σ.2.1 17) ra a)) 18 (upd (σ.2.1 18) ra b)) 19 (upd (σ.2.1 19) ra c)) 20 (upd (σ.2.1 20) ra d)) 21 (upd (σ.2.1 21) ra e)) 256 (nI (ra + 1))))) := by
  refine j_entry [(0, .ref (g 16)), (1, .int a), (2, .int b), (3, .int c), (4, .int d), (5, .int e)] (by decide) (Nat.le_of_ble_eq_true rfl) rfl ?_
  intro X C E HI
  refine j_aload_n C 0 rfl dX6_add_0 ?_
  refine gX_16_1 C tb_68 dX6_add_1 ?_
  refine j_aload_n C 0 rfl dX6_add_4 ?_
  refine gX_16_0 C tb_65 (nI ra) hra dX6_add_5 ?_
  refine j_iload_n C 1 rfl dX6_add_8 ?_
  refine tX_17 C ra rfl (by omega) dX6_add_9 ?_
  refine j_aload_n C 0 rfl dX6_add_10 ?_
  refine gX_16_2 C tb_70 dX6_add_11 ?_
  refine j_aload_n C 0 rfl dX6_add_14 ?_
  refine gX_16_0 C tb_65 (nI ra) hra dX6_add_15 ?_
  refine j_iload_n C 2 rfl dX6_add_18 ?_
  refine tX_18 C ra rfl (by omega) dX6_add_19 ?_
  refine j_aload_n C 0 rfl dX6_add_20 ?_
  refine gX_16_3 C tb_72 dX6_add_21 ?_
  refine j_aload_n C 0 rfl dX6_add_24 ?_
  refine gX_16_0 C tb_65 (nI ra) hra dX6_add_25 ?_
  refine j_iload_n C 3 rfl dX6_add_28 ?_
  refine tX_19 C ra rfl (by omega) dX6_add_29 ?_
  refine j_aload_n C 0 rfl dX6_add_30 ?_
  refine gX_16_4 C tb_74 dX6_add_31 ?_
  refine j_aload_n C 0 rfl dX6_add_34 ?_
  refine gX_16_0 C tb_65 (nI ra) hra dX6_add_35 ?_
  refine j_iload C 4 rfl dX6_add_38 ?_
  refine tX_20 C ra rfl (by omega) dX6_add_40 ?_
  refine j_aload_n C 0 rfl dX6_add_41 ?_
  refine gX_16_5 C tb_76 dX6_add_42 ?_
  refine j_aload_n C 0 rfl dX6_add_45 ?_
  refine gX_16_0 C tb_65 (nI ra) hra dX6_add_46 ?_
  refine j_iload C 5 rfl dX6_add_49 ?_
  refine tX_21 C ra rfl (by omega) dX6_add_51 ?_
  refine j_aload_n C 0 rfl dX6_add_52 ?_
  refine j_dup C rfl dX6_add_53 ?_
  refine gX_16_0 C tb_65 (nI ra) hra dX6_add_54 ?_
  refine j_iconst C (nI 1) (by decide) dX6_add_57 ?_
  refine j_iaddN C dX6_add_58 ?_
  refine pX_16_0 C tb_65 dX6_add_59 ?_
  refine j_aload_n C 0 rfl dX6_add_62 ?_
  refine gX_16_0 C tb_65 (nI (ra + 1)) rfl dX6_add_63 ?_
  refine j_iconst C (nI 1) (by decide) dX6_add_66 ?_
  refine j_isubN C (by omega) dX6_add_67 ?_
  exact j_iret C E (sI (sF (sF (sF (sF (sF σ 17 (upd (σ.2.1 17) ra a)) 18 (upd (σ.2.1 18) ra b)) 19 (upd (σ.2.1 19) ra c)) 20 (upd (σ.2.1 20) ra d)) 21 (upd (σ.2.1 21) ra e)) 256 (nI (ra + 1))) ⟨_, rfl, ⟨rfl, rfl⟩⟩ rfl dX6_add_68
set_option maxRecDepth 100000 in
set_option maxHeartbeats 4000000 in
theorem c_radar (g kk : Nat → Nat) (σ : St) (ra : Nat) (hra : σ.1 256 = nI ra) (hra6 : ra ≤ 6) (a b c d e : Int32) : jM (S := St) yX10_radar cX10_radar 6 (some .int) { frames := 2, cells := 0, slots := 0, locals := 43 } kk (cX g kk σ) [.ref (g 0), .int a, .int b, .int c, .int d, .int e] (cX g kk) (rI (fun (r : Int32) (u : St) => (((wB a (nI 0) (nI 27)) = true) ∧ ((wB b (nI 0) (nI 20) && wB c (nI 0) (nI 20)) = false) ∧ r = (-2) ∧ u = σ) ∨ (((wB a (nI 0) (nI 27)) = true) ∧ ((wB b (nI 0) (nI 20) && wB c (nI 0) (nI 20)) = true) ∧ ((wB d (nI 0) (nI 999)) = false) ∧ r = (-2) ∧ u = σ) ∨ (((wB a (nI 0) (nI 27)) = true) ∧ ((wB b (nI 0) (nI 20) && wB c (nI 0) (nI 20)) = true) ∧ ((wB d (nI 0) (nI 999)) = true) ∧ ((wB e d (nI 999)) = true) ∧ (ra < 6) ∧ r = (nI (ra + 1 - 1)) ∧ u = sI (sF (sF (sF (sF (sF σ 17 (upd (σ.2.1 17) ra a)) 18 (upd (σ.2.1 18) ra b)) 19 (upd (σ.2.1 19) ra c)) 20 (upd (σ.2.1 20) ra d)) 21 (upd (σ.2.1 21) ra e)) 256 (nI (ra + 1))) ∨ (((wB a (nI 0) (nI 27)) = true) ∧ ((wB b (nI 0) (nI 20) && wB c (nI 0) (nI 20)) = true) ∧ ((wB d (nI 0) (nI 999)) = true) ∧ ((wB e d (nI 999)) = true) ∧ (6 ≤ ra) ∧ r = (-4) ∧ u = σ) ∨ (((wB a (nI 0) (nI 27)) = true) ∧ ((wB b (nI 0) (nI 20) && wB c (nI 0) (nI 20)) = true) ∧ ((wB d (nI 0) (nI 999)) = true) ∧ ((wB e d (nI 999)) = false) ∧ r = (-2) ∧ u = σ) ∨ (((wB a (nI 0) (nI 27)) = false) ∧ r = (-1) ∧ u = σ))) := by
  refine j_entry [(0, .ref (g 0)), (1, .int a), (2, .int b), (3, .int c), (4, .int d), (5, .int e)] (by decide) (Nat.le_of_ble_eq_true rfl) rfl ?_
  intro X C E HI
  refine j_iload_n C 1 rfl dX10_radar_0 ?_
  refine j_S01 C (c_isDay a) kyX10_isDay tb_486 tb_487 rfl (Nat.le_of_ble_eq_true rfl) ⟨by decide, by decide⟩ ⟨by decide, by decide⟩ dX10_radar_1 rfl ?_
  refine j_if_ne C 9 (by decide) dX10_radar_4 (fun c1 => ?_) (fun c1 => ?_)
  · replace c1 := bI_t c1
    refine j_iload_n C 2 rfl dX10_radar_9 ?_
    refine j_iload_n C 3 rfl dX10_radar_10 ?_
    refine j_S01 C (c_isPlace b c) kyX10_isPlace tb_464 tb_465 rfl (Nat.le_of_ble_eq_true rfl) ⟨by decide, by decide⟩ ⟨by decide, by decide⟩ dX10_radar_11 rfl ?_
    refine j_if_eq C 42 (by decide) dX10_radar_14 (fun c2 => ?_) (fun c2 => ?_)
    · replace c2 := bI_f c2
      refine j_bipush C ((-2)) (by decide) dX10_radar_42 ?_
      exact j_iret C E (σ) ⟨_, rfl, Or.inl ⟨c1, c2, rfl, rfl⟩⟩ rfl dX10_radar_44
    · replace c2 := bI_t c2
      refine j_iload C 4 rfl dX10_radar_17 ?_
      refine j_iconst C (nI 0) (by decide) dX10_radar_19 ?_
      refine j_sipush C (nI 999) (by decide) dX10_radar_20 ?_
      refine j_S01 C (c_isWithin d (nI 0) (nI 999)) kyX10_isWithin tb_467 tb_468 rfl (Nat.le_of_ble_eq_true rfl) ⟨by decide, by decide⟩ ⟨by decide, by decide⟩ dX10_radar_23 rfl ?_
      refine j_if_eq C 42 (by decide) dX10_radar_26 (fun c3 => ?_) (fun c3 => ?_)
      · replace c3 := bI_f c3
        refine j_bipush C ((-2)) (by decide) dX10_radar_42 ?_
        exact j_iret C E (σ) ⟨_, rfl, Or.inr (Or.inl ⟨c1, c2, c3, rfl, rfl⟩)⟩ rfl dX10_radar_44
      · replace c3 := bI_t c3
        refine j_iload C 5 rfl dX10_radar_29 ?_
        refine j_iload C 4 rfl dX10_radar_31 ?_
        refine j_sipush C (nI 999) (by decide) dX10_radar_33 ?_
        refine j_S01 C (c_isWithin e d (nI 999)) kyX10_isWithin tb_467 tb_468 rfl (Nat.le_of_ble_eq_true rfl) ⟨by decide, by decide⟩ ⟨by decide, by decide⟩ dX10_radar_36 rfl ?_
        refine j_if_ne C 45 (by decide) dX10_radar_39 (fun c4 => ?_) (fun c4 => ?_)
        · replace c4 := bI_t c4
          refine j_aload_n C 0 rfl dX10_radar_45 ?_
          refine gX_0_0 C tb_428 dX10_radar_46 ?_
          refine gX_1_11 C tb_136 dX10_radar_49 ?_
          refine gX_16_0 C tb_67 (nI ra) hra dX10_radar_52 ?_
          refine j_bipush C (nI 6) (by decide) dX10_radar_55 ?_
          refine j_icmp_ltN C 63 (by decide) (by omega) (by omega) dX10_radar_57 (fun c5 => ?_) (fun c5 => ?_)
          · refine j_aload_n C 0 rfl dX10_radar_63 ?_
            refine gX_0_0 C tb_428 dX10_radar_64 ?_
            refine gX_1_11 C tb_136 dX10_radar_67 ?_
            refine j_iload_n C 1 rfl dX10_radar_70 ?_
            refine j_iload_n C 2 rfl dX10_radar_71 ?_
            refine j_iload_n C 3 rfl dX10_radar_72 ?_
            refine j_iload C 4 rfl dX10_radar_73 ?_
            refine j_iload C 5 rfl dX10_radar_75 ?_
            refine j_V1 C (c_radd g kk σ ra hra (by omega) a b c d e) kyX6_add tb_700 tb_701 tb_702 16 rfl (eX_16 g kk _) rfl (Nat.le_of_ble_eq_true rfl) ⟨by decide, by decide⟩ dX10_radar_77 rfl (fun vr ur hp => ?_)
            obtain ⟨r, rfl, rfl, hu⟩ := hp
            replace hu := hu.symm
            subst hu
            exact j_iret C E (sI (sF (sF (sF (sF (sF σ 17 (upd (σ.2.1 17) ra a)) 18 (upd (σ.2.1 18) ra b)) 19 (upd (σ.2.1 19) ra c)) 20 (upd (σ.2.1 20) ra d)) 21 (upd (σ.2.1 21) ra e)) 256 (nI (ra + 1))) ⟨_, rfl, Or.inr (Or.inr (Or.inl ⟨c1, c2, c3, c4, c5, rfl, rfl⟩))⟩ rfl dX10_radar_80
          · refine j_bipush C ((-4)) (by decide) dX10_radar_60 ?_
            exact j_iret C E (σ) ⟨_, rfl, Or.inr (Or.inr (Or.inr (Or.inl ⟨c1, c2, c3, c4, c5, rfl, rfl⟩)))⟩ rfl dX10_radar_62
        · replace c4 := bI_f c4
          refine j_bipush C ((-2)) (by decide) dX10_radar_42 ?_
          exact j_iret C E (σ) ⟨_, rfl, Or.inr (Or.inr (Or.inr (Or.inr (Or.inl ⟨c1, c2, c3, c4, rfl, rfl⟩))))⟩ rfl dX10_radar_44
  · replace c1 := bI_f c1
    refine j_iconst C ((-1)) (by decide) dX10_radar_7 ?_
    exact j_iret C E (σ) ⟨_, rfl, Or.inr (Or.inr (Or.inr (Or.inr (Or.inr (⟨c1, rfl, rfl⟩)))))⟩ rfl dX10_radar_8
set_option maxRecDepth 100000 in
set_option maxHeartbeats 4000000 in
theorem c_blind (g kk : Nat → Nat) (σ : St)  : jM (S := St) yX10_blind cX10_blind 2 (some .int) { frames := 0, cells := 0, slots := 0, locals := 0 } kk (cX g kk σ) [.ref (g 0)] (cX g kk) (rI (fun (r : Int32) (u : St) => (r = (σ.1 256) ∧ u = sI σ 256 (nI 0)))) := by
  refine j_entry [(0, .ref (g 0))] (by decide) (Nat.le_of_ble_eq_true rfl) rfl ?_
  intro X C E HI
  refine j_aload_n C 0 rfl dX10_blind_0 ?_
  refine gX_0_0 C tb_428 dX10_blind_1 ?_
  refine gX_1_11 C tb_136 dX10_blind_4 ?_
  refine gX_16_0 C tb_67 (σ.1 256) rfl dX10_blind_7 ?_
  refine j_istore_n C [(1, .int (σ.1 256)), (0, .ref (g 0))] rfl (by decide) rfl dX10_blind_10 ?_
  refine j_aload_n C 1 rfl dX10_blind_11 ?_
  refine gX_0_0 C tb_428 dX10_blind_12 ?_
  refine gX_1_11 C tb_136 dX10_blind_15 ?_
  refine j_iconst C (nI 0) (by decide) dX10_blind_18 ?_
  refine pX_16_0 C tb_67 dX10_blind_19 ?_
  refine j_iload_n C 0 rfl dX10_blind_22 ?_
  exact j_iret C E (sI σ 256 (nI 0)) ⟨_, rfl, ⟨rfl, rfl⟩⟩ rfl dX10_blind_23
set_option maxRecDepth 100000 in
set_option maxHeartbeats 4000000 in
theorem c_told (g kk : Nat → Nat) (σ : St) (x : Int32) : jM (S := St) yX10_told cX10_told 2 (some .int) { frames := 1, cells := 0, slots := 0, locals := 22 } kk (cX g kk σ) [.ref (g 0), .int x] (cX g kk) (rI (fun (r : Int32) (u : St) => (((wB x (nI 4) (nI 7)) = false) ∧ ((wB x (nI 10) (nI 37)) = false) ∧ (x = nI 0) ∧ r = (σ.1 16) ∧ u = σ) ∨ (((wB x (nI 4) (nI 7)) = false) ∧ ((wB x (nI 10) (nI 37)) = false) ∧ (¬ x = nI 0) ∧ (x = nI 1) ∧ r = (σ.1 176) ∧ u = σ) ∨ (((wB x (nI 4) (nI 7)) = false) ∧ ((wB x (nI 10) (nI 37)) = false) ∧ (¬ x = nI 0) ∧ (¬ x = nI 1) ∧ (x = nI 2) ∧ r = (σ.1 352) ∧ u = σ) ∨ (((wB x (nI 4) (nI 7)) = false) ∧ ((wB x (nI 10) (nI 37)) = false) ∧ (¬ x = nI 0) ∧ (¬ x = nI 1) ∧ (¬ x = nI 2) ∧ (x = nI 3) ∧ r = (σ.1 256) ∧ u = σ) ∨ (((wB x (nI 4) (nI 7)) = false) ∧ ((wB x (nI 10) (nI 37)) = false) ∧ (¬ x = nI 0) ∧ (¬ x = nI 1) ∧ (¬ x = nI 2) ∧ (¬ x = nI 3) ∧ r = (-2) ∧ u = σ) ∨ (∃ n : Nat, ((wB x (nI 4) (nI 7)) = false) ∧ ((wB x (nI 10) (nI 37)) = true) ∧ (10 ≤ n) ∧ (n ≤ 37) ∧ (x = nI n) ∧ r = ((σ.2.1 5) (n - 10)) ∧ u = σ) ∨ (∃ n : Nat, ((wB x (nI 4) (nI 7)) = true) ∧ (4 ≤ n) ∧ (n ≤ 7) ∧ (x = nI n) ∧ r = ((σ.2.1 10) (n - 4)) ∧ u = σ))) := by
  refine j_entry [(0, .ref (g 0)), (1, .int x)] (by decide) (Nat.le_of_ble_eq_true rfl) rfl ?_
  intro X C E HI
  refine j_iload_n C 1 rfl dX10_told_0 ?_
  refine j_iconst C (nI 4) (by decide) dX10_told_1 ?_
  refine j_bipush C (nI 7) (by decide) dX10_told_2 ?_
  refine j_S01 C (c_isWithin x (nI 4) (nI 7)) kyX10_isWithin tb_467 tb_468 rfl (Nat.le_of_ble_eq_true rfl) ⟨by decide, by decide⟩ ⟨by decide, by decide⟩ dX10_told_4 rfl ?_
  refine j_if_eq C 22 (by decide) dX10_told_7 (fun c1 => ?_) (fun c1 => ?_)
  · replace c1 := bI_f c1
    refine j_iload_n C 1 rfl dX10_told_22 ?_
    refine j_bipush C (nI 10) (by decide) dX10_told_23 ?_
    refine j_bipush C (nI 37) (by decide) dX10_told_25 ?_
    refine j_S01 C (c_isWithin x (nI 10) (nI 37)) kyX10_isWithin tb_467 tb_468 rfl (Nat.le_of_ble_eq_true rfl) ⟨by decide, by decide⟩ ⟨by decide, by decide⟩ dX10_told_27 rfl ?_
    refine j_if_eq C 46 (by decide) dX10_told_30 (fun c2 => ?_) (fun c2 => ?_)
    · replace c2 := bI_f c2
      refine j_iload_n C 1 rfl dX10_told_46 ?_
      by_cases q3 : x = nI 0
      · rw [q3]
        refine j_tabIn C 76 (by decide) (by decide) rfl (by decide) dX10_told_47 ?_
        refine j_aload_n C 0 rfl dX10_told_76 ?_
        refine gX_0_0 C tb_428 dX10_told_77 ?_
        refine gX_1_0 C tb_99 (σ.1 16) rfl dX10_told_80 ?_
        exact j_iret C E (σ) ⟨_, rfl, Or.inl ⟨c1, c2, q3, rfl, rfl⟩⟩ rfl dX10_told_83
      · by_cases q4 : x = nI 1
        · rw [q4]
          refine j_tabIn C 84 (by decide) (by decide) rfl (by decide) dX10_told_47 ?_
          refine j_aload_n C 0 rfl dX10_told_84 ?_
          refine gX_0_0 C tb_428 dX10_told_85 ?_
          refine gX_1_10 C tb_133 dX10_told_88 ?_
          refine gX_11_0 C tb_40 (σ.1 176) rfl dX10_told_91 ?_
          exact j_iret C E (σ) ⟨_, rfl, Or.inr (Or.inl ⟨c1, c2, q3, q4, rfl, rfl⟩)⟩ rfl dX10_told_94
        · by_cases q5 : x = nI 2
          · rw [q5]
            refine j_tabIn C 95 (by decide) (by decide) rfl (by decide) dX10_told_47 ?_
            refine j_aload_n C 0 rfl dX10_told_95 ?_
            refine gX_0_1 C tb_429 dX10_told_96 ?_
            refine gX_22_0 C tb_169 (σ.1 352) rfl dX10_told_99 ?_
            exact j_iret C E (σ) ⟨_, rfl, Or.inr (Or.inr (Or.inl ⟨c1, c2, q3, q4, q5, rfl, rfl⟩))⟩ rfl dX10_told_102
          · by_cases q6 : x = nI 3
            · rw [q6]
              refine j_tabIn C 103 (by decide) (by decide) rfl (by decide) dX10_told_47 ?_
              refine j_aload_n C 0 rfl dX10_told_103 ?_
              refine gX_0_0 C tb_428 dX10_told_104 ?_
              refine gX_1_11 C tb_136 dX10_told_107 ?_
              refine gX_16_0 C tb_67 (σ.1 256) rfl dX10_told_110 ?_
              exact j_iret C E (σ) ⟨_, rfl, Or.inr (Or.inr (Or.inr (Or.inl ⟨c1, c2, q3, q4, q5, q6, rfl, rfl⟩)))⟩ rfl dX10_told_113
            · refine j_tabOut C 114 (swOut 3 (by decide) (fun j hj => by rcases (show j = 0 ∨ j = 1 ∨ j = 2 ∨ j = 3 by omega) with rfl | rfl | rfl | rfl <;> assumption)) (by decide) dX10_told_47 ?_
              refine j_bipush C ((-2)) (by decide) dX10_told_114 ?_
              exact j_iret C E (σ) ⟨_, rfl, Or.inr (Or.inr (Or.inr (Or.inr (Or.inl ⟨c1, c2, q3, q4, q5, q6, rfl, rfl⟩))))⟩ rfl dX10_told_116
    · replace c2 := bI_t c2
      obtain ⟨n, n1, n2, ne⟩ := wB_nat (by decide) (by decide) c2
      rw [ne]
      refine j_aload_n C 0 rfl dX10_told_33 ?_
      refine gX_0_0 C tb_428 dX10_told_34 ?_
      refine gX_1_4 C tb_114 dX10_told_37 ?_
      refine j_iload_n C 1 rfl dX10_told_40 ?_
      refine j_bipush C (nI 10) (by decide) dX10_told_41 ?_
      refine j_isubN C (by omega) dX10_told_43 ?_
      refine rX_5 C (n - 10) rfl (by omega) ((σ.2.1 5) (n - 10)) rfl dX10_told_44 ?_
      exact j_iret C E (σ) ⟨_, rfl, Or.inr (Or.inr (Or.inr (Or.inr (Or.inr (Or.inl ⟨n, c1, c2, n1, n2, ne, rfl, rfl⟩)))))⟩ rfl dX10_told_45
  · replace c1 := bI_t c1
    obtain ⟨n, n1, n2, ne⟩ := wB_nat (by decide) (by decide) c1
    rw [ne]
    refine j_aload_n C 0 rfl dX10_told_10 ?_
    refine gX_0_0 C tb_428 dX10_told_11 ?_
    refine gX_1_9 C tb_131 dX10_told_14 ?_
    refine j_iload_n C 1 rfl dX10_told_17 ?_
    refine j_iconst C (nI 4) (by decide) dX10_told_18 ?_
    refine j_isubN C (by omega) dX10_told_19 ?_
    refine rX_10 C (n - 4) rfl (by omega) ((σ.2.1 10) (n - 4)) rfl dX10_told_20 ?_
    exact j_iret C E (σ) ⟨_, rfl, Or.inr (Or.inr (Or.inr (Or.inr (Or.inr (Or.inr (⟨n, c1, n1, n2, ne, rfl, rfl⟩))))))⟩ rfl dX10_told_21
set_option maxRecDepth 100000 in
set_option maxHeartbeats 4000000 in
theorem c_set (g kk : Nat → Nat) (σ : St) (x y : Int32) : jM (S := St) yX10_set cX10_set 4 (some .int) { frames := 1, cells := 0, slots := 0, locals := 22 } kk (cX g kk σ) [.ref (g 0), .int x, .int y] (cX g kk) (rI (fun (r : Int32) (u : St) => (((wB x (nI 0) (nI 3)) = false) ∧ r = (-2) ∧ u = σ) ∨ (∃ n : Nat, ((wB x (nI 0) (nI 3)) = true) ∧ (0 ≤ n) ∧ (n ≤ 3) ∧ (x = nI n) ∧ ((wB y (jS0 1 (nI n).toNatClampNeg) (jS0 2 (nI n).toNatClampNeg)) = true) ∧ r = ((σ.2.1 10) n) ∧ u = sI (sF σ 10 (upd (σ.2.1 10) n y)) 437 (nI 1)) ∨ (∃ n : Nat, ((wB x (nI 0) (nI 3)) = true) ∧ (0 ≤ n) ∧ (n ≤ 3) ∧ (x = nI n) ∧ ((wB y (jS0 1 (nI n).toNatClampNeg) (jS0 2 (nI n).toNatClampNeg)) = false) ∧ r = (-2) ∧ u = σ))) := by
  refine j_entry [(0, .ref (g 0)), (1, .int x), (2, .int y)] (by decide) (Nat.le_of_ble_eq_true rfl) rfl ?_
  intro X C E HI
  refine j_iload_n C 1 rfl dX10_set_0 ?_
  refine j_iconst C (nI 0) (by decide) dX10_set_1 ?_
  refine j_iconst C (nI 3) (by decide) dX10_set_2 ?_
  refine j_S01 C (c_isWithin x (nI 0) (nI 3)) kyX10_isWithin tb_467 tb_468 rfl (Nat.le_of_ble_eq_true rfl) ⟨by decide, by decide⟩ ⟨by decide, by decide⟩ dX10_set_3 rfl ?_
  refine j_if_eq C 26 (by decide) dX10_set_6 (fun c1 => ?_) (fun c1 => ?_)
  · replace c1 := bI_f c1
    refine j_bipush C ((-2)) (by decide) dX10_set_26 ?_
    exact j_iret C E (σ) ⟨_, rfl, Or.inl ⟨c1, rfl, rfl⟩⟩ rfl dX10_set_28
  · replace c1 := bI_t c1
    obtain ⟨n, n1, n2, ne⟩ := wB_nat (by decide) (by decide) c1
    rw [ne]
    refine j_iload_n C 2 rfl dX10_set_9 ?_
    refine j_gs5 C tb_610 dX10_set_10 ?_
    refine j_iload_n C 1 rfl dX10_set_13 ?_
    refine j_st5 C (vp_in_nI (by omega) (by decide)) dX10_set_14 ?_
    refine j_gs6 C tb_612 dX10_set_15 ?_
    refine j_iload_n C 1 rfl dX10_set_18 ?_
    refine j_st6 C (vp_in_nI (by omega) (by decide)) dX10_set_19 ?_
    refine j_S01 C (c_isWithin y (jS0 1 (nI n).toNatClampNeg) (jS0 2 (nI n).toNatClampNeg)) kyX10_isWithin tb_467 tb_468 rfl (Nat.le_of_ble_eq_true rfl) ⟨by decide, by decide⟩ ⟨by decide, by decide⟩ dX10_set_20 rfl ?_
    refine j_if_ne C 29 (by decide) dX10_set_23 (fun c2 => ?_) (fun c2 => ?_)
    · replace c2 := bI_t c2
      refine j_aload_n C 0 rfl dX10_set_29 ?_
      refine gX_0_0 C tb_428 dX10_set_30 ?_
      refine gX_1_9 C tb_131 dX10_set_33 ?_
      refine j_iload_n C 1 rfl dX10_set_36 ?_
      refine rX_10 C n rfl (by omega) ((σ.2.1 10) n) rfl dX10_set_37 ?_
      refine j_istore_n C [(3, .int ((σ.2.1 10) n)), (0, .ref (g 0)), (1, .int (nI n)), (2, .int y)] rfl (by decide) rfl dX10_set_38 ?_
      refine j_aload_n C 1 rfl dX10_set_39 ?_
      refine gX_0_0 C tb_428 dX10_set_40 ?_
      refine gX_1_9 C tb_131 dX10_set_43 ?_
      refine j_iload_n C 2 rfl dX10_set_46 ?_
      refine j_iload_n C 3 rfl dX10_set_47 ?_
      refine tX_10 C n rfl (by omega) dX10_set_48 ?_
      refine j_aload_n C 1 rfl dX10_set_49 ?_
      refine gX_0_2 C tb_430 dX10_set_50 ?_
      refine j_iconst C (nI 1) (by decide) dX10_set_53 ?_
      refine pX_27_5 C tb_214 rfl rfl dX10_set_54 ?_
      refine j_iload_n C 0 rfl dX10_set_57 ?_
      exact j_iret C E (sI (sF σ 10 (upd (σ.2.1 10) n y)) 437 (nI 1)) ⟨_, rfl, Or.inr (Or.inl ⟨n, c1, n1, n2, ne, c2, rfl, rfl⟩)⟩ rfl dX10_set_58
    · replace c2 := bI_f c2
      refine j_bipush C ((-2)) (by decide) dX10_set_26 ?_
      exact j_iret C E (σ) ⟨_, rfl, Or.inr (Or.inr (⟨n, c1, n1, n2, ne, c2, rfl, rfl⟩))⟩ rfl dX10_set_28
