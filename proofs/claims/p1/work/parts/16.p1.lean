set_option maxRecDepth 100000 in
set_option maxHeartbeats 4000000 in
theorem c_note0 (g kk : Nat → Nat) (σ : St) (k : Nat) (hk : σ.1 16 = nI k) (hk6 : k ≤ 6) (hk0 : k = 0) (x : Int32) : jM (S := St) yX10_note cX10_note 2 (some .int) { frames := 1, cells := 0, slots := 0, locals := 21 } kk (cX g kk σ) [.ref (g 0), .int x] (cX g kk) (rI (fun (r : Int32) (u : St) => (((cB x (nI k)) = false) ∧ r = (-1) ∧ u = σ))) := by
  refine j_entry [(0, .ref (g 0)), (1, .int x)] (by decide) (Nat.le_of_ble_eq_true rfl) rfl ?_
  intro X C E HI
  refine j_aload_n C 0 rfl dX10_note_0 ?_
  refine j_iload_n C 1 rfl dX10_note_1 ?_
  refine j_V1 C (c_isCan g kk σ k hk hk6 x) kyX10_isCan tb_478 tb_480 sp_0 0 rfl (eX_0 g kk _) rfl (Nat.le_of_ble_eq_true rfl) ⟨by decide, by decide⟩ dX10_note_2 rfl (fun vr ur hp => ?_)
  obtain ⟨r, rfl, rfl, hu⟩ := hp
  replace hu := hu.symm
  subst hu
  refine j_if_ne C 10 (by decide) dX10_note_5 (fun c1 => ?_) (fun c1 => ?_)
  · replace c1 := bI_t c1
    subst hk0
    rw [cB_0] at c1
    cases c1
  · replace c1 := bI_f c1
    refine j_iconst C ((-1)) (by decide) dX10_note_8 ?_
    exact j_iret C E (σ) ⟨_, rfl, ⟨c1, rfl, rfl⟩⟩ rfl dX10_note_9
set_option maxRecDepth 100000 in
set_option maxHeartbeats 4000000 in
theorem m_note0 (g kk : Nat → Nat) (σ : St) (k : Nat) (hk : σ.1 3 = nI k) (hk6 : k ≤ 6) (hk0 : k = 0) (x : Int32) : jM (S := St) yX11_note cX11_note 4 (some .int) { frames := 2, cells := 0, slots := 0, locals := 46 } kk (cM g kk σ) [.ref (g 0), .int x] (cM g kk) (rI (fun (r : Int32) (u : St) => (((cB x (nI k)) = false) ∧ r = (-1) ∧ u = σ))) := by
  refine j_entry [(0, .ref (g 0)), (1, .int x)] (by decide) (Nat.le_of_ble_eq_true rfl) rfl ?_
  intro X C E HI
  refine j_aload_n C 0 rfl dX11_note_0 ?_
  refine j_iload_n C 1 rfl dX11_note_1 ?_
  refine j_V1 C (m_isCan g kk σ k hk hk6 x) kyX11_isCan tb_1067 tb_1069 sp_21 0 rfl (eM_0 g kk _) rfl (Nat.le_of_ble_eq_true rfl) ⟨by decide, by decide⟩ dX11_note_2 rfl (fun vr ur hp => ?_)
  obtain ⟨r, rfl, rfl, hu⟩ := hp
  replace hu := hu.symm
  subst hu
  refine j_if_ne C 10 (by decide) dX11_note_5 (fun c1 => ?_) (fun c1 => ?_)
  · replace c1 := bI_t c1
    subst hk0
    rw [cB_0] at c1
    cases c1
  · replace c1 := bI_f c1
    refine j_iconst C ((-1)) (by decide) dX11_note_8 ?_
    exact j_iret C E (σ) ⟨_, rfl, ⟨c1, rfl, rfl⟩⟩ rfl dX11_note_9
set_option maxRecDepth 100000 in
set_option maxHeartbeats 4000000 in
theorem c_of0 (g kk : Nat → Nat) (σ : St) (k : Nat) (hk : σ.1 16 = nI k) (hk6 : k ≤ 6) (hk0 : k = 0) (x y z : Int32) : jM (S := St) yX10_of cX10_of 4 (some .int) { frames := 1, cells := 0, slots := 0, locals := 21 } kk (cX g kk σ) [.ref (g 0), .int x, .int y, .int z] (cX g kk) (rI (fun (r : Int32) (u : St) => (((cB x (nI k)) = false) ∧ r = (-1) ∧ u = σ))) := by
  refine j_entry [(0, .ref (g 0)), (1, .int x), (2, .int y), (3, .int z)] (by decide) (Nat.le_of_ble_eq_true rfl) rfl ?_
  intro X C E HI
  refine j_aload_n C 0 rfl dX10_of_0 ?_
  refine j_iload_n C 1 rfl dX10_of_1 ?_
  refine j_V1 C (c_isCan g kk σ k hk hk6 x) kyX10_isCan tb_478 tb_480 sp_0 0 rfl (eX_0 g kk _) rfl (Nat.le_of_ble_eq_true rfl) ⟨by decide, by decide⟩ dX10_of_2 rfl (fun vr ur hp => ?_)
  obtain ⟨r, rfl, rfl, hu⟩ := hp
  replace hu := hu.symm
  subst hu
  refine j_if_eq C 15 (by decide) dX10_of_5 (fun c1 => ?_) (fun c1 => ?_)
  · replace c1 := bI_f c1
    refine j_iconst C ((-1)) (by decide) dX10_of_15 ?_
    exact j_iret C E (σ) ⟨_, rfl, ⟨c1, rfl, rfl⟩⟩ rfl dX10_of_16
  · replace c1 := bI_t c1
    subst hk0
    rw [cB_0] at c1
    cases c1
set_option maxRecDepth 100000 in
set_option maxHeartbeats 4000000 in
theorem m_of0 (g kk : Nat → Nat) (σ : St) (k : Nat) (hk : σ.1 3 = nI k) (hk6 : k ≤ 6) (hk0 : k = 0) (x y z : Int32) : jM (S := St) yX11_of cX11_of 4 (some .int) { frames := 2, cells := 0, slots := 0, locals := 46 } kk (cM g kk σ) [.ref (g 0), .int x, .int y, .int z] (cM g kk) (rI (fun (r : Int32) (u : St) => (((cB x (nI k)) = false) ∧ r = (-1) ∧ u = σ))) := by
  refine j_entry [(0, .ref (g 0)), (1, .int x), (2, .int y), (3, .int z)] (by decide) (Nat.le_of_ble_eq_true rfl) rfl ?_
  intro X C E HI
  refine j_aload_n C 0 rfl dX11_of_0 ?_
  refine j_iload_n C 1 rfl dX11_of_1 ?_
  refine j_V1 C (m_isCan g kk σ k hk hk6 x) kyX11_isCan tb_1067 tb_1069 sp_21 0 rfl (eM_0 g kk _) rfl (Nat.le_of_ble_eq_true rfl) ⟨by decide, by decide⟩ dX11_of_2 rfl (fun vr ur hp => ?_)
  obtain ⟨r, rfl, rfl, hu⟩ := hp
  replace hu := hu.symm
  subst hu
  refine j_if_eq C 15 (by decide) dX11_of_5 (fun c1 => ?_) (fun c1 => ?_)
  · replace c1 := bI_f c1
    refine j_iconst C ((-1)) (by decide) dX11_of_15 ?_
    exact j_iret C E (σ) ⟨_, rfl, ⟨c1, rfl, rfl⟩⟩ rfl dX11_of_16
  · replace c1 := bI_t c1
    subst hk0
    rw [cB_0] at c1
    cases c1
set_option maxRecDepth 100000 in
set_option maxHeartbeats 4000000 in
theorem c_week0 (g kk : Nat → Nat) (σ : St) (k : Nat) (hk : σ.1 16 = nI k) (hk6 : k ≤ 6) (hk0 : k = 0) (x y z : Int32) : jM (S := St) yX10_week cX10_week 4 (some .int) { frames := 1, cells := 0, slots := 0, locals := 21 } kk (cX g kk σ) [.ref (g 0), .int x, .int y, .int z] (cX g kk) (rI (fun (r : Int32) (u : St) => (((cB x (nI k)) = false) ∧ r = (-1) ∧ u = σ))) := by
  refine j_entry [(0, .ref (g 0)), (1, .int x), (2, .int y), (3, .int z)] (by decide) (Nat.le_of_ble_eq_true rfl) rfl ?_
  intro X C E HI
  refine j_aload_n C 0 rfl dX10_week_0 ?_
  refine j_iload_n C 1 rfl dX10_week_1 ?_
  refine j_V1 C (c_isCan g kk σ k hk hk6 x) kyX10_isCan tb_478 tb_480 sp_0 0 rfl (eX_0 g kk _) rfl (Nat.le_of_ble_eq_true rfl) ⟨by decide, by decide⟩ dX10_week_2 rfl (fun vr ur hp => ?_)
  obtain ⟨r, rfl, rfl, hu⟩ := hp
  replace hu := hu.symm
  subst hu
  refine j_if_eq C 18 (by decide) dX10_week_5 (fun c1 => ?_) (fun c1 => ?_)
  · replace c1 := bI_f c1
    refine j_iconst C ((-1)) (by decide) dX10_week_18 ?_
    exact j_iret C E (σ) ⟨_, rfl, ⟨c1, rfl, rfl⟩⟩ rfl dX10_week_19
  · replace c1 := bI_t c1
    subst hk0
    rw [cB_0] at c1
    cases c1
set_option maxRecDepth 100000 in
set_option maxHeartbeats 4000000 in
theorem m_week0 (g kk : Nat → Nat) (σ : St) (k : Nat) (hk : σ.1 3 = nI k) (hk6 : k ≤ 6) (hk0 : k = 0) (x y z : Int32) : jM (S := St) yX11_week cX11_week 5 (some .int) { frames := 2, cells := 0, slots := 0, locals := 46 } kk (cM g kk σ) [.ref (g 0), .int x, .int y, .int z] (cM g kk) (rI (fun (r : Int32) (u : St) => (((cB x (nI k)) = false) ∧ r = (-1) ∧ u = σ))) := by
  refine j_entry [(0, .ref (g 0)), (1, .int x), (2, .int y), (3, .int z)] (by decide) (Nat.le_of_ble_eq_true rfl) rfl ?_
  intro X C E HI
  refine j_aload_n C 0 rfl dX11_week_0 ?_
  refine j_iload_n C 1 rfl dX11_week_1 ?_
  refine j_V1 C (m_isCan g kk σ k hk hk6 x) kyX11_isCan tb_1067 tb_1069 sp_21 0 rfl (eM_0 g kk _) rfl (Nat.le_of_ble_eq_true rfl) ⟨by decide, by decide⟩ dX11_week_2 rfl (fun vr ur hp => ?_)
  obtain ⟨r, rfl, rfl, hu⟩ := hp
  replace hu := hu.symm
  subst hu
  refine j_if_eq C 20 (by decide) dX11_week_5 (fun c1 => ?_) (fun c1 => ?_)
  · replace c1 := bI_f c1
    refine j_iconst C ((-1)) (by decide) dX11_week_20 ?_
    exact j_iret C E (σ) ⟨_, rfl, ⟨c1, rfl, rfl⟩⟩ rfl dX11_week_21
  · replace c1 := bI_t c1
    subst hk0
    rw [cB_0] at c1
    cases c1
set_option maxRecDepth 100000 in
set_option maxHeartbeats 4000000 in
theorem c_breaks0 (g kk : Nat → Nat) (σ : St) (k : Nat) (hk : σ.1 16 = nI k) (hk6 : k ≤ 6) (hk0 : k = 0) (x y : Int32) : jM (S := St) yX10_breaks cX10_breaks 3 (some .int) { frames := 1, cells := 0, slots := 0, locals := 21 } kk (cX g kk σ) [.ref (g 0), .int x, .int y] (cX g kk) (rI (fun (r : Int32) (u : St) => (((cB x (nI k)) = false) ∧ r = (-1000000001) ∧ u = σ))) := by
  refine j_entry [(0, .ref (g 0)), (1, .int x), (2, .int y)] (by decide) (Nat.le_of_ble_eq_true rfl) rfl ?_
  intro X C E HI
  refine j_aload_n C 0 rfl dX10_breaks_0 ?_
  refine j_iload_n C 1 rfl dX10_breaks_1 ?_
  refine j_V1 C (c_isCan g kk σ k hk hk6 x) kyX10_isCan tb_478 tb_480 sp_0 0 rfl (eX_0 g kk _) rfl (Nat.le_of_ble_eq_true rfl) ⟨by decide, by decide⟩ dX10_breaks_2 rfl (fun vr ur hp => ?_)
  obtain ⟨r, rfl, rfl, hu⟩ := hp
  replace hu := hu.symm
  subst hu
  refine j_if_ne C 11 (by decide) dX10_breaks_5 (fun c1 => ?_) (fun c1 => ?_)
  · replace c1 := bI_t c1
    subst hk0
    rw [cB_0] at c1
    cases c1
  · replace c1 := bI_f c1
    refine j_ldc C tb_650 dX10_breaks_8 ?_
    exact j_iret C E (σ) ⟨_, rfl, ⟨c1, rfl, rfl⟩⟩ rfl dX10_breaks_10
set_option maxRecDepth 100000 in
set_option maxHeartbeats 4000000 in
theorem m_breaks0 (g kk : Nat → Nat) (σ : St) (k : Nat) (hk : σ.1 3 = nI k) (hk6 : k ≤ 6) (hk0 : k = 0) (x y : Int32) : jM (S := St) yX11_breaks cX11_breaks 3 (some .int) { frames := 2, cells := 0, slots := 0, locals := 46 } kk (cM g kk σ) [.ref (g 0), .int x, .int y] (cM g kk) (rI (fun (r : Int32) (u : St) => (((cB x (nI k)) = false) ∧ r = (-1000000001) ∧ u = σ))) := by
  refine j_entry [(0, .ref (g 0)), (1, .int x), (2, .int y)] (by decide) (Nat.le_of_ble_eq_true rfl) rfl ?_
  intro X C E HI
  refine j_aload_n C 0 rfl dX11_breaks_0 ?_
  refine j_iload_n C 1 rfl dX11_breaks_1 ?_
  refine j_V1 C (m_isCan g kk σ k hk hk6 x) kyX11_isCan tb_1067 tb_1069 sp_21 0 rfl (eM_0 g kk _) rfl (Nat.le_of_ble_eq_true rfl) ⟨by decide, by decide⟩ dX11_breaks_2 rfl (fun vr ur hp => ?_)
  obtain ⟨r, rfl, rfl, hu⟩ := hp
  replace hu := hu.symm
  subst hu
  refine j_if_ne C 12 (by decide) dX11_breaks_5 (fun c1 => ?_) (fun c1 => ?_)
  · replace c1 := bI_t c1
    subst hk0
    rw [cB_0] at c1
    cases c1
  · replace c1 := bI_f c1
    refine j_ldcw C tb_1205 dX11_breaks_8 ?_
    exact j_iret C E (σ) ⟨_, rfl, ⟨c1, rfl, rfl⟩⟩ rfl dX11_breaks_11
set_option maxRecDepth 100000 in
set_option maxHeartbeats 4000000 in
theorem c_chance0 (g kk : Nat → Nat) (σ : St) (k : Nat) (hk : σ.1 16 = nI k) (hk6 : k ≤ 6) (hk0 : k = 0) (x y : Int32) : jM (S := St) yX10_chance cX10_chance 3 (some .int) { frames := 1, cells := 0, slots := 0, locals := 21 } kk (cX g kk σ) [.ref (g 0), .int x, .int y] (cX g kk) (rI (fun (r : Int32) (u : St) => (((cB x (nI k)) = false) ∧ r = (-1) ∧ u = σ))) := by
  refine j_entry [(0, .ref (g 0)), (1, .int x), (2, .int y)] (by decide) (Nat.le_of_ble_eq_true rfl) rfl ?_
  intro X C E HI
  refine j_aload_n C 0 rfl dX10_chance_0 ?_
  refine j_iload_n C 1 rfl dX10_chance_1 ?_
  refine j_V1 C (c_isCan g kk σ k hk hk6 x) kyX10_isCan tb_478 tb_480 sp_0 0 rfl (eX_0 g kk _) rfl (Nat.le_of_ble_eq_true rfl) ⟨by decide, by decide⟩ dX10_chance_2 rfl (fun vr ur hp => ?_)
  obtain ⟨r, rfl, rfl, hu⟩ := hp
  replace hu := hu.symm
  subst hu
  refine j_if_ne C 10 (by decide) dX10_chance_5 (fun c1 => ?_) (fun c1 => ?_)
  · replace c1 := bI_t c1
    subst hk0
    rw [cB_0] at c1
    cases c1
  · replace c1 := bI_f c1
    refine j_iconst C ((-1)) (by decide) dX10_chance_8 ?_
    exact j_iret C E (σ) ⟨_, rfl, ⟨c1, rfl, rfl⟩⟩ rfl dX10_chance_9
set_option maxRecDepth 100000 in
set_option maxHeartbeats 4000000 in
theorem m_chance0 (g kk : Nat → Nat) (σ : St) (k : Nat) (hk : σ.1 3 = nI k) (hk6 : k ≤ 6) (hk0 : k = 0) (x y : Int32) : jM (S := St) yX11_chance cX11_chance 13 (some .int) { frames := 2, cells := 0, slots := 0, locals := 46 } kk (cM g kk σ) [.ref (g 0), .int x, .int y] (cM g kk) (rI (fun (r : Int32) (u : St) => (((cB x (nI k)) = false) ∧ r = (-1) ∧ u = σ))) := by
  refine j_entry [(0, .ref (g 0)), (1, .int x), (2, .int y)] (by decide) (Nat.le_of_ble_eq_true rfl) rfl ?_
  intro X C E HI
  refine j_aload_n C 0 rfl dX11_chance_0 ?_
  refine j_iload_n C 1 rfl dX11_chance_1 ?_
  refine j_V1 C (m_isCan g kk σ k hk hk6 x) kyX11_isCan tb_1067 tb_1069 sp_21 0 rfl (eM_0 g kk _) rfl (Nat.le_of_ble_eq_true rfl) ⟨by decide, by decide⟩ dX11_chance_2 rfl (fun vr ur hp => ?_)
  obtain ⟨r, rfl, rfl, hu⟩ := hp
  replace hu := hu.symm
  subst hu
  refine j_if_ne C 10 (by decide) dX11_chance_5 (fun c1 => ?_) (fun c1 => ?_)
  · replace c1 := bI_t c1
    subst hk0
    rw [cB_0] at c1
    cases c1
  · replace c1 := bI_f c1
    refine j_iconst C ((-1)) (by decide) dX11_chance_8 ?_
    exact j_iret C E (σ) ⟨_, rfl, ⟨c1, rfl, rfl⟩⟩ rfl dX11_chance_9
set_option maxRecDepth 100000 in
set_option maxHeartbeats 4000000 in
theorem c_fill0 (g kk : Nat → Nat) (σ : St) (k : Nat) (hk : σ.1 16 = nI k) (hk6 : k ≤ 6) (hk0 : k = 0) (x y z : Int32) : jM (S := St) yX10_fill cX10_fill 4 (some .int) { frames := 1, cells := 0, slots := 0, locals := 21 } kk (cX g kk σ) [.ref (g 0), .int x, .int y, .int z] (cX g kk) (rI (fun (r : Int32) (u : St) => (((cB x (nI k)) = false) ∧ r = (-1) ∧ u = σ))) := by
  refine j_entry [(0, .ref (g 0)), (1, .int x), (2, .int y), (3, .int z)] (by decide) (Nat.le_of_ble_eq_true rfl) rfl ?_
  intro X C E HI
  refine j_aload_n C 0 rfl dX10_fill_0 ?_
  refine j_iload_n C 1 rfl dX10_fill_1 ?_
  refine j_V1 C (c_isCan g kk σ k hk hk6 x) kyX10_isCan tb_478 tb_480 sp_0 0 rfl (eX_0 g kk _) rfl (Nat.le_of_ble_eq_true rfl) ⟨by decide, by decide⟩ dX10_fill_2 rfl (fun vr ur hp => ?_)
  obtain ⟨r, rfl, rfl, hu⟩ := hp
  replace hu := hu.symm
  subst hu
  refine j_if_eq C 15 (by decide) dX10_fill_5 (fun c1 => ?_) (fun c1 => ?_)
  · replace c1 := bI_f c1
    refine j_iconst C ((-1)) (by decide) dX10_fill_15 ?_
    exact j_iret C E (σ) ⟨_, rfl, ⟨c1, rfl, rfl⟩⟩ rfl dX10_fill_16
  · replace c1 := bI_t c1
    subst hk0
    rw [cB_0] at c1
    cases c1
set_option maxRecDepth 100000 in
set_option maxHeartbeats 4000000 in
theorem m_fill0 (g kk : Nat → Nat) (σ : St) (k : Nat) (hk : σ.1 3 = nI k) (hk6 : k ≤ 6) (hk0 : k = 0) (x y z : Int32) : jM (S := St) yX11_fill cX11_fill 4 (some .int) { frames := 2, cells := 0, slots := 0, locals := 46 } kk (cM g kk σ) [.ref (g 0), .int x, .int y, .int z] (cM g kk) (rI (fun (r : Int32) (u : St) => (((cB x (nI k)) = false) ∧ r = (-1) ∧ u = σ))) := by
  refine j_entry [(0, .ref (g 0)), (1, .int x), (2, .int y), (3, .int z)] (by decide) (Nat.le_of_ble_eq_true rfl) rfl ?_
  intro X C E HI
  refine j_aload_n C 0 rfl dX11_fill_0 ?_
  refine j_iload_n C 1 rfl dX11_fill_1 ?_
  refine j_V1 C (m_isCan g kk σ k hk hk6 x) kyX11_isCan tb_1067 tb_1069 sp_21 0 rfl (eM_0 g kk _) rfl (Nat.le_of_ble_eq_true rfl) ⟨by decide, by decide⟩ dX11_fill_2 rfl (fun vr ur hp => ?_)
  obtain ⟨r, rfl, rfl, hu⟩ := hp
  replace hu := hu.symm
  subst hu
  refine j_if_eq C 15 (by decide) dX11_fill_5 (fun c1 => ?_) (fun c1 => ?_)
  · replace c1 := bI_f c1
    refine j_iconst C ((-1)) (by decide) dX11_fill_15 ?_
    exact j_iret C E (σ) ⟨_, rfl, ⟨c1, rfl, rfl⟩⟩ rfl dX11_fill_16
  · replace c1 := bI_t c1
    subst hk0
    rw [cB_0] at c1
    cases c1
set_option maxRecDepth 100000 in
set_option maxHeartbeats 4000000 in
theorem c_claim0 (g kk : Nat → Nat) (σ : St) (k : Nat) (hk : σ.1 16 = nI k) (hk6 : k ≤ 6) (hk0 : k = 0) (x y : Int32) : jM (S := St) yX10_claim cX10_claim 4 (some .int) { frames := 1, cells := 0, slots := 0, locals := 21 } kk (cX g kk σ) [.ref (g 0), .int x, .int y] (cX g kk) (rI (fun (r : Int32) (u : St) => (((cB x (nI k)) = false) ∧ r = (-1) ∧ u = σ))) := by
  refine j_entry [(0, .ref (g 0)), (1, .int x), (2, .int y)] (by decide) (Nat.le_of_ble_eq_true rfl) rfl ?_
  intro X C E HI
  refine j_aload_n C 0 rfl dX10_claim_0 ?_
  refine j_iload_n C 1 rfl dX10_claim_1 ?_
  refine j_V1 C (c_isCan g kk σ k hk hk6 x) kyX10_isCan tb_478 tb_480 sp_0 0 rfl (eX_0 g kk _) rfl (Nat.le_of_ble_eq_true rfl) ⟨by decide, by decide⟩ dX10_claim_2 rfl (fun vr ur hp => ?_)
  obtain ⟨r, rfl, rfl, hu⟩ := hp
  replace hu := hu.symm
  subst hu
  refine j_if_eq C 15 (by decide) dX10_claim_5 (fun c1 => ?_) (fun c1 => ?_)
  · replace c1 := bI_f c1
    refine j_iconst C ((-1)) (by decide) dX10_claim_15 ?_
    exact j_iret C E (σ) ⟨_, rfl, ⟨c1, rfl, rfl⟩⟩ rfl dX10_claim_16
  · replace c1 := bI_t c1
    subst hk0
    rw [cB_0] at c1
    cases c1
set_option maxRecDepth 100000 in
set_option maxHeartbeats 4000000 in
theorem m_claim0 (g kk : Nat → Nat) (σ : St) (k : Nat) (hk : σ.1 3 = nI k) (hk6 : k ≤ 6) (hk0 : k = 0) (x y : Int32) : jM (S := St) yX11_claim cX11_claim 9 (some .int) { frames := 2, cells := 0, slots := 0, locals := 46 } kk (cM g kk σ) [.ref (g 0), .int x, .int y] (cM g kk) (rI (fun (r : Int32) (u : St) => (((cB x (nI k)) = false) ∧ r = (-1) ∧ u = σ))) := by
  refine j_entry [(0, .ref (g 0)), (1, .int x), (2, .int y)] (by decide) (Nat.le_of_ble_eq_true rfl) rfl ?_
  intro X C E HI
  refine j_aload_n C 0 rfl dX11_claim_0 ?_
  refine j_iload_n C 1 rfl dX11_claim_1 ?_
  refine j_V1 C (m_isCan g kk σ k hk hk6 x) kyX11_isCan tb_1067 tb_1069 sp_21 0 rfl (eM_0 g kk _) rfl (Nat.le_of_ble_eq_true rfl) ⟨by decide, by decide⟩ dX11_claim_2 rfl (fun vr ur hp => ?_)
  obtain ⟨r, rfl, rfl, hu⟩ := hp
  replace hu := hu.symm
  subst hu
  refine j_if_eq C 15 (by decide) dX11_claim_5 (fun c1 => ?_) (fun c1 => ?_)
  · replace c1 := bI_f c1
    refine j_iconst C ((-1)) (by decide) dX11_claim_15 ?_
    exact j_iret C E (σ) ⟨_, rfl, ⟨c1, rfl, rfl⟩⟩ rfl dX11_claim_16
  · replace c1 := bI_t c1
    subst hk0
    rw [cB_0] at c1
    cases c1
set_option maxRecDepth 100000 in
set_option maxHeartbeats 4000000 in
theorem c_fives0 (g kk : Nat → Nat) (σ : St) (k : Nat) (hk : σ.1 16 = nI k) (hk6 : k ≤ 6) (hk0 : k = 0) (x y : Int32) : jM (S := St) yX10_fives cX10_fives 3 (some .int) { frames := 1, cells := 0, slots := 0, locals := 21 } kk (cX g kk σ) [.ref (g 0), .int x, .int y] (cX g kk) (rI (fun (r : Int32) (u : St) => (((cB x (nI k)) = false) ∧ r = (-1) ∧ u = σ))) := by
  refine j_entry [(0, .ref (g 0)), (1, .int x), (2, .int y)] (by decide) (Nat.le_of_ble_eq_true rfl) rfl ?_
  intro X C E HI
  refine j_aload_n C 0 rfl dX10_fives_0 ?_
  refine j_iload_n C 1 rfl dX10_fives_1 ?_
  refine j_V1 C (c_isCan g kk σ k hk hk6 x) kyX10_isCan tb_478 tb_480 sp_0 0 rfl (eX_0 g kk _) rfl (Nat.le_of_ble_eq_true rfl) ⟨by decide, by decide⟩ dX10_fives_2 rfl (fun vr ur hp => ?_)
  obtain ⟨r, rfl, rfl, hu⟩ := hp
  replace hu := hu.symm
  subst hu
  refine j_if_ne C 10 (by decide) dX10_fives_5 (fun c1 => ?_) (fun c1 => ?_)
  · replace c1 := bI_t c1
    subst hk0
    rw [cB_0] at c1
    cases c1
  · replace c1 := bI_f c1
    refine j_iconst C ((-1)) (by decide) dX10_fives_8 ?_
    exact j_iret C E (σ) ⟨_, rfl, ⟨c1, rfl, rfl⟩⟩ rfl dX10_fives_9
set_option maxRecDepth 100000 in
set_option maxHeartbeats 4000000 in
theorem m_fives0 (g kk : Nat → Nat) (σ : St) (k : Nat) (hk : σ.1 3 = nI k) (hk6 : k ≤ 6) (hk0 : k = 0) (x y : Int32) : jM (S := St) yX11_fives cX11_fives 3 (some .int) { frames := 2, cells := 0, slots := 0, locals := 46 } kk (cM g kk σ) [.ref (g 0), .int x, .int y] (cM g kk) (rI (fun (r : Int32) (u : St) => (((cB x (nI k)) = false) ∧ r = (-1) ∧ u = σ))) := by
  refine j_entry [(0, .ref (g 0)), (1, .int x), (2, .int y)] (by decide) (Nat.le_of_ble_eq_true rfl) rfl ?_
  intro X C E HI
  refine j_aload_n C 0 rfl dX11_fives_0 ?_
  refine j_iload_n C 1 rfl dX11_fives_1 ?_
  refine j_V1 C (m_isCan g kk σ k hk hk6 x) kyX11_isCan tb_1067 tb_1069 sp_21 0 rfl (eM_0 g kk _) rfl (Nat.le_of_ble_eq_true rfl) ⟨by decide, by decide⟩ dX11_fives_2 rfl (fun vr ur hp => ?_)
  obtain ⟨r, rfl, rfl, hu⟩ := hp
  replace hu := hu.symm
  subst hu
  refine j_if_ne C 10 (by decide) dX11_fives_5 (fun c1 => ?_) (fun c1 => ?_)
  · replace c1 := bI_t c1
    subst hk0
    rw [cB_0] at c1
    cases c1
  · replace c1 := bI_f c1
    refine j_iconst C ((-1)) (by decide) dX11_fives_8 ?_
    exact j_iret C E (σ) ⟨_, rfl, ⟨c1, rfl, rfl⟩⟩ rfl dX11_fives_9
set_option maxRecDepth 100000 in
set_option maxHeartbeats 4000000 in
theorem c_odds0 (g kk : Nat → Nat) (σ : St) (k : Nat) (hk : σ.1 16 = nI k) (hk6 : k ≤ 6) (hk0 : k = 0) (x y : Int32) : jM (S := St) yX10_odds cX10_odds 3 (some .long) { frames := 1, cells := 0, slots := 0, locals := 21 } kk (cX g kk σ) [.ref (g 0), .int x, .int y] (cX g kk) (rL (fun (r : Int64) (u : St) => (((cB x (nI k)) = false) ∧ r = (-1000000000000000001) ∧ u = σ))) := by
  refine j_entry [(0, .ref (g 0)), (1, .int x), (2, .int y)] (by decide) (Nat.le_of_ble_eq_true rfl) rfl ?_
  intro X C E HI
  refine j_aload_n C 0 rfl dX10_odds_0 ?_
  refine j_iload_n C 1 rfl dX10_odds_1 ?_
  refine j_V1 C (c_isCan g kk σ k hk hk6 x) kyX10_isCan tb_478 tb_480 sp_0 0 rfl (eX_0 g kk _) rfl (Nat.le_of_ble_eq_true rfl) ⟨by decide, by decide⟩ dX10_odds_2 rfl (fun vr ur hp => ?_)
  obtain ⟨r, rfl, rfl, hu⟩ := hp
  replace hu := hu.symm
  subst hu
  refine j_if_ne C 12 (by decide) dX10_odds_5 (fun c1 => ?_) (fun c1 => ?_)
  · replace c1 := bI_t c1
    subst hk0
    rw [cB_0] at c1
    cases c1
  · replace c1 := bI_f c1
    refine j_ldc2 C tb_824 dX10_odds_8 ?_
    exact j_lret C E (σ) ⟨_, rfl, ⟨c1, rfl, rfl⟩⟩ rfl dX10_odds_11
set_option maxRecDepth 100000 in
set_option maxHeartbeats 4000000 in
theorem m_odds0 (g kk : Nat → Nat) (σ : St) (k : Nat) (hk : σ.1 3 = nI k) (hk6 : k ≤ 6) (hk0 : k = 0) (x y : Int32) : jM (S := St) yX11_odds cX11_odds 13 (some .long) { frames := 2, cells := 0, slots := 0, locals := 46 } kk (cM g kk σ) [.ref (g 0), .int x, .int y] (cM g kk) (rL (fun (r : Int64) (u : St) => (((cB x (nI k)) = false) ∧ r = (-1000000000000000001) ∧ u = σ))) := by
  refine j_entry [(0, .ref (g 0)), (1, .int x), (2, .int y)] (by decide) (Nat.le_of_ble_eq_true rfl) rfl ?_
  intro X C E HI
  refine j_aload_n C 0 rfl dX11_odds_0 ?_
  refine j_iload_n C 1 rfl dX11_odds_1 ?_
  refine j_V1 C (m_isCan g kk σ k hk hk6 x) kyX11_isCan tb_1067 tb_1069 sp_21 0 rfl (eM_0 g kk _) rfl (Nat.le_of_ble_eq_true rfl) ⟨by decide, by decide⟩ dX11_odds_2 rfl (fun vr ur hp => ?_)
  obtain ⟨r, rfl, rfl, hu⟩ := hp
  replace hu := hu.symm
  subst hu
  refine j_if_ne C 12 (by decide) dX11_odds_5 (fun c1 => ?_) (fun c1 => ?_)
  · replace c1 := bI_t c1
    subst hk0
    rw [cB_0] at c1
    cases c1
  · replace c1 := bI_f c1
    refine j_ldc2 C tb_1310 dX11_odds_8 ?_
    exact j_lret C E (σ) ⟨_, rfl, ⟨c1, rfl, rfl⟩⟩ rfl dX11_odds_11
set_option maxRecDepth 100000 in
set_option maxHeartbeats 4000000 in
theorem c_forgets0 (g kk : Nat → Nat) (σ : St) (k : Nat) (hk : σ.1 16 = nI k) (hk6 : k ≤ 6) (hk0 : k = 0) (x y : Int32) : jM (S := St) yX10_forgets cX10_forgets 3 (some .int) { frames := 1, cells := 0, slots := 0, locals := 21 } kk (cX g kk σ) [.ref (g 0), .int x, .int y] (cX g kk) (rI (fun (r : Int32) (u : St) => (((cB x (nI k)) = false) ∧ r = (-1) ∧ u = σ))) := by
  refine j_entry [(0, .ref (g 0)), (1, .int x), (2, .int y)] (by decide) (Nat.le_of_ble_eq_true rfl) rfl ?_
  intro X C E HI
  refine j_aload_n C 0 rfl dX10_forgets_0 ?_
  refine j_iload_n C 1 rfl dX10_forgets_1 ?_
  refine j_V1 C (c_isCan g kk σ k hk hk6 x) kyX10_isCan tb_478 tb_480 sp_0 0 rfl (eX_0 g kk _) rfl (Nat.le_of_ble_eq_true rfl) ⟨by decide, by decide⟩ dX10_forgets_2 rfl (fun vr ur hp => ?_)
  obtain ⟨r, rfl, rfl, hu⟩ := hp
  replace hu := hu.symm
  subst hu
  refine j_if_ne C 10 (by decide) dX10_forgets_5 (fun c1 => ?_) (fun c1 => ?_)
  · replace c1 := bI_t c1
    subst hk0
    rw [cB_0] at c1
    cases c1
  · replace c1 := bI_f c1
    refine j_iconst C ((-1)) (by decide) dX10_forgets_8 ?_
    exact j_iret C E (σ) ⟨_, rfl, ⟨c1, rfl, rfl⟩⟩ rfl dX10_forgets_9
set_option maxRecDepth 100000 in
set_option maxHeartbeats 4000000 in
theorem m_forgets0 (g kk : Nat → Nat) (σ : St) (k : Nat) (hk : σ.1 3 = nI k) (hk6 : k ≤ 6) (hk0 : k = 0) (x y : Int32) : jM (S := St) yX11_forgets cX11_forgets 8 (some .int) { frames := 2, cells := 0, slots := 0, locals := 46 } kk (cM g kk σ) [.ref (g 0), .int x, .int y] (cM g kk) (rI (fun (r : Int32) (u : St) => (((cB x (nI k)) = false) ∧ r = (-1) ∧ u = σ))) := by
  refine j_entry [(0, .ref (g 0)), (1, .int x), (2, .int y)] (by decide) (Nat.le_of_ble_eq_true rfl) rfl ?_
  intro X C E HI
  refine j_aload_n C 0 rfl dX11_forgets_0 ?_
  refine j_iload_n C 1 rfl dX11_forgets_1 ?_
  refine j_V1 C (m_isCan g kk σ k hk hk6 x) kyX11_isCan tb_1067 tb_1069 sp_21 0 rfl (eM_0 g kk _) rfl (Nat.le_of_ble_eq_true rfl) ⟨by decide, by decide⟩ dX11_forgets_2 rfl (fun vr ur hp => ?_)
  obtain ⟨r, rfl, rfl, hu⟩ := hp
  replace hu := hu.symm
  subst hu
  refine j_if_ne C 10 (by decide) dX11_forgets_5 (fun c1 => ?_) (fun c1 => ?_)
  · replace c1 := bI_t c1
    subst hk0
    rw [cB_0] at c1
    cases c1
  · replace c1 := bI_f c1
    refine j_iconst C ((-1)) (by decide) dX11_forgets_8 ?_
    exact j_iret C E (σ) ⟨_, rfl, ⟨c1, rfl, rfl⟩⟩ rfl dX11_forgets_9
set_option maxRecDepth 100000 in
set_option maxHeartbeats 4000000 in
theorem c_faultPlace0 (g kk : Nat → Nat) (σ : St) (hp : σ.1 352 = nI 0) : jM (S := St) yX5_faultPlace cX5_faultPlace 3 (some .int) { frames := 0, cells := 0, slots := 0, locals := 0 } kk (cX g kk σ) [.ref (g 22)] (cX g kk) (rI (fun (r : Int32) (u : St) => (r = (nI 0) ∧ u = σ))) := by
  refine j_entry [(0, .ref (g 22))] (by decide) (Nat.le_of_ble_eq_true rfl) rfl ?_
  intro X C E HI
  refine j_iconst C (nI 0) (by decide) dX5_faultPlace_0 ?_
  refine j_istore_n C [(1, .int (nI 0)), (0, .ref (g 22))] rfl (by decide) rfl dX5_faultPlace_1 ?_
  refine j_iconst C (nI 0) (by decide) dX5_faultPlace_2 ?_
  refine j_istore_n C [(2, .int (nI 0)), (1, .int (nI 0)), (0, .ref (g 22))] rfl (by decide) rfl dX5_faultPlace_3 ?_
  refine j_iload_n C 0 rfl dX5_faultPlace_4 ?_
  refine j_aload_n C 2 rfl dX5_faultPlace_5 ?_
  refine gX_22_0 C tb_168 (nI 0) hp dX5_faultPlace_6 ?_
  refine j_icmp_geN C 37 (by decide) (by omega) (by omega) dX5_faultPlace_9 (fun c1 => ?_) (fun c1 => ?_)
  · refine j_iload_n C 1 rfl dX5_faultPlace_37 ?_
    refine j_if_eqN C 55 (by decide) (by omega) dX5_faultPlace_38 (fun c2 => ?_) (fun c2 => ?_)
    · refine j_iconst C (nI 0) (by decide) dX5_faultPlace_55 ?_
      refine j_istore_n C [(2, .int (nI 0)), (1, .int (nI 0)), (0, .ref (g 22))] rfl (by decide) rfl dX5_faultPlace_56 ?_
      refine j_iload_n C 0 rfl dX5_faultPlace_57 ?_
      refine j_if_eqN C 65 (by decide) (by omega) dX5_faultPlace_58 (fun c3 => ?_) (fun c3 => ?_)
      · refine j_aload_n C 2 rfl dX5_faultPlace_65 ?_
        refine gX_22_0 C tb_168 (nI 0) hp dX5_faultPlace_66 ?_
        exact j_iret C E (σ) ⟨_, rfl, ⟨rfl, rfl⟩⟩ rfl dX5_faultPlace_69
      · exact absurd c3 (by decide)
    · exact absurd c2 (by decide)
  · exact absurd c1 (by decide)
set_option maxRecDepth 100000 in
set_option maxHeartbeats 4000000 in
theorem c_fault0 (g kk : Nat → Nat) (σ : St) (hp : σ.1 352 = nI 0) : jM (S := St) yX10_fault cX10_fault 1 (some .int) { frames := 1, cells := 0, slots := 0, locals := 22 } kk (cX g kk σ) [.ref (g 0)] (cX g kk) (rI (fun (r : Int32) (u : St) => (r = (if (nI 0) = -1 then -6 else (nI 0)) ∧ u = σ))) := by
  refine j_entry [(0, .ref (g 0))] (by decide) (Nat.le_of_ble_eq_true rfl) rfl ?_
  intro X C E HI
  refine j_aload_n C 0 rfl dX10_fault_0 ?_
  refine gX_0_1 C tb_429 dX10_fault_1 ?_
  refine j_V1 C (c_faultPlace0 g kk σ hp) kyX5_faultPlace tb_528 tb_529 tb_530 22 rfl (eX_22 g kk _) rfl (Nat.le_of_ble_eq_true rfl) ⟨by decide, by decide⟩ dX10_fault_4 rfl (fun vr ur hp => ?_)
  obtain ⟨r, rfl, rfl, hu⟩ := hp
  replace hu := hu.symm
  subst hu
  refine j_S01 C (c_orNone (nI 0)) kyX10_orNone tb_493 tb_494 rfl (Nat.le_of_ble_eq_true rfl) ⟨by decide, by decide⟩ ⟨by decide, by decide⟩ dX10_fault_7 rfl ?_
  exact j_iret C E (σ) ⟨_, rfl, ⟨rfl, rfl⟩⟩ rfl dX10_fault_10
set_option maxRecDepth 100000 in
set_option maxHeartbeats 4000000 in
theorem m_fault0 (g kk : Nat → Nat) (σ : St) (hp : σ.1 15 = nI 0) : jM (S := St) yX11_fault cX11_fault 3 (some .int) { frames := 0, cells := 0, slots := 0, locals := 0 } kk (cM g kk σ) [.ref (g 0)] (cM g kk) (rI (fun (r : Int32) (u : St) => (r = (nI 0) ∧ u = σ))) := by
  refine j_entry [(0, .ref (g 0))] (by decide) (Nat.le_of_ble_eq_true rfl) rfl ?_
  intro X C E HI
  refine j_iconst C (nI 0) (by decide) dX11_fault_0 ?_
  refine j_istore_n C [(1, .int (nI 0)), (0, .ref (g 0))] rfl (by decide) rfl dX11_fault_1 ?_
  refine j_iconst C (nI 0) (by decide) dX11_fault_2 ?_
  refine j_istore_n C [(2, .int (nI 0)), (1, .int (nI 0)), (0, .ref (g 0))] rfl (by decide) rfl dX11_fault_3 ?_
  refine j_iload_n C 0 rfl dX11_fault_4 ?_
  refine j_aload_n C 2 rfl dX11_fault_5 ?_
  refine gM_0_15 C tb_888 (nI 0) hp dX11_fault_6 ?_
  refine j_icmp_geN C 35 (by decide) (by omega) (by omega) dX11_fault_9 (fun c1 => ?_) (fun c1 => ?_)
  · refine j_iload_n C 1 rfl dX11_fault_35 ?_
    refine j_iconst C (nI 2) (by decide) dX11_fault_36 ?_
    refine j_icmp_eqN C 56 (by decide) (by omega) (by omega) dX11_fault_37 (fun c2 => ?_) (fun c2 => ?_)
    · exact absurd c2 (by decide)
    · refine j_iload_n C 1 rfl dX11_fault_40 ?_
      refine j_iconst C (nI 3) (by decide) dX11_fault_41 ?_
      refine j_icmp_eqN C 56 (by decide) (by omega) (by omega) dX11_fault_42 (fun c3 => ?_) (fun c3 => ?_)
      · exact absurd c3 (by decide)
      · refine j_iload_n C 1 rfl dX11_fault_45 ?_
        refine j_iconst C (nI 5) (by decide) dX11_fault_46 ?_
        refine j_icmp_eqN C 56 (by decide) (by omega) (by omega) dX11_fault_47 (fun c4 => ?_) (fun c4 => ?_)
        · exact absurd c4 (by decide)
        · refine j_iload_n C 1 rfl dX11_fault_50 ?_
          refine j_bipush C (nI 6) (by decide) dX11_fault_51 ?_
          refine j_icmp_neN C 61 (by decide) (by omega) (by omega) dX11_fault_53 (fun c5 => ?_) (fun c5 => ?_)
          · refine j_aload_n C 2 rfl dX11_fault_61 ?_
            refine gM_0_15 C tb_888 (nI 0) hp dX11_fault_62 ?_
            exact j_iret C E (σ) ⟨_, rfl, ⟨rfl, rfl⟩⟩ rfl dX11_fault_65
          · exact absurd c5 (by decide)
  · exact absurd c1 (by decide)
set_option maxRecDepth 100000 in
set_option maxHeartbeats 4000000 in
theorem c_restore0 (g kk : Nat → Nat) (σ : St) (h0 : ∀ j, j < 2 → σ.2.1 98 j = nI 0) (x : Int32) : jM (S := St) yX10_restore cX10_restore 2 (some .int) { frames := 1, cells := 0, slots := 0, locals := 22 } kk (cX g kk σ) [.ref (g 0), .int x] (cX g kk) (rI (fun (r : Int32) (u : St) => (∃ n : Nat, ((wB x (nI 0) (nI 1)) = true) ∧ (0 ≤ n) ∧ (n ≤ 1) ∧ (x = nI n) ∧ r = (-3) ∧ u = σ) ∨ (((wB x (nI 0) (nI 1)) = false) ∧ r = (-2) ∧ u = σ))) := by
  refine j_entry [(0, .ref (g 0)), (1, .int x)] (by decide) (Nat.le_of_ble_eq_true rfl) rfl ?_
  intro X C E HI
  refine j_iload_n C 1 rfl dX10_restore_0 ?_
  refine j_iconst C (nI 0) (by decide) dX10_restore_1 ?_
  refine j_iconst C (nI 1) (by decide) dX10_restore_2 ?_
  refine j_S01 C (c_isWithin x (nI 0) (nI 1)) kyX10_isWithin tb_467 tb_468 rfl (Nat.le_of_ble_eq_true rfl) ⟨by decide, by decide⟩ ⟨by decide, by decide⟩ dX10_restore_3 rfl ?_
  refine j_if_ne C 12 (by decide) dX10_restore_6 (fun c1 => ?_) (fun c1 => ?_)
  · replace c1 := bI_t c1
    obtain ⟨n, n1, n2, ne⟩ := wB_nat (by decide) (by decide) c1
    rw [ne]
    refine j_aload_n C 0 rfl dX10_restore_12 ?_
    refine gX_0_9 C tb_437 dX10_restore_13 ?_
    refine j_iload_n C 1 rfl dX10_restore_16 ?_
    refine rX_98 C n rfl (by omega) (nI 0) (h0 n (by omega)) dX10_restore_17 ?_
    refine j_if_neN C 24 (by decide) (by omega) dX10_restore_18 (fun c2 => ?_) (fun c2 => ?_)
    · exact absurd c2 (by decide)
    · refine j_bipush C ((-3)) (by decide) dX10_restore_21 ?_
      exact j_iret C E (σ) ⟨_, rfl, Or.inl ⟨n, c1, n1, n2, ne, rfl, rfl⟩⟩ rfl dX10_restore_23
  · replace c1 := bI_f c1
    refine j_bipush C ((-2)) (by decide) dX10_restore_9 ?_
    exact j_iret C E (σ) ⟨_, rfl, Or.inr (⟨c1, rfl, rfl⟩)⟩ rfl dX10_restore_11
set_option maxRecDepth 100000 in
set_option maxHeartbeats 4000000 in
theorem m_restore0 (g kk : Nat → Nat) (σ : St) (h0 : ∀ j, j < 2 → σ.2.1 33 j = nI 0) (x : Int32) : jM (S := St) yX11_restore cX11_restore 2 (some .int) { frames := 1, cells := 0, slots := 0, locals := 25 } kk (cM g kk σ) [.ref (g 0), .int x] (cM g kk) (rI (fun (r : Int32) (u : St) => (∃ n : Nat, ((wB x (nI 0) (nI 1)) = true) ∧ (0 ≤ n) ∧ (n ≤ 1) ∧ (x = nI n) ∧ r = (-3) ∧ u = σ) ∨ (((wB x (nI 0) (nI 1)) = false) ∧ r = (-2) ∧ u = σ))) := by
  refine j_entry [(0, .ref (g 0)), (1, .int x)] (by decide) (Nat.le_of_ble_eq_true rfl) rfl ?_
  intro X C E HI
  refine j_iload_n C 1 rfl dX11_restore_0 ?_
  refine j_i2l C dX11_restore_1 ?_
  refine j_lconst C 0 (by decide) dX11_restore_2 ?_
  refine j_lconst C 1 (by decide) dX11_restore_3 ?_
  refine j_S01 C (m_inB x (nI 0) (nI 1) 0 1 (by decide) (by decide)) kyX11_in tb_1057 tb_1058 rfl (Nat.le_of_ble_eq_true rfl) ⟨by decide, by decide⟩ ⟨by decide, by decide⟩ dX11_restore_4 rfl ?_
  refine j_if_ne C 13 (by decide) dX11_restore_7 (fun c1 => ?_) (fun c1 => ?_)
  · replace c1 := bI_t c1
    obtain ⟨n, n1, n2, ne⟩ := wB_nat (by decide) (by decide) c1
    rw [ne]
    refine j_aload_n C 0 rfl dX11_restore_13 ?_
    refine gM_0_55 C tb_928 dX11_restore_14 ?_
    refine j_iload_n C 1 rfl dX11_restore_17 ?_
    refine rM_33 C n rfl (by omega) (nI 0) (h0 n (by omega)) dX11_restore_18 ?_
    refine j_if_neN C 25 (by decide) (by omega) dX11_restore_19 (fun c2 => ?_) (fun c2 => ?_)
    · exact absurd c2 (by decide)
    · refine j_bipush C ((-3)) (by decide) dX11_restore_22 ?_
      exact j_iret C E (σ) ⟨_, rfl, Or.inl ⟨n, c1, n1, n2, ne, rfl, rfl⟩⟩ rfl dX11_restore_24
  · replace c1 := bI_f c1
    refine j_bipush C ((-2)) (by decide) dX11_restore_10 ?_
    exact j_iret C E (σ) ⟨_, rfl, Or.inr (⟨c1, rfl, rfl⟩)⟩ rfl dX11_restore_12
set_option maxRecDepth 100000 in
set_option maxHeartbeats 4000000 in
theorem c_refresh0 (g kk : Nat → Nat) (σ : St) (k : Nat) (hk : σ.1 16 = nI k) (hk6 : k ≤ 6) (hk0 : k = 0) : jM (S := St) yX7_refresh cX7_refresh 3 none { frames := 0, cells := 0, slots := 0, locals := 0 } kk (cX g kk σ) [.ref (g 27)] (cX g kk) (rV (fun u : St => ((¬ (σ.1 437) = 0) ∧ (k ≤ 0) ∧ (k ≤ 0) ∧ (k ≤ 0) ∧ u = sI σ 437 (nI 0)) ∨ (((σ.1 437) = 0) ∧ u = σ))) := by
  refine j_entry [(0, .ref (g 27))] (by decide) (Nat.le_of_ble_eq_true rfl) rfl ?_
  intro X C E HI
  refine j_aload_n C 0 rfl dX7_refresh_0 ?_
  refine gX_27_5 C tb_213 (σ.1 437) rfl dX7_refresh_1 ?_
  refine j_if_ne C 8 (by decide) dX7_refresh_4 (fun c1 => ?_) (fun c1 => ?_)
  · refine j_iconst C (nI 0) (by decide) dX7_refresh_8 ?_
    refine j_istore_n C [(1, .int (nI 0)), (0, .ref (g 27))] rfl (by decide) rfl dX7_refresh_9 ?_
    refine j_iload_n C 0 rfl dX7_refresh_10 ?_
    refine j_aload_n C 1 rfl dX7_refresh_11 ?_
    refine gX_27_0 C tb_198 dX7_refresh_12 ?_
    refine gX_1_0 C tb_100 (nI k) hk dX7_refresh_15 ?_
    refine j_icmp_geN C 47 (by decide) (by omega) (by omega) dX7_refresh_18 (fun c2 => ?_) (fun c2 => ?_)
    · refine j_iconst C (nI 0) (by decide) dX7_refresh_47 ?_
      refine j_istore_n C [(1, .int (nI 0)), (0, .ref (g 27))] rfl (by decide) rfl dX7_refresh_48 ?_
      refine j_iload_n C 0 rfl dX7_refresh_49 ?_
      refine j_aload_n C 1 rfl dX7_refresh_50 ?_
      refine gX_27_0 C tb_198 dX7_refresh_51 ?_
      refine gX_1_0 C tb_100 (nI k) hk dX7_refresh_54 ?_
      refine j_icmp_geN C 71 (by decide) (by omega) (by omega) dX7_refresh_57 (fun c3 => ?_) (fun c3 => ?_)
      · refine j_iconst C (nI 0) (by decide) dX7_refresh_71 ?_
        refine j_istore_n C [(1, .int (nI 0)), (0, .ref (g 27))] rfl (by decide) rfl dX7_refresh_72 ?_
        refine j_iload_n C 0 rfl dX7_refresh_73 ?_
        refine j_aload_n C 1 rfl dX7_refresh_74 ?_
        refine gX_27_0 C tb_198 dX7_refresh_75 ?_
        refine gX_1_0 C tb_100 (nI k) hk dX7_refresh_78 ?_
        refine j_icmp_geN C 95 (by decide) (by omega) (by omega) dX7_refresh_81 (fun c4 => ?_) (fun c4 => ?_)
        · refine j_aload_n C 1 rfl dX7_refresh_95 ?_
          refine j_iconst C (nI 0) (by decide) dX7_refresh_96 ?_
          refine pX_27_5 C tb_213 rfl rfl dX7_refresh_97 ?_
          exact j_vret C E (sI σ 437 (nI 0)) ⟨rfl, Or.inl ⟨c1, c2, c3, c4, rfl⟩⟩ rfl dX7_refresh_100
        · omega
      · omega
    · omega
  · exact j_vret C E (σ) ⟨rfl, Or.inr (⟨c1, rfl⟩)⟩ rfl dX7_refresh_7
