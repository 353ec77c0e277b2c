theorem m_inB (x a b : Int32) (A B : Int64) (hA : A = a.toInt64) (hB : B = b.toInt64) : jMp yX11_in cX11_in 6 (some .boolean) { frames := 0, cells := 0, slots := 0, locals := 0 } [.long x.toInt64, .long A, .long B] (some (.int (bI (wB x a b)))) := by
  rw [← wL_wB hA hB]
  exact m_in _ _ _
def numF (σ : St) (n : Nat) : Int32 := if n = 0 then σ.1 10 else if n = 1 then σ.1 11 else if n = 2 then σ.1 12 else σ.1 13
set_option maxRecDepth 100000 in
set_option maxHeartbeats 4000000 in
theorem m_isCan (g kk : Nat → Nat) (σ : St) (k : Nat) (hk : σ.1 3 = nI k) (hk6 : k ≤ 6) (c : Int32) : jM (S := St) yX11_isCan cX11_isCan 2 (some .boolean) { frames := 1, cells := 0, slots := 0, locals := 25 } kk (cM g kk σ) [.ref (g 0), .int c] (cM g kk) (rI (fun r u => r = bI (cB c (nI k)) ∧ u = σ)) := by
  refine j_entry [(0, .ref (g 0)), (1, .int c)] (by decide) (Nat.le_of_ble_eq_true rfl) rfl ?_
  intro X C E HI
  refine j_iload_n C 1 rfl dX11_isCan_0 ?_
  refine j_i2l C dX11_isCan_1 ?_
  refine j_lconst C 0 (by decide) dX11_isCan_2 ?_
  refine j_aload_n C 0 rfl dX11_isCan_3 ?_
  refine gM_0_3 C tb_876 (nI k) hk dX11_isCan_4 ?_
  refine j_iconst C (nI 1) (by decide) dX11_isCan_7 ?_
  refine j_isub C dX11_isCan_8 ?_
  refine j_i2l C dX11_isCan_9 ?_
  refine j_S01 C (m_inB c (nI 0) ((nI k) - (nI 1)) 0 (((nI k) - (nI 1)).toInt64) (by decide) rfl) kyX11_in tb_1057 tb_1058 rfl (Nat.le_of_ble_eq_true rfl) ⟨by decide, by decide⟩ ⟨by decide, by decide⟩ dX11_isCan_10 rfl ?_
  exact j_zret C E (bI_n _) (σ) ⟨_, rfl, by rw [cB_wB (by omega)], rfl⟩ rfl dX11_isCan_13
set_option maxRecDepth 100000 in
set_option maxHeartbeats 4000000 in
theorem m_can (g kk : Nat → Nat) (σ : St) (k : Nat) (hk : σ.1 3 = nI k) (hk6 : k ≤ 6) (x y : Int32) : jM (S := St) yX11_can cX11_can 4 (some .int) { frames := 2, cells := 0, slots := 0, locals := 46 } kk (cM g kk σ) [.ref (g 0), .int x, .int y] (cM g kk) (rI (fun r u => ((wB x (nI 0) (nI 20) && wB y (nI 0) (nI 20)) = false ∧ r = -2 ∧ u = σ) ∨ ((wB x (nI 0) (nI 20) && wB y (nI 0) (nI 20)) = true ∧ k = 6 ∧ r = -4 ∧ u = σ) ∨ ((wB x (nI 0) (nI 20) && wB y (nI 0) (nI 20)) = true ∧ k < 6 ∧ r = nI k ∧ u = sI (sF (sF (sF (sF (sF σ 1 (upd (σ.2.1 1) k x)) 2 (upd (σ.2.1 2) k y)) 3 (fillR (σ.2.1 3) (3 * k) 3 (nI 0))) 5 (fillR (σ.2.1 5) (28 * k) 28 (-6))) 10 (fillR (σ.2.1 10) (28 * k) 28 (nI 0))) 3 (nI (k + 1))))) := by
  refine j_entry [(0, .ref (g 0)), (1, .int x), (2, .int y)] (by decide) (Nat.le_of_ble_eq_true rfl) rfl ?_
  intro X C E HI
  refine j_iload_n C 1 rfl dX11_can_0 ?_
  refine j_iload_n C 2 rfl dX11_can_1 ?_
  refine j_S01 C (m_isPlace x y) kyX11_isPlace tb_1053 tb_1054 rfl (Nat.le_of_ble_eq_true rfl) ⟨by decide, by decide⟩ ⟨by decide, by decide⟩ dX11_can_2 rfl ?_
  refine j_if_ne C 11 (by decide) dX11_can_5 (fun c1 => ?_) (fun c1 => ?_)
  · replace c1 := bI_t c1
    refine j_aload_n C 0 rfl dX11_can_11 ?_
    refine gM_0_3 C tb_876 (nI k) hk dX11_can_12 ?_
    refine j_bipush C (nI 6) (by decide) dX11_can_15 ?_
    refine j_icmp_neN C 23 (by decide) (by omega) (by omega) dX11_can_17 (fun c2 => ?_) (fun c2 => ?_)
    · refine j_aload_n C 0 rfl dX11_can_23 ?_
      refine gM_0_0 C tb_873 dX11_can_24 ?_
      refine j_aload_n C 0 rfl dX11_can_27 ?_
      refine gM_0_3 C tb_876 (nI k) hk dX11_can_28 ?_
      refine j_iload_n C 1 rfl dX11_can_31 ?_
      refine tM_1 C k rfl (by omega) dX11_can_32 ?_
      refine j_aload_n C 0 rfl dX11_can_33 ?_
      refine gM_0_1 C tb_874 dX11_can_34 ?_
      refine j_aload_n C 0 rfl dX11_can_37 ?_
      refine gM_0_3 C tb_876 (nI k) hk dX11_can_38 ?_
      refine j_iload_n C 2 rfl dX11_can_41 ?_
      refine tM_2 C k rfl (by omega) dX11_can_42 ?_
      refine j_iconst C (nI 0) (by decide) dX11_can_43 ?_
      refine j_istore_n C [(3, .int (nI 0)), (0, .ref (g 0)), (1, .int x), (2, .int y)] rfl (by decide) rfl dX11_can_44 ?_
      have L45 : ∀ (nL45 : Nat) (i : Nat) (f : Nat → Int32) (hi : i ≤ 3) (hf : f = fillR (σ.2.1 3) (3 * k) i (nI 0)) (hmL45 : 3 - i < nL45), J X 0 0 (cM g kk (sF (sF (sF σ 1 (upd (σ.2.1 1) k x)) 2 (upd (σ.2.1 2) k y)) 3 f)) [(0, .ref (g 0)), (1, .int x), (2, .int y), (3, .int (nI i))] 45 [] := by
        intro nL45
        induction nL45 with
        | zero => intro i f hi hf hm; exact absurd hm (Nat.not_lt_zero _)
        | succ nL45 ihL45 =>
          intro i f hi hf hmL45
          refine j_iload_n C 3 rfl dX11_can_45 ?_
          refine j_iconst C (nI 3) (by decide) dX11_can_46 ?_
          refine j_icmp_geN C 70 (by decide) (by omega) (by omega) dX11_can_47 (fun c3 => ?_) (fun c3 => ?_)
          · have e3 : i = 3 := by omega
            subst e3
            refine j_iconst C (nI 0) (by decide) dX11_can_70 ?_
            refine j_istore_n C [(3, .int (nI 0)), (0, .ref (g 0)), (1, .int x), (2, .int y)] rfl (by decide) rfl dX11_can_71 ?_
            have L72 : ∀ (nL72 : Nat) (i2 : Nat) (f2 f3 : Nat → Int32) (hi2 : i2 ≤ 28) (hf2 : f2 = fillR (σ.2.1 5) (28 * k) i2 (-6)) (hf3 : f3 = fillR (σ.2.1 10) (28 * k) i2 (nI 0)) (hmL72 : 28 - i2 < nL72), J X 0 0 (cM g kk (sF (sF (sF (sF (sF σ 1 (upd (σ.2.1 1) k x)) 2 (upd (σ.2.1 2) k y)) 3 f) 5 f2) 10 f3)) [(0, .ref (g 0)), (1, .int x), (2, .int y), (3, .int (nI i2))] 72 [] := by
              intro nL72
              induction nL72 with
              | zero => intro i2 f2 f3 hi2 hf2 hf3 hm; exact absurd hm (Nat.not_lt_zero _)
              | succ nL72 ihL72 =>
                intro i2 f2 f3 hi2 hf2 hf3 hmL72
                refine j_iload_n C 3 rfl dX11_can_72 ?_
                refine j_bipush C (nI 28) (by decide) dX11_can_73 ?_
                refine j_icmp_geN C 113 (by decide) (by omega) (by omega) dX11_can_75 (fun c4 => ?_) (fun c4 => ?_)
                · have e28 : i2 = 28 := by omega
                  subst e28
                  subst hf
                  subst hf2
                  subst hf3
                  refine j_aload_n C 0 rfl dX11_can_113 ?_
                  refine j_dup C rfl dX11_can_114 ?_
                  refine gM_0_3 C tb_876 (nI k) hk dX11_can_115 ?_
                  refine j_iconst C (nI 1) (by decide) dX11_can_118 ?_
                  refine j_iaddN C dX11_can_119 ?_
                  refine pM_0_3 C tb_876 dX11_can_120 ?_
                  refine j_aload_n C 0 rfl dX11_can_123 ?_
                  refine gM_0_3 C tb_876 (nI (k + 1)) rfl dX11_can_124 ?_
                  refine j_iconst C (nI 1) (by decide) dX11_can_127 ?_
                  refine j_isubN C (by omega) dX11_can_128 ?_
                  exact j_iret C E (_) ⟨_, rfl, Or.inr (Or.inr ⟨c1, by omega, rfl, rfl⟩)⟩ rfl dX11_can_129
                · refine j_aload_n C 0 rfl dX11_can_78 ?_
                  refine gM_0_5 C tb_878 dX11_can_79 ?_
                  refine j_aload_n C 0 rfl dX11_can_82 ?_
                  refine gM_0_3 C tb_876 (nI k) hk dX11_can_83 ?_
                  refine j_iload_n C 3 rfl dX11_can_86 ?_
                  refine j_S01 C (m_at k i2) kyX11_at tb_1060 tb_1061 rfl (Nat.le_of_ble_eq_true rfl) ⟨by decide, by decide⟩ ⟨by decide, by decide⟩ dX11_can_87 rfl ?_
                  refine j_bipush C ((-6)) (by decide) dX11_can_90 ?_
                  refine tM_5 C (28 * k + i2) rfl (by omega) dX11_can_92 ?_
                  refine j_aload_n C 0 rfl dX11_can_93 ?_
                  refine gM_0_16 C tb_889 dX11_can_94 ?_
                  refine j_aload_n C 0 rfl dX11_can_97 ?_
                  refine gM_0_3 C tb_876 (nI k) hk dX11_can_98 ?_
                  refine j_iload_n C 3 rfl dX11_can_101 ?_
                  refine j_S01 C (m_at k i2) kyX11_at tb_1060 tb_1061 rfl (Nat.le_of_ble_eq_true rfl) ⟨by decide, by decide⟩ ⟨by decide, by decide⟩ dX11_can_102 rfl ?_
                  refine j_iconst C (nI 0) (by decide) dX11_can_105 ?_
                  refine tM_10 C (28 * k + i2) rfl (by omega) dX11_can_106 ?_
                  refine j_iinc C (nI (i2 + 1)) [(3, .int (nI (i2 + 1))), (0, .ref (g 0)), (1, .int x), (2, .int y)] 3 rfl (by rw [show Int32.ofInt 1 = nI 1 from by decide, nI_add]) (by decide) rfl dX11_can_107 ?_
                  refine j_goto C 72 (by decide) dX11_can_110 ?_
                  refine j_sub (lv' := [(0, .ref (g 0)), (1, .int x), (2, .int y), (3, .int (nI (i2 + 1)))]) [1, 2, 3, 0] rfl ?_
                  refine j_w (cM g kk (sF (sF (sF (sF (sF σ 1 (upd (σ.2.1 1) k x)) 2 (upd (σ.2.1 2) k y)) 3 f) 5 (upd f2 (28 * k + i2) (-6))) 10 (upd f3 (28 * k + i2) (nI 0)))) rfl ?_
                  exact ihL72 (i2 + 1) (upd f2 (28 * k + i2) (-6)) (upd f3 (28 * k + i2) (nI 0)) (by omega) (fillR_s hf2) (fillR_s hf3) (by omega)
            refine j_sub (lv' := [(0, .ref (g 0)), (1, .int x), (2, .int y), (3, .int (nI 0))]) [1, 2, 3, 0] rfl ?_
            refine j_w (cM g kk (sF (sF (sF (sF (sF σ 1 (upd (σ.2.1 1) k x)) 2 (upd (σ.2.1 2) k y)) 3 f) 5 (σ.2.1 5)) 10 (σ.2.1 10))) rfl ?_
            exact L72 _ 0 (σ.2.1 5) (σ.2.1 10) (by decide) (fillR_0 _ _ _) (fillR_0 _ _ _) (Nat.lt_succ_self _)
          · refine j_aload_n C 0 rfl dX11_can_50 ?_
            refine gM_0_2 C tb_875 dX11_can_51 ?_
            refine j_iconst C (nI 3) (by decide) dX11_can_54 ?_
            refine j_aload_n C 0 rfl dX11_can_55 ?_
            refine gM_0_3 C tb_876 (nI k) hk dX11_can_56 ?_
            refine j_imulN C dX11_can_59 ?_
            refine j_iload_n C 3 rfl dX11_can_60 ?_
            refine j_iaddN C dX11_can_61 ?_
            refine j_iconst C (nI 0) (by decide) dX11_can_62 ?_
            refine tM_3 C ((3 * k) + i) rfl (by omega) dX11_can_63 ?_
            refine j_iinc C (nI (i + 1)) [(3, .int (nI (i + 1))), (0, .ref (g 0)), (1, .int x), (2, .int y)] 3 rfl (by rw [show Int32.ofInt 1 = nI 1 from by decide, nI_add]) (by decide) rfl dX11_can_64 ?_
            refine j_goto C 45 (by decide) dX11_can_67 ?_
            refine j_sub (lv' := [(0, .ref (g 0)), (1, .int x), (2, .int y), (3, .int (nI (i + 1)))]) [1, 2, 3, 0] rfl ?_
            refine j_w (cM g kk (sF (sF (sF σ 1 (upd (σ.2.1 1) k x)) 2 (upd (σ.2.1 2) k y)) 3 (upd f ((3 * k) + i) (nI 0)))) rfl ?_
            exact ihL45 (i + 1) (upd f ((3 * k) + i) (nI 0)) (by omega) (fillR_s hf) (by omega)
      refine j_sub (lv' := [(0, .ref (g 0)), (1, .int x), (2, .int y), (3, .int (nI 0))]) [1, 2, 3, 0] rfl ?_
      refine j_w (cM g kk (sF (sF (sF σ 1 (upd (σ.2.1 1) k x)) 2 (upd (σ.2.1 2) k y)) 3 (σ.2.1 3))) rfl ?_
      exact L45 _ 0 (σ.2.1 3) (by decide) (fillR_0 _ _ _) (Nat.lt_succ_self _)
    · refine j_bipush C ((-4)) (by decide) dX11_can_20 ?_
      exact j_iret C E (σ) ⟨_, rfl, Or.inr (Or.inl ⟨c1, c2, rfl, rfl⟩)⟩ rfl dX11_can_22
  · replace c1 := bI_f c1
    refine j_bipush C ((-2)) (by decide) dX11_can_8 ?_
    exact j_iret C E (σ) ⟨_, rfl, Or.inl ⟨c1, rfl, rfl⟩⟩ rfl dX11_can_10
set_option maxRecDepth 100000 in
set_option maxHeartbeats 4000000 in
theorem m_miss (g kk : Nat → Nat) (σ : St) (k : Nat) (hk : σ.1 3 = nI k) (hk6 : k ≤ 6) (x y z : Int32) : jM (S := St) yX11_miss cX11_miss 5 (some .int) { frames := 2, cells := 0, slots := 0, locals := 46 } kk (cM g kk σ) [.ref (g 0), .int x, .int y, .int z] (cM g kk) (rI (fun (r : Int32) (u : St) => (((cB x (nI k)) = true) ∧ ((wB y (nI 0) (nI 2)) = false) ∧ r = (-2) ∧ u = σ) ∨ (∃ n m : Nat, ((cB x (nI k)) = true) ∧ ((wB y (nI 0) (nI 2)) = true) ∧ ((wB z (nI 0) (nI 9)) = true) ∧ (n < k) ∧ (x = nI n) ∧ (0 ≤ m) ∧ (m ≤ 2) ∧ (y = nI m) ∧ r = ((σ.2.1 3) ((3 * n) + m)) ∧ u = sF σ 3 (upd (σ.2.1 3) ((3 * n) + m) z)) ∨ (((cB x (nI k)) = true) ∧ ((wB y (nI 0) (nI 2)) = true) ∧ ((wB z (nI 0) (nI 9)) = false) ∧ r = (-2) ∧ u = σ) ∨ (((cB x (nI k)) = false) ∧ r = (-1) ∧ u = σ))) := by
  refine j_entry [(0, .ref (g 0)), (1, .int x), (2, .int y), (3, .int z)] (by decide) (Nat.le_of_ble_eq_true rfl) rfl ?_
  intro X C E HI
  refine j_aload_n C 0 rfl dX11_miss_0 ?_
  refine j_iload_n C 1 rfl dX11_miss_1 ?_
  refine j_V1 C (m_isCan g kk σ k hk hk6 x) kyX11_isCan tb_1067 tb_1069 sp_21 0 rfl (eM_0 g kk _) rfl (Nat.le_of_ble_eq_true rfl) ⟨by decide, by decide⟩ dX11_miss_2 rfl (fun vr ur hp => ?_)
  obtain ⟨r, rfl, rfl, hu⟩ := hp
  replace hu := hu.symm
  subst hu
  refine j_if_ne C 10 (by decide) dX11_miss_5 (fun c1 => ?_) (fun c1 => ?_)
  · replace c1 := bI_t c1
    refine j_iload_n C 2 rfl dX11_miss_10 ?_
    refine j_i2l C dX11_miss_11 ?_
    refine j_lconst C 0 (by decide) dX11_miss_12 ?_
    refine j_ldc2 C tb_1071 dX11_miss_13 ?_
    refine j_S01 C (m_inB y (nI 0) (nI 2) 0 (2) (by decide) (by decide)) kyX11_in tb_1057 tb_1058 rfl (Nat.le_of_ble_eq_true rfl) ⟨by decide, by decide⟩ ⟨by decide, by decide⟩ dX11_miss_16 rfl ?_
    refine j_if_eq C 34 (by decide) dX11_miss_19 (fun c2 => ?_) (fun c2 => ?_)
    · replace c2 := bI_f c2
      refine j_bipush C ((-2)) (by decide) dX11_miss_34 ?_
      exact j_iret C E (σ) ⟨_, rfl, Or.inl ⟨c1, c2, rfl, rfl⟩⟩ rfl dX11_miss_36
    · replace c2 := bI_t c2
      refine j_iload_n C 3 rfl dX11_miss_22 ?_
      refine j_i2l C dX11_miss_23 ?_
      refine j_lconst C 0 (by decide) dX11_miss_24 ?_
      refine j_ldc2 C tb_1072 dX11_miss_25 ?_
      refine j_S01 C (m_inB z (nI 0) (nI 9) 0 (9) (by decide) (by decide)) kyX11_in tb_1057 tb_1058 rfl (Nat.le_of_ble_eq_true rfl) ⟨by decide, by decide⟩ ⟨by decide, by decide⟩ dX11_miss_28 rfl ?_
      refine j_if_ne C 37 (by decide) dX11_miss_31 (fun c3 => ?_) (fun c3 => ?_)
      · replace c3 := bI_t c3
        obtain ⟨n, n1, ne⟩ := cB_nat (by omega) c1
        rw [ne]
        obtain ⟨m, m1, m2, me⟩ := wB_nat (by decide) (by decide) c2
        rw [me]
        refine j_aload_n C 0 rfl dX11_miss_37 ?_
        refine gM_0_2 C tb_875 dX11_miss_38 ?_
        refine j_iconst C (nI 3) (by decide) dX11_miss_41 ?_
        refine j_iload_n C 1 rfl dX11_miss_42 ?_
        refine j_imulN C dX11_miss_43 ?_
        refine j_iload_n C 2 rfl dX11_miss_44 ?_
        refine j_iaddN C dX11_miss_45 ?_
        refine rM_3 C ((3 * n) + m) rfl (by omega) ((σ.2.1 3) ((3 * n) + m)) rfl dX11_miss_46 ?_
        refine j_istore C [(4, .int ((σ.2.1 3) ((3 * n) + m))), (0, .ref (g 0)), (1, .int (nI n)), (2, .int (nI m)), (3, .int z)] (by decide) rfl dX11_miss_47 ?_
        refine j_aload_n C 1 rfl dX11_miss_49 ?_
        refine gM_0_2 C tb_875 dX11_miss_50 ?_
        refine j_iconst C (nI 3) (by decide) dX11_miss_53 ?_
        refine j_iload_n C 2 rfl dX11_miss_54 ?_
        refine j_imulN C dX11_miss_55 ?_
        refine j_iload_n C 3 rfl dX11_miss_56 ?_
        refine j_iaddN C dX11_miss_57 ?_
        refine j_iload_n C 4 rfl dX11_miss_58 ?_
        refine tM_3 C ((3 * n) + m) rfl (by omega) dX11_miss_59 ?_
        refine j_iload C 0 rfl dX11_miss_60 ?_
        exact j_iret C E (sF σ 3 (upd (σ.2.1 3) ((3 * n) + m) z)) ⟨_, rfl, Or.inr (Or.inl ⟨n, m, c1, c2, c3, n1, ne, m1, m2, me, rfl, rfl⟩)⟩ rfl dX11_miss_62
      · replace c3 := bI_f c3
        refine j_bipush C ((-2)) (by decide) dX11_miss_34 ?_
        exact j_iret C E (σ) ⟨_, rfl, Or.inr (Or.inr (Or.inl ⟨c1, c2, c3, rfl, rfl⟩))⟩ rfl dX11_miss_36
  · replace c1 := bI_f c1
    refine j_iconst C ((-1)) (by decide) dX11_miss_8 ?_
    exact j_iret C E (σ) ⟨_, rfl, Or.inr (Or.inr (Or.inr (⟨c1, rfl, rfl⟩)))⟩ rfl dX11_miss_9
set_option maxRecDepth 100000 in
set_option maxHeartbeats 4000000 in
theorem m_wind (g kk : Nat → Nat) (σ : St) (x y : Int32) : jM (S := St) yX11_wind cX11_wind 4 (some .int) { frames := 2, cells := 0, slots := 0, locals := 45 } kk (cM g kk σ) [.ref (g 0), .int x, .int y] (cM g kk) (rI (fun (r : Int32) (u : St) => (∃ n : Nat, ((wB x (nI 0) (nI 27)) = true) ∧ ((wB y (nI 0) (nI 2)) = true) ∧ (0 ≤ n) ∧ (n ≤ 27) ∧ (x = nI n) ∧ r = ((σ.2.1 4) n) ∧ u = sF σ 4 (upd (σ.2.1 4) n y)) ∨ (((wB x (nI 0) (nI 27)) = true) ∧ ((wB y (nI 0) (nI 2)) = false) ∧ r = (-2) ∧ u = σ) ∨ (((wB x (nI 0) (nI 27)) = false) ∧ r = (-1) ∧ u = σ))) := by
  refine j_entry [(0, .ref (g 0)), (1, .int x), (2, .int y)] (by decide) (Nat.le_of_ble_eq_true rfl) rfl ?_
  intro X C E HI
  refine j_iload_n C 1 rfl dX11_wind_0 ?_
  refine j_S01 C (m_isDay x) kyX11_isDay tb_1077 tb_1078 rfl (Nat.le_of_ble_eq_true rfl) ⟨by decide, by decide⟩ ⟨by decide, by decide⟩ dX11_wind_1 rfl ?_
  refine j_if_ne C 9 (by decide) dX11_wind_4 (fun c1 => ?_) (fun c1 => ?_)
  · replace c1 := bI_t c1
    refine j_iload_n C 2 rfl dX11_wind_9 ?_
    refine j_i2l C dX11_wind_10 ?_
    refine j_lconst C 0 (by decide) dX11_wind_11 ?_
    refine j_ldc2 C tb_1071 dX11_wind_12 ?_
    refine j_S01 C (m_inB y (nI 0) (nI 2) 0 (2) (by decide) (by decide)) kyX11_in tb_1057 tb_1058 rfl (Nat.le_of_ble_eq_true rfl) ⟨by decide, by decide⟩ ⟨by decide, by decide⟩ dX11_wind_15 rfl ?_
    refine j_if_ne C 24 (by decide) dX11_wind_18 (fun c2 => ?_) (fun c2 => ?_)
    · replace c2 := bI_t c2
      obtain ⟨n, n1, n2, ne⟩ := wB_nat (by decide) (by decide) c1
      rw [ne]
      refine j_aload_n C 0 rfl dX11_wind_24 ?_
      refine gM_0_4 C tb_877 dX11_wind_25 ?_
      refine j_iload_n C 1 rfl dX11_wind_28 ?_
      refine rM_4 C n rfl (by omega) ((σ.2.1 4) n) rfl dX11_wind_29 ?_
      refine j_istore_n C [(3, .int ((σ.2.1 4) n)), (0, .ref (g 0)), (1, .int (nI n)), (2, .int y)] rfl (by decide) rfl dX11_wind_30 ?_
      refine j_aload_n C 1 rfl dX11_wind_31 ?_
      refine gM_0_4 C tb_877 dX11_wind_32 ?_
      refine j_iload_n C 2 rfl dX11_wind_35 ?_
      refine j_iload_n C 3 rfl dX11_wind_36 ?_
      refine tM_4 C n rfl (by omega) dX11_wind_37 ?_
      refine j_iload_n C 0 rfl dX11_wind_38 ?_
      exact j_iret C E (sF σ 4 (upd (σ.2.1 4) n y)) ⟨_, rfl, Or.inl ⟨n, c1, c2, n1, n2, ne, rfl, rfl⟩⟩ rfl dX11_wind_39
    · replace c2 := bI_f c2
      refine j_bipush C ((-2)) (by decide) dX11_wind_21 ?_
      exact j_iret C E (σ) ⟨_, rfl, Or.inr (Or.inl ⟨c1, c2, rfl, rfl⟩)⟩ rfl dX11_wind_23
  · replace c1 := bI_f c1
    refine j_iconst C ((-1)) (by decide) dX11_wind_7 ?_
    exact j_iret C E (σ) ⟨_, rfl, Or.inr (Or.inr (⟨c1, rfl, rfl⟩))⟩ rfl dX11_wind_8
set_option maxRecDepth 100000 in
set_option maxHeartbeats 4000000 in
theorem m_raw (g kk : Nat → Nat) (σ : St) (k : Nat) (hk : σ.1 3 = nI k) (hk6 : k ≤ 6) (x y z : Int32) : jM (S := St) yX11_raw cX11_raw 5 (some .int) { frames := 2, cells := 0, slots := 0, locals := 46 } kk (cM g kk σ) [.ref (g 0), .int x, .int y, .int z] (cM g kk) (rI (fun (r : Int32) (u : St) => (((cB x (nI k)) = false) ∧ r = (-1) ∧ u = σ) ∨ (∃ n m : Nat, ((cB x (nI k)) = true) ∧ ((wB y (nI 0) (nI 27)) = true) ∧ ((wB z (-1) (nI 999)) = true) ∧ (n < k) ∧ (x = nI n) ∧ (0 ≤ m) ∧ (m ≤ 27) ∧ (y = nI m) ∧ (0 ≤ z) ∧ r = ((σ.2.1 5) (28 * n + m)) ∧ u = sF σ 5 (upd (σ.2.1 5) (28 * n + m) z)) ∨ (∃ n m : Nat, ((cB x (nI k)) = true) ∧ ((wB y (nI 0) (nI 27)) = true) ∧ ((wB z (-1) (nI 999)) = true) ∧ (n < k) ∧ (x = nI n) ∧ (0 ≤ m) ∧ (m ≤ 27) ∧ (y = nI m) ∧ (¬ 0 ≤ z) ∧ r = ((σ.2.1 5) (28 * n + m)) ∧ u = sF σ 5 (upd (σ.2.1 5) (28 * n + m) (-6))) ∨ (((cB x (nI k)) = true) ∧ ((wB y (nI 0) (nI 27)) = true) ∧ ((wB z (-1) (nI 999)) = false) ∧ r = (-2) ∧ u = σ) ∨ (((cB x (nI k)) = true) ∧ ((wB y (nI 0) (nI 27)) = false) ∧ r = (-1) ∧ u = σ))) := by
  refine j_entry [(0, .ref (g 0)), (1, .int x), (2, .int y), (3, .int z)] (by decide) (Nat.le_of_ble_eq_true rfl) rfl ?_
  intro X C E HI
  refine j_aload_n C 0 rfl dX11_raw_0 ?_
  refine j_iload_n C 1 rfl dX11_raw_1 ?_
  refine j_V1 C (m_isCan g kk σ k hk hk6 x) kyX11_isCan tb_1067 tb_1069 sp_21 0 rfl (eM_0 g kk _) rfl (Nat.le_of_ble_eq_true rfl) ⟨by decide, by decide⟩ dX11_raw_2 rfl (fun vr ur hp => ?_)
  obtain ⟨r, rfl, rfl, hu⟩ := hp
  replace hu := hu.symm
  subst hu
  refine j_if_eq C 15 (by decide) dX11_raw_5 (fun c1 => ?_) (fun c1 => ?_)
  · replace c1 := bI_f c1
    refine j_iconst C ((-1)) (by decide) dX11_raw_15 ?_
    exact j_iret C E (σ) ⟨_, rfl, Or.inl ⟨c1, rfl, rfl⟩⟩ rfl dX11_raw_16
  · replace c1 := bI_t c1
    refine j_iload_n C 2 rfl dX11_raw_8 ?_
    refine j_S01 C (m_isDay y) kyX11_isDay tb_1077 tb_1078 rfl (Nat.le_of_ble_eq_true rfl) ⟨by decide, by decide⟩ ⟨by decide, by decide⟩ dX11_raw_9 rfl ?_
    refine j_if_ne C 17 (by decide) dX11_raw_12 (fun c2 => ?_) (fun c2 => ?_)
    · replace c2 := bI_t c2
      refine j_iload_n C 3 rfl dX11_raw_17 ?_
      refine j_i2l C dX11_raw_18 ?_
      refine j_ldc2 C tb_1085 dX11_raw_19 ?_
      refine j_ldc2 C tb_1086 dX11_raw_22 ?_
      refine j_S01 C (m_inB z (-1) (nI 999) (-1) (999) (by decide) (by decide)) kyX11_in tb_1057 tb_1058 rfl (Nat.le_of_ble_eq_true rfl) ⟨by decide, by decide⟩ ⟨by decide, by decide⟩ dX11_raw_25 rfl ?_
      refine j_if_ne C 34 (by decide) dX11_raw_28 (fun c3 => ?_) (fun c3 => ?_)
      · replace c3 := bI_t c3
        obtain ⟨n, n1, ne⟩ := cB_nat (by omega) c1
        rw [ne]
        obtain ⟨m, m1, m2, me⟩ := wB_nat (by decide) (by decide) c2
        rw [me]
        refine j_aload_n C 0 rfl dX11_raw_34 ?_
        refine gM_0_5 C tb_878 dX11_raw_35 ?_
        refine j_iload_n C 1 rfl dX11_raw_38 ?_
        refine j_iload_n C 2 rfl dX11_raw_39 ?_
        refine j_S01 C (m_at n m) kyX11_at tb_1060 tb_1061 rfl (Nat.le_of_ble_eq_true rfl) ⟨by decide, by decide⟩ ⟨by decide, by decide⟩ dX11_raw_40 rfl ?_
        refine rM_5 C (28 * n + m) rfl (by omega) ((σ.2.1 5) (28 * n + m)) rfl dX11_raw_43 ?_
        refine j_istore C [(4, .int ((σ.2.1 5) (28 * n + m))), (0, .ref (g 0)), (1, .int (nI n)), (2, .int (nI m)), (3, .int z)] (by decide) rfl dX11_raw_44 ?_
        refine j_aload_n C 1 rfl dX11_raw_46 ?_
        refine gM_0_5 C tb_878 dX11_raw_47 ?_
        refine j_iload_n C 2 rfl dX11_raw_50 ?_
        refine j_iload_n C 3 rfl dX11_raw_51 ?_
        refine j_S01 C (m_at n m) kyX11_at tb_1060 tb_1061 rfl (Nat.le_of_ble_eq_true rfl) ⟨by decide, by decide⟩ ⟨by decide, by decide⟩ dX11_raw_52 rfl ?_
        refine j_iload_n C 4 rfl dX11_raw_55 ?_
        refine j_if_ge C 64 (by decide) dX11_raw_56 (fun c4 => ?_) (fun c4 => ?_)
        · refine j_iload_n C 4 rfl dX11_raw_64 ?_
          refine tM_5 C (28 * n + m) rfl (by omega) dX11_raw_65 ?_
          refine j_iload C 0 rfl dX11_raw_66 ?_
          exact j_iret C E (sF σ 5 (upd (σ.2.1 5) (28 * n + m) z)) ⟨_, rfl, Or.inr (Or.inl ⟨n, m, c1, c2, c3, n1, ne, m1, m2, me, c4, rfl, rfl⟩)⟩ rfl dX11_raw_68
        · refine j_bipush C ((-6)) (by decide) dX11_raw_59 ?_
          refine j_goto C 65 (by decide) dX11_raw_61 ?_
          refine tM_5 C (28 * n + m) rfl (by omega) dX11_raw_65 ?_
          refine j_iload C 0 rfl dX11_raw_66 ?_
          exact j_iret C E (sF σ 5 (upd (σ.2.1 5) (28 * n + m) (-6))) ⟨_, rfl, Or.inr (Or.inr (Or.inl ⟨n, m, c1, c2, c3, n1, ne, m1, m2, me, c4, rfl, rfl⟩))⟩ rfl dX11_raw_68
      · replace c3 := bI_f c3
        refine j_bipush C ((-2)) (by decide) dX11_raw_31 ?_
        exact j_iret C E (σ) ⟨_, rfl, Or.inr (Or.inr (Or.inr (Or.inl ⟨c1, c2, c3, rfl, rfl⟩)))⟩ rfl dX11_raw_33
    · replace c2 := bI_f c2
      refine j_iconst C ((-1)) (by decide) dX11_raw_15 ?_
      exact j_iret C E (σ) ⟨_, rfl, Or.inr (Or.inr (Or.inr (Or.inr (⟨c1, c2, rfl, rfl⟩))))⟩ rfl dX11_raw_16
set_option maxRecDepth 100000 in
set_option maxHeartbeats 4000000 in
theorem m_fix (g kk : Nat → Nat) (σ : St) (k : Nat) (hk : σ.1 3 = nI k) (hk6 : k ≤ 6) (f : Nat) (hf : σ.1 9 = nI f) (hf20 : f ≤ 20) (x y z : Int32) : jM (S := St) yX11_fix cX11_fix 4 (some .int) { frames := 2, cells := 0, slots := 0, locals := 46 } kk (cM g kk σ) [.ref (g 0), .int x, .int y, .int z] (cM g kk) (rI (fun (r : Int32) (u : St) => (((cB x (nI k)) = false) ∧ r = (-1) ∧ u = σ) ∨ (∃ n m : Nat, ((cB x (nI k)) = true) ∧ ((wB y (nI 0) (nI 27)) = true) ∧ ((wB z (-1) (nI 999)) = true) ∧ (¬ f = 20) ∧ (n < k) ∧ (x = nI n) ∧ (0 ≤ m) ∧ (m ≤ 27) ∧ (y = nI m) ∧ (0 ≤ z) ∧ r = (nI (f + 1)) ∧ u = sI (sF (sF (sF σ 6 (upd (σ.2.1 6) f (nI n))) 7 (upd (σ.2.1 7) f (nI m))) 8 (upd (σ.2.1 8) f z)) 9 (nI (f + 1))) ∨ (∃ n m : Nat, ((cB x (nI k)) = true) ∧ ((wB y (nI 0) (nI 27)) = true) ∧ ((wB z (-1) (nI 999)) = true) ∧ (¬ f = 20) ∧ (n < k) ∧ (x = nI n) ∧ (0 ≤ m) ∧ (m ≤ 27) ∧ (y = nI m) ∧ (¬ 0 ≤ z) ∧ r = (nI (f + 1)) ∧ u = sI (sF (sF (sF σ 6 (upd (σ.2.1 6) f (nI n))) 7 (upd (σ.2.1 7) f (nI m))) 8 (upd (σ.2.1 8) f (-6))) 9 (nI (f + 1))) ∨ (((cB x (nI k)) = true) ∧ ((wB y (nI 0) (nI 27)) = true) ∧ ((wB z (-1) (nI 999)) = true) ∧ (f = 20) ∧ r = (-4) ∧ u = σ) ∨ (((cB x (nI k)) = true) ∧ ((wB y (nI 0) (nI 27)) = true) ∧ ((wB z (-1) (nI 999)) = false) ∧ r = (-2) ∧ u = σ) ∨ (((cB x (nI k)) = true) ∧ ((wB y (nI 0) (nI 27)) = false) ∧ r = (-1) ∧ u = σ))) := by
  refine j_entry [(0, .ref (g 0)), (1, .int x), (2, .int y), (3, .int z)] (by decide) (Nat.le_of_ble_eq_true rfl) rfl ?_
  intro X C E HI
  refine j_aload_n C 0 rfl dX11_fix_0 ?_
  refine j_iload_n C 1 rfl dX11_fix_1 ?_
  refine j_V1 C (m_isCan g kk σ k hk hk6 x) kyX11_isCan tb_1067 tb_1069 sp_21 0 rfl (eM_0 g kk _) rfl (Nat.le_of_ble_eq_true rfl) ⟨by decide, by decide⟩ dX11_fix_2 rfl (fun vr ur hp => ?_)
  obtain ⟨r, rfl, rfl, hu⟩ := hp
  replace hu := hu.symm
  subst hu
  refine j_if_eq C 15 (by decide) dX11_fix_5 (fun c1 => ?_) (fun c1 => ?_)
  · replace c1 := bI_f c1
    refine j_iconst C ((-1)) (by decide) dX11_fix_15 ?_
    exact j_iret C E (σ) ⟨_, rfl, Or.inl ⟨c1, rfl, rfl⟩⟩ rfl dX11_fix_16
  · replace c1 := bI_t c1
    refine j_iload_n C 2 rfl dX11_fix_8 ?_
    refine j_S01 C (m_isDay y) kyX11_isDay tb_1077 tb_1078 rfl (Nat.le_of_ble_eq_true rfl) ⟨by decide, by decide⟩ ⟨by decide, by decide⟩ dX11_fix_9 rfl ?_
    refine j_if_ne C 17 (by decide) dX11_fix_12 (fun c2 => ?_) (fun c2 => ?_)
    · replace c2 := bI_t c2
      refine j_iload_n C 3 rfl dX11_fix_17 ?_
      refine j_i2l C dX11_fix_18 ?_
      refine j_ldc2 C tb_1085 dX11_fix_19 ?_
      refine j_ldc2 C tb_1086 dX11_fix_22 ?_
      refine j_S01 C (m_inB z (-1) (nI 999) (-1) (999) (by decide) (by decide)) kyX11_in tb_1057 tb_1058 rfl (Nat.le_of_ble_eq_true rfl) ⟨by decide, by decide⟩ ⟨by decide, by decide⟩ dX11_fix_25 rfl ?_
      refine j_if_ne C 34 (by decide) dX11_fix_28 (fun c3 => ?_) (fun c3 => ?_)
      · replace c3 := bI_t c3
        refine j_aload_n C 0 rfl dX11_fix_34 ?_
        refine gM_0_9 C tb_882 (nI f) hf dX11_fix_35 ?_
        refine j_bipush C (nI 20) (by decide) dX11_fix_38 ?_
        refine j_icmp_neN C 46 (by decide) (by omega) (by omega) dX11_fix_40 (fun c4 => ?_) (fun c4 => ?_)
        · obtain ⟨n, n1, ne⟩ := cB_nat (by omega) c1
          rw [ne]
          obtain ⟨m, m1, m2, me⟩ := wB_nat (by decide) (by decide) c2
          rw [me]
          refine j_aload_n C 0 rfl dX11_fix_46 ?_
          refine gM_0_6 C tb_879 dX11_fix_47 ?_
          refine j_aload_n C 0 rfl dX11_fix_50 ?_
          refine gM_0_9 C tb_882 (nI f) hf dX11_fix_51 ?_
          refine j_iload_n C 1 rfl dX11_fix_54 ?_
          refine tM_6 C f rfl (by omega) dX11_fix_55 ?_
          refine j_aload_n C 0 rfl dX11_fix_56 ?_
          refine gM_0_7 C tb_880 dX11_fix_57 ?_
          refine j_aload_n C 0 rfl dX11_fix_60 ?_
          refine gM_0_9 C tb_882 (nI f) hf dX11_fix_61 ?_
          refine j_iload_n C 2 rfl dX11_fix_64 ?_
          refine tM_7 C f rfl (by omega) dX11_fix_65 ?_
          refine j_aload_n C 0 rfl dX11_fix_66 ?_
          refine gM_0_8 C tb_881 dX11_fix_67 ?_
          refine j_aload_n C 0 rfl dX11_fix_70 ?_
          refine gM_0_9 C tb_882 (nI f) hf dX11_fix_71 ?_
          refine j_iload_n C 3 rfl dX11_fix_74 ?_
          refine j_if_ge C 83 (by decide) dX11_fix_75 (fun c5 => ?_) (fun c5 => ?_)
          · refine j_iload_n C 3 rfl dX11_fix_83 ?_
            refine tM_8 C f rfl (by omega) dX11_fix_84 ?_
            refine j_aload_n C 0 rfl dX11_fix_85 ?_
            refine j_dup C rfl dX11_fix_86 ?_
            refine gM_0_9 C tb_882 (nI f) hf dX11_fix_87 ?_
            refine j_iconst C (nI 1) (by decide) dX11_fix_90 ?_
            refine j_iaddN C dX11_fix_91 ?_
            refine pM_0_9 C tb_882 dX11_fix_92 ?_
            refine j_aload_n C 0 rfl dX11_fix_95 ?_
            refine gM_0_9 C tb_882 (nI (f + 1)) rfl dX11_fix_96 ?_
            exact j_iret C E (sI (sF (sF (sF σ 6 (upd (σ.2.1 6) f (nI n))) 7 (upd (σ.2.1 7) f (nI m))) 8 (upd (σ.2.1 8) f z)) 9 (nI (f + 1))) ⟨_, rfl, Or.inr (Or.inl ⟨n, m, c1, c2, c3, c4, n1, ne, m1, m2, me, c5, rfl, rfl⟩)⟩ rfl dX11_fix_99
          · refine j_bipush C ((-6)) (by decide) dX11_fix_78 ?_
            refine j_goto C 84 (by decide) dX11_fix_80 ?_
            refine tM_8 C f rfl (by omega) dX11_fix_84 ?_
            refine j_aload_n C 0 rfl dX11_fix_85 ?_
            refine j_dup C rfl dX11_fix_86 ?_
            refine gM_0_9 C tb_882 (nI f) hf dX11_fix_87 ?_
            refine j_iconst C (nI 1) (by decide) dX11_fix_90 ?_
            refine j_iaddN C dX11_fix_91 ?_
            refine pM_0_9 C tb_882 dX11_fix_92 ?_
            refine j_aload_n C 0 rfl dX11_fix_95 ?_
            refine gM_0_9 C tb_882 (nI (f + 1)) rfl dX11_fix_96 ?_
            exact j_iret C E (sI (sF (sF (sF σ 6 (upd (σ.2.1 6) f (nI n))) 7 (upd (σ.2.1 7) f (nI m))) 8 (upd (σ.2.1 8) f (-6))) 9 (nI (f + 1))) ⟨_, rfl, Or.inr (Or.inr (Or.inl ⟨n, m, c1, c2, c3, c4, n1, ne, m1, m2, me, c5, rfl, rfl⟩))⟩ rfl dX11_fix_99
        · refine j_bipush C ((-4)) (by decide) dX11_fix_43 ?_
          exact j_iret C E (σ) ⟨_, rfl, Or.inr (Or.inr (Or.inr (Or.inl ⟨c1, c2, c3, c4, rfl, rfl⟩)))⟩ rfl dX11_fix_45
      · replace c3 := bI_f c3
        refine j_bipush C ((-2)) (by decide) dX11_fix_31 ?_
        exact j_iret C E (σ) ⟨_, rfl, Or.inr (Or.inr (Or.inr (Or.inr (Or.inl ⟨c1, c2, c3, rfl, rfl⟩))))⟩ rfl dX11_fix_33
    · replace c2 := bI_f c2
      refine j_iconst C ((-1)) (by decide) dX11_fix_15 ?_
      exact j_iret C E (σ) ⟨_, rfl, Or.inr (Or.inr (Or.inr (Or.inr (Or.inr (⟨c1, c2, rfl, rfl⟩)))))⟩ rfl dX11_fix_16
set_option maxRecDepth 100000 in
set_option maxHeartbeats 4000000 in
theorem m_undo (g kk : Nat → Nat) (σ : St) (f : Nat) (hf : σ.1 9 = nI f) (hf20 : f ≤ 20) : jM (S := St) yX11_undo cX11_undo 1 (some .int) { frames := 0, cells := 0, slots := 0, locals := 0 } kk (cM g kk σ) [.ref (g 0)] (cM g kk) (rI (fun (r : Int32) (u : St) => ((¬ f = 0) ∧ r = (nI (f - 1)) ∧ u = sI σ 9 (nI (f - 1))) ∨ ((f = 0) ∧ r = (-5) ∧ u = σ))) := by
  refine j_entry [(0, .ref (g 0))] (by decide) (Nat.le_of_ble_eq_true rfl) rfl ?_
  intro X C E HI
  refine j_aload_n C 0 rfl dX11_undo_0 ?_
  refine gM_0_9 C tb_882 (nI f) hf dX11_undo_1 ?_
  refine j_if_neN C 10 (by decide) (by omega) dX11_undo_4 (fun c1 => ?_) (fun c1 => ?_)
  · refine j_aload_n C 0 rfl dX11_undo_10 ?_
    refine j_dup C rfl dX11_undo_11 ?_
    refine gM_0_9 C tb_882 (nI f) hf dX11_undo_12 ?_
    refine j_iconst C (nI 1) (by decide) dX11_undo_15 ?_
    refine j_isubN C (by omega) dX11_undo_16 ?_
    refine pM_0_9 C tb_882 dX11_undo_17 ?_
    refine j_aload_n C 0 rfl dX11_undo_20 ?_
    refine gM_0_9 C tb_882 (nI (f - 1)) rfl dX11_undo_21 ?_
    exact j_iret C E (sI σ 9 (nI (f - 1))) ⟨_, rfl, Or.inl ⟨c1, rfl, rfl⟩⟩ rfl dX11_undo_24
  · refine j_bipush C ((-5)) (by decide) dX11_undo_7 ?_
    exact j_iret C E (σ) ⟨_, rfl, Or.inr (⟨c1, rfl, rfl⟩)⟩ rfl dX11_undo_9
set_option maxRecDepth 100000 in
set_option maxHeartbeats 4000000 in
theorem m_say (g kk : Nat → Nat) (σ : St) (p : Nat) (hp : σ.1 15 = nI p) (hp40 : p ≤ 40) (x : Int32) : jM (S := St) yX11_say cX11_say 2 (some .int) { frames := 1, cells := 0, slots := 0, locals := 25 } kk (cM g kk σ) [.ref (g 0), .int x] (cM g kk) (rI (fun (r : Int32) (u : St) => (((wB x (nI 33) (nI 126)) = true) ∧ (¬ p = 40) ∧ r = (nI (p + 1)) ∧ u = sI (sF σ 9 (upd (σ.2.1 9) p x)) 15 (nI (p + 1))) ∨ (((wB x (nI 33) (nI 126)) = true) ∧ (p = 40) ∧ r = (-4) ∧ u = σ) ∨ (((wB x (nI 33) (nI 126)) = false) ∧ r = (-2) ∧ u = σ))) := by
  refine j_entry [(0, .ref (g 0)), (1, .int x)] (by decide) (Nat.le_of_ble_eq_true rfl) rfl ?_
  intro X C E HI
  refine j_iload_n C 1 rfl dX11_say_0 ?_
  refine j_i2l C dX11_say_1 ?_
  refine j_ldc2 C tb_1099 dX11_say_2 ?_
  refine j_ldc2 C tb_1100 dX11_say_5 ?_
  refine j_S01 C (m_inB x (nI 33) (nI 126) (33) (126) (by decide) (by decide)) kyX11_in tb_1057 tb_1058 rfl (Nat.le_of_ble_eq_true rfl) ⟨by decide, by decide⟩ ⟨by decide, by decide⟩ dX11_say_8 rfl ?_
  refine j_if_ne C 17 (by decide) dX11_say_11 (fun c1 => ?_) (fun c1 => ?_)
  · replace c1 := bI_t c1
    refine j_aload_n C 0 rfl dX11_say_17 ?_
    refine gM_0_15 C tb_888 (nI p) hp dX11_say_18 ?_
    refine j_bipush C (nI 40) (by decide) dX11_say_21 ?_
    refine j_icmp_neN C 29 (by decide) (by omega) (by omega) dX11_say_23 (fun c2 => ?_) (fun c2 => ?_)
    · refine j_aload_n C 0 rfl dX11_say_29 ?_
      refine gM_0_14 C tb_887 dX11_say_30 ?_
      refine j_aload_n C 0 rfl dX11_say_33 ?_
      refine gM_0_15 C tb_888 (nI p) hp dX11_say_34 ?_
      refine j_iload_n C 1 rfl dX11_say_37 ?_
      refine tM_9 C p rfl (by omega) dX11_say_38 ?_
      refine j_aload_n C 0 rfl dX11_say_39 ?_
      refine j_dup C rfl dX11_say_40 ?_
      refine gM_0_15 C tb_888 (nI p) hp dX11_say_41 ?_
      refine j_iconst C (nI 1) (by decide) dX11_say_44 ?_
      refine j_iaddN C dX11_say_45 ?_
      refine pM_0_15 C tb_888 dX11_say_46 ?_
      refine j_aload_n C 0 rfl dX11_say_49 ?_
      refine gM_0_15 C tb_888 (nI (p + 1)) rfl dX11_say_50 ?_
      exact j_iret C E (sI (sF σ 9 (upd (σ.2.1 9) p x)) 15 (nI (p + 1))) ⟨_, rfl, Or.inl ⟨c1, c2, rfl, rfl⟩⟩ rfl dX11_say_53
    · refine j_bipush C ((-4)) (by decide) dX11_say_26 ?_
      exact j_iret C E (σ) ⟨_, rfl, Or.inr (Or.inl ⟨c1, c2, rfl, rfl⟩)⟩ rfl dX11_say_28
  · replace c1 := bI_f c1
    refine j_bipush C ((-2)) (by decide) dX11_say_14 ?_
    exact j_iret C E (σ) ⟨_, rfl, Or.inr (Or.inr (⟨c1, rfl, rfl⟩))⟩ rfl dX11_say_16
set_option maxRecDepth 100000 in
set_option maxHeartbeats 4000000 in
theorem m_wipe (g kk : Nat → Nat) (σ : St)  : jM (S := St) yX11_wipe cX11_wipe 2 (some .int) { frames := 0, cells := 0, slots := 0, locals := 0 } kk (cM g kk σ) [.ref (g 0)] (cM g kk) (rI (fun (r : Int32) (u : St) => (r = (σ.1 15) ∧ u = sI σ 15 (nI 0)))) := by
  refine j_entry [(0, .ref (g 0))] (by decide) (Nat.le_of_ble_eq_true rfl) rfl ?_
  intro X C E HI
  refine j_aload_n C 0 rfl dX11_wipe_0 ?_
  refine gM_0_15 C tb_888 (σ.1 15) rfl dX11_wipe_1 ?_
  refine j_istore_n C [(1, .int (σ.1 15)), (0, .ref (g 0))] rfl (by decide) rfl dX11_wipe_4 ?_
  refine j_aload_n C 1 rfl dX11_wipe_5 ?_
  refine j_iconst C (nI 0) (by decide) dX11_wipe_6 ?_
  refine pM_0_15 C tb_888 dX11_wipe_7 ?_
  refine j_iload_n C 0 rfl dX11_wipe_10 ?_
  exact j_iret C E (sI σ 15 (nI 0)) ⟨_, rfl, ⟨rfl, rfl⟩⟩ rfl dX11_wipe_11
set_option maxRecDepth 100000 in
set_option maxHeartbeats 4000000 in
theorem m_numberIs (g kk : Nat → Nat) (σ : St) (n : Nat) (hn : n ≤ 3) : jM (S := St) yX11_numberIs cX11_numberIs 2 (some .int) { frames := 0, cells := 0, slots := 0, locals := 0 } kk (cM g kk σ) [.ref (g 0), .int (nI n)] (cM g kk) (rI (fun r u => r = numF σ n ∧ u = σ)) := by
  refine j_entry [(0, .ref (g 0)), (1, .int (nI n))] (by decide) (Nat.le_of_ble_eq_true rfl) rfl ?_
  intro X C E HI
  refine j_iload_n C 1 rfl dX11_numberIs_0 ?_
  refine j_if_neN C 11 (by decide) (by omega) dX11_numberIs_1 (fun c1 => ?_) (fun c1 => ?_)
  · refine j_iload_n C 1 rfl dX11_numberIs_11 ?_
    refine j_iconst C (nI 1) (by decide) dX11_numberIs_12 ?_
    refine j_icmp_neN C 23 (by decide) (by omega) (by omega) dX11_numberIs_13 (fun c2 => ?_) (fun c2 => ?_)
    · refine j_iload_n C 1 rfl dX11_numberIs_23 ?_
      refine j_iconst C (nI 2) (by decide) dX11_numberIs_24 ?_
      refine j_icmp_neN C 35 (by decide) (by omega) (by omega) dX11_numberIs_25 (fun c3 => ?_) (fun c3 => ?_)
      · refine j_aload_n C 0 rfl dX11_numberIs_35 ?_
        refine gM_0_13 C tb_886 (σ.1 13) rfl dX11_numberIs_36 ?_
        exact j_iret C E (σ) ⟨_, rfl, by simp [numF, *], rfl⟩ rfl dX11_numberIs_39
      · refine j_aload_n C 0 rfl dX11_numberIs_28 ?_
        refine gM_0_12 C tb_885 (σ.1 12) rfl dX11_numberIs_29 ?_
        refine j_goto C 39 (by decide) dX11_numberIs_32 ?_
        exact j_iret C E (σ) ⟨_, rfl, by simp [numF, *], rfl⟩ rfl dX11_numberIs_39
    · refine j_aload_n C 0 rfl dX11_numberIs_16 ?_
      refine gM_0_11 C tb_884 (σ.1 11) rfl dX11_numberIs_17 ?_
      refine j_goto C 39 (by decide) dX11_numberIs_20 ?_
      exact j_iret C E (σ) ⟨_, rfl, by simp [numF, *], rfl⟩ rfl dX11_numberIs_39
  · refine j_aload_n C 0 rfl dX11_numberIs_4 ?_
    refine gM_0_10 C tb_883 (σ.1 10) rfl dX11_numberIs_5 ?_
    refine j_goto C 39 (by decide) dX11_numberIs_8 ?_
    exact j_iret C E (σ) ⟨_, rfl, by simp [numF, *], rfl⟩ rfl dX11_numberIs_39
set_option maxRecDepth 100000 in
set_option maxHeartbeats 4000000 in
theorem m_set0 (g kk : Nat → Nat) (σ : St) (y : Int32) : jM (S := St) yX11_set cX11_set 4 (some .int) { frames := 1, cells := 0, slots := 0, locals := 25 } kk (cM g kk σ) [.ref (g 0), .int (nI 0), .int y] (cM g kk) (rI (fun (r : Int32) (u : St) => (((wB (nI 0) (nI 0) (nI 3)) = true) ∧ ((wB y (nI 1) (nI 40)) = true) ∧ r = (numF σ 0) ∧ u = sI σ 10 y) ∨ (((wB (nI 0) (nI 0) (nI 3)) = true) ∧ ((wB y (nI 1) (nI 40)) = false) ∧ r = (-2) ∧ u = σ))) := by
  refine j_entry [(0, .ref (g 0)), (1, .int (nI 0)), (2, .int y)] (by decide) (Nat.le_of_ble_eq_true rfl) rfl ?_
  intro X C E HI
  refine j_iload_n C 1 rfl dX11_set_0 ?_
  refine j_i2l C dX11_set_1 ?_
  refine j_lconst C 0 (by decide) dX11_set_2 ?_
  refine j_ldc2 C tb_1169 dX11_set_3 ?_
  refine j_S01 C (m_inB (nI 0) (nI 0) (nI 3) 0 (3) (by decide) (by decide)) kyX11_in tb_1057 tb_1058 rfl (Nat.le_of_ble_eq_true rfl) ⟨by decide, by decide⟩ ⟨by decide, by decide⟩ dX11_set_6 rfl ?_
  refine j_if_eq C 64 (by decide) dX11_set_9 (fun c1 => ?_) (fun c1 => ?_)
  · replace c1 := bI_f c1
    exact absurd c1 (by decide)
  · replace c1 := bI_t c1
    refine j_iload_n C 2 rfl dX11_set_12 ?_
    refine j_i2l C dX11_set_13 ?_
    refine j_iload_n C 1 rfl dX11_set_14 ?_
    refine j_if_neN C 22 (by decide) (by omega) dX11_set_15 (fun c2 => ?_) (fun c2 => ?_)
    · exact absurd c2 (by decide)
    · refine j_lconst C 1 (by decide) dX11_set_18 ?_
      refine j_goto C 23 (by decide) dX11_set_19 ?_
      refine j_iload_n C 1 rfl dX11_set_23 ?_
      refine j_if_neN C 33 (by decide) (by omega) dX11_set_24 (fun c3 => ?_) (fun c3 => ?_)
      · exact absurd c3 (by decide)
      · refine j_ldc2 C tb_1170 dX11_set_27 ?_
        refine j_goto C 58 (by decide) dX11_set_30 ?_
        refine j_S01 C (m_inB y (nI 1) (nI 40) 1 (40) (by decide) (by decide)) kyX11_in tb_1057 tb_1058 rfl (Nat.le_of_ble_eq_true rfl) ⟨by decide, by decide⟩ ⟨by decide, by decide⟩ dX11_set_58 rfl ?_
        refine j_if_ne C 67 (by decide) dX11_set_61 (fun c4 => ?_) (fun c4 => ?_)
        · replace c4 := bI_t c4
          refine j_aload_n C 0 rfl dX11_set_67 ?_
          refine j_iload_n C 1 rfl dX11_set_68 ?_
          refine j_V1 C (m_numberIs g kk σ 0 (by omega)) kyX11_numberIs tb_1172 tb_1174 sp_31 0 rfl (eM_0 g kk _) rfl (Nat.le_of_ble_eq_true rfl) ⟨by decide, by decide⟩ dX11_set_69 rfl (fun vr ur hp => ?_)
          obtain ⟨r, rfl, rfl, hu⟩ := hp
          replace hu := hu.symm
          subst hu
          refine j_istore_n C [(3, .int (numF σ 0)), (0, .ref (g 0)), (1, .int (nI 0)), (2, .int y)] rfl (by decide) rfl dX11_set_72 ?_
          refine j_iload_n C 2 rfl dX11_set_73 ?_
          refine j_if_neN C 85 (by decide) (by omega) dX11_set_74 (fun c5 => ?_) (fun c5 => ?_)
          · exact absurd c5 (by decide)
          · refine j_aload_n C 1 rfl dX11_set_77 ?_
            refine j_iload_n C 3 rfl dX11_set_78 ?_
            refine pM_0_10 C tb_883 dX11_set_79 ?_
            refine j_goto C 116 (by decide) dX11_set_82 ?_
            refine j_iload_n C 0 rfl dX11_set_116 ?_
            exact j_iret C E (sI σ 10 y) ⟨_, rfl, Or.inl ⟨c1, c4, rfl, rfl⟩⟩ rfl dX11_set_117
        · replace c4 := bI_f c4
          refine j_bipush C ((-2)) (by decide) dX11_set_64 ?_
          exact j_iret C E (σ) ⟨_, rfl, Or.inr (⟨c1, c4, rfl, rfl⟩)⟩ rfl dX11_set_66
set_option maxRecDepth 100000 in
set_option maxHeartbeats 4000000 in
theorem m_set1 (g kk : Nat → Nat) (σ : St) (y : Int32) : jM (S := St) yX11_set cX11_set 4 (some .int) { frames := 1, cells := 0, slots := 0, locals := 25 } kk (cM g kk σ) [.ref (g 0), .int (nI 1), .int y] (cM g kk) (rI (fun (r : Int32) (u : St) => (((wB (nI 1) (nI 0) (nI 3)) = true) ∧ ((wB y (nI 0) (nI 999)) = true) ∧ r = (numF σ 1) ∧ u = sI σ 11 y) ∨ (((wB (nI 1) (nI 0) (nI 3)) = true) ∧ ((wB y (nI 0) (nI 999)) = false) ∧ r = (-2) ∧ u = σ))) := by
  refine j_entry [(0, .ref (g 0)), (1, .int (nI 1)), (2, .int y)] (by decide) (Nat.le_of_ble_eq_true rfl) rfl ?_
  intro X C E HI
  refine j_iload_n C 1 rfl dX11_set_0 ?_
  refine j_i2l C dX11_set_1 ?_
  refine j_lconst C 0 (by decide) dX11_set_2 ?_
  refine j_ldc2 C tb_1169 dX11_set_3 ?_
  refine j_S01 C (m_inB (nI 1) (nI 0) (nI 3) 0 (3) (by decide) (by decide)) kyX11_in tb_1057 tb_1058 rfl (Nat.le_of_ble_eq_true rfl) ⟨by decide, by decide⟩ ⟨by decide, by decide⟩ dX11_set_6 rfl ?_
  refine j_if_eq C 64 (by decide) dX11_set_9 (fun c1 => ?_) (fun c1 => ?_)
  · replace c1 := bI_f c1
    exact absurd c1 (by decide)
  · replace c1 := bI_t c1
    refine j_iload_n C 2 rfl dX11_set_12 ?_
    refine j_i2l C dX11_set_13 ?_
    refine j_iload_n C 1 rfl dX11_set_14 ?_
    refine j_if_neN C 22 (by decide) (by omega) dX11_set_15 (fun c2 => ?_) (fun c2 => ?_)
    · refine j_lconst C 0 (by decide) dX11_set_22 ?_
      refine j_iload_n C 1 rfl dX11_set_23 ?_
      refine j_if_neN C 33 (by decide) (by omega) dX11_set_24 (fun c3 => ?_) (fun c3 => ?_)
      · refine j_iload_n C 1 rfl dX11_set_33 ?_
        refine j_iconst C (nI 1) (by decide) dX11_set_34 ?_
        refine j_icmp_neN C 44 (by decide) (by omega) (by omega) dX11_set_35 (fun c4 => ?_) (fun c4 => ?_)
        · exact absurd c4 (by decide)
        · refine j_ldc2 C tb_1086 dX11_set_38 ?_
          refine j_goto C 58 (by decide) dX11_set_41 ?_
          refine j_S01 C (m_inB y (nI 0) (nI 999) 0 (999) (by decide) (by decide)) kyX11_in tb_1057 tb_1058 rfl (Nat.le_of_ble_eq_true rfl) ⟨by decide, by decide⟩ ⟨by decide, by decide⟩ dX11_set_58 rfl ?_
          refine j_if_ne C 67 (by decide) dX11_set_61 (fun c5 => ?_) (fun c5 => ?_)
          · replace c5 := bI_t c5
            refine j_aload_n C 0 rfl dX11_set_67 ?_
            refine j_iload_n C 1 rfl dX11_set_68 ?_
            refine j_V1 C (m_numberIs g kk σ 1 (by omega)) kyX11_numberIs tb_1172 tb_1174 sp_31 0 rfl (eM_0 g kk _) rfl (Nat.le_of_ble_eq_true rfl) ⟨by decide, by decide⟩ dX11_set_69 rfl (fun vr ur hp => ?_)
            obtain ⟨r, rfl, rfl, hu⟩ := hp
            replace hu := hu.symm
            subst hu
            refine j_istore_n C [(3, .int (numF σ 1)), (0, .ref (g 0)), (1, .int (nI 1)), (2, .int y)] rfl (by decide) rfl dX11_set_72 ?_
            refine j_iload_n C 2 rfl dX11_set_73 ?_
            refine j_if_neN C 85 (by decide) (by omega) dX11_set_74 (fun c6 => ?_) (fun c6 => ?_)
            · refine j_iload_n C 2 rfl dX11_set_85 ?_
              refine j_iconst C (nI 1) (by decide) dX11_set_86 ?_
              refine j_icmp_neN C 98 (by decide) (by omega) (by omega) dX11_set_87 (fun c7 => ?_) (fun c7 => ?_)
              · exact absurd c7 (by decide)
              · refine j_aload_n C 1 rfl dX11_set_90 ?_
                refine j_iload_n C 3 rfl dX11_set_91 ?_
                refine pM_0_11 C tb_884 dX11_set_92 ?_
                refine j_goto C 116 (by decide) dX11_set_95 ?_
                refine j_iload_n C 0 rfl dX11_set_116 ?_
                exact j_iret C E (sI σ 11 y) ⟨_, rfl, Or.inl ⟨c1, c5, rfl, rfl⟩⟩ rfl dX11_set_117
            · exact absurd c6 (by decide)
          · replace c5 := bI_f c5
            refine j_bipush C ((-2)) (by decide) dX11_set_64 ?_
            exact j_iret C E (σ) ⟨_, rfl, Or.inr (⟨c1, c5, rfl, rfl⟩)⟩ rfl dX11_set_66
      · exact absurd c3 (by decide)
    · exact absurd c2 (by decide)
set_option maxRecDepth 100000 in
set_option maxHeartbeats 4000000 in
theorem m_set2 (g kk : Nat → Nat) (σ : St) (y : Int32) : jM (S := St) yX11_set cX11_set 4 (some .int) { frames := 1, cells := 0, slots := 0, locals := 25 } kk (cM g kk σ) [.ref (g 0), .int (nI 2), .int y] (cM g kk) (rI (fun (r : Int32) (u : St) => (((wB (nI 2) (nI 0) (nI 3)) = true) ∧ ((wB y (nI 0) (nI 99)) = true) ∧ r = (numF σ 2) ∧ u = sI σ 12 y) ∨ (((wB (nI 2) (nI 0) (nI 3)) = true) ∧ ((wB y (nI 0) (nI 99)) = false) ∧ r = (-2) ∧ u = σ))) := by
  refine j_entry [(0, .ref (g 0)), (1, .int (nI 2)), (2, .int y)] (by decide) (Nat.le_of_ble_eq_true rfl) rfl ?_
  intro X C E HI
  refine j_iload_n C 1 rfl dX11_set_0 ?_
  refine j_i2l C dX11_set_1 ?_
  refine j_lconst C 0 (by decide) dX11_set_2 ?_
  refine j_ldc2 C tb_1169 dX11_set_3 ?_
  refine j_S01 C (m_inB (nI 2) (nI 0) (nI 3) 0 (3) (by decide) (by decide)) kyX11_in tb_1057 tb_1058 rfl (Nat.le_of_ble_eq_true rfl) ⟨by decide, by decide⟩ ⟨by decide, by decide⟩ dX11_set_6 rfl ?_
  refine j_if_eq C 64 (by decide) dX11_set_9 (fun c1 => ?_) (fun c1 => ?_)
  · replace c1 := bI_f c1
    exact absurd c1 (by decide)
  · replace c1 := bI_t c1
    refine j_iload_n C 2 rfl dX11_set_12 ?_
    refine j_i2l C dX11_set_13 ?_
    refine j_iload_n C 1 rfl dX11_set_14 ?_
    refine j_if_neN C 22 (by decide) (by omega) dX11_set_15 (fun c2 => ?_) (fun c2 => ?_)
    · refine j_lconst C 0 (by decide) dX11_set_22 ?_
      refine j_iload_n C 1 rfl dX11_set_23 ?_
      refine j_if_neN C 33 (by decide) (by omega) dX11_set_24 (fun c3 => ?_) (fun c3 => ?_)
      · refine j_iload_n C 1 rfl dX11_set_33 ?_
        refine j_iconst C (nI 1) (by decide) dX11_set_34 ?_
        refine j_icmp_neN C 44 (by decide) (by omega) (by omega) dX11_set_35 (fun c4 => ?_) (fun c4 => ?_)
        · refine j_iload_n C 1 rfl dX11_set_44 ?_
          refine j_iconst C (nI 2) (by decide) dX11_set_45 ?_
          refine j_icmp_neN C 55 (by decide) (by omega) (by omega) dX11_set_46 (fun c5 => ?_) (fun c5 => ?_)
          · exact absurd c5 (by decide)
          · refine j_ldc2 C tb_1171 dX11_set_49 ?_
            refine j_goto C 58 (by decide) dX11_set_52 ?_
            refine j_S01 C (m_inB y (nI 0) (nI 99) 0 (99) (by decide) (by decide)) kyX11_in tb_1057 tb_1058 rfl (Nat.le_of_ble_eq_true rfl) ⟨by decide, by decide⟩ ⟨by decide, by decide⟩ dX11_set_58 rfl ?_
            refine j_if_ne C 67 (by decide) dX11_set_61 (fun c6 => ?_) (fun c6 => ?_)
            · replace c6 := bI_t c6
              refine j_aload_n C 0 rfl dX11_set_67 ?_
              refine j_iload_n C 1 rfl dX11_set_68 ?_
              refine j_V1 C (m_numberIs g kk σ 2 (by omega)) kyX11_numberIs tb_1172 tb_1174 sp_31 0 rfl (eM_0 g kk _) rfl (Nat.le_of_ble_eq_true rfl) ⟨by decide, by decide⟩ dX11_set_69 rfl (fun vr ur hp => ?_)
              obtain ⟨r, rfl, rfl, hu⟩ := hp
              replace hu := hu.symm
              subst hu
              refine j_istore_n C [(3, .int (numF σ 2)), (0, .ref (g 0)), (1, .int (nI 2)), (2, .int y)] rfl (by decide) rfl dX11_set_72 ?_
              refine j_iload_n C 2 rfl dX11_set_73 ?_
              refine j_if_neN C 85 (by decide) (by omega) dX11_set_74 (fun c7 => ?_) (fun c7 => ?_)
              · refine j_iload_n C 2 rfl dX11_set_85 ?_
                refine j_iconst C (nI 1) (by decide) dX11_set_86 ?_
                refine j_icmp_neN C 98 (by decide) (by omega) (by omega) dX11_set_87 (fun c8 => ?_) (fun c8 => ?_)
                · refine j_iload_n C 2 rfl dX11_set_98 ?_
                  refine j_iconst C (nI 2) (by decide) dX11_set_99 ?_
                  refine j_icmp_neN C 111 (by decide) (by omega) (by omega) dX11_set_100 (fun c9 => ?_) (fun c9 => ?_)
                  · exact absurd c9 (by decide)
                  · refine j_aload_n C 1 rfl dX11_set_103 ?_
                    refine j_iload_n C 3 rfl dX11_set_104 ?_
                    refine pM_0_12 C tb_885 dX11_set_105 ?_
                    refine j_goto C 116 (by decide) dX11_set_108 ?_
                    refine j_iload_n C 0 rfl dX11_set_116 ?_
                    exact j_iret C E (sI σ 12 y) ⟨_, rfl, Or.inl ⟨c1, c6, rfl, rfl⟩⟩ rfl dX11_set_117
                · exact absurd c8 (by decide)
              · exact absurd c7 (by decide)
            · replace c6 := bI_f c6
              refine j_bipush C ((-2)) (by decide) dX11_set_64 ?_
              exact j_iret C E (σ) ⟨_, rfl, Or.inr (⟨c1, c6, rfl, rfl⟩)⟩ rfl dX11_set_66
        · exact absurd c4 (by decide)
      · exact absurd c3 (by decide)
    · exact absurd c2 (by decide)
set_option maxRecDepth 100000 in
set_option maxHeartbeats 4000000 in
theorem m_set3 (g kk : Nat → Nat) (σ : St) (y : Int32) : jM (S := St) yX11_set cX11_set 4 (some .int) { frames := 1, cells := 0, slots := 0, locals := 25 } kk (cM g kk σ) [.ref (g 0), .int (nI 3), .int y] (cM g kk) (rI (fun (r : Int32) (u : St) => (((wB (nI 3) (nI 0) (nI 3)) = true) ∧ ((wB y (nI 0) (nI 9)) = true) ∧ r = (numF σ 3) ∧ u = sI σ 13 y) ∨ (((wB (nI 3) (nI 0) (nI 3)) = true) ∧ ((wB y (nI 0) (nI 9)) = false) ∧ r = (-2) ∧ u = σ))) := by
  refine j_entry [(0, .ref (g 0)), (1, .int (nI 3)), (2, .int y)] (by decide) (Nat.le_of_ble_eq_true rfl) rfl ?_
  intro X C E HI
  refine j_iload_n C 1 rfl dX11_set_0 ?_
  refine j_i2l C dX11_set_1 ?_
  refine j_lconst C 0 (by decide) dX11_set_2 ?_
  refine j_ldc2 C tb_1169 dX11_set_3 ?_
  refine j_S01 C (m_inB (nI 3) (nI 0) (nI 3) 0 (3) (by decide) (by decide)) kyX11_in tb_1057 tb_1058 rfl (Nat.le_of_ble_eq_true rfl) ⟨by decide, by decide⟩ ⟨by decide, by decide⟩ dX11_set_6 rfl ?_
  refine j_if_eq C 64 (by decide) dX11_set_9 (fun c1 => ?_) (fun c1 => ?_)
  · replace c1 := bI_f c1
    exact absurd c1 (by decide)
  · replace c1 := bI_t c1
    refine j_iload_n C 2 rfl dX11_set_12 ?_
    refine j_i2l C dX11_set_13 ?_
    refine j_iload_n C 1 rfl dX11_set_14 ?_
    refine j_if_neN C 22 (by decide) (by omega) dX11_set_15 (fun c2 => ?_) (fun c2 => ?_)
    · refine j_lconst C 0 (by decide) dX11_set_22 ?_
      refine j_iload_n C 1 rfl dX11_set_23 ?_
      refine j_if_neN C 33 (by decide) (by omega) dX11_set_24 (fun c3 => ?_) (fun c3 => ?_)
      · refine j_iload_n C 1 rfl dX11_set_33 ?_
        refine j_iconst C (nI 1) (by decide) dX11_set_34 ?_
        refine j_icmp_neN C 44 (by decide) (by omega) (by omega) dX11_set_35 (fun c4 => ?_) (fun c4 => ?_)
        · refine j_iload_n C 1 rfl dX11_set_44 ?_
          refine j_iconst C (nI 2) (by decide) dX11_set_45 ?_
          refine j_icmp_neN C 55 (by decide) (by omega) (by omega) dX11_set_46 (fun c5 => ?_) (fun c5 => ?_)
          · refine j_ldc2 C tb_1072 dX11_set_55 ?_
            refine j_S01 C (m_inB y (nI 0) (nI 9) 0 (9) (by decide) (by decide)) kyX11_in tb_1057 tb_1058 rfl (Nat.le_of_ble_eq_true rfl) ⟨by decide, by decide⟩ ⟨by decide, by decide⟩ dX11_set_58 rfl ?_
            refine j_if_ne C 67 (by decide) dX11_set_61 (fun c6 => ?_) (fun c6 => ?_)
            · replace c6 := bI_t c6
              refine j_aload_n C 0 rfl dX11_set_67 ?_
              refine j_iload_n C 1 rfl dX11_set_68 ?_
              refine j_V1 C (m_numberIs g kk σ 3 (by omega)) kyX11_numberIs tb_1172 tb_1174 sp_31 0 rfl (eM_0 g kk _) rfl (Nat.le_of_ble_eq_true rfl) ⟨by decide, by decide⟩ dX11_set_69 rfl (fun vr ur hp => ?_)
              obtain ⟨r, rfl, rfl, hu⟩ := hp
              replace hu := hu.symm
              subst hu
              refine j_istore_n C [(3, .int (numF σ 3)), (0, .ref (g 0)), (1, .int (nI 3)), (2, .int y)] rfl (by decide) rfl dX11_set_72 ?_
              refine j_iload_n C 2 rfl dX11_set_73 ?_
              refine j_if_neN C 85 (by decide) (by omega) dX11_set_74 (fun c7 => ?_) (fun c7 => ?_)
              · refine j_iload_n C 2 rfl dX11_set_85 ?_
                refine j_iconst C (nI 1) (by decide) dX11_set_86 ?_
                refine j_icmp_neN C 98 (by decide) (by omega) (by omega) dX11_set_87 (fun c8 => ?_) (fun c8 => ?_)
                · refine j_iload_n C 2 rfl dX11_set_98 ?_
                  refine j_iconst C (nI 2) (by decide) dX11_set_99 ?_
                  refine j_icmp_neN C 111 (by decide) (by omega) (by omega) dX11_set_100 (fun c9 => ?_) (fun c9 => ?_)
                  · refine j_aload_n C 1 rfl dX11_set_111 ?_
                    refine j_iload_n C 3 rfl dX11_set_112 ?_
                    refine pM_0_13 C tb_886 dX11_set_113 ?_
                    refine j_iload_n C 0 rfl dX11_set_116 ?_
                    exact j_iret C E (sI σ 13 y) ⟨_, rfl, Or.inl ⟨c1, c6, rfl, rfl⟩⟩ rfl dX11_set_117
                  · exact absurd c9 (by decide)
                · exact absurd c8 (by decide)
              · exact absurd c7 (by decide)
            · replace c6 := bI_f c6
              refine j_bipush C ((-2)) (by decide) dX11_set_64 ?_
              exact j_iret C E (σ) ⟨_, rfl, Or.inr (⟨c1, c6, rfl, rfl⟩)⟩ rfl dX11_set_66
          · exact absurd c5 (by decide)
        · exact absurd c4 (by decide)
      · exact absurd c3 (by decide)
    · exact absurd c2 (by decide)
set_option maxRecDepth 100000 in
set_option maxHeartbeats 4000000 in
theorem m_setO (g kk : Nat → Nat) (σ : St) (x : Int32) (hx : wB x (nI 0) (nI 3) = false) (y : Int32) : jM (S := St) yX11_set cX11_set 4 (some .int) { frames := 1, cells := 0, slots := 0, locals := 25 } kk (cM g kk σ) [.ref (g 0), .int x, .int y] (cM g kk) (rI (fun (r : Int32) (u : St) => (((wB x (nI 0) (nI 3)) = false) ∧ r = (-2) ∧ u = σ))) := by
  refine j_entry [(0, .ref (g 0)), (1, .int x), (2, .int y)] (by decide) (Nat.le_of_ble_eq_true rfl) rfl ?_
  intro X C E HI
  refine j_iload_n C 1 rfl dX11_set_0 ?_
  refine j_i2l C dX11_set_1 ?_
  refine j_lconst C 0 (by decide) dX11_set_2 ?_
  refine j_ldc2 C tb_1169 dX11_set_3 ?_
  refine j_S01 C (m_inB x (nI 0) (nI 3) 0 (3) (by decide) (by decide)) kyX11_in tb_1057 tb_1058 rfl (Nat.le_of_ble_eq_true rfl) ⟨by decide, by decide⟩ ⟨by decide, by decide⟩ dX11_set_6 rfl ?_
  refine j_if_eq C 64 (by decide) dX11_set_9 (fun c1 => ?_) (fun c1 => ?_)
  · replace c1 := bI_f c1
    refine j_bipush C ((-2)) (by decide) dX11_set_64 ?_
    exact j_iret C E (σ) ⟨_, rfl, ⟨c1, rfl, rfl⟩⟩ rfl dX11_set_66
  · replace c1 := bI_t c1
    rw [hx] at c1
    cases c1
set_option maxRecDepth 100000 in
set_option maxHeartbeats 4000000 in
theorem m_radar (g kk : Nat → Nat) (σ : St) (ra : Nat) (hra : σ.1 46 = nI ra) (hra6 : ra ≤ 6) (a b c d e : Int32) : jM (S := St) yX11_radar cX11_radar 6 (some .int) { frames := 2, cells := 0, slots := 0, locals := 46 } kk (cM g kk σ) [.ref (g 0), .int a, .int b, .int c, .int d, .int e] (cM g kk) (rI (fun (r : Int32) (u : St) => (((wB a (nI 0) (nI 27)) = true) ∧ ((wB b (nI 0) (nI 20) && wB c (nI 0) (nI 20)) = false) ∧ r = (-2) ∧ u = σ) ∨ (((wB a (nI 0) (nI 27)) = true) ∧ ((wB b (nI 0) (nI 20) && wB c (nI 0) (nI 20)) = true) ∧ ((wB d (nI 0) e) = false) ∧ r = (-2) ∧ u = σ) ∨ (((wB a (nI 0) (nI 27)) = true) ∧ ((wB b (nI 0) (nI 20) && wB c (nI 0) (nI 20)) = true) ∧ ((wB d (nI 0) e) = true) ∧ ((wB e (nI 0) (nI 999)) = true) ∧ (¬ ra = 6) ∧ r = (nI ((ra + 1) - 1)) ∧ u = sI (sF (sF (sF (sF (sF σ 26 (upd (σ.2.1 26) ra a)) 27 (upd (σ.2.1 27) ra b)) 28 (upd (σ.2.1 28) ra c)) 29 (upd (σ.2.1 29) ra d)) 30 (upd (σ.2.1 30) ra e)) 46 (nI (ra + 1))) ∨ (((wB a (nI 0) (nI 27)) = true) ∧ ((wB b (nI 0) (nI 20) && wB c (nI 0) (nI 20)) = true) ∧ ((wB d (nI 0) e) = true) ∧ ((wB e (nI 0) (nI 999)) = true) ∧ (ra = 6) ∧ r = (-4) ∧ u = σ) ∨ (((wB a (nI 0) (nI 27)) = true) ∧ ((wB b (nI 0) (nI 20) && wB c (nI 0) (nI 20)) = true) ∧ ((wB d (nI 0) e) = true) ∧ ((wB e (nI 0) (nI 999)) = false) ∧ r = (-2) ∧ u = σ) ∨ (((wB a (nI 0) (nI 27)) = false) ∧ r = (-1) ∧ u = σ))) := by
  refine j_entry [(0, .ref (g 0)), (1, .int a), (2, .int b), (3, .int c), (4, .int d), (5, .int e)] (by decide) (Nat.le_of_ble_eq_true rfl) rfl ?_
  intro X C E HI
  refine j_iload_n C 1 rfl dX11_radar_0 ?_
  refine j_S01 C (m_isDay a) kyX11_isDay tb_1077 tb_1078 rfl (Nat.le_of_ble_eq_true rfl) ⟨by decide, by decide⟩ ⟨by decide, by decide⟩ dX11_radar_1 rfl ?_
  refine j_if_ne C 9 (by decide) dX11_radar_4 (fun c1 => ?_) (fun c1 => ?_)
  · replace c1 := bI_t c1
    refine j_iload_n C 2 rfl dX11_radar_9 ?_
    refine j_iload_n C 3 rfl dX11_radar_10 ?_
    refine j_S01 C (m_isPlace b c) kyX11_isPlace tb_1053 tb_1054 rfl (Nat.le_of_ble_eq_true rfl) ⟨by decide, by decide⟩ ⟨by decide, by decide⟩ dX11_radar_11 rfl ?_
    refine j_if_eq C 43 (by decide) dX11_radar_14 (fun c2 => ?_) (fun c2 => ?_)
    · replace c2 := bI_f c2
      refine j_bipush C ((-2)) (by decide) dX11_radar_43 ?_
      exact j_iret C E (σ) ⟨_, rfl, Or.inl ⟨c1, c2, rfl, rfl⟩⟩ rfl dX11_radar_45
    · replace c2 := bI_t c2
      refine j_iload C 4 rfl dX11_radar_17 ?_
      refine j_i2l C dX11_radar_19 ?_
      refine j_lconst C 0 (by decide) dX11_radar_20 ?_
      refine j_iload C 5 rfl dX11_radar_21 ?_
      refine j_i2l C dX11_radar_23 ?_
      refine j_S01 C (m_inB d (nI 0) e 0 e.toInt64 (by decide) rfl) kyX11_in tb_1057 tb_1058 rfl (Nat.le_of_ble_eq_true rfl) ⟨by decide, by decide⟩ ⟨by decide, by decide⟩ dX11_radar_24 rfl ?_
      refine j_if_eq C 43 (by decide) dX11_radar_27 (fun c3 => ?_) (fun c3 => ?_)
      · replace c3 := bI_f c3
        refine j_bipush C ((-2)) (by decide) dX11_radar_43 ?_
        exact j_iret C E (σ) ⟨_, rfl, Or.inr (Or.inl ⟨c1, c2, c3, rfl, rfl⟩)⟩ rfl dX11_radar_45
      · replace c3 := bI_t c3
        refine j_iload C 5 rfl dX11_radar_30 ?_
        refine j_i2l C dX11_radar_32 ?_
        refine j_lconst C 0 (by decide) dX11_radar_33 ?_
        refine j_ldc2 C tb_1086 dX11_radar_34 ?_
        refine j_S01 C (m_inB e (nI 0) (nI 999) 0 (999) (by decide) (by decide)) kyX11_in tb_1057 tb_1058 rfl (Nat.le_of_ble_eq_true rfl) ⟨by decide, by decide⟩ ⟨by decide, by decide⟩ dX11_radar_37 rfl ?_
        refine j_if_ne C 46 (by decide) dX11_radar_40 (fun c4 => ?_) (fun c4 => ?_)
        · replace c4 := bI_t c4
          refine j_aload_n C 0 rfl dX11_radar_46 ?_
          refine gM_0_46 C tb_919 (nI ra) hra dX11_radar_47 ?_
          refine j_bipush C (nI 6) (by decide) dX11_radar_50 ?_
          refine j_icmp_neN C 58 (by decide) (by omega) (by omega) dX11_radar_52 (fun c5 => ?_) (fun c5 => ?_)
          · refine j_aload_n C 0 rfl dX11_radar_58 ?_
            refine gM_0_41 C tb_914 dX11_radar_59 ?_
            refine j_aload_n C 0 rfl dX11_radar_62 ?_
            refine gM_0_46 C tb_919 (nI ra) hra dX11_radar_63 ?_
            refine j_iload_n C 1 rfl dX11_radar_66 ?_
            refine tM_26 C ra rfl (by omega) dX11_radar_67 ?_
            refine j_aload_n C 0 rfl dX11_radar_68 ?_
            refine gM_0_42 C tb_915 dX11_radar_69 ?_
            refine j_aload_n C 0 rfl dX11_radar_72 ?_
            refine gM_0_46 C tb_919 (nI ra) hra dX11_radar_73 ?_
            refine j_iload_n C 2 rfl dX11_radar_76 ?_
            refine tM_27 C ra rfl (by omega) dX11_radar_77 ?_
            refine j_aload_n C 0 rfl dX11_radar_78 ?_
            refine gM_0_43 C tb_916 dX11_radar_79 ?_
            refine j_aload_n C 0 rfl dX11_radar_82 ?_
            refine gM_0_46 C tb_919 (nI ra) hra dX11_radar_83 ?_
            refine j_iload_n C 3 rfl dX11_radar_86 ?_
            refine tM_28 C ra rfl (by omega) dX11_radar_87 ?_
            refine j_aload_n C 0 rfl dX11_radar_88 ?_
            refine gM_0_44 C tb_917 dX11_radar_89 ?_
            refine j_aload_n C 0 rfl dX11_radar_92 ?_
            refine gM_0_46 C tb_919 (nI ra) hra dX11_radar_93 ?_
            refine j_iload C 4 rfl dX11_radar_96 ?_
            refine tM_29 C ra rfl (by omega) dX11_radar_98 ?_
            refine j_aload_n C 0 rfl dX11_radar_99 ?_
            refine gM_0_45 C tb_918 dX11_radar_100 ?_
            refine j_aload_n C 0 rfl dX11_radar_103 ?_
            refine gM_0_46 C tb_919 (nI ra) hra dX11_radar_104 ?_
            refine j_iload C 5 rfl dX11_radar_107 ?_
            refine tM_30 C ra rfl (by omega) dX11_radar_109 ?_
            refine j_aload_n C 0 rfl dX11_radar_110 ?_
            refine j_dup C rfl dX11_radar_111 ?_
            refine gM_0_46 C tb_919 (nI ra) hra dX11_radar_112 ?_
            refine j_iconst C (nI 1) (by decide) dX11_radar_115 ?_
            refine j_iaddN C dX11_radar_116 ?_
            refine pM_0_46 C tb_919 dX11_radar_117 ?_
            refine j_aload_n C 0 rfl dX11_radar_120 ?_
            refine gM_0_46 C tb_919 (nI (ra + 1)) rfl dX11_radar_121 ?_
            refine j_iconst C (nI 1) (by decide) dX11_radar_124 ?_
            refine j_isubN C (by omega) dX11_radar_125 ?_
            exact j_iret C E (sI (sF (sF (sF (sF (sF σ 26 (upd (σ.2.1 26) ra a)) 27 (upd (σ.2.1 27) ra b)) 28 (upd (σ.2.1 28) ra c)) 29 (upd (σ.2.1 29) ra d)) 30 (upd (σ.2.1 30) ra e)) 46 (nI (ra + 1))) ⟨_, rfl, Or.inr (Or.inr (Or.inl ⟨c1, c2, c3, c4, c5, rfl, rfl⟩))⟩ rfl dX11_radar_126
          · refine j_bipush C ((-4)) (by decide) dX11_radar_55 ?_
            exact j_iret C E (σ) ⟨_, rfl, Or.inr (Or.inr (Or.inr (Or.inl ⟨c1, c2, c3, c4, c5, rfl, rfl⟩)))⟩ rfl dX11_radar_57
        · replace c4 := bI_f c4
          refine j_bipush C ((-2)) (by decide) dX11_radar_43 ?_
          exact j_iret C E (σ) ⟨_, rfl, Or.inr (Or.inr (Or.inr (Or.inr (Or.inl ⟨c1, c2, c3, c4, rfl, rfl⟩))))⟩ rfl dX11_radar_45
  · replace c1 := bI_f c1
    refine j_iconst C ((-1)) (by decide) dX11_radar_7 ?_
    exact j_iret C E (σ) ⟨_, rfl, Or.inr (Or.inr (Or.inr (Or.inr (Or.inr (⟨c1, rfl, rfl⟩)))))⟩ rfl dX11_radar_8
set_option maxRecDepth 100000 in
set_option maxHeartbeats 4000000 in
theorem m_blind (g kk : Nat → Nat) (σ : St)  : jM (S := St) yX11_blind cX11_blind 2 (some .int) { frames := 0, cells := 0, slots := 0, locals := 0 } kk (cM g kk σ) [.ref (g 0)] (cM g kk) (rI (fun (r : Int32) (u : St) => (r = (σ.1 46) ∧ u = sI σ 46 (nI 0)))) := by
  refine j_entry [(0, .ref (g 0))] (by decide) (Nat.le_of_ble_eq_true rfl) rfl ?_
  intro X C E HI
  refine j_aload_n C 0 rfl dX11_blind_0 ?_
  refine gM_0_46 C tb_919 (σ.1 46) rfl dX11_blind_1 ?_
  refine j_istore_n C [(1, .int (σ.1 46)), (0, .ref (g 0))] rfl (by decide) rfl dX11_blind_4 ?_
  refine j_aload_n C 1 rfl dX11_blind_5 ?_
  refine j_iconst C (nI 0) (by decide) dX11_blind_6 ?_
  refine pM_0_46 C tb_919 dX11_blind_7 ?_
  refine j_iload_n C 0 rfl dX11_blind_10 ?_
  exact j_iret C E (sI σ 46 (nI 0)) ⟨_, rfl, ⟨rfl, rfl⟩⟩ rfl dX11_blind_11
set_option maxRecDepth 100000 in
set_option maxHeartbeats 4000000 in
theorem m_told (g kk : Nat → Nat) (σ : St) (x : Int32) : jM (S := St) yX11_told cX11_told 2 (some .int) { frames := 1, cells := 0, slots := 0, locals := 25 } kk (cM g kk σ) [.ref (g 0), .int x] (cM g kk) (rI (fun (r : Int32) (u : St) => (((wB x (nI 10) (nI 37)) = false) ∧ (x = nI 0) ∧ r = (σ.1 3) ∧ u = σ) ∨ (((wB x (nI 10) (nI 37)) = false) ∧ (¬ x = nI 0) ∧ (x = nI 1) ∧ r = (σ.1 9) ∧ u = σ) ∨ (((wB x (nI 10) (nI 37)) = false) ∧ (¬ x = nI 0) ∧ (¬ x = nI 1) ∧ (x = nI 2) ∧ r = (σ.1 15) ∧ u = σ) ∨ (((wB x (nI 10) (nI 37)) = false) ∧ (¬ x = nI 0) ∧ (¬ x = nI 1) ∧ (¬ x = nI 2) ∧ (x = nI 3) ∧ r = (σ.1 46) ∧ u = σ) ∨ (((wB x (nI 10) (nI 37)) = false) ∧ (¬ x = nI 0) ∧ (¬ x = nI 1) ∧ (¬ x = nI 2) ∧ (¬ x = nI 3) ∧ ((wB x (nI 4) (nI 7)) = false) ∧ r = (-2) ∧ u = σ) ∨ (∃ n : Nat, ((wB x (nI 10) (nI 37)) = false) ∧ (¬ x = nI 0) ∧ (¬ x = nI 1) ∧ (¬ x = nI 2) ∧ (¬ x = nI 3) ∧ ((wB x (nI 4) (nI 7)) = true) ∧ (4 ≤ n) ∧ (n ≤ 7) ∧ (x = nI n) ∧ r = (numF σ (n - 4)) ∧ u = σ) ∨ (∃ n : Nat, ((wB x (nI 10) (nI 37)) = true) ∧ (10 ≤ n) ∧ (n ≤ 37) ∧ (x = nI n) ∧ r = ((σ.2.1 4) (n - 10)) ∧ u = σ))) := by
  refine j_entry [(0, .ref (g 0)), (1, .int x)] (by decide) (Nat.le_of_ble_eq_true rfl) rfl ?_
  intro X C E HI
  refine j_iload_n C 1 rfl dX11_told_0 ?_
  refine j_i2l C dX11_told_1 ?_
  refine j_ldc2 C tb_1338 dX11_told_2 ?_
  refine j_ldc2 C tb_1339 dX11_told_5 ?_
  refine j_S01 C (m_inB x (nI 10) (nI 37) (10) (37) (by decide) (by decide)) kyX11_in tb_1057 tb_1058 rfl (Nat.le_of_ble_eq_true rfl) ⟨by decide, by decide⟩ ⟨by decide, by decide⟩ dX11_told_8 rfl ?_
  refine j_if_eq C 24 (by decide) dX11_told_11 (fun c1 => ?_) (fun c1 => ?_)
  · replace c1 := bI_f c1
    refine j_iload_n C 1 rfl dX11_told_24 ?_
    by_cases q2 : x = nI 0
    · rw [q2]
      refine j_tabIn C 56 (by decide) (by decide) rfl (by decide) dX11_told_25 ?_
      refine j_aload_n C 0 rfl dX11_told_56 ?_
      refine gM_0_3 C tb_876 (σ.1 3) rfl dX11_told_57 ?_
      exact j_iret C E (σ) ⟨_, rfl, Or.inl ⟨c1, q2, rfl, rfl⟩⟩ rfl dX11_told_60
    · by_cases q3 : x = nI 1
      · rw [q3]
        refine j_tabIn C 61 (by decide) (by decide) rfl (by decide) dX11_told_25 ?_
        refine j_aload_n C 0 rfl dX11_told_61 ?_
        refine gM_0_9 C tb_882 (σ.1 9) rfl dX11_told_62 ?_
        exact j_iret C E (σ) ⟨_, rfl, Or.inr (Or.inl ⟨c1, q2, q3, rfl, rfl⟩)⟩ rfl dX11_told_65
      · by_cases q4 : x = nI 2
        · rw [q4]
          refine j_tabIn C 66 (by decide) (by decide) rfl (by decide) dX11_told_25 ?_
          refine j_aload_n C 0 rfl dX11_told_66 ?_
          refine gM_0_15 C tb_888 (σ.1 15) rfl dX11_told_67 ?_
          exact j_iret C E (σ) ⟨_, rfl, Or.inr (Or.inr (Or.inl ⟨c1, q2, q3, q4, rfl, rfl⟩))⟩ rfl dX11_told_70
        · by_cases q5 : x = nI 3
          · rw [q5]
            refine j_tabIn C 71 (by decide) (by decide) rfl (by decide) dX11_told_25 ?_
            refine j_aload_n C 0 rfl dX11_told_71 ?_
            refine gM_0_46 C tb_919 (σ.1 46) rfl dX11_told_72 ?_
            exact j_iret C E (σ) ⟨_, rfl, Or.inr (Or.inr (Or.inr (Or.inl ⟨c1, q2, q3, q4, q5, rfl, rfl⟩)))⟩ rfl dX11_told_75
          · refine j_tabOut C 76 (swOut 3 (by decide) (fun j hj => by rcases (show j = 0 ∨ j = 1 ∨ j = 2 ∨ j = 3 by omega) with rfl | rfl | rfl | rfl <;> assumption)) (by decide) dX11_told_25 ?_
            refine j_iload_n C 1 rfl dX11_told_76 ?_
            refine j_i2l C dX11_told_77 ?_
            refine j_ldc2 C tb_1312 dX11_told_78 ?_
            refine j_ldc2 C tb_1340 dX11_told_81 ?_
            refine j_S01 C (m_inB x (nI 4) (nI 7) (4) (7) (by decide) (by decide)) kyX11_in tb_1057 tb_1058 rfl (Nat.le_of_ble_eq_true rfl) ⟨by decide, by decide⟩ ⟨by decide, by decide⟩ dX11_told_84 rfl ?_
            refine j_if_eq C 100 (by decide) dX11_told_87 (fun c6 => ?_) (fun c6 => ?_)
            · replace c6 := bI_f c6
              refine j_bipush C ((-2)) (by decide) dX11_told_100 ?_
              exact j_iret C E (σ) ⟨_, rfl, Or.inr (Or.inr (Or.inr (Or.inr (Or.inl ⟨c1, q2, q3, q4, q5, c6, rfl, rfl⟩))))⟩ rfl dX11_told_102
            · replace c6 := bI_t c6
              obtain ⟨n, n1, n2, ne⟩ := wB_nat (by decide) (by decide) c6
              rw [ne]
              refine j_aload_n C 0 rfl dX11_told_90 ?_
              refine j_iload_n C 1 rfl dX11_told_91 ?_
              refine j_iconst C (nI 4) (by decide) dX11_told_92 ?_
              refine j_isubN C (by omega) dX11_told_93 ?_
              refine j_V1 C (m_numberIs g kk σ (n - 4) (by omega)) kyX11_numberIs tb_1172 tb_1174 sp_31 0 rfl (eM_0 g kk _) rfl (Nat.le_of_ble_eq_true rfl) ⟨by decide, by decide⟩ dX11_told_94 rfl (fun vr ur hp => ?_)
              obtain ⟨r, rfl, rfl, hu⟩ := hp
              replace hu := hu.symm
              subst hu
              refine j_goto C 102 (by decide) dX11_told_97 ?_
              exact j_iret C E (σ) ⟨_, rfl, Or.inr (Or.inr (Or.inr (Or.inr (Or.inr (Or.inl ⟨n, c1, q2, q3, q4, q5, c6, n1, n2, ne, rfl, rfl⟩)))))⟩ rfl dX11_told_102
  · replace c1 := bI_t c1
    obtain ⟨n, n1, n2, ne⟩ := wB_nat (by decide) (by decide) c1
    rw [ne]
    refine j_aload_n C 0 rfl dX11_told_14 ?_
    refine gM_0_4 C tb_877 dX11_told_15 ?_
    refine j_iload_n C 1 rfl dX11_told_18 ?_
    refine j_bipush C (nI 10) (by decide) dX11_told_19 ?_
    refine j_isubN C (by omega) dX11_told_21 ?_
    refine rM_4 C (n - 10) rfl (by omega) ((σ.2.1 4) (n - 10)) rfl dX11_told_22 ?_
    exact j_iret C E (σ) ⟨_, rfl, Or.inr (Or.inr (Or.inr (Or.inr (Or.inr (Or.inr (⟨n, c1, n1, n2, ne, rfl, rfl⟩))))))⟩ rfl dX11_told_23
