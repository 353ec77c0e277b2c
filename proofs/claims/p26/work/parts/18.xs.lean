set_option maxRecDepth 100000 in
set_option maxHeartbeats 4000000 in
theorem d_misfit_34 (g kk : Nat → Nat) (σ : St) (k : Nat) (hk : σ.1 16 = nI k) (hk6 : k ≤ 6) (hI : iX σ)   : jM (S := St) yX9_misfit cX9_misfit 4 (some .int) { frames := 1, cells := 0, slots := 0, locals := 21 } kk (cX g kk σ) [.ref (g 32), .ref (g 34)] (cX g kk) (rI (fun (r : Int32) (u : St) => u = σ)) := by
  refine j_entry [(0, .ref (g 32)), (1, .ref (g 34))] (by decide) (Nat.le_of_ble_eq_true rfl) rfl ?_
  intro X C E HI
  refine j_iconst C (nI 0) (by decide) dX9_misfit_0 ?_
  refine j_istore_n C [(2, .int (nI 0)), (0, .ref (g 32)), (1, .ref (g 34))] rfl (by decide) rfl dX9_misfit_1 ?_
  refine j_iconst C (nI 0) (by decide) dX9_misfit_2 ?_
  refine j_istore_n C [(3, .int (nI 0)), (2, .int (nI 0)), (0, .ref (g 32)), (1, .ref (g 34))] rfl (by decide) rfl dX9_misfit_3 ?_
  have L4 : ∀ (n4 : Nat) (i : Nat) (y4_2 : Int32) (i4_0 : i ≤ 7) (hm4 : 7 - i < n4), J X 0 0 (cX g kk σ) [(3, .int (nI i)), (2, .int y4_2), (0, .ref (g 32)), (1, .ref (g 34))] 4 [] := by
    intro n4
    induction n4 with
    | zero => intro i y4_2 i4_0 hm; exact absurd hm (Nat.not_lt_zero _)
    | succ n4 ih4 =>
      intro i y4_2 i4_0 hm4
      refine j_iload_n C 0 rfl dX9_misfit_4 ?_
      refine j_bipush C (nI 7) (by decide) dX9_misfit_5 ?_
      refine j_icmp_geN C 32 (by decide) (by omega) (by omega) dX9_misfit_7 (fun c1 => ?_) (fun c1 => ?_)
      · refine j_iload_n C 1 rfl dX9_misfit_32 ?_
        exact j_iret C E (σ) ⟨_, rfl, rfl⟩ rfl dX9_misfit_33
      · refine j_iload_n C 1 rfl dX9_misfit_10 ?_
        refine j_aload_n C 3 rfl dX9_misfit_11 ?_
        refine j_iload_n C 0 rfl dX9_misfit_12 ?_
        refine rX_34 C i rfl (by omega) ((σ.2.1 34) i) rfl dX9_misfit_13 ?_
        refine j_aload_n C 2 rfl dX9_misfit_14 ?_
        refine gX_32_3 C tb_240 dX9_misfit_15 ?_
        refine j_iload_n C 0 rfl dX9_misfit_18 ?_
        refine rX_35 C i rfl (by omega) ((σ.2.1 35) i) rfl dX9_misfit_19 ?_
        refine j_isub C dX9_misfit_20 ?_
        refine j_top (fun v2 => ?_)
        refine j_mabs C tb_627 tb_590 tb_15 tb_591 (by decide) (Nat.le_of_ble_eq_true rfl) (by decide) (by decide) dX9_misfit_21 ?_
        refine j_top (fun v3 => ?_)
        refine j_iadd C dX9_misfit_24 ?_
        refine j_istore_n C [(2, .int (y4_2 + v3)), (3, .int (nI i)), (0, .ref (g 32)), (1, .ref (g 34))] rfl (by decide) rfl dX9_misfit_25 ?_
        refine j_iinc C (nI (i + 1)) [(3, .int (nI (i + 1))), (2, .int (y4_2 + v3)), (0, .ref (g 32)), (1, .ref (g 34))] 1 rfl (by rw [show Int32.ofInt 1 = nI 1 from by decide, nI_add]) (by decide) rfl dX9_misfit_26 ?_
        refine j_goto C 4 (by decide) dX9_misfit_29 ?_
        exact ih4 (i + 1) (y4_2 + v3) (by omega) (by omega)
  exact L4 _ 0 (nI 0) (by omega) (Nat.lt_succ_self _)
set_option maxRecDepth 100000 in
set_option maxHeartbeats 4000000 in
theorem d_misfit_36 (g kk : Nat → Nat) (σ : St) (k : Nat) (hk : σ.1 16 = nI k) (hk6 : k ≤ 6) (hI : iX σ)   : jM (S := St) yX9_misfit cX9_misfit 4 (some .int) { frames := 1, cells := 0, slots := 0, locals := 21 } kk (cX g kk σ) [.ref (g 32), .ref (g 36)] (cX g kk) (rI (fun (r : Int32) (u : St) => u = σ)) := by
  refine j_entry [(0, .ref (g 32)), (1, .ref (g 36))] (by decide) (Nat.le_of_ble_eq_true rfl) rfl ?_
  intro X C E HI
  refine j_iconst C (nI 0) (by decide) dX9_misfit_0 ?_
  refine j_istore_n C [(2, .int (nI 0)), (0, .ref (g 32)), (1, .ref (g 36))] rfl (by decide) rfl dX9_misfit_1 ?_
  refine j_iconst C (nI 0) (by decide) dX9_misfit_2 ?_
  refine j_istore_n C [(3, .int (nI 0)), (2, .int (nI 0)), (0, .ref (g 32)), (1, .ref (g 36))] rfl (by decide) rfl dX9_misfit_3 ?_
  have L4 : ∀ (n4 : Nat) (i : Nat) (y4_2 : Int32) (i4_0 : i ≤ 7) (hm4 : 7 - i < n4), J X 0 0 (cX g kk σ) [(3, .int (nI i)), (2, .int y4_2), (0, .ref (g 32)), (1, .ref (g 36))] 4 [] := by
    intro n4
    induction n4 with
    | zero => intro i y4_2 i4_0 hm; exact absurd hm (Nat.not_lt_zero _)
    | succ n4 ih4 =>
      intro i y4_2 i4_0 hm4
      refine j_iload_n C 0 rfl dX9_misfit_4 ?_
      refine j_bipush C (nI 7) (by decide) dX9_misfit_5 ?_
      refine j_icmp_geN C 32 (by decide) (by omega) (by omega) dX9_misfit_7 (fun c1 => ?_) (fun c1 => ?_)
      · refine j_iload_n C 1 rfl dX9_misfit_32 ?_
        exact j_iret C E (σ) ⟨_, rfl, rfl⟩ rfl dX9_misfit_33
      · refine j_iload_n C 1 rfl dX9_misfit_10 ?_
        refine j_aload_n C 3 rfl dX9_misfit_11 ?_
        refine j_iload_n C 0 rfl dX9_misfit_12 ?_
        refine rX_36 C i rfl (by omega) ((σ.2.1 36) i) rfl dX9_misfit_13 ?_
        refine j_aload_n C 2 rfl dX9_misfit_14 ?_
        refine gX_32_3 C tb_240 dX9_misfit_15 ?_
        refine j_iload_n C 0 rfl dX9_misfit_18 ?_
        refine rX_35 C i rfl (by omega) ((σ.2.1 35) i) rfl dX9_misfit_19 ?_
        refine j_isub C dX9_misfit_20 ?_
        refine j_top (fun v2 => ?_)
        refine j_mabs C tb_627 tb_590 tb_15 tb_591 (by decide) (Nat.le_of_ble_eq_true rfl) (by decide) (by decide) dX9_misfit_21 ?_
        refine j_top (fun v3 => ?_)
        refine j_iadd C dX9_misfit_24 ?_
        refine j_istore_n C [(2, .int (y4_2 + v3)), (3, .int (nI i)), (0, .ref (g 32)), (1, .ref (g 36))] rfl (by decide) rfl dX9_misfit_25 ?_
        refine j_iinc C (nI (i + 1)) [(3, .int (nI (i + 1))), (2, .int (y4_2 + v3)), (0, .ref (g 32)), (1, .ref (g 36))] 1 rfl (by rw [show Int32.ofInt 1 = nI 1 from by decide, nI_add]) (by decide) rfl dX9_misfit_26 ?_
        refine j_goto C 4 (by decide) dX9_misfit_29 ?_
        exact ih4 (i + 1) (y4_2 + v3) (by omega) (by omega)
  exact L4 _ 0 (nI 0) (by omega) (Nat.lt_succ_self _)
set_option maxRecDepth 100000 in
set_option maxHeartbeats 4000000 in
theorem d_misfit_37 (g kk : Nat → Nat) (σ : St) (k : Nat) (hk : σ.1 16 = nI k) (hk6 : k ≤ 6) (hI : iX σ)   : jM (S := St) yX9_misfit cX9_misfit 4 (some .int) { frames := 1, cells := 0, slots := 0, locals := 21 } kk (cX g kk σ) [.ref (g 32), .ref (g 37)] (cX g kk) (rI (fun (r : Int32) (u : St) => u = σ)) := by
  refine j_entry [(0, .ref (g 32)), (1, .ref (g 37))] (by decide) (Nat.le_of_ble_eq_true rfl) rfl ?_
  intro X C E HI
  refine j_iconst C (nI 0) (by decide) dX9_misfit_0 ?_
  refine j_istore_n C [(2, .int (nI 0)), (0, .ref (g 32)), (1, .ref (g 37))] rfl (by decide) rfl dX9_misfit_1 ?_
  refine j_iconst C (nI 0) (by decide) dX9_misfit_2 ?_
  refine j_istore_n C [(3, .int (nI 0)), (2, .int (nI 0)), (0, .ref (g 32)), (1, .ref (g 37))] rfl (by decide) rfl dX9_misfit_3 ?_
  have L4 : ∀ (n4 : Nat) (i : Nat) (y4_2 : Int32) (i4_0 : i ≤ 7) (hm4 : 7 - i < n4), J X 0 0 (cX g kk σ) [(3, .int (nI i)), (2, .int y4_2), (0, .ref (g 32)), (1, .ref (g 37))] 4 [] := by
    intro n4
    induction n4 with
    | zero => intro i y4_2 i4_0 hm; exact absurd hm (Nat.not_lt_zero _)
    | succ n4 ih4 =>
      intro i y4_2 i4_0 hm4
      refine j_iload_n C 0 rfl dX9_misfit_4 ?_
      refine j_bipush C (nI 7) (by decide) dX9_misfit_5 ?_
      refine j_icmp_geN C 32 (by decide) (by omega) (by omega) dX9_misfit_7 (fun c1 => ?_) (fun c1 => ?_)
      · refine j_iload_n C 1 rfl dX9_misfit_32 ?_
        exact j_iret C E (σ) ⟨_, rfl, rfl⟩ rfl dX9_misfit_33
      · refine j_iload_n C 1 rfl dX9_misfit_10 ?_
        refine j_aload_n C 3 rfl dX9_misfit_11 ?_
        refine j_iload_n C 0 rfl dX9_misfit_12 ?_
        refine rX_37 C i rfl (by omega) ((σ.2.1 37) i) rfl dX9_misfit_13 ?_
        refine j_aload_n C 2 rfl dX9_misfit_14 ?_
        refine gX_32_3 C tb_240 dX9_misfit_15 ?_
        refine j_iload_n C 0 rfl dX9_misfit_18 ?_
        refine rX_35 C i rfl (by omega) ((σ.2.1 35) i) rfl dX9_misfit_19 ?_
        refine j_isub C dX9_misfit_20 ?_
        refine j_top (fun v2 => ?_)
        refine j_mabs C tb_627 tb_590 tb_15 tb_591 (by decide) (Nat.le_of_ble_eq_true rfl) (by decide) (by decide) dX9_misfit_21 ?_
        refine j_top (fun v3 => ?_)
        refine j_iadd C dX9_misfit_24 ?_
        refine j_istore_n C [(2, .int (y4_2 + v3)), (3, .int (nI i)), (0, .ref (g 32)), (1, .ref (g 37))] rfl (by decide) rfl dX9_misfit_25 ?_
        refine j_iinc C (nI (i + 1)) [(3, .int (nI (i + 1))), (2, .int (y4_2 + v3)), (0, .ref (g 32)), (1, .ref (g 37))] 1 rfl (by rw [show Int32.ofInt 1 = nI 1 from by decide, nI_add]) (by decide) rfl dX9_misfit_26 ?_
        refine j_goto C 4 (by decide) dX9_misfit_29 ?_
        exact ih4 (i + 1) (y4_2 + v3) (by omega) (by omega)
  exact L4 _ 0 (nI 0) (by omega) (Nat.lt_succ_self _)
set_option maxRecDepth 100000 in
set_option maxHeartbeats 4000000 in
theorem d_part_36_35 (g kk : Nat → Nat) (σ : St) (k : Nat) (hk : σ.1 16 = nI k) (hk6 : k ≤ 6) (hI : iX σ)  (a : Nat) (ha0 : a < 7) (b : Nat) (hb0 : b < 7) (v : Int32) : jM (S := St) yX10_part cX10_part 8 none { frames := 1, cells := 0, slots := 0, locals := 21 } kk (cX g kk σ) [.ref (g 36), .int (nI a), .int (nI b), .int v, .ref (g 35)] (cX g kk) (rV (fun u : St => ∃ (pF36 : Nat → Int32), u = sF σ 36 pF36)) := by
  refine j_entry [(0, .ref (g 36)), (1, .int (nI a)), (2, .int (nI b)), (3, .int v), (4, .ref (g 35))] (by decide) (Nat.le_of_ble_eq_true rfl) rfl ?_
  intro X C E HI
  refine j_iconst C (nI 0) (by decide) dX10_part_0 ?_
  refine j_istore C [(5, .int (nI 0)), (0, .ref (g 36)), (1, .int (nI a)), (2, .int (nI b)), (3, .int v), (4, .ref (g 35))] (by decide) rfl dX10_part_1 ?_
  refine j_iload_n C 2 rfl dX10_part_3 ?_
  refine j_istore C [(6, .int (nI a)), (5, .int (nI 0)), (0, .ref (g 36)), (1, .int (nI a)), (2, .int (nI b)), (3, .int v), (4, .ref (g 35))] (by decide) rfl dX10_part_4 ?_
  have L6 : ∀ (n6 : Nat) (i : Nat) (y6_5 : Int32) (i6_0 : i ≤ 7) (hm6 : 7 - i < n6), J X 0 0 (cX g kk σ) [(6, .int (nI i)), (5, .int y6_5), (0, .ref (g 36)), (1, .int (nI a)), (2, .int (nI b)), (3, .int v), (4, .ref (g 35))] 6 [] := by
    intro n6
    induction n6 with
    | zero => intro i y6_5 i6_0 hm; exact absurd hm (Nat.not_lt_zero _)
    | succ n6 ih6 =>
      intro i y6_5 i6_0 hm6
      refine j_iload C 0 rfl dX10_part_6 ?_
      refine j_iload_n C 4 rfl dX10_part_8 ?_
      refine j_icmp_gtN C 32 (by decide) (by omega) (by omega) dX10_part_9 (fun c1 => ?_) (fun c1 => ?_)
      · refine j_iload_n C 5 rfl dX10_part_32 ?_
        refine j_istore C [(6, .int v), (5, .int y6_5), (0, .ref (g 36)), (1, .int (nI a)), (2, .int (nI b)), (3, .int v), (4, .ref (g 35))] (by decide) rfl dX10_part_33 ?_
        refine j_iload_n C 3 rfl dX10_part_35 ?_
        refine j_istore C [(7, .int (nI a)), (6, .int v), (5, .int y6_5), (0, .ref (g 36)), (1, .int (nI a)), (2, .int (nI b)), (3, .int v), (4, .ref (g 35))] (by decide) rfl dX10_part_36 ?_
        have L38 : ∀ (n38 : Nat) (j : Nat) (y38_6 : Int32) (z38_F36 : Nat → Int32) (i38_0 : j ≤ 7) (hm38 : 7 - j < n38), J X 0 0 (cX g kk (sF σ 36 z38_F36)) [(7, .int (nI j)), (6, .int y38_6), (5, .int y6_5), (0, .ref (g 36)), (1, .int (nI a)), (2, .int (nI b)), (3, .int v), (4, .ref (g 35))] 38 [] := by
          intro n38
          induction n38 with
          | zero => intro j y38_6 z38_F36 i38_0 hm; exact absurd hm (Nat.not_lt_zero _)
          | succ n38 ih38 =>
            intro j y38_6 z38_F36 i38_0 hm38
            refine j_iload C 0 rfl dX10_part_38 ?_
            refine j_iload_n C 5 rfl dX10_part_40 ?_
            refine j_icmp_geN C 86 (by decide) (by omega) (by omega) dX10_part_41 (fun c2 => ?_) (fun c2 => ?_)
            · refine j_aload_n C 3 rfl dX10_part_86 ?_
              refine j_iload_n C 5 rfl dX10_part_87 ?_
              refine j_iload C 1 rfl dX10_part_88 ?_
              refine tX_36 C b rfl (by omega) dX10_part_90 ?_
              refine j_w (cX g kk (sF σ 36 (upd z38_F36 b y38_6))) (congrArg (cX g kk) (show sF (sF σ 36 z38_F36) 36 (upd z38_F36 b y38_6) = sF σ 36 (upd z38_F36 b y38_6) from wrFs)) ?_
              exact j_vret C E (sF σ 36 (upd z38_F36 b y38_6)) ⟨rfl, ⟨(upd z38_F36 b y38_6), rfl⟩⟩ rfl dX10_part_91
            · refine j_aload_n C 3 rfl dX10_part_44 ?_
              refine j_iload C 0 rfl dX10_part_45 ?_
              refine j_iload C 2 rfl dX10_part_47 ?_
              refine j_if_ne C 56 (by decide) dX10_part_49 (fun c3 => ?_) (fun c3 => ?_)
              · refine j_iload_n C 6 rfl dX10_part_56 ?_
                refine j_iconst C (nI 0) (by decide) dX10_part_57 ?_
                refine j_aload C 7 rfl dX10_part_58 ?_
                refine j_iload C 0 rfl dX10_part_60 ?_
                refine rX_35 C j rfl (by omega) ((σ.2.1 35) j) rfl dX10_part_62 ?_
                refine j_mmax C tb_599 tb_600 tb_15 tb_601 (by decide) (Nat.le_of_ble_eq_true rfl) (by decide) (by decide) dX10_part_63 ?_
                refine j_top (fun v4 => ?_)
                refine j_imul C dX10_part_66 ?_
                refine j_iload C 2 rfl dX10_part_67 ?_
                refine j_idiv C (by first | decide | assumption | exact nI_ne0 (by omega) (by omega) | exact i64ne (by assumption) | exact i64ne (nI_ne0 (by omega) (by omega))) dX10_part_69 ?_
                refine tX_36 C j rfl (by omega) dX10_part_70 ?_
                refine j_iload C 1 rfl dX10_part_71 ?_
                refine j_aload_n C 3 rfl dX10_part_73 ?_
                refine j_iload C 0 rfl dX10_part_74 ?_
                refine rX_36 C j rfl (by omega) ((upd z38_F36 j ((v * v4) / y6_5)) j) rfl dX10_part_76 ?_
                refine j_top (fun v5 => ?_)
                refine j_isub C dX10_part_77 ?_
                refine j_istore C [(6, .int (y38_6 - v5)), (7, .int (nI j)), (5, .int y6_5), (0, .ref (g 36)), (1, .int (nI a)), (2, .int (nI b)), (3, .int v), (4, .ref (g 35))] (by decide) rfl dX10_part_78 ?_
                refine j_iinc C (nI (j + 1)) [(7, .int (nI (j + 1))), (6, .int (y38_6 - v5)), (5, .int y6_5), (0, .ref (g 36)), (1, .int (nI a)), (2, .int (nI b)), (3, .int v), (4, .ref (g 35))] 1 rfl (by rw [show Int32.ofInt 1 = nI 1 from by decide, nI_add]) (by decide) rfl dX10_part_80 ?_
                refine j_goto C 38 (by decide) dX10_part_83 ?_
                refine j_w (cX g kk (sF σ 36 (upd z38_F36 j ((v * v4) / y6_5)))) (congrArg (cX g kk) (show sF (sF σ 36 z38_F36) 36 (upd z38_F36 j ((v * v4) / y6_5)) = sF σ 36 (upd z38_F36 j ((v * v4) / y6_5)) from wrFs)) ?_
                exact ih38 (j + 1) (y38_6 - v5) (upd z38_F36 j ((v * v4) / y6_5)) (by omega) (by omega)
              · refine j_iconst C (nI 0) (by decide) dX10_part_52 ?_
                refine j_goto C 70 (by decide) dX10_part_53 ?_
                refine tX_36 C j rfl (by omega) dX10_part_70 ?_
                refine j_iload C 1 rfl dX10_part_71 ?_
                refine j_aload_n C 3 rfl dX10_part_73 ?_
                refine j_iload C 0 rfl dX10_part_74 ?_
                refine rX_36 C j rfl (by omega) ((upd z38_F36 j (nI 0)) j) rfl dX10_part_76 ?_
                refine j_isub C dX10_part_77 ?_
                refine j_top (fun v6 => ?_)
                refine j_istore C [(6, .int v6), (7, .int (nI j)), (5, .int y6_5), (0, .ref (g 36)), (1, .int (nI a)), (2, .int (nI b)), (3, .int v), (4, .ref (g 35))] (by decide) rfl dX10_part_78 ?_
                refine j_iinc C (nI (j + 1)) [(7, .int (nI (j + 1))), (6, .int v6), (5, .int y6_5), (0, .ref (g 36)), (1, .int (nI a)), (2, .int (nI b)), (3, .int v), (4, .ref (g 35))] 1 rfl (by rw [show Int32.ofInt 1 = nI 1 from by decide, nI_add]) (by decide) rfl dX10_part_80 ?_
                refine j_goto C 38 (by decide) dX10_part_83 ?_
                refine j_w (cX g kk (sF σ 36 (upd z38_F36 j (nI 0)))) (congrArg (cX g kk) (show sF (sF σ 36 z38_F36) 36 (upd z38_F36 j (nI 0)) = sF σ 36 (upd z38_F36 j (nI 0)) from wrFs)) ?_
                exact ih38 (j + 1) v6 (upd z38_F36 j (nI 0)) (by omega) (by omega)
        refine j_w (cX g kk (sF σ 36 (σ.2.1 36))) (congrArg (cX g kk) (wrFi (S := σ) (c := 36) (v := σ.2.1 36) rfl)) ?_
        exact L38 _ a v (σ.2.1 36) (by omega) (Nat.lt_succ_self _)
      · refine j_iload C 1 rfl dX10_part_12 ?_
        refine j_iconst C (nI 0) (by decide) dX10_part_14 ?_
        refine j_aload C 6 rfl dX10_part_15 ?_
        refine j_iload C 0 rfl dX10_part_17 ?_
        refine rX_35 C i rfl (by omega) ((σ.2.1 35) i) rfl dX10_part_19 ?_
        refine j_mmax C tb_599 tb_600 tb_15 tb_601 (by decide) (Nat.le_of_ble_eq_true rfl) (by decide) (by decide) dX10_part_20 ?_
        refine j_top (fun v7 => ?_)
        refine j_iadd C dX10_part_23 ?_
        refine j_istore C [(5, .int (y6_5 + v7)), (6, .int (nI i)), (0, .ref (g 36)), (1, .int (nI a)), (2, .int (nI b)), (3, .int v), (4, .ref (g 35))] (by decide) rfl dX10_part_24 ?_
        refine j_iinc C (nI (i + 1)) [(6, .int (nI (i + 1))), (5, .int (y6_5 + v7)), (0, .ref (g 36)), (1, .int (nI a)), (2, .int (nI b)), (3, .int v), (4, .ref (g 35))] 1 rfl (by rw [show Int32.ofInt 1 = nI 1 from by decide, nI_add]) (by decide) rfl dX10_part_26 ?_
        refine j_goto C 6 (by decide) dX10_part_29 ?_
        exact ih6 (i + 1) (y6_5 + v7) (by omega) (by omega)
  exact L6 _ a (nI 0) (by omega) (Nat.lt_succ_self _)
set_option maxRecDepth 100000 in
set_option maxHeartbeats 4000000 in
theorem d_part_37_35 (g kk : Nat → Nat) (σ : St) (k : Nat) (hk : σ.1 16 = nI k) (hk6 : k ≤ 6) (hI : iX σ)  (a : Nat) (ha0 : a < 7) (b : Nat) (hb0 : b < 7) (v : Int32) : jM (S := St) yX10_part cX10_part 8 none { frames := 1, cells := 0, slots := 0, locals := 21 } kk (cX g kk σ) [.ref (g 37), .int (nI a), .int (nI b), .int v, .ref (g 35)] (cX g kk) (rV (fun u : St => ∃ (pF37 : Nat → Int32), u = sF σ 37 pF37)) := by
  refine j_entry [(0, .ref (g 37)), (1, .int (nI a)), (2, .int (nI b)), (3, .int v), (4, .ref (g 35))] (by decide) (Nat.le_of_ble_eq_true rfl) rfl ?_
  intro X C E HI
  refine j_iconst C (nI 0) (by decide) dX10_part_0 ?_
  refine j_istore C [(5, .int (nI 0)), (0, .ref (g 37)), (1, .int (nI a)), (2, .int (nI b)), (3, .int v), (4, .ref (g 35))] (by decide) rfl dX10_part_1 ?_
  refine j_iload_n C 2 rfl dX10_part_3 ?_
  refine j_istore C [(6, .int (nI a)), (5, .int (nI 0)), (0, .ref (g 37)), (1, .int (nI a)), (2, .int (nI b)), (3, .int v), (4, .ref (g 35))] (by decide) rfl dX10_part_4 ?_
  have L6 : ∀ (n6 : Nat) (i : Nat) (y6_5 : Int32) (i6_0 : i ≤ 7) (hm6 : 7 - i < n6), J X 0 0 (cX g kk σ) [(6, .int (nI i)), (5, .int y6_5), (0, .ref (g 37)), (1, .int (nI a)), (2, .int (nI b)), (3, .int v), (4, .ref (g 35))] 6 [] := by
    intro n6
    induction n6 with
    | zero => intro i y6_5 i6_0 hm; exact absurd hm (Nat.not_lt_zero _)
    | succ n6 ih6 =>
      intro i y6_5 i6_0 hm6
      refine j_iload C 0 rfl dX10_part_6 ?_
      refine j_iload_n C 4 rfl dX10_part_8 ?_
      refine j_icmp_gtN C 32 (by decide) (by omega) (by omega) dX10_part_9 (fun c1 => ?_) (fun c1 => ?_)
      · refine j_iload_n C 5 rfl dX10_part_32 ?_
        refine j_istore C [(6, .int v), (5, .int y6_5), (0, .ref (g 37)), (1, .int (nI a)), (2, .int (nI b)), (3, .int v), (4, .ref (g 35))] (by decide) rfl dX10_part_33 ?_
        refine j_iload_n C 3 rfl dX10_part_35 ?_
        refine j_istore C [(7, .int (nI a)), (6, .int v), (5, .int y6_5), (0, .ref (g 37)), (1, .int (nI a)), (2, .int (nI b)), (3, .int v), (4, .ref (g 35))] (by decide) rfl dX10_part_36 ?_
        have L38 : ∀ (n38 : Nat) (j : Nat) (y38_6 : Int32) (z38_F37 : Nat → Int32) (i38_0 : j ≤ 7) (hm38 : 7 - j < n38), J X 0 0 (cX g kk (sF σ 37 z38_F37)) [(7, .int (nI j)), (6, .int y38_6), (5, .int y6_5), (0, .ref (g 37)), (1, .int (nI a)), (2, .int (nI b)), (3, .int v), (4, .ref (g 35))] 38 [] := by
          intro n38
          induction n38 with
          | zero => intro j y38_6 z38_F37 i38_0 hm; exact absurd hm (Nat.not_lt_zero _)
          | succ n38 ih38 =>
            intro j y38_6 z38_F37 i38_0 hm38
            refine j_iload C 0 rfl dX10_part_38 ?_
            refine j_iload_n C 5 rfl dX10_part_40 ?_
            refine j_icmp_geN C 86 (by decide) (by omega) (by omega) dX10_part_41 (fun c2 => ?_) (fun c2 => ?_)
            · refine j_aload_n C 3 rfl dX10_part_86 ?_
              refine j_iload_n C 5 rfl dX10_part_87 ?_
              refine j_iload C 1 rfl dX10_part_88 ?_
              refine tX_37 C b rfl (by omega) dX10_part_90 ?_
              refine j_w (cX g kk (sF σ 37 (upd z38_F37 b y38_6))) (congrArg (cX g kk) (show sF (sF σ 37 z38_F37) 37 (upd z38_F37 b y38_6) = sF σ 37 (upd z38_F37 b y38_6) from wrFs)) ?_
              exact j_vret C E (sF σ 37 (upd z38_F37 b y38_6)) ⟨rfl, ⟨(upd z38_F37 b y38_6), rfl⟩⟩ rfl dX10_part_91
            · refine j_aload_n C 3 rfl dX10_part_44 ?_
              refine j_iload C 0 rfl dX10_part_45 ?_
              refine j_iload C 2 rfl dX10_part_47 ?_
              refine j_if_ne C 56 (by decide) dX10_part_49 (fun c3 => ?_) (fun c3 => ?_)
              · refine j_iload_n C 6 rfl dX10_part_56 ?_
                refine j_iconst C (nI 0) (by decide) dX10_part_57 ?_
                refine j_aload C 7 rfl dX10_part_58 ?_
                refine j_iload C 0 rfl dX10_part_60 ?_
                refine rX_35 C j rfl (by omega) ((σ.2.1 35) j) rfl dX10_part_62 ?_
                refine j_mmax C tb_599 tb_600 tb_15 tb_601 (by decide) (Nat.le_of_ble_eq_true rfl) (by decide) (by decide) dX10_part_63 ?_
                refine j_top (fun v4 => ?_)
                refine j_imul C dX10_part_66 ?_
                refine j_iload C 2 rfl dX10_part_67 ?_
                refine j_idiv C (by first | decide | assumption | exact nI_ne0 (by omega) (by omega) | exact i64ne (by assumption) | exact i64ne (nI_ne0 (by omega) (by omega))) dX10_part_69 ?_
                refine tX_37 C j rfl (by omega) dX10_part_70 ?_
                refine j_iload C 1 rfl dX10_part_71 ?_
                refine j_aload_n C 3 rfl dX10_part_73 ?_
                refine j_iload C 0 rfl dX10_part_74 ?_
                refine rX_37 C j rfl (by omega) ((upd z38_F37 j ((v * v4) / y6_5)) j) rfl dX10_part_76 ?_
                refine j_top (fun v5 => ?_)
                refine j_isub C dX10_part_77 ?_
                refine j_istore C [(6, .int (y38_6 - v5)), (7, .int (nI j)), (5, .int y6_5), (0, .ref (g 37)), (1, .int (nI a)), (2, .int (nI b)), (3, .int v), (4, .ref (g 35))] (by decide) rfl dX10_part_78 ?_
                refine j_iinc C (nI (j + 1)) [(7, .int (nI (j + 1))), (6, .int (y38_6 - v5)), (5, .int y6_5), (0, .ref (g 37)), (1, .int (nI a)), (2, .int (nI b)), (3, .int v), (4, .ref (g 35))] 1 rfl (by rw [show Int32.ofInt 1 = nI 1 from by decide, nI_add]) (by decide) rfl dX10_part_80 ?_
                refine j_goto C 38 (by decide) dX10_part_83 ?_
                refine j_w (cX g kk (sF σ 37 (upd z38_F37 j ((v * v4) / y6_5)))) (congrArg (cX g kk) (show sF (sF σ 37 z38_F37) 37 (upd z38_F37 j ((v * v4) / y6_5)) = sF σ 37 (upd z38_F37 j ((v * v4) / y6_5)) from wrFs)) ?_
                exact ih38 (j + 1) (y38_6 - v5) (upd z38_F37 j ((v * v4) / y6_5)) (by omega) (by omega)
              · refine j_iconst C (nI 0) (by decide) dX10_part_52 ?_
                refine j_goto C 70 (by decide) dX10_part_53 ?_
                refine tX_37 C j rfl (by omega) dX10_part_70 ?_
                refine j_iload C 1 rfl dX10_part_71 ?_
                refine j_aload_n C 3 rfl dX10_part_73 ?_
                refine j_iload C 0 rfl dX10_part_74 ?_
                refine rX_37 C j rfl (by omega) ((upd z38_F37 j (nI 0)) j) rfl dX10_part_76 ?_
                refine j_isub C dX10_part_77 ?_
                refine j_top (fun v6 => ?_)
                refine j_istore C [(6, .int v6), (7, .int (nI j)), (5, .int y6_5), (0, .ref (g 37)), (1, .int (nI a)), (2, .int (nI b)), (3, .int v), (4, .ref (g 35))] (by decide) rfl dX10_part_78 ?_
                refine j_iinc C (nI (j + 1)) [(7, .int (nI (j + 1))), (6, .int v6), (5, .int y6_5), (0, .ref (g 37)), (1, .int (nI a)), (2, .int (nI b)), (3, .int v), (4, .ref (g 35))] 1 rfl (by rw [show Int32.ofInt 1 = nI 1 from by decide, nI_add]) (by decide) rfl dX10_part_80 ?_
                refine j_goto C 38 (by decide) dX10_part_83 ?_
                refine j_w (cX g kk (sF σ 37 (upd z38_F37 j (nI 0)))) (congrArg (cX g kk) (show sF (sF σ 37 z38_F37) 37 (upd z38_F37 j (nI 0)) = sF σ 37 (upd z38_F37 j (nI 0)) from wrFs)) ?_
                exact ih38 (j + 1) v6 (upd z38_F37 j (nI 0)) (by omega) (by omega)
        refine j_w (cX g kk (sF σ 37 (σ.2.1 37))) (congrArg (cX g kk) (wrFi (S := σ) (c := 37) (v := σ.2.1 37) rfl)) ?_
        exact L38 _ a v (σ.2.1 37) (by omega) (Nat.lt_succ_self _)
      · refine j_iload C 1 rfl dX10_part_12 ?_
        refine j_iconst C (nI 0) (by decide) dX10_part_14 ?_
        refine j_aload C 6 rfl dX10_part_15 ?_
        refine j_iload C 0 rfl dX10_part_17 ?_
        refine rX_35 C i rfl (by omega) ((σ.2.1 35) i) rfl dX10_part_19 ?_
        refine j_mmax C tb_599 tb_600 tb_15 tb_601 (by decide) (Nat.le_of_ble_eq_true rfl) (by decide) (by decide) dX10_part_20 ?_
        refine j_top (fun v7 => ?_)
        refine j_iadd C dX10_part_23 ?_
        refine j_istore C [(5, .int (y6_5 + v7)), (6, .int (nI i)), (0, .ref (g 37)), (1, .int (nI a)), (2, .int (nI b)), (3, .int v), (4, .ref (g 35))] (by decide) rfl dX10_part_24 ?_
        refine j_iinc C (nI (i + 1)) [(6, .int (nI (i + 1))), (5, .int (y6_5 + v7)), (0, .ref (g 37)), (1, .int (nI a)), (2, .int (nI b)), (3, .int v), (4, .ref (g 35))] 1 rfl (by rw [show Int32.ofInt 1 = nI 1 from by decide, nI_add]) (by decide) rfl dX10_part_26 ?_
        refine j_goto C 6 (by decide) dX10_part_29 ?_
        exact ih6 (i + 1) (y6_5 + v7) (by omega) (by omega)
  exact L6 _ a (nI 0) (by omega) (Nat.lt_succ_self _)
set_option maxRecDepth 100000 in
set_option maxHeartbeats 4000000 in
theorem d_mend_34_36 (g kk : Nat → Nat) (σ : St) (k : Nat) (hk : σ.1 16 = nI k) (hk6 : k ≤ 6) (hI : iX σ)  (c : Nat) (hc0 : (mdP c ∧ c < 257)) : jM (S := St) yX9_mend cX9_mend 7 (some .boolean) { frames := 2, cells := 0, slots := 0, locals := 60 } kk (cX g kk σ) [.ref (g 32), .ref (g 34), .int (nI c), .ref (g 36)] (cX g kk) (rI (fun (r : Int32) (u : St) => ∃ (pF36 : Nat → Int32), u = sF σ 36 pF36)) := by
  refine j_entry [(0, .ref (g 32)), (1, .ref (g 34)), (2, .int (nI c)), (3, .ref (g 36))] (by decide) (Nat.le_of_ble_eq_true rfl) rfl ?_
  intro X C E HI
  obtain ⟨hmd, hc257⟩ := hc0
  unfold mdP at hmd
  refine j_iload_n C 2 rfl dX9_mend_0 ?_
  refine j_bipush C (nI 10) (by decide) dX9_mend_1 ?_
  refine j_idivN C (by omega) (by omega) (by omega) dX9_mend_3 ?_
  refine j_bipush C (nI 10) (by decide) dX9_mend_4 ?_
  refine j_iremN C (by omega) (by omega) (by omega) dX9_mend_6 ?_
  refine j_istore C [(4, .int (nI ((c / 10) % 10))), (0, .ref (g 32)), (1, .ref (g 34)), (2, .int (nI c)), (3, .ref (g 36))] (by decide) rfl dX9_mend_7 ?_
  refine j_iload_n C 3 rfl dX9_mend_9 ?_
  refine j_bipush C (nI 10) (by decide) dX9_mend_10 ?_
  refine j_iremN C (by omega) (by omega) (by omega) dX9_mend_12 ?_
  refine j_istore C [(5, .int (nI (c % 10))), (4, .int (nI ((c / 10) % 10))), (0, .ref (g 32)), (1, .ref (g 34)), (2, .int (nI c)), (3, .ref (g 36))] (by decide) rfl dX9_mend_13 ?_
  refine j_aload_n C 3 rfl dX9_mend_15 ?_
  refine j_iconst C (nI 0) (by decide) dX9_mend_16 ?_
  refine j_aload_n C 5 rfl dX9_mend_17 ?_
  refine j_iconst C (nI 0) (by decide) dX9_mend_18 ?_
  refine j_bipush C (nI 7) (by decide) dX9_mend_19 ?_
  refine j_copy C tb_636 tb_96 tb_95 tb_6 34 36 rfl rfl 0 0 7 rfl rfl rfl (by omega) (by omega) (by decide) (by decide) (by decide) (Nat.le_of_ble_eq_true rfl) (w' := (cX g kk (sF σ 36 (va_cpy (σ.2.1 34) (σ.2.1 36) 0 0 7)))) rfl dX9_mend_21 ?_
  refine j_iload_n C 4 rfl dX9_mend_24 ?_
  refine j_bipush C (nI 100) (by decide) dX9_mend_25 ?_
  refine j_idivN C (by omega) (by omega) (by omega) dX9_mend_27 ?_
  rcases hmd with hmd | hmd | hmd
  · rw [hmd.1]
    refine j_look (off := 28) C 56 (by decide) (by decide) (by decide) dX9_mend_28 ?_
    refine j_aload_n C 5 rfl dX9_mend_56 ?_
    refine j_iload C 1 rfl dX9_mend_57 ?_
    refine j_aload_n C 3 rfl dX9_mend_59 ?_
    refine j_iload C 1 rfl dX9_mend_60 ?_
    refine j_iconst C (nI 1) (by decide) dX9_mend_62 ?_
    refine j_iaddN C dX9_mend_63 ?_
    refine rX_34 C (((c / 10) % 10) + 1) rfl (by omega) ((σ.2.1 34) (((c / 10) % 10) + 1)) rfl dX9_mend_64 ?_
    refine j_top (fun v1 => ?_)
    refine tX_36 C ((c / 10) % 10) rfl (by omega) dX9_mend_65 ?_
    refine j_aload_n C 5 rfl dX9_mend_66 ?_
    refine j_iload C 1 rfl dX9_mend_67 ?_
    refine j_iconst C (nI 1) (by decide) dX9_mend_69 ?_
    refine j_iaddN C dX9_mend_70 ?_
    refine j_aload_n C 3 rfl dX9_mend_71 ?_
    refine j_iload C 1 rfl dX9_mend_72 ?_
    refine rX_34 C ((c / 10) % 10) rfl (by omega) ((σ.2.1 34) ((c / 10) % 10)) rfl dX9_mend_74 ?_
    refine tX_36 C (((c / 10) % 10) + 1) rfl (by omega) dX9_mend_75 ?_
    refine j_iconst C (nI 1) (by decide) dX9_mend_76 ?_
    refine j_w (cX g kk (sF σ 36 (upd (upd (va_cpy (σ.2.1 34) (σ.2.1 36) 0 0 7) ((c / 10) % 10) v1) (((c / 10) % 10) + 1) ((σ.2.1 34) ((c / 10) % 10))))) (congrArg (cX g kk) (show sF (sF (sF σ 36 (va_cpy (σ.2.1 34) (σ.2.1 36) 0 0 7)) 36 (upd (va_cpy (σ.2.1 34) (σ.2.1 36) 0 0 7) ((c / 10) % 10) v1)) 36 (upd (upd (va_cpy (σ.2.1 34) (σ.2.1 36) 0 0 7) ((c / 10) % 10) v1) (((c / 10) % 10) + 1) ((σ.2.1 34) ((c / 10) % 10))) = sF σ 36 (upd (upd (va_cpy (σ.2.1 34) (σ.2.1 36) 0 0 7) ((c / 10) % 10) v1) (((c / 10) % 10) + 1) ((σ.2.1 34) ((c / 10) % 10))) from (Eq.trans (wrF wrFs) wrFs))) ?_
    exact j_zret C E (by first | rfl | decide) (sF σ 36 (upd (upd (va_cpy (σ.2.1 34) (σ.2.1 36) 0 0 7) ((c / 10) % 10) v1) (((c / 10) % 10) + 1) ((σ.2.1 34) ((c / 10) % 10)))) ⟨_, rfl, ⟨(upd (upd (va_cpy (σ.2.1 34) (σ.2.1 36) 0 0 7) ((c / 10) % 10) v1) (((c / 10) % 10) + 1) ((σ.2.1 34) ((c / 10) % 10))), rfl⟩⟩ rfl dX9_mend_77
  · rw [hmd.1]
    refine j_look (off := 50) C 78 (by decide) (by decide) (by decide) dX9_mend_28 ?_
    refine j_aload_n C 3 rfl dX9_mend_78 ?_
    refine j_iload C 1 rfl dX9_mend_79 ?_
    refine j_aload_n C 5 rfl dX9_mend_81 ?_
    refine j_iload C 1 rfl dX9_mend_82 ?_
    refine j_iconst C (nI 1) (by decide) dX9_mend_84 ?_
    refine j_isubN C (by omega) dX9_mend_85 ?_
    refine j_iload C 0 rfl dX9_mend_86 ?_
    refine j_iload C 1 rfl dX9_mend_88 ?_
    refine j_isubN C (by omega) dX9_mend_90 ?_
    refine j_iconst C (nI 1) (by decide) dX9_mend_91 ?_
    refine j_iaddN C dX9_mend_92 ?_
    refine j_copy C tb_636 tb_96 tb_95 tb_6 34 36 rfl rfl ((c / 10) % 10) (((c / 10) % 10) - 1) (((c % 10) - ((c / 10) % 10)) + 1) rfl rfl rfl (by omega) (by omega) (by decide) (by decide) (by decide) (Nat.le_of_ble_eq_true rfl) (w' := (cX g kk (sF (sF σ 36 (va_cpy (σ.2.1 34) (σ.2.1 36) 0 0 7)) 36 (va_cpy (σ.2.1 34) (va_cpy (σ.2.1 34) (σ.2.1 36) 0 0 7) ((c / 10) % 10) (((c / 10) % 10) - 1) (((c % 10) - ((c / 10) % 10)) + 1))))) rfl dX9_mend_93 ?_
    refine j_aload_n C 5 rfl dX9_mend_96 ?_
    refine j_iload C 0 rfl dX9_mend_97 ?_
    refine j_iconst C (nI 0) (by decide) dX9_mend_99 ?_
    refine tX_36 C (c % 10) rfl (by omega) dX9_mend_100 ?_
    refine j_iconst C (nI 1) (by decide) dX9_mend_101 ?_
    refine j_w (cX g kk (sF σ 36 (upd (va_cpy (σ.2.1 34) (va_cpy (σ.2.1 34) (σ.2.1 36) 0 0 7) ((c / 10) % 10) (((c / 10) % 10) - 1) (((c % 10) - ((c / 10) % 10)) + 1)) (c % 10) (nI 0)))) (congrArg (cX g kk) (show sF (sF (sF σ 36 (va_cpy (σ.2.1 34) (σ.2.1 36) 0 0 7)) 36 (va_cpy (σ.2.1 34) (va_cpy (σ.2.1 34) (σ.2.1 36) 0 0 7) ((c / 10) % 10) (((c / 10) % 10) - 1) (((c % 10) - ((c / 10) % 10)) + 1))) 36 (upd (va_cpy (σ.2.1 34) (va_cpy (σ.2.1 34) (σ.2.1 36) 0 0 7) ((c / 10) % 10) (((c / 10) % 10) - 1) (((c % 10) - ((c / 10) % 10)) + 1)) (c % 10) (nI 0)) = sF σ 36 (upd (va_cpy (σ.2.1 34) (va_cpy (σ.2.1 34) (σ.2.1 36) 0 0 7) ((c / 10) % 10) (((c / 10) % 10) - 1) (((c % 10) - ((c / 10) % 10)) + 1)) (c % 10) (nI 0)) from (Eq.trans (wrF wrFs) wrFs))) ?_
    exact j_zret C E (by first | rfl | decide) (sF σ 36 (upd (va_cpy (σ.2.1 34) (va_cpy (σ.2.1 34) (σ.2.1 36) 0 0 7) ((c / 10) % 10) (((c / 10) % 10) - 1) (((c % 10) - ((c / 10) % 10)) + 1)) (c % 10) (nI 0))) ⟨_, rfl, ⟨(upd (va_cpy (σ.2.1 34) (va_cpy (σ.2.1 34) (σ.2.1 36) 0 0 7) ((c / 10) % 10) (((c / 10) % 10) - 1) (((c % 10) - ((c / 10) % 10)) + 1)) (c % 10) (nI 0)), rfl⟩⟩ rfl dX9_mend_102
  · rw [hmd.1]
    refine j_look (off := 75) C 103 (by decide) (by decide) (by decide) dX9_mend_28 ?_
    refine j_iload C 1 rfl dX9_mend_103 ?_
    refine j_istore C [(6, .int (nI ((c / 10) % 10))), (5, .int (nI (c % 10))), (4, .int (nI ((c / 10) % 10))), (0, .ref (g 32)), (1, .ref (g 34)), (2, .int (nI c)), (3, .ref (g 36))] (by decide) rfl dX9_mend_105 ?_
    have L107 : ∀ (n107 : Nat) (i : Nat) (i107_0 : i ≤ 7) (hm107 : 7 - i < n107), J X 0 0 (cX g kk (sF σ 36 (va_cpy (σ.2.1 34) (σ.2.1 36) 0 0 7))) [(6, .int (nI i)), (5, .int (nI (c % 10))), (4, .int (nI ((c / 10) % 10))), (0, .ref (g 32)), (1, .ref (g 34)), (2, .int (nI c)), (3, .ref (g 36))] 107 [] := by
      intro n107
      induction n107 with
      | zero => intro i i107_0 hm; exact absurd hm (Nat.not_lt_zero _)
      | succ n107 ih107 =>
        intro i i107_0 hm107
        refine j_iload C 0 rfl dX9_mend_107 ?_
        refine j_iload C 1 rfl dX9_mend_109 ?_
        refine j_icmp_geN C 129 (by decide) (by omega) (by omega) dX9_mend_111 (fun c2 => ?_) (fun c2 => ?_)
        · refine j_aload_n C 6 rfl dX9_mend_129 ?_
          refine j_iload C 2 rfl dX9_mend_130 ?_
          refine j_iload C 1 rfl dX9_mend_132 ?_
          refine j_aload_n C 4 rfl dX9_mend_134 ?_
          refine j_iload C 1 rfl dX9_mend_135 ?_
          refine rX_34 C (c % 10) rfl (by omega) ((σ.2.1 34) (c % 10)) rfl dX9_mend_137 ?_
          refine j_aload_n C 3 rfl dX9_mend_138 ?_
          refine gX_32_3 C tb_240 dX9_mend_139 ?_
          refine j_SN1 C (d_part_36_35 g kk (sF σ 36 (va_cpy (σ.2.1 34) (σ.2.1 36) 0 0 7)) k hk hk6 hI  ((c / 10) % 10) (by first | assumption | omega) (c % 10) (by first | assumption | omega) ((σ.2.1 34) (c % 10))) kyX10_part (fun _ h => h.2.2.2.2.1) tb_597 rfl (Nat.le_of_ble_eq_true rfl) ⟨by decide, by decide⟩ dX9_mend_142 rfl (fun vr ur hp => ?_)
          obtain ⟨rfl, w3, hu⟩ := hp
          replace hu := hu.symm
          subst hu
          refine j_iconst C (nI 1) (by decide) dX9_mend_145 ?_
          refine j_w (cX g kk (sF σ 36 w3)) (congrArg (cX g kk) (show sF (sF σ 36 (va_cpy (σ.2.1 34) (σ.2.1 36) 0 0 7)) 36 w3 = sF σ 36 w3 from wrFs)) ?_
          exact j_zret C E (by first | rfl | decide) (sF σ 36 w3) ⟨_, rfl, ⟨w3, rfl⟩⟩ rfl dX9_mend_146
        · refine j_aload_n C 4 rfl dX9_mend_114 ?_
          refine j_iload C 0 rfl dX9_mend_115 ?_
          refine rX_34 C i rfl (by omega) ((σ.2.1 34) i) rfl dX9_mend_117 ?_
          refine j_if_eq C 123 (by decide) dX9_mend_118 (fun c4 => ?_) (fun c4 => ?_)
          · refine j_iinc C (nI (i + 1)) [(6, .int (nI (i + 1))), (5, .int (nI (c % 10))), (4, .int (nI ((c / 10) % 10))), (0, .ref (g 32)), (1, .ref (g 34)), (2, .int (nI c)), (3, .ref (g 36))] 0 rfl (by rw [show Int32.ofInt 1 = nI 1 from by decide, nI_add]) (by decide) rfl dX9_mend_123 ?_
            refine j_goto C 107 (by decide) dX9_mend_126 ?_
            exact ih107 (i + 1) (by omega) (by omega)
          · refine j_iconst C (nI 0) (by decide) dX9_mend_121 ?_
            exact j_zret C E (by first | rfl | decide) (sF σ 36 (va_cpy (σ.2.1 34) (σ.2.1 36) 0 0 7)) ⟨_, rfl, ⟨(va_cpy (σ.2.1 34) (σ.2.1 36) 0 0 7), rfl⟩⟩ rfl dX9_mend_122
    exact L107 _ ((c / 10) % 10) (by omega) (Nat.lt_succ_self _)
set_option maxRecDepth 100000 in
set_option maxHeartbeats 4000000 in
theorem d_mend_36_37 (g kk : Nat → Nat) (σ : St) (k : Nat) (hk : σ.1 16 = nI k) (hk6 : k ≤ 6) (hI : iX σ)  (c : Nat) (hc0 : (mdP c ∧ c < 257)) : jM (S := St) yX9_mend cX9_mend 7 (some .boolean) { frames := 2, cells := 0, slots := 0, locals := 60 } kk (cX g kk σ) [.ref (g 32), .ref (g 36), .int (nI c), .ref (g 37)] (cX g kk) (rI (fun (r : Int32) (u : St) => ∃ (pF37 : Nat → Int32), u = sF σ 37 pF37)) := by
  refine j_entry [(0, .ref (g 32)), (1, .ref (g 36)), (2, .int (nI c)), (3, .ref (g 37))] (by decide) (Nat.le_of_ble_eq_true rfl) rfl ?_
  intro X C E HI
  obtain ⟨hmd, hc257⟩ := hc0
  unfold mdP at hmd
  refine j_iload_n C 2 rfl dX9_mend_0 ?_
  refine j_bipush C (nI 10) (by decide) dX9_mend_1 ?_
  refine j_idivN C (by omega) (by omega) (by omega) dX9_mend_3 ?_
  refine j_bipush C (nI 10) (by decide) dX9_mend_4 ?_
  refine j_iremN C (by omega) (by omega) (by omega) dX9_mend_6 ?_
  refine j_istore C [(4, .int (nI ((c / 10) % 10))), (0, .ref (g 32)), (1, .ref (g 36)), (2, .int (nI c)), (3, .ref (g 37))] (by decide) rfl dX9_mend_7 ?_
  refine j_iload_n C 3 rfl dX9_mend_9 ?_
  refine j_bipush C (nI 10) (by decide) dX9_mend_10 ?_
  refine j_iremN C (by omega) (by omega) (by omega) dX9_mend_12 ?_
  refine j_istore C [(5, .int (nI (c % 10))), (4, .int (nI ((c / 10) % 10))), (0, .ref (g 32)), (1, .ref (g 36)), (2, .int (nI c)), (3, .ref (g 37))] (by decide) rfl dX9_mend_13 ?_
  refine j_aload_n C 3 rfl dX9_mend_15 ?_
  refine j_iconst C (nI 0) (by decide) dX9_mend_16 ?_
  refine j_aload_n C 5 rfl dX9_mend_17 ?_
  refine j_iconst C (nI 0) (by decide) dX9_mend_18 ?_
  refine j_bipush C (nI 7) (by decide) dX9_mend_19 ?_
  refine j_copy C tb_636 tb_96 tb_95 tb_6 36 37 rfl rfl 0 0 7 rfl rfl rfl (by omega) (by omega) (by decide) (by decide) (by decide) (Nat.le_of_ble_eq_true rfl) (w' := (cX g kk (sF σ 37 (va_cpy (σ.2.1 36) (σ.2.1 37) 0 0 7)))) rfl dX9_mend_21 ?_
  refine j_iload_n C 4 rfl dX9_mend_24 ?_
  refine j_bipush C (nI 100) (by decide) dX9_mend_25 ?_
  refine j_idivN C (by omega) (by omega) (by omega) dX9_mend_27 ?_
  rcases hmd with hmd | hmd | hmd
  · rw [hmd.1]
    refine j_look (off := 28) C 56 (by decide) (by decide) (by decide) dX9_mend_28 ?_
    refine j_aload_n C 5 rfl dX9_mend_56 ?_
    refine j_iload C 1 rfl dX9_mend_57 ?_
    refine j_aload_n C 3 rfl dX9_mend_59 ?_
    refine j_iload C 1 rfl dX9_mend_60 ?_
    refine j_iconst C (nI 1) (by decide) dX9_mend_62 ?_
    refine j_iaddN C dX9_mend_63 ?_
    refine rX_36 C (((c / 10) % 10) + 1) rfl (by omega) ((σ.2.1 36) (((c / 10) % 10) + 1)) rfl dX9_mend_64 ?_
    refine j_top (fun v1 => ?_)
    refine tX_37 C ((c / 10) % 10) rfl (by omega) dX9_mend_65 ?_
    refine j_aload_n C 5 rfl dX9_mend_66 ?_
    refine j_iload C 1 rfl dX9_mend_67 ?_
    refine j_iconst C (nI 1) (by decide) dX9_mend_69 ?_
    refine j_iaddN C dX9_mend_70 ?_
    refine j_aload_n C 3 rfl dX9_mend_71 ?_
    refine j_iload C 1 rfl dX9_mend_72 ?_
    refine rX_36 C ((c / 10) % 10) rfl (by omega) ((σ.2.1 36) ((c / 10) % 10)) rfl dX9_mend_74 ?_
    refine tX_37 C (((c / 10) % 10) + 1) rfl (by omega) dX9_mend_75 ?_
    refine j_iconst C (nI 1) (by decide) dX9_mend_76 ?_
    refine j_w (cX g kk (sF σ 37 (upd (upd (va_cpy (σ.2.1 36) (σ.2.1 37) 0 0 7) ((c / 10) % 10) v1) (((c / 10) % 10) + 1) ((σ.2.1 36) ((c / 10) % 10))))) (congrArg (cX g kk) (show sF (sF (sF σ 37 (va_cpy (σ.2.1 36) (σ.2.1 37) 0 0 7)) 37 (upd (va_cpy (σ.2.1 36) (σ.2.1 37) 0 0 7) ((c / 10) % 10) v1)) 37 (upd (upd (va_cpy (σ.2.1 36) (σ.2.1 37) 0 0 7) ((c / 10) % 10) v1) (((c / 10) % 10) + 1) ((σ.2.1 36) ((c / 10) % 10))) = sF σ 37 (upd (upd (va_cpy (σ.2.1 36) (σ.2.1 37) 0 0 7) ((c / 10) % 10) v1) (((c / 10) % 10) + 1) ((σ.2.1 36) ((c / 10) % 10))) from (Eq.trans (wrF wrFs) wrFs))) ?_
    exact j_zret C E (by first | rfl | decide) (sF σ 37 (upd (upd (va_cpy (σ.2.1 36) (σ.2.1 37) 0 0 7) ((c / 10) % 10) v1) (((c / 10) % 10) + 1) ((σ.2.1 36) ((c / 10) % 10)))) ⟨_, rfl, ⟨(upd (upd (va_cpy (σ.2.1 36) (σ.2.1 37) 0 0 7) ((c / 10) % 10) v1) (((c / 10) % 10) + 1) ((σ.2.1 36) ((c / 10) % 10))), rfl⟩⟩ rfl dX9_mend_77
  · rw [hmd.1]
    refine j_look (off := 50) C 78 (by decide) (by decide) (by decide) dX9_mend_28 ?_
    refine j_aload_n C 3 rfl dX9_mend_78 ?_
    refine j_iload C 1 rfl dX9_mend_79 ?_
    refine j_aload_n C 5 rfl dX9_mend_81 ?_
    refine j_iload C 1 rfl dX9_mend_82 ?_
    refine j_iconst C (nI 1) (by decide) dX9_mend_84 ?_
    refine j_isubN C (by omega) dX9_mend_85 ?_
    refine j_iload C 0 rfl dX9_mend_86 ?_
    refine j_iload C 1 rfl dX9_mend_88 ?_
    refine j_isubN C (by omega) dX9_mend_90 ?_
    refine j_iconst C (nI 1) (by decide) dX9_mend_91 ?_
    refine j_iaddN C dX9_mend_92 ?_
    refine j_copy C tb_636 tb_96 tb_95 tb_6 36 37 rfl rfl ((c / 10) % 10) (((c / 10) % 10) - 1) (((c % 10) - ((c / 10) % 10)) + 1) rfl rfl rfl (by omega) (by omega) (by decide) (by decide) (by decide) (Nat.le_of_ble_eq_true rfl) (w' := (cX g kk (sF (sF σ 37 (va_cpy (σ.2.1 36) (σ.2.1 37) 0 0 7)) 37 (va_cpy (σ.2.1 36) (va_cpy (σ.2.1 36) (σ.2.1 37) 0 0 7) ((c / 10) % 10) (((c / 10) % 10) - 1) (((c % 10) - ((c / 10) % 10)) + 1))))) rfl dX9_mend_93 ?_
    refine j_aload_n C 5 rfl dX9_mend_96 ?_
    refine j_iload C 0 rfl dX9_mend_97 ?_
    refine j_iconst C (nI 0) (by decide) dX9_mend_99 ?_
    refine tX_37 C (c % 10) rfl (by omega) dX9_mend_100 ?_
    refine j_iconst C (nI 1) (by decide) dX9_mend_101 ?_
    refine j_w (cX g kk (sF σ 37 (upd (va_cpy (σ.2.1 36) (va_cpy (σ.2.1 36) (σ.2.1 37) 0 0 7) ((c / 10) % 10) (((c / 10) % 10) - 1) (((c % 10) - ((c / 10) % 10)) + 1)) (c % 10) (nI 0)))) (congrArg (cX g kk) (show sF (sF (sF σ 37 (va_cpy (σ.2.1 36) (σ.2.1 37) 0 0 7)) 37 (va_cpy (σ.2.1 36) (va_cpy (σ.2.1 36) (σ.2.1 37) 0 0 7) ((c / 10) % 10) (((c / 10) % 10) - 1) (((c % 10) - ((c / 10) % 10)) + 1))) 37 (upd (va_cpy (σ.2.1 36) (va_cpy (σ.2.1 36) (σ.2.1 37) 0 0 7) ((c / 10) % 10) (((c / 10) % 10) - 1) (((c % 10) - ((c / 10) % 10)) + 1)) (c % 10) (nI 0)) = sF σ 37 (upd (va_cpy (σ.2.1 36) (va_cpy (σ.2.1 36) (σ.2.1 37) 0 0 7) ((c / 10) % 10) (((c / 10) % 10) - 1) (((c % 10) - ((c / 10) % 10)) + 1)) (c % 10) (nI 0)) from (Eq.trans (wrF wrFs) wrFs))) ?_
    exact j_zret C E (by first | rfl | decide) (sF σ 37 (upd (va_cpy (σ.2.1 36) (va_cpy (σ.2.1 36) (σ.2.1 37) 0 0 7) ((c / 10) % 10) (((c / 10) % 10) - 1) (((c % 10) - ((c / 10) % 10)) + 1)) (c % 10) (nI 0))) ⟨_, rfl, ⟨(upd (va_cpy (σ.2.1 36) (va_cpy (σ.2.1 36) (σ.2.1 37) 0 0 7) ((c / 10) % 10) (((c / 10) % 10) - 1) (((c % 10) - ((c / 10) % 10)) + 1)) (c % 10) (nI 0)), rfl⟩⟩ rfl dX9_mend_102
  · rw [hmd.1]
    refine j_look (off := 75) C 103 (by decide) (by decide) (by decide) dX9_mend_28 ?_
    refine j_iload C 1 rfl dX9_mend_103 ?_
    refine j_istore C [(6, .int (nI ((c / 10) % 10))), (5, .int (nI (c % 10))), (4, .int (nI ((c / 10) % 10))), (0, .ref (g 32)), (1, .ref (g 36)), (2, .int (nI c)), (3, .ref (g 37))] (by decide) rfl dX9_mend_105 ?_
    have L107 : ∀ (n107 : Nat) (i : Nat) (i107_0 : i ≤ 7) (hm107 : 7 - i < n107), J X 0 0 (cX g kk (sF σ 37 (va_cpy (σ.2.1 36) (σ.2.1 37) 0 0 7))) [(6, .int (nI i)), (5, .int (nI (c % 10))), (4, .int (nI ((c / 10) % 10))), (0, .ref (g 32)), (1, .ref (g 36)), (2, .int (nI c)), (3, .ref (g 37))] 107 [] := by
      intro n107
      induction n107 with
      | zero => intro i i107_0 hm; exact absurd hm (Nat.not_lt_zero _)
      | succ n107 ih107 =>
        intro i i107_0 hm107
        refine j_iload C 0 rfl dX9_mend_107 ?_
        refine j_iload C 1 rfl dX9_mend_109 ?_
        refine j_icmp_geN C 129 (by decide) (by omega) (by omega) dX9_mend_111 (fun c2 => ?_) (fun c2 => ?_)
        · refine j_aload_n C 6 rfl dX9_mend_129 ?_
          refine j_iload C 2 rfl dX9_mend_130 ?_
          refine j_iload C 1 rfl dX9_mend_132 ?_
          refine j_aload_n C 4 rfl dX9_mend_134 ?_
          refine j_iload C 1 rfl dX9_mend_135 ?_
          refine rX_36 C (c % 10) rfl (by omega) ((σ.2.1 36) (c % 10)) rfl dX9_mend_137 ?_
          refine j_aload_n C 3 rfl dX9_mend_138 ?_
          refine gX_32_3 C tb_240 dX9_mend_139 ?_
          refine j_SN1 C (d_part_37_35 g kk (sF σ 37 (va_cpy (σ.2.1 36) (σ.2.1 37) 0 0 7)) k hk hk6 hI  ((c / 10) % 10) (by first | assumption | omega) (c % 10) (by first | assumption | omega) ((σ.2.1 36) (c % 10))) kyX10_part (fun _ h => h.2.2.2.2.1) tb_597 rfl (Nat.le_of_ble_eq_true rfl) ⟨by decide, by decide⟩ dX9_mend_142 rfl (fun vr ur hp => ?_)
          obtain ⟨rfl, w3, hu⟩ := hp
          replace hu := hu.symm
          subst hu
          refine j_iconst C (nI 1) (by decide) dX9_mend_145 ?_
          refine j_w (cX g kk (sF σ 37 w3)) (congrArg (cX g kk) (show sF (sF σ 37 (va_cpy (σ.2.1 36) (σ.2.1 37) 0 0 7)) 37 w3 = sF σ 37 w3 from wrFs)) ?_
          exact j_zret C E (by first | rfl | decide) (sF σ 37 w3) ⟨_, rfl, ⟨w3, rfl⟩⟩ rfl dX9_mend_146
        · refine j_aload_n C 4 rfl dX9_mend_114 ?_
          refine j_iload C 0 rfl dX9_mend_115 ?_
          refine rX_36 C i rfl (by omega) ((σ.2.1 36) i) rfl dX9_mend_117 ?_
          refine j_if_eq C 123 (by decide) dX9_mend_118 (fun c4 => ?_) (fun c4 => ?_)
          · refine j_iinc C (nI (i + 1)) [(6, .int (nI (i + 1))), (5, .int (nI (c % 10))), (4, .int (nI ((c / 10) % 10))), (0, .ref (g 32)), (1, .ref (g 36)), (2, .int (nI c)), (3, .ref (g 37))] 0 rfl (by rw [show Int32.ofInt 1 = nI 1 from by decide, nI_add]) (by decide) rfl dX9_mend_123 ?_
            refine j_goto C 107 (by decide) dX9_mend_126 ?_
            exact ih107 (i + 1) (by omega) (by omega)
          · refine j_iconst C (nI 0) (by decide) dX9_mend_121 ?_
            exact j_zret C E (by first | rfl | decide) (sF σ 37 (va_cpy (σ.2.1 36) (σ.2.1 37) 0 0 7)) ⟨_, rfl, ⟨(va_cpy (σ.2.1 36) (σ.2.1 37) 0 0 7), rfl⟩⟩ rfl dX9_mend_122
    exact L107 _ ((c / 10) % 10) (by omega) (Nat.lt_succ_self _)
set_option maxRecDepth 100000 in
set_option maxHeartbeats 4000000 in
theorem d_keepBetter (g kk : Nat → Nat) (σ : St) (k : Nat) (hk : σ.1 16 = nI k) (hk6 : k ≤ 6) (hI : iX σ)  (a : Int32) (b : Int32) (c : Int32) (d : Int32) : jM (S := St) yX9_keepBetter cX9_keepBetter 5 none { frames := 0, cells := 0, slots := 0, locals := 0 } kk (cX g kk σ) [.ref (g 32), .int a, .int b, .int c, .int d] (cX g kk) (rV (fun u : St => ∃ (pI518 : Int32) (pI519 : Int32) (pI520 : Int32) (pI521 : Int32), u = sI (sI (sI (sI σ 518 pI518) 519 pI519) 520 pI520) 521 pI521)) := by
  refine j_entry [(0, .ref (g 32)), (1, .int a), (2, .int b), (3, .int c), (4, .int d)] (by decide) (Nat.le_of_ble_eq_true rfl) rfl ?_
  intro X C E HI
  refine j_iload_n C 1 rfl dX9_keepBetter_0 ?_
  refine j_aload_n C 0 rfl dX9_keepBetter_1 ?_
  refine gX_32_6 C tb_243 (σ.1 518) rfl dX9_keepBetter_2 ?_
  refine j_icmp_ge C 29 (by decide) dX9_keepBetter_5 (fun c1 => ?_) (fun c1 => ?_)
  · refine j_w (cX g kk (sI σ 518 (σ.1 518))) (congrArg (cX g kk) (wrIi (S := σ) (c := 518) (v := σ.1 518) rfl)) ?_
    refine j_w (cX g kk (sI (sI σ 518 (σ.1 518)) 519 (σ.1 519))) (congrArg (cX g kk) (wrIi (S := (sI σ 518 (σ.1 518))) (c := 519) (v := σ.1 519) (gtII (by decide) rfl))) ?_
    refine j_w (cX g kk (sI (sI (sI σ 518 (σ.1 518)) 519 (σ.1 519)) 520 (σ.1 520))) (congrArg (cX g kk) (wrIi (S := (sI (sI σ 518 (σ.1 518)) 519 (σ.1 519))) (c := 520) (v := σ.1 520) (gtII (by decide) (gtII (by decide) rfl)))) ?_
    refine j_w (cX g kk (sI (sI (sI (sI σ 518 (σ.1 518)) 519 (σ.1 519)) 520 (σ.1 520)) 521 (σ.1 521))) (congrArg (cX g kk) (wrIi (S := (sI (sI (sI σ 518 (σ.1 518)) 519 (σ.1 519)) 520 (σ.1 520))) (c := 521) (v := σ.1 521) (gtII (by decide) (gtII (by decide) (gtII (by decide) rfl))))) ?_
    exact j_vret C E (sI (sI (sI (sI σ 518 (σ.1 518)) 519 (σ.1 519)) 520 (σ.1 520)) 521 (σ.1 521)) ⟨rfl, ⟨(σ.1 518), (σ.1 519), (σ.1 520), (σ.1 521), rfl⟩⟩ rfl dX9_keepBetter_29
  · refine j_aload_n C 0 rfl dX9_keepBetter_8 ?_
    refine j_iload_n C 1 rfl dX9_keepBetter_9 ?_
    refine pX_32_6 C tb_243 dX9_keepBetter_10 ?_
    refine j_aload_n C 0 rfl dX9_keepBetter_13 ?_
    refine j_iload_n C 2 rfl dX9_keepBetter_14 ?_
    refine pX_32_7 C tb_245 dX9_keepBetter_15 ?_
    refine j_aload_n C 0 rfl dX9_keepBetter_18 ?_
    refine j_iload_n C 3 rfl dX9_keepBetter_19 ?_
    refine pX_32_8 C tb_247 dX9_keepBetter_20 ?_
    refine j_aload_n C 0 rfl dX9_keepBetter_23 ?_
    refine j_iload C 4 rfl dX9_keepBetter_24 ?_
    refine pX_32_9 C tb_249 dX9_keepBetter_26 ?_
    exact j_vret C E (sI (sI (sI (sI σ 518 a) 519 b) 520 c) 521 d) ⟨rfl, ⟨a, b, c, d, rfl⟩⟩ rfl dX9_keepBetter_29
set_option maxRecDepth 100000 in
set_option maxHeartbeats 4000000 in
theorem d_tryOne (g kk : Nat → Nat) (σ : St) (k : Nat) (hk : σ.1 16 = nI k) (hk6 : k ≤ 6) (hI : iX σ)   : jM (S := St) yX9_tryOne cX9_tryOne 3 none { frames := 3, cells := 0, slots := 0, locals := 86 } kk (cX g kk σ) [.ref (g 32)] (cX g kk) (rV (fun u : St => ∃ (pF36 : Nat → Int32) (pI518 : Int32) (pI519 : Int32) (pI520 : Int32) (pI521 : Int32), u = sI (sI (sI (sI (sF σ 36 pF36) 518 pI518) 519 pI519) 520 pI520) 521 pI521)) := by
  refine j_entry [(0, .ref (g 32))] (by decide) (Nat.le_of_ble_eq_true rfl) rfl ?_
  intro X C E HI
  refine j_aload_n C 0 rfl dX9_tryOne_0 ?_
  refine gX_32_0 C tb_237 dX9_tryOne_1 ?_
  refine gX_27_0 C tb_201 dX9_tryOne_4 ?_
  refine gX_1_9 C tb_127 dX9_tryOne_7 ?_
  refine j_iconst C (nI 1) (by decide) dX9_tryOne_10 ?_
  refine rX_10 C 1 rfl (by omega) ((σ.2.1 10) 1) rfl dX9_tryOne_11 ?_
  refine j_istore_n C [(1, .int ((σ.2.1 10) 1)), (0, .ref (g 32))] rfl (by decide) rfl dX9_tryOne_12 ?_
  refine j_iconst C (nI 0) (by decide) dX9_tryOne_13 ?_
  refine j_istore_n C [(2, .int (nI 0)), (1, .int ((σ.2.1 10) 1)), (0, .ref (g 32))] rfl (by decide) rfl dX9_tryOne_14 ?_
  have L15 : ∀ (n15 : Nat) (a : Nat) (z15_F36 : Nat → Int32) (z15_I518 : Int32) (z15_I519 : Int32) (z15_I520 : Int32) (z15_I521 : Int32) (i15_0 : a ≤ 38) (hm15 : 38 - a < n15), J X 0 0 (cX g kk (sI (sI (sI (sI (sF σ 36 z15_F36) 518 z15_I518) 519 z15_I519) 520 z15_I520) 521 z15_I521)) [(2, .int (nI a)), (1, .int ((σ.2.1 10) 1)), (0, .ref (g 32))] 15 [] := by
    intro n15
    induction n15 with
    | zero => intro a z15_F36 z15_I518 z15_I519 z15_I520 z15_I521 i15_0 hm; exact absurd hm (Nat.not_lt_zero _)
    | succ n15 ih15 =>
      intro a z15_F36 z15_I518 z15_I519 z15_I520 z15_I521 i15_0 hm15
      refine j_iload_n C 0 rfl dX9_tryOne_15 ?_
      refine j_bipush C (nI 38) (by decide) dX9_tryOne_16 ?_
      refine j_icmp_geN C 70 (by decide) (by omega) (by omega) dX9_tryOne_18 (fun c1 => ?_) (fun c1 => ?_)
      · exact j_vret C E (sI (sI (sI (sI (sF σ 36 z15_F36) 518 z15_I518) 519 z15_I519) 520 z15_I520) 521 z15_I521) ⟨rfl, ⟨z15_F36, z15_I518, z15_I519, z15_I520, z15_I521, rfl⟩⟩ rfl dX9_tryOne_70
      · refine j_aload_n C 2 rfl dX9_tryOne_21 ?_
        refine j_aload_n C 2 rfl dX9_tryOne_22 ?_
        refine gX_32_2 C tb_239 dX9_tryOne_23 ?_
        refine j_aload_n C 2 rfl dX9_tryOne_26 ?_
        refine gX_32_1 C tb_238 dX9_tryOne_27 ?_
        refine j_iload_n C 0 rfl dX9_tryOne_30 ?_
        obtain ⟨m2, hm2, em2⟩ := hI.codes a (by omega)
        refine rX_33 C a rfl (by omega) (nI m2) em2 dX9_tryOne_31 ?_
        refine j_aload_n C 2 rfl dX9_tryOne_32 ?_
        refine gX_32_4 C tb_241 dX9_tryOne_33 ?_
        refine j_V1 C (d_mend_34_36 g kk (sI (sI (sI (sI (sF σ 36 z15_F36) 518 z15_I518) 519 z15_I519) 520 z15_I520) 521 z15_I521) k hk hk6 hI  m2 (by first | assumption | omega)) kyX9_mend tb_632 tb_634 sp_9 32 rfl (eX_32 g kk _) rfl (Nat.le_of_ble_eq_true rfl) ⟨by decide, by decide⟩ dX9_tryOne_36 rfl (fun vr ur hp => ?_)
        obtain ⟨r4, rfl, w3, hu⟩ := hp
        replace hu := hu.symm
        subst hu
        refine j_if_eq C 64 (by decide) dX9_tryOne_39 (fun c5 => ?_) (fun c5 => ?_)
        · refine j_iinc C (nI (a + 1)) [(2, .int (nI (a + 1))), (1, .int ((σ.2.1 10) 1)), (0, .ref (g 32))] 0 rfl (by rw [show Int32.ofInt 1 = nI 1 from by decide, nI_add]) (by decide) rfl dX9_tryOne_64 ?_
          refine j_goto C 15 (by decide) dX9_tryOne_67 ?_
          refine j_w (cX g kk (sI (sI (sI (sI (sF σ 36 w3) 518 z15_I518) 519 z15_I519) 520 z15_I520) 521 z15_I521)) (congrArg (cX g kk) (show sF (sI (sI (sI (sI (sF σ 36 z15_F36) 518 z15_I518) 519 z15_I519) 520 z15_I520) 521 z15_I521) 36 w3 = sI (sI (sI (sI (sF σ 36 w3) 518 z15_I518) 519 z15_I519) 520 z15_I520) 521 z15_I521 from (Eq.trans wrFI (wrI (Eq.trans wrFI (wrI (Eq.trans wrFI (wrI (Eq.trans wrFI (wrI wrFs)))))))))) ?_
          exact ih15 (a + 1) w3 z15_I518 z15_I519 z15_I520 z15_I521 (by omega) (by omega)
        · refine j_aload_n C 2 rfl dX9_tryOne_42 ?_
          refine j_aload_n C 2 rfl dX9_tryOne_43 ?_
          refine j_aload_n C 2 rfl dX9_tryOne_44 ?_
          refine gX_32_4 C tb_241 dX9_tryOne_45 ?_
          refine j_V1 C (d_misfit_36 g kk (sF (sI (sI (sI (sI (sF σ 36 z15_F36) 518 z15_I518) 519 z15_I519) 520 z15_I520) 521 z15_I521) 36 w3) k hk hk6 hI  ) kyX9_misfit tb_623 tb_625 sp_7 32 rfl (eX_32 g kk _) rfl (Nat.le_of_ble_eq_true rfl) ⟨by decide, by decide⟩ dX9_tryOne_48 rfl (fun vr ur hp => ?_)
          obtain ⟨r6, rfl, hu⟩ := hp
          replace hu := hu.symm
          subst hu
          refine j_iload_n C 1 rfl dX9_tryOne_51 ?_
          refine j_iadd C dX9_tryOne_52 ?_
          refine j_iconst C (nI 1) (by decide) dX9_tryOne_53 ?_
          refine j_aload_n C 2 rfl dX9_tryOne_54 ?_
          refine gX_32_1 C tb_238 dX9_tryOne_55 ?_
          refine j_iload_n C 0 rfl dX9_tryOne_58 ?_
          obtain ⟨m7, hm7, em7⟩ := hI.codes a (by omega)
          refine rX_33 C a rfl (by omega) (nI m7) em7 dX9_tryOne_59 ?_
          refine j_iconst C ((-1)) (by decide) dX9_tryOne_60 ?_
          refine j_V1 C (d_keepBetter g kk (sF (sI (sI (sI (sI (sF σ 36 z15_F36) 518 z15_I518) 519 z15_I519) 520 z15_I520) 521 z15_I521) 36 w3) k hk hk6 hI  (r6 + ((σ.2.1 10) 1)) (nI 1) (nI m7) (-1)) kyX9_keepBetter tb_638 tb_640 sp_10 32 rfl (eX_32 g kk _) rfl (Nat.le_of_ble_eq_true rfl) ⟨by decide, by decide⟩ dX9_tryOne_61 rfl (fun vr ur hp => ?_)
          obtain ⟨rfl, w8, w9, w10, w11, hu⟩ := hp
          replace hu := hu.symm
          subst hu
          refine j_iinc C (nI (a + 1)) [(2, .int (nI (a + 1))), (1, .int ((σ.2.1 10) 1)), (0, .ref (g 32))] 0 rfl (by rw [show Int32.ofInt 1 = nI 1 from by decide, nI_add]) (by decide) rfl dX9_tryOne_64 ?_
          refine j_goto C 15 (by decide) dX9_tryOne_67 ?_
          refine j_w (cX g kk (sI (sI (sI (sI (sF σ 36 w3) 518 w8) 519 w9) 520 w10) 521 w11)) (congrArg (cX g kk) (show sI (sI (sI (sI (sF (sI (sI (sI (sI (sF σ 36 z15_F36) 518 z15_I518) 519 z15_I519) 520 z15_I520) 521 z15_I521) 36 w3) 518 w8) 519 w9) 520 w10) 521 w11 = sI (sI (sI (sI (sF σ 36 w3) 518 w8) 519 w9) 520 w10) 521 w11 from (Eq.trans (wrI (Eq.trans (wrI (Eq.trans (wrI (Eq.trans (wrI (Eq.trans wrFI (wrI (Eq.trans wrFI (wrI (Eq.trans wrFI (wrI (Eq.trans wrFI (wrI wrFs))))))))) (Eq.trans (wrIc (by decide)) (wrI (Eq.trans (wrIc (by decide)) (wrI (Eq.trans (wrIc (by decide)) (wrI wrIs)))))))) (Eq.trans (wrIc (by decide)) (wrI (Eq.trans (wrIc (by decide)) (wrI wrIs)))))) (Eq.trans (wrIc (by decide)) (wrI wrIs)))) wrIs))) ?_
          exact ih15 (a + 1) w3 w8 w9 w10 w11 (by omega) (by omega)
  refine j_w (cX g kk (sF σ 36 (σ.2.1 36))) (congrArg (cX g kk) (wrFi (S := σ) (c := 36) (v := σ.2.1 36) rfl)) ?_
  refine j_w (cX g kk (sI (sF σ 36 (σ.2.1 36)) 518 (σ.1 518))) (congrArg (cX g kk) (wrIi (S := (sF σ 36 (σ.2.1 36))) (c := 518) (v := σ.1 518) (gtIF rfl))) ?_
  refine j_w (cX g kk (sI (sI (sF σ 36 (σ.2.1 36)) 518 (σ.1 518)) 519 (σ.1 519))) (congrArg (cX g kk) (wrIi (S := (sI (sF σ 36 (σ.2.1 36)) 518 (σ.1 518))) (c := 519) (v := σ.1 519) (gtII (by decide) (gtIF rfl)))) ?_
  refine j_w (cX g kk (sI (sI (sI (sF σ 36 (σ.2.1 36)) 518 (σ.1 518)) 519 (σ.1 519)) 520 (σ.1 520))) (congrArg (cX g kk) (wrIi (S := (sI (sI (sF σ 36 (σ.2.1 36)) 518 (σ.1 518)) 519 (σ.1 519))) (c := 520) (v := σ.1 520) (gtII (by decide) (gtII (by decide) (gtIF rfl))))) ?_
  refine j_w (cX g kk (sI (sI (sI (sI (sF σ 36 (σ.2.1 36)) 518 (σ.1 518)) 519 (σ.1 519)) 520 (σ.1 520)) 521 (σ.1 521))) (congrArg (cX g kk) (wrIi (S := (sI (sI (sI (sF σ 36 (σ.2.1 36)) 518 (σ.1 518)) 519 (σ.1 519)) 520 (σ.1 520))) (c := 521) (v := σ.1 521) (gtII (by decide) (gtII (by decide) (gtII (by decide) (gtIF rfl)))))) ?_
  exact L15 _ 0 (σ.2.1 36) (σ.1 518) (σ.1 519) (σ.1 520) (σ.1 521) (by omega) (Nat.lt_succ_self _)
set_option maxRecDepth 100000 in
set_option maxHeartbeats 4000000 in
theorem d_tryTwo (g kk : Nat → Nat) (σ : St) (k : Nat) (hk : σ.1 16 = nI k) (hk6 : k ≤ 6) (hI : iX σ)   : jM (S := St) yX9_tryTwo cX9_tryTwo 4 none { frames := 3, cells := 0, slots := 0, locals := 86 } kk (cX g kk σ) [.ref (g 32)] (cX g kk) (rV (fun u : St => ∃ (pF36 : Nat → Int32) (pF37 : Nat → Int32) (pI518 : Int32) (pI519 : Int32) (pI520 : Int32) (pI521 : Int32), u = sI (sI (sI (sI (sF (sF σ 36 pF36) 37 pF37) 518 pI518) 519 pI519) 520 pI520) 521 pI521)) := by
  refine j_entry [(0, .ref (g 32))] (by decide) (Nat.le_of_ble_eq_true rfl) rfl ?_
  intro X C E HI
  refine j_iconst C (nI 2) (by decide) dX9_tryTwo_0 ?_
  refine j_aload_n C 0 rfl dX9_tryTwo_1 ?_
  refine gX_32_0 C tb_237 dX9_tryTwo_2 ?_
  refine gX_27_0 C tb_201 dX9_tryTwo_5 ?_
  refine gX_1_9 C tb_127 dX9_tryTwo_8 ?_
  refine j_iconst C (nI 1) (by decide) dX9_tryTwo_11 ?_
  refine rX_10 C 1 rfl (by omega) ((σ.2.1 10) 1) rfl dX9_tryTwo_12 ?_
  refine j_imul C dX9_tryTwo_13 ?_
  refine j_istore_n C [(1, .int ((nI 2) * ((σ.2.1 10) 1))), (0, .ref (g 32))] rfl (by decide) rfl dX9_tryTwo_14 ?_
  refine j_iconst C (nI 0) (by decide) dX9_tryTwo_15 ?_
  refine j_istore_n C [(2, .int (nI 0)), (1, .int ((nI 2) * ((σ.2.1 10) 1))), (0, .ref (g 32))] rfl (by decide) rfl dX9_tryTwo_16 ?_
  have L17 : ∀ (n17 : Nat) (a : Nat) (z17_F36 : Nat → Int32) (z17_F37 : Nat → Int32) (z17_I518 : Int32) (z17_I519 : Int32) (z17_I520 : Int32) (z17_I521 : Int32) (i17_0 : a ≤ 38) (hm17 : 38 - a < n17), J X 0 0 (cX g kk (sI (sI (sI (sI (sF (sF σ 36 z17_F36) 37 z17_F37) 518 z17_I518) 519 z17_I519) 520 z17_I520) 521 z17_I521)) [(2, .int (nI a)), (1, .int ((nI 2) * ((σ.2.1 10) 1))), (0, .ref (g 32))] 17 [] := by
    intro n17
    induction n17 with
    | zero => intro a z17_F36 z17_F37 z17_I518 z17_I519 z17_I520 z17_I521 i17_0 hm; exact absurd hm (Nat.not_lt_zero _)
    | succ n17 ih17 =>
      intro a z17_F36 z17_F37 z17_I518 z17_I519 z17_I520 z17_I521 i17_0 hm17
      refine j_iload_n C 0 rfl dX9_tryTwo_17 ?_
      refine j_bipush C (nI 38) (by decide) dX9_tryTwo_18 ?_
      refine j_icmp_geN C 115 (by decide) (by omega) (by omega) dX9_tryTwo_20 (fun c1 => ?_) (fun c1 => ?_)
      · exact j_vret C E (sI (sI (sI (sI (sF (sF σ 36 z17_F36) 37 z17_F37) 518 z17_I518) 519 z17_I519) 520 z17_I520) 521 z17_I521) ⟨rfl, ⟨z17_F36, z17_F37, z17_I518, z17_I519, z17_I520, z17_I521, rfl⟩⟩ rfl dX9_tryTwo_115
      · refine j_aload_n C 2 rfl dX9_tryTwo_23 ?_
        refine j_aload_n C 2 rfl dX9_tryTwo_24 ?_
        refine gX_32_2 C tb_239 dX9_tryTwo_25 ?_
        refine j_aload_n C 2 rfl dX9_tryTwo_28 ?_
        refine gX_32_1 C tb_238 dX9_tryTwo_29 ?_
        refine j_iload_n C 0 rfl dX9_tryTwo_32 ?_
        obtain ⟨m2, hm2, em2⟩ := hI.codes a (by omega)
        refine rX_33 C a rfl (by omega) (nI m2) em2 dX9_tryTwo_33 ?_
        refine j_aload_n C 2 rfl dX9_tryTwo_34 ?_
        refine gX_32_4 C tb_241 dX9_tryTwo_35 ?_
        refine j_V1 C (d_mend_34_36 g kk (sI (sI (sI (sI (sF (sF σ 36 z17_F36) 37 z17_F37) 518 z17_I518) 519 z17_I519) 520 z17_I520) 521 z17_I521) k hk hk6 hI  m2 (by first | assumption | omega)) kyX9_mend tb_632 tb_634 sp_9 32 rfl (eX_32 g kk _) rfl (Nat.le_of_ble_eq_true rfl) ⟨by decide, by decide⟩ dX9_tryTwo_38 rfl (fun vr ur hp => ?_)
        obtain ⟨r4, rfl, w3, hu⟩ := hp
        replace hu := hu.symm
        subst hu
        refine j_if_ne C 47 (by decide) dX9_tryTwo_41 (fun c5 => ?_) (fun c5 => ?_)
        · refine j_iconst C (nI 0) (by decide) dX9_tryTwo_47 ?_
          refine j_istore_n C [(3, .int (nI 0)), (2, .int (nI a)), (1, .int ((nI 2) * ((σ.2.1 10) 1))), (0, .ref (g 32))] rfl (by decide) rfl dX9_tryTwo_48 ?_
          have L49 : ∀ (n49 : Nat) (b : Nat) (z49_F37 : Nat → Int32) (z49_I518 : Int32) (z49_I519 : Int32) (z49_I520 : Int32) (z49_I521 : Int32) (i49_0 : b ≤ 38) (hm49 : 38 - b < n49), J X 0 0 (cX g kk (sI (sI (sI (sI (sF (sF σ 36 w3) 37 z49_F37) 518 z49_I518) 519 z49_I519) 520 z49_I520) 521 z49_I521)) [(3, .int (nI b)), (2, .int (nI a)), (1, .int ((nI 2) * ((σ.2.1 10) 1))), (0, .ref (g 32))] 49 [] := by
            intro n49
            induction n49 with
            | zero => intro b z49_F37 z49_I518 z49_I519 z49_I520 z49_I521 i49_0 hm; exact absurd hm (Nat.not_lt_zero _)
            | succ n49 ih49 =>
              intro b z49_F37 z49_I518 z49_I519 z49_I520 z49_I521 i49_0 hm49
              refine j_iload_n C 0 rfl dX9_tryTwo_49 ?_
              refine j_bipush C (nI 38) (by decide) dX9_tryTwo_50 ?_
              refine j_icmp_geN C 109 (by decide) (by omega) (by omega) dX9_tryTwo_52 (fun c6 => ?_) (fun c6 => ?_)
              · refine j_iinc C (nI (a + 1)) [(2, .int (nI (a + 1))), (3, .int (nI b)), (1, .int ((nI 2) * ((σ.2.1 10) 1))), (0, .ref (g 32))] 1 rfl (by rw [show Int32.ofInt 1 = nI 1 from by decide, nI_add]) (by decide) rfl dX9_tryTwo_109 ?_
                refine j_goto C 17 (by decide) dX9_tryTwo_112 ?_
                refine j_sub (lv' := [(2, .int (nI (a + 1))), (1, .int ((nI 2) * ((σ.2.1 10) 1))), (0, .ref (g 32))]) [0, 2, 3] rfl ?_
                exact ih17 (a + 1) w3 z49_F37 z49_I518 z49_I519 z49_I520 z49_I521 (by omega) (by omega)
              · refine j_aload_n C 3 rfl dX9_tryTwo_55 ?_
                refine j_aload_n C 3 rfl dX9_tryTwo_56 ?_
                refine gX_32_4 C tb_241 dX9_tryTwo_57 ?_
                refine j_aload_n C 3 rfl dX9_tryTwo_60 ?_
                refine gX_32_1 C tb_238 dX9_tryTwo_61 ?_
                refine j_iload_n C 0 rfl dX9_tryTwo_64 ?_
                obtain ⟨m7, hm7, em7⟩ := hI.codes b (by omega)
                refine rX_33 C b rfl (by omega) (nI m7) em7 dX9_tryTwo_65 ?_
                refine j_aload_n C 3 rfl dX9_tryTwo_66 ?_
                refine gX_32_5 C tb_242 dX9_tryTwo_67 ?_
                refine j_V1 C (d_mend_36_37 g kk (sI (sI (sI (sI (sF (sF σ 36 w3) 37 z49_F37) 518 z49_I518) 519 z49_I519) 520 z49_I520) 521 z49_I521) k hk hk6 hI  m7 (by first | assumption | omega)) kyX9_mend tb_632 tb_634 sp_9 32 rfl (eX_32 g kk _) rfl (Nat.le_of_ble_eq_true rfl) ⟨by decide, by decide⟩ dX9_tryTwo_70 rfl (fun vr ur hp => ?_)
                obtain ⟨r9, rfl, w8, hu⟩ := hp
                replace hu := hu.symm
                subst hu
                refine j_if_eq C 103 (by decide) dX9_tryTwo_73 (fun c10 => ?_) (fun c10 => ?_)
                · refine j_iinc C (nI (b + 1)) [(3, .int (nI (b + 1))), (2, .int (nI a)), (1, .int ((nI 2) * ((σ.2.1 10) 1))), (0, .ref (g 32))] 0 rfl (by rw [show Int32.ofInt 1 = nI 1 from by decide, nI_add]) (by decide) rfl dX9_tryTwo_103 ?_
                  refine j_goto C 49 (by decide) dX9_tryTwo_106 ?_
                  refine j_w (cX g kk (sI (sI (sI (sI (sF (sF σ 36 w3) 37 w8) 518 z49_I518) 519 z49_I519) 520 z49_I520) 521 z49_I521)) (congrArg (cX g kk) (show sF (sI (sI (sI (sI (sF (sF σ 36 w3) 37 z49_F37) 518 z49_I518) 519 z49_I519) 520 z49_I520) 521 z49_I521) 37 w8 = sI (sI (sI (sI (sF (sF σ 36 w3) 37 w8) 518 z49_I518) 519 z49_I519) 520 z49_I520) 521 z49_I521 from (Eq.trans wrFI (wrI (Eq.trans wrFI (wrI (Eq.trans wrFI (wrI (Eq.trans wrFI (wrI wrFs)))))))))) ?_
                  exact ih49 (b + 1) w8 z49_I518 z49_I519 z49_I520 z49_I521 (by omega) (by omega)
                · refine j_aload_n C 3 rfl dX9_tryTwo_76 ?_
                  refine j_aload_n C 3 rfl dX9_tryTwo_77 ?_
                  refine j_aload_n C 3 rfl dX9_tryTwo_78 ?_
                  refine gX_32_5 C tb_242 dX9_tryTwo_79 ?_
                  refine j_V1 C (d_misfit_37 g kk (sF (sI (sI (sI (sI (sF (sF σ 36 w3) 37 z49_F37) 518 z49_I518) 519 z49_I519) 520 z49_I520) 521 z49_I521) 37 w8) k hk hk6 hI  ) kyX9_misfit tb_623 tb_625 sp_7 32 rfl (eX_32 g kk _) rfl (Nat.le_of_ble_eq_true rfl) ⟨by decide, by decide⟩ dX9_tryTwo_82 rfl (fun vr ur hp => ?_)
                  obtain ⟨r11, rfl, hu⟩ := hp
                  replace hu := hu.symm
                  subst hu
                  refine j_iload_n C 2 rfl dX9_tryTwo_85 ?_
                  refine j_iadd C dX9_tryTwo_86 ?_
                  refine j_top (fun v12 => ?_)
                  refine j_iconst C (nI 2) (by decide) dX9_tryTwo_87 ?_
                  refine j_aload_n C 3 rfl dX9_tryTwo_88 ?_
                  refine gX_32_1 C tb_238 dX9_tryTwo_89 ?_
                  refine j_iload_n C 1 rfl dX9_tryTwo_92 ?_
                  obtain ⟨m13, hm13, em13⟩ := hI.codes a (by omega)
                  refine rX_33 C a rfl (by omega) (nI m13) em13 dX9_tryTwo_93 ?_
                  refine j_aload_n C 3 rfl dX9_tryTwo_94 ?_
                  refine gX_32_1 C tb_238 dX9_tryTwo_95 ?_
                  refine j_iload_n C 0 rfl dX9_tryTwo_98 ?_
                  obtain ⟨m14, hm14, em14⟩ := hI.codes b (by omega)
                  refine rX_33 C b rfl (by omega) (nI m14) em14 dX9_tryTwo_99 ?_
                  refine j_V1 C (d_keepBetter g kk (sF (sI (sI (sI (sI (sF (sF σ 36 w3) 37 z49_F37) 518 z49_I518) 519 z49_I519) 520 z49_I520) 521 z49_I521) 37 w8) k hk hk6 hI  v12 (nI 2) (nI m13) (nI m14)) kyX9_keepBetter tb_638 tb_640 sp_10 32 rfl (eX_32 g kk _) rfl (Nat.le_of_ble_eq_true rfl) ⟨by decide, by decide⟩ dX9_tryTwo_100 rfl (fun vr ur hp => ?_)
                  obtain ⟨rfl, w15, w16, w17, w18, hu⟩ := hp
                  replace hu := hu.symm
                  subst hu
                  refine j_iinc C (nI (b + 1)) [(3, .int (nI (b + 1))), (2, .int (nI a)), (1, .int ((nI 2) * ((σ.2.1 10) 1))), (0, .ref (g 32))] 0 rfl (by rw [show Int32.ofInt 1 = nI 1 from by decide, nI_add]) (by decide) rfl dX9_tryTwo_103 ?_
                  refine j_goto C 49 (by decide) dX9_tryTwo_106 ?_
                  refine j_w (cX g kk (sI (sI (sI (sI (sF (sF σ 36 w3) 37 w8) 518 w15) 519 w16) 520 w17) 521 w18)) (congrArg (cX g kk) (show sI (sI (sI (sI (sF (sI (sI (sI (sI (sF (sF σ 36 w3) 37 z49_F37) 518 z49_I518) 519 z49_I519) 520 z49_I520) 521 z49_I521) 37 w8) 518 w15) 519 w16) 520 w17) 521 w18 = sI (sI (sI (sI (sF (sF σ 36 w3) 37 w8) 518 w15) 519 w16) 520 w17) 521 w18 from (Eq.trans (wrI (Eq.trans (wrI (Eq.trans (wrI (Eq.trans (wrI (Eq.trans wrFI (wrI (Eq.trans wrFI (wrI (Eq.trans wrFI (wrI (Eq.trans wrFI (wrI wrFs))))))))) (Eq.trans (wrIc (by decide)) (wrI (Eq.trans (wrIc (by decide)) (wrI (Eq.trans (wrIc (by decide)) (wrI wrIs)))))))) (Eq.trans (wrIc (by decide)) (wrI (Eq.trans (wrIc (by decide)) (wrI wrIs)))))) (Eq.trans (wrIc (by decide)) (wrI wrIs)))) wrIs))) ?_
                  exact ih49 (b + 1) w8 w15 w16 w17 w18 (by omega) (by omega)
          refine j_w (cX g kk (sI (sI (sI (sI (sF (sF σ 36 w3) 37 z17_F37) 518 z17_I518) 519 z17_I519) 520 z17_I520) 521 z17_I521)) (congrArg (cX g kk) (show sF (sI (sI (sI (sI (sF (sF σ 36 z17_F36) 37 z17_F37) 518 z17_I518) 519 z17_I519) 520 z17_I520) 521 z17_I521) 36 w3 = sI (sI (sI (sI (sF (sF σ 36 w3) 37 z17_F37) 518 z17_I518) 519 z17_I519) 520 z17_I520) 521 z17_I521 from (Eq.trans wrFI (wrI (Eq.trans wrFI (wrI (Eq.trans wrFI (wrI (Eq.trans wrFI (wrI (Eq.trans (wrFc (by decide)) (wrF wrFs)))))))))))) ?_
          exact L49 _ 0 z17_F37 z17_I518 z17_I519 z17_I520 z17_I521 (by omega) (Nat.lt_succ_self _)
        · refine j_goto C 109 (by decide) dX9_tryTwo_44 ?_
          refine j_iinc C (nI (a + 1)) [(2, .int (nI (a + 1))), (1, .int ((nI 2) * ((σ.2.1 10) 1))), (0, .ref (g 32))] 0 rfl (by rw [show Int32.ofInt 1 = nI 1 from by decide, nI_add]) (by decide) rfl dX9_tryTwo_109 ?_
          refine j_goto C 17 (by decide) dX9_tryTwo_112 ?_
          refine j_w (cX g kk (sI (sI (sI (sI (sF (sF σ 36 w3) 37 z17_F37) 518 z17_I518) 519 z17_I519) 520 z17_I520) 521 z17_I521)) (congrArg (cX g kk) (show sF (sI (sI (sI (sI (sF (sF σ 36 z17_F36) 37 z17_F37) 518 z17_I518) 519 z17_I519) 520 z17_I520) 521 z17_I521) 36 w3 = sI (sI (sI (sI (sF (sF σ 36 w3) 37 z17_F37) 518 z17_I518) 519 z17_I519) 520 z17_I520) 521 z17_I521 from (Eq.trans wrFI (wrI (Eq.trans wrFI (wrI (Eq.trans wrFI (wrI (Eq.trans wrFI (wrI (Eq.trans (wrFc (by decide)) (wrF wrFs)))))))))))) ?_
          exact ih17 (a + 1) w3 z17_F37 z17_I518 z17_I519 z17_I520 z17_I521 (by omega) (by omega)
  refine j_w (cX g kk (sF σ 36 (σ.2.1 36))) (congrArg (cX g kk) (wrFi (S := σ) (c := 36) (v := σ.2.1 36) rfl)) ?_
  refine j_w (cX g kk (sF (sF σ 36 (σ.2.1 36)) 37 (σ.2.1 37))) (congrArg (cX g kk) (wrFi (S := (sF σ 36 (σ.2.1 36))) (c := 37) (v := σ.2.1 37) (gtFF (by decide) rfl))) ?_
  refine j_w (cX g kk (sI (sF (sF σ 36 (σ.2.1 36)) 37 (σ.2.1 37)) 518 (σ.1 518))) (congrArg (cX g kk) (wrIi (S := (sF (sF σ 36 (σ.2.1 36)) 37 (σ.2.1 37))) (c := 518) (v := σ.1 518) (gtIF (gtIF rfl)))) ?_
  refine j_w (cX g kk (sI (sI (sF (sF σ 36 (σ.2.1 36)) 37 (σ.2.1 37)) 518 (σ.1 518)) 519 (σ.1 519))) (congrArg (cX g kk) (wrIi (S := (sI (sF (sF σ 36 (σ.2.1 36)) 37 (σ.2.1 37)) 518 (σ.1 518))) (c := 519) (v := σ.1 519) (gtII (by decide) (gtIF (gtIF rfl))))) ?_
  refine j_w (cX g kk (sI (sI (sI (sF (sF σ 36 (σ.2.1 36)) 37 (σ.2.1 37)) 518 (σ.1 518)) 519 (σ.1 519)) 520 (σ.1 520))) (congrArg (cX g kk) (wrIi (S := (sI (sI (sF (sF σ 36 (σ.2.1 36)) 37 (σ.2.1 37)) 518 (σ.1 518)) 519 (σ.1 519))) (c := 520) (v := σ.1 520) (gtII (by decide) (gtII (by decide) (gtIF (gtIF rfl)))))) ?_
  refine j_w (cX g kk (sI (sI (sI (sI (sF (sF σ 36 (σ.2.1 36)) 37 (σ.2.1 37)) 518 (σ.1 518)) 519 (σ.1 519)) 520 (σ.1 520)) 521 (σ.1 521))) (congrArg (cX g kk) (wrIi (S := (sI (sI (sI (sF (sF σ 36 (σ.2.1 36)) 37 (σ.2.1 37)) 518 (σ.1 518)) 519 (σ.1 519)) 520 (σ.1 520))) (c := 521) (v := σ.1 521) (gtII (by decide) (gtII (by decide) (gtII (by decide) (gtIF (gtIF rfl))))))) ?_
  exact L17 _ 0 (σ.2.1 36) (σ.2.1 37) (σ.1 518) (σ.1 519) (σ.1 520) (σ.1 521) (by omega) (Nat.lt_succ_self _)
set_option maxRecDepth 100000 in
set_option maxHeartbeats 4000000 in
theorem d_explain (g kk : Nat → Nat) (σ : St) (k : Nat) (hk : σ.1 16 = nI k) (hk6 : k ≤ 6) (hI : iX σ)  (q : Nat) (hq0 : q ≤ 161) : jM (S := St) yX9_explain cX9_explain 3 none { frames := 4, cells := 0, slots := 0, locals := 109 } kk (cX g kk σ) [.ref (g 32), .int (nI q)] (cX g kk) (rV (fun u : St => ∃ (pF34 : Nat → Int32) (pF35 : Nat → Int32) (pF36 : Nat → Int32) (pF37 : Nat → Int32) (pI518 : Int32) (pI519 : Int32) (pI520 : Int32) (pI521 : Int32), u = sI (sI (sI (sI (sF (sF (sF (sF σ 34 pF34) 35 pF35) 36 pF36) 37 pF37) 518 pI518) 519 pI519) 520 pI520) 521 pI521)) := by
  refine j_entry [(0, .ref (g 32)), (1, .int (nI q))] (by decide) (Nat.le_of_ble_eq_true rfl) rfl ?_
  intro X C E HI
  refine j_iconst C (nI 0) (by decide) dX9_explain_0 ?_
  refine j_istore_n C [(2, .int (nI 0)), (0, .ref (g 32)), (1, .int (nI q))] rfl (by decide) rfl dX9_explain_1 ?_
  have L2 : ∀ (n2 : Nat) (i : Nat) (z2_F34 : Nat → Int32) (z2_F35 : Nat → Int32) (i2_0 : i ≤ 7) (hm2 : 7 - i < n2), J X 0 0 (cX g kk (sF (sF σ 34 z2_F34) 35 z2_F35)) [(2, .int (nI i)), (0, .ref (g 32)), (1, .int (nI q))] 2 [] := by
    intro n2
    induction n2 with
    | zero => intro i z2_F34 z2_F35 i2_0 hm; exact absurd hm (Nat.not_lt_zero _)
    | succ n2 ih2 =>
      intro i z2_F34 z2_F35 i2_0 hm2
      refine j_iload_n C 0 rfl dX9_explain_2 ?_
      refine j_bipush C (nI 7) (by decide) dX9_explain_3 ?_
      refine j_icmp_geN C 56 (by decide) (by omega) (by omega) dX9_explain_5 (fun c1 => ?_) (fun c1 => ?_)
      · refine j_aload_n C 1 rfl dX9_explain_56 ?_
        refine j_aload_n C 1 rfl dX9_explain_57 ?_
        refine j_aload_n C 1 rfl dX9_explain_58 ?_
        refine gX_32_2 C tb_239 dX9_explain_59 ?_
        refine j_V1 C (d_misfit_34 g kk (sF (sF σ 34 z2_F34) 35 z2_F35) k hk hk6 hI  ) kyX9_misfit tb_623 tb_625 sp_7 32 rfl (eX_32 g kk _) rfl (Nat.le_of_ble_eq_true rfl) ⟨by decide, by decide⟩ dX9_explain_62 rfl (fun vr ur hp => ?_)
        obtain ⟨r2, rfl, hu⟩ := hp
        replace hu := hu.symm
        subst hu
        refine pX_32_6 C tb_243 dX9_explain_65 ?_
        refine j_aload_n C 1 rfl dX9_explain_68 ?_
        refine j_iconst C (nI 0) (by decide) dX9_explain_69 ?_
        refine pX_32_7 C tb_245 dX9_explain_70 ?_
        refine j_aload_n C 1 rfl dX9_explain_73 ?_
        refine j_iconst C ((-1)) (by decide) dX9_explain_74 ?_
        refine pX_32_8 C tb_247 dX9_explain_75 ?_
        refine j_aload_n C 1 rfl dX9_explain_78 ?_
        refine j_iconst C ((-1)) (by decide) dX9_explain_79 ?_
        refine pX_32_9 C tb_249 dX9_explain_80 ?_
        refine j_aload_n C 1 rfl dX9_explain_83 ?_
        refine j_V1 C (d_tryOne g kk (sI (sI (sI (sI (sF (sF σ 34 z2_F34) 35 z2_F35) 518 r2) 519 (nI 0)) 520 (-1)) 521 (-1)) k hk hk6 hI  ) kyX9_tryOne tb_628 tb_630 sp_8 32 rfl (eX_32 g kk _) rfl (Nat.le_of_ble_eq_true rfl) ⟨by decide, by decide⟩ dX9_explain_84 rfl (fun vr ur hp => ?_)
        obtain ⟨rfl, w3, w4, w5, w6, w7, hu⟩ := hp
        replace hu := hu.symm
        subst hu
        refine j_aload_n C 1 rfl dX9_explain_87 ?_
        refine j_V1 C (d_tryTwo g kk (sI (sI (sI (sI (sF (sI (sI (sI (sI (sF (sF σ 34 z2_F34) 35 z2_F35) 518 r2) 519 (nI 0)) 520 (-1)) 521 (-1)) 36 w3) 518 w4) 519 w5) 520 w6) 521 w7) k hk hk6 hI  ) kyX9_tryTwo tb_642 tb_644 sp_11 32 rfl (eX_32 g kk _) rfl (Nat.le_of_ble_eq_true rfl) ⟨by decide, by decide⟩ dX9_explain_88 rfl (fun vr ur hp => ?_)
        obtain ⟨rfl, w8, w9, w10, w11, w12, w13, hu⟩ := hp
        replace hu := hu.symm
        subst hu
        refine j_w (cX g kk (sI (sI (sI (sI (sF (sF (sF (sF σ 34 z2_F34) 35 z2_F35) 36 w8) 37 w9) 518 w10) 519 w11) 520 w12) 521 w13)) (congrArg (cX g kk) (show sI (sI (sI (sI (sF (sF (sI (sI (sI (sI (sF (sI (sI (sI (sI (sF (sF σ 34 z2_F34) 35 z2_F35) 518 r2) 519 (nI 0)) 520 (-1)) 521 (-1)) 36 w3) 518 w4) 519 w5) 520 w6) 521 w7) 36 w8) 37 w9) 518 w10) 519 w11) 520 w12) 521 w13 = sI (sI (sI (sI (sF (sF (sF (sF σ 34 z2_F34) 35 z2_F35) 36 w8) 37 w9) 518 w10) 519 w11) 520 w12) 521 w13 from (Eq.trans (wrI (Eq.trans (wrI (Eq.trans (wrI (Eq.trans (wrI (Eq.trans (wrF (Eq.trans (wrF (Eq.trans (wrI (Eq.trans (wrI (Eq.trans (wrI (Eq.trans (wrI (Eq.trans wrFI (wrI (Eq.trans wrFI (wrI (Eq.trans wrFI (wrI wrFI))))))) (Eq.trans (wrIc (by decide)) (wrI (Eq.trans (wrIc (by decide)) (wrI (Eq.trans (wrIc (by decide)) (wrI wrIs)))))))) (Eq.trans (wrIc (by decide)) (wrI (Eq.trans (wrIc (by decide)) (wrI wrIs)))))) (Eq.trans (wrIc (by decide)) (wrI wrIs)))) wrIs)) (Eq.trans wrFI (wrI (Eq.trans wrFI (wrI (Eq.trans wrFI (wrI (Eq.trans wrFI (wrI wrFs)))))))))) (Eq.trans wrFI (wrI (Eq.trans wrFI (wrI (Eq.trans wrFI (wrI wrFI)))))))) (Eq.trans (wrIc (by decide)) (wrI (Eq.trans (wrIc (by decide)) (wrI (Eq.trans (wrIc (by decide)) (wrI wrIs)))))))) (Eq.trans (wrIc (by decide)) (wrI (Eq.trans (wrIc (by decide)) (wrI wrIs)))))) (Eq.trans (wrIc (by decide)) (wrI wrIs)))) wrIs))) ?_
        exact j_vret C E (sI (sI (sI (sI (sF (sF (sF (sF σ 34 z2_F34) 35 z2_F35) 36 w8) 37 w9) 518 w10) 519 w11) 520 w12) 521 w13) ⟨rfl, ⟨z2_F34, z2_F35, w8, w9, w10, w11, w12, w13, rfl⟩⟩ rfl dX9_explain_91
      · refine j_aload_n C 1 rfl dX9_explain_8 ?_
        refine gX_32_2 C tb_239 dX9_explain_9 ?_
        refine j_iload_n C 0 rfl dX9_explain_12 ?_
        refine j_iconst C (nI 0) (by decide) dX9_explain_13 ?_
        refine j_aload_n C 1 rfl dX9_explain_14 ?_
        refine gX_32_0 C tb_237 dX9_explain_15 ?_
        refine gX_27_4 C tb_210 dX9_explain_18 ?_
        refine j_iload_n C 2 rfl dX9_explain_21 ?_
        refine j_iload_n C 0 rfl dX9_explain_22 ?_
        refine j_iaddN C dX9_explain_23 ?_
        refine rX_31 C (q + i) rfl (by omega) ((σ.2.1 31) (q + i)) rfl dX9_explain_24 ?_
        refine j_mmax C tb_622 tb_600 tb_15 tb_601 (by decide) (Nat.le_of_ble_eq_true rfl) (by decide) (by decide) dX9_explain_25 ?_
        refine j_top (fun v14 => ?_)
        refine tX_34 C i rfl (by omega) dX9_explain_28 ?_
        refine j_aload_n C 1 rfl dX9_explain_29 ?_
        refine gX_32_3 C tb_240 dX9_explain_30 ?_
        refine j_iload_n C 0 rfl dX9_explain_33 ?_
        refine j_iconst C (nI 0) (by decide) dX9_explain_34 ?_
        refine j_aload_n C 1 rfl dX9_explain_35 ?_
        refine gX_32_0 C tb_237 dX9_explain_36 ?_
        refine gX_27_3 C tb_205 dX9_explain_39 ?_
        refine j_iload_n C 2 rfl dX9_explain_42 ?_
        refine j_iload_n C 0 rfl dX9_explain_43 ?_
        refine j_iaddN C dX9_explain_44 ?_
        refine rX_30 C (q + i) rfl (by omega) ((σ.2.1 30) (q + i)) rfl dX9_explain_45 ?_
        refine j_mmax C tb_622 tb_600 tb_15 tb_601 (by decide) (Nat.le_of_ble_eq_true rfl) (by decide) (by decide) dX9_explain_46 ?_
        refine j_top (fun v15 => ?_)
        refine tX_35 C i rfl (by omega) dX9_explain_49 ?_
        refine j_iinc C (nI (i + 1)) [(2, .int (nI (i + 1))), (0, .ref (g 32)), (1, .int (nI q))] 0 rfl (by rw [show Int32.ofInt 1 = nI 1 from by decide, nI_add]) (by decide) rfl dX9_explain_50 ?_
        refine j_goto C 2 (by decide) dX9_explain_53 ?_
        refine j_w (cX g kk (sF (sF σ 34 (upd z2_F34 i v14)) 35 (upd z2_F35 i v15))) (congrArg (cX g kk) (show sF (sF (sF (sF σ 34 z2_F34) 35 z2_F35) 34 (upd z2_F34 i v14)) 35 (upd z2_F35 i v15) = sF (sF σ 34 (upd z2_F34 i v14)) 35 (upd z2_F35 i v15) from (Eq.trans (wrF (Eq.trans (wrFc (by decide)) (wrF wrFs))) wrFs))) ?_
        exact ih2 (i + 1) (upd z2_F34 i v14) (upd z2_F35 i v15) (by omega) (by omega)
  refine j_w (cX g kk (sF σ 34 (σ.2.1 34))) (congrArg (cX g kk) (wrFi (S := σ) (c := 34) (v := σ.2.1 34) rfl)) ?_
  refine j_w (cX g kk (sF (sF σ 34 (σ.2.1 34)) 35 (σ.2.1 35))) (congrArg (cX g kk) (wrFi (S := (sF σ 34 (σ.2.1 34))) (c := 35) (v := σ.2.1 35) (gtFF (by decide) rfl))) ?_
  exact L2 _ 0 (σ.2.1 34) (σ.2.1 35) (by omega) (Nat.lt_succ_self _)
set_option maxRecDepth 100000 in
set_option maxHeartbeats 4000000 in
theorem d_gatherD (g kk : Nat → Nat) (σ : St) (k : Nat) (hk : σ.1 16 = nI k) (hk6 : k ≤ 6) (hI : iX σ)  (a : Nat) (ha0 : a ≤ 140) : jM (S := St) yX0_gatherDifferences cX0_gatherDifferences 5 none { frames := 0, cells := 0, slots := 0, locals := 0 } kk (cX g kk σ) [.ref (g 38), .int (nI a)] (cX g kk) (rV (fun u : St => ∃ (pF39 : Nat → Int32) (pF40 : Nat → Int32) (q : Nat) (pI613 : Int32), u = sI (sI (sF (sF σ 39 pF39) 40 pF40) 612 (nI q)) 613 pI613 ∧ (q ≤ 28))) := by
  refine j_entry [(0, .ref (g 38)), (1, .int (nI a))] (by decide) (Nat.le_of_ble_eq_true rfl) rfl ?_
  intro X C E HI
  refine j_aload_n C 0 rfl dX0_gatherDifferences_0 ?_
  refine j_iconst C (nI 0) (by decide) dX0_gatherDifferences_1 ?_
  refine pX_38_4 C tb_282 dX0_gatherDifferences_2 ?_
  refine j_aload_n C 0 rfl dX0_gatherDifferences_5 ?_
  refine j_iconst C (nI 0) (by decide) dX0_gatherDifferences_6 ?_
  refine pX_38_5 C tb_283 dX0_gatherDifferences_7 ?_
  refine j_iconst C (nI 0) (by decide) dX0_gatherDifferences_10 ?_
  refine j_istore_n C [(2, .int (nI 0)), (0, .ref (g 38)), (1, .int (nI a))] rfl (by decide) rfl dX0_gatherDifferences_11 ?_
  have L12 : ∀ (n12 : Nat) (d : Nat) (z12_F39 : Nat → Int32) (z12_F40 : Nat → Int32) (q : Nat) (z12_I613 : Int32) (i12_0 : d ≤ 28) (i12_1 : q ≤ d) (hm12 : 28 - d < n12), J X 0 0 (cX g kk (sI (sI (sF (sF σ 39 z12_F39) 40 z12_F40) 612 (nI q)) 613 z12_I613)) [(2, .int (nI d)), (0, .ref (g 38)), (1, .int (nI a))] 12 [] := by
    intro n12
    induction n12 with
    | zero => intro d z12_F39 z12_F40 q z12_I613 i12_0 i12_1 hm; exact absurd hm (Nat.not_lt_zero _)
    | succ n12 ih12 =>
      intro d z12_F39 z12_F40 q z12_I613 i12_0 i12_1 hm12
      refine j_iload_n C 0 rfl dX0_gatherDifferences_12 ?_
      refine j_bipush C (nI 28) (by decide) dX0_gatherDifferences_13 ?_
      refine j_icmp_geN C 111 (by decide) (by omega) (by omega) dX0_gatherDifferences_15 (fun c1 => ?_) (fun c1 => ?_)
      · exact j_vret C E (sI (sI (sF (sF σ 39 z12_F39) 40 z12_F40) 612 (nI q)) 613 z12_I613) ⟨rfl, ⟨z12_F39, z12_F40, q, z12_I613, rfl, (by omega)⟩⟩ rfl dX0_gatherDifferences_111
      · refine j_aload_n C 1 rfl dX0_gatherDifferences_18 ?_
        refine gX_38_0 C tb_278 dX0_gatherDifferences_19 ?_
        refine gX_27_4 C tb_211 dX0_gatherDifferences_22 ?_
        refine j_iload_n C 2 rfl dX0_gatherDifferences_25 ?_
        refine j_iload_n C 0 rfl dX0_gatherDifferences_26 ?_
        refine j_iaddN C dX0_gatherDifferences_27 ?_
        refine rX_31 C (a + d) rfl (by omega) ((σ.2.1 31) (a + d)) rfl dX0_gatherDifferences_28 ?_
        refine j_istore_n C [(3, .int ((σ.2.1 31) (a + d))), (2, .int (nI d)), (0, .ref (g 38)), (1, .int (nI a))] rfl (by decide) rfl dX0_gatherDifferences_29 ?_
        refine j_aload_n C 2 rfl dX0_gatherDifferences_30 ?_
        refine gX_38_0 C tb_278 dX0_gatherDifferences_31 ?_
        refine gX_27_3 C tb_206 dX0_gatherDifferences_34 ?_
        refine j_iload_n C 3 rfl dX0_gatherDifferences_37 ?_
        refine j_iload_n C 1 rfl dX0_gatherDifferences_38 ?_
        refine j_iaddN C dX0_gatherDifferences_39 ?_
        refine rX_30 C (a + d) rfl (by omega) ((σ.2.1 30) (a + d)) rfl dX0_gatherDifferences_40 ?_
        refine j_istore C [(4, .int ((σ.2.1 30) (a + d))), (3, .int ((σ.2.1 31) (a + d))), (2, .int (nI d)), (0, .ref (g 38)), (1, .int (nI a))] (by decide) rfl dX0_gatherDifferences_41 ?_
        refine j_iload_n C 1 rfl dX0_gatherDifferences_43 ?_
        refine j_iconst C ((-1)) (by decide) dX0_gatherDifferences_44 ?_
        refine j_icmp_eq C 105 (by decide) dX0_gatherDifferences_45 (fun c2 => ?_) (fun c2 => ?_)
        · refine j_iinc C (nI (d + 1)) [(2, .int (nI (d + 1))), (4, .int ((σ.2.1 30) (a + d))), (3, .int ((σ.2.1 31) (a + d))), (0, .ref (g 38)), (1, .int (nI a))] 2 rfl (by rw [show Int32.ofInt 1 = nI 1 from by decide, nI_add]) (by decide) rfl dX0_gatherDifferences_105 ?_
          refine j_goto C 12 (by decide) dX0_gatherDifferences_108 ?_
          refine j_sub (lv' := [(2, .int (nI (d + 1))), (0, .ref (g 38)), (1, .int (nI a))]) [0, 3, 4] rfl ?_
          exact ih12 (d + 1) z12_F39 z12_F40 q z12_I613 (by omega) (by omega) (by omega)
        · refine j_iload C 0 rfl dX0_gatherDifferences_48 ?_
          refine j_iconst C ((-1)) (by decide) dX0_gatherDifferences_50 ?_
          refine j_icmp_eq C 105 (by decide) dX0_gatherDifferences_51 (fun c3 => ?_) (fun c3 => ?_)
          · refine j_iinc C (nI (d + 1)) [(2, .int (nI (d + 1))), (4, .int ((σ.2.1 30) (a + d))), (3, .int ((σ.2.1 31) (a + d))), (0, .ref (g 38)), (1, .int (nI a))] 2 rfl (by rw [show Int32.ofInt 1 = nI 1 from by decide, nI_add]) (by decide) rfl dX0_gatherDifferences_105 ?_
            refine j_goto C 12 (by decide) dX0_gatherDifferences_108 ?_
            refine j_sub (lv' := [(2, .int (nI (d + 1))), (0, .ref (g 38)), (1, .int (nI a))]) [0, 3, 4] rfl ?_
            exact ih12 (d + 1) z12_F39 z12_F40 q z12_I613 (by omega) (by omega) (by omega)
          · refine j_aload_n C 3 rfl dX0_gatherDifferences_54 ?_
            refine gX_38_1 C tb_279 dX0_gatherDifferences_55 ?_
            refine j_aload_n C 3 rfl dX0_gatherDifferences_58 ?_
            refine gX_38_4 C tb_282 (nI q) rfl dX0_gatherDifferences_59 ?_
            refine j_iload_n C 1 rfl dX0_gatherDifferences_62 ?_
            refine j_iload C 0 rfl dX0_gatherDifferences_63 ?_
            refine j_isub C dX0_gatherDifferences_65 ?_
            refine j_top (fun v4 => ?_)
            refine tX_39 C q rfl (by omega) dX0_gatherDifferences_66 ?_
            refine j_aload_n C 3 rfl dX0_gatherDifferences_67 ?_
            refine gX_38_2 C tb_280 dX0_gatherDifferences_68 ?_
            refine j_aload_n C 3 rfl dX0_gatherDifferences_71 ?_
            refine gX_38_4 C tb_282 (nI q) rfl dX0_gatherDifferences_72 ?_
            refine j_iload_n C 2 rfl dX0_gatherDifferences_75 ?_
            refine tX_40 C q rfl (by omega) dX0_gatherDifferences_76 ?_
            refine j_aload_n C 3 rfl dX0_gatherDifferences_77 ?_
            refine j_dup C rfl dX0_gatherDifferences_78 ?_
            refine gX_38_5 C tb_283 (z12_I613) rfl dX0_gatherDifferences_79 ?_
            refine j_aload_n C 3 rfl dX0_gatherDifferences_82 ?_
            refine gX_38_1 C tb_279 dX0_gatherDifferences_83 ?_
            refine j_aload_n C 3 rfl dX0_gatherDifferences_86 ?_
            refine gX_38_4 C tb_282 (nI q) rfl dX0_gatherDifferences_87 ?_
            refine rX_39 C q rfl (by omega) ((upd z12_F39 q v4) q) rfl dX0_gatherDifferences_90 ?_
            refine j_iadd C dX0_gatherDifferences_91 ?_
            refine j_top (fun v5 => ?_)
            refine pX_38_5 C tb_283 dX0_gatherDifferences_92 ?_
            refine j_aload_n C 3 rfl dX0_gatherDifferences_95 ?_
            refine j_dup C rfl dX0_gatherDifferences_96 ?_
            refine gX_38_4 C tb_282 (nI q) rfl dX0_gatherDifferences_97 ?_
            refine j_iconst C (nI 1) (by decide) dX0_gatherDifferences_100 ?_
            refine j_iaddN C dX0_gatherDifferences_101 ?_
            refine pX_38_4 C tb_282 dX0_gatherDifferences_102 ?_
            refine j_iinc C (nI (d + 1)) [(2, .int (nI (d + 1))), (4, .int ((σ.2.1 30) (a + d))), (3, .int ((σ.2.1 31) (a + d))), (0, .ref (g 38)), (1, .int (nI a))] 2 rfl (by rw [show Int32.ofInt 1 = nI 1 from by decide, nI_add]) (by decide) rfl dX0_gatherDifferences_105 ?_
            refine j_goto C 12 (by decide) dX0_gatherDifferences_108 ?_
            refine j_sub (lv' := [(2, .int (nI (d + 1))), (0, .ref (g 38)), (1, .int (nI a))]) [0, 3, 4] rfl ?_
            refine j_w (cX g kk (sI (sI (sF (sF σ 39 (upd z12_F39 q v4)) 40 (upd z12_F40 q (nI d))) 612 (nI (q + 1))) 613 v5)) (congrArg (cX g kk) (show sI (sI (sF (sF (sI (sI (sF (sF σ 39 z12_F39) 40 z12_F40) 612 (nI q)) 613 z12_I613) 39 (upd z12_F39 q v4)) 40 (upd z12_F40 q (nI d))) 613 v5) 612 (nI (q + 1)) = sI (sI (sF (sF σ 39 (upd z12_F39 q v4)) 40 (upd z12_F40 q (nI d))) 612 (nI (q + 1))) 613 v5 from (Eq.trans (wrI (Eq.trans (wrI (Eq.trans (wrF (Eq.trans wrFI (wrI (Eq.trans wrFI (wrI (Eq.trans (wrFc (by decide)) (wrF wrFs))))))) (Eq.trans wrFI (wrI (Eq.trans wrFI (wrI wrFs)))))) wrIs)) (Eq.trans (wrIc (by decide)) (wrI wrIs))))) ?_
            exact ih12 (d + 1) (upd z12_F39 q v4) (upd z12_F40 q (nI d)) (q + 1) v5 (by omega) (by omega) (by omega)
  refine j_w (cX g kk (sF (sI (sI σ 612 (nI 0)) 613 (nI 0)) 39 (σ.2.1 39))) (congrArg (cX g kk) (wrFi (S := (sI (sI σ 612 (nI 0)) 613 (nI 0))) (c := 39) (v := σ.2.1 39) (gtFI (gtFI rfl)))) ?_
  refine j_w (cX g kk (sF (sF (sI (sI σ 612 (nI 0)) 613 (nI 0)) 39 (σ.2.1 39)) 40 (σ.2.1 40))) (congrArg (cX g kk) (wrFi (S := (sF (sI (sI σ 612 (nI 0)) 613 (nI 0)) 39 (σ.2.1 39))) (c := 40) (v := σ.2.1 40) (gtFF (by decide) (gtFI (gtFI rfl))))) ?_
  refine j_w (cX g kk (sI (sI (sF (sF σ 39 (σ.2.1 39)) 40 (σ.2.1 40)) 612 (nI 0)) 613 (nI 0))) (congrArg (cX g kk) (show sF (sF (sI (sI σ 612 (nI 0)) 613 (nI 0)) 39 (σ.2.1 39)) 40 (σ.2.1 40) = sI (sI (sF (sF σ 39 (σ.2.1 39)) 40 (σ.2.1 40)) 612 (nI 0)) 613 (nI 0) from (Eq.trans (wrF (Eq.trans wrFI (wrI wrFI))) (Eq.trans wrFI (wrI wrFI))))) ?_
  exact L12 _ 0 (σ.2.1 39) (σ.2.1 40) 0 (nI 0) (by omega) (by omega) (Nat.lt_succ_self _)
set_option maxRecDepth 100000 in
set_option maxHeartbeats 4000000 in
theorem d_apart (g kk : Nat → Nat) (σ : St) (k : Nat) (hk : σ.1 16 = nI k) (hk6 : k ≤ 6) (hI : iX σ)  (a : Int32) (b : Int32) : jM (S := St) yX0_apart cX0_apart 3 (some .int) { frames := 0, cells := 0, slots := 0, locals := 0 } kk (cX g kk σ) [.ref (g 38), .int a, .int b] (cX g kk) (rI (fun (r : Int32) (u : St) => u = σ)) := by
  refine j_entry [(0, .ref (g 38)), (1, .int a), (2, .int b)] (by decide) (Nat.le_of_ble_eq_true rfl) rfl ?_
  intro X C E HI
  refine j_iload_n C 1 rfl dX0_apart_0 ?_
  refine j_aload_n C 0 rfl dX0_apart_1 ?_
  refine gX_38_4 C tb_282 (σ.1 612) rfl dX0_apart_2 ?_
  refine j_iload_n C 2 rfl dX0_apart_5 ?_
  refine j_isub C dX0_apart_6 ?_
  refine j_imul C dX0_apart_7 ?_
  refine j_aload_n C 0 rfl dX0_apart_8 ?_
  refine gX_38_5 C tb_283 (σ.1 613) rfl dX0_apart_9 ?_
  refine j_iload_n C 1 rfl dX0_apart_12 ?_
  refine j_isub C dX0_apart_13 ?_
  refine j_iload_n C 2 rfl dX0_apart_14 ?_
  refine j_imul C dX0_apart_15 ?_
  refine j_isub C dX0_apart_16 ?_
  refine j_top (fun v1 => ?_)
  exact j_iret C E (σ) ⟨_, rfl, rfl⟩ rfl dX0_apart_17
set_option maxRecDepth 100000 in
set_option maxHeartbeats 4000000 in
theorem d_contrast (g kk : Nat → Nat) (σ : St) (k : Nat) (hk : σ.1 16 = nI k) (hk6 : k ≤ 6) (hI : iX σ)  (a : Int32) (b : Int32) : jM (S := St) yX0_contrast cX0_contrast 6 (some .long) { frames := 1, cells := 0, slots := 0, locals := 22 } kk (cX g kk σ) [.ref (g 38), .int a, .int b] (cX g kk) (rL (fun (r : Int64) (u : St) => u = σ)) := by
  refine j_entry [(0, .ref (g 38)), (1, .int a), (2, .int b)] (by decide) (Nat.le_of_ble_eq_true rfl) rfl ?_
  intro X C E HI
  refine j_aload_n C 0 rfl dX0_contrast_0 ?_
  refine j_iload_n C 1 rfl dX0_contrast_1 ?_
  refine j_iload_n C 2 rfl dX0_contrast_2 ?_
  refine j_V1 C (d_apart g kk σ k hk hk6 hI  a b) kyX0_apart tb_665 tb_667 sp_14 38 rfl (eX_38 g kk _) rfl (Nat.le_of_ble_eq_true rfl) ⟨by decide, by decide⟩ dX0_contrast_3 rfl (fun vr ur hp => ?_)
  obtain ⟨r1, rfl, hu⟩ := hp
  replace hu := hu.symm
  subst hu
  refine j_i2l C dX0_contrast_6 ?_
  refine j_lstore_n C [(3, .long r1.toInt64), (0, .ref (g 38)), (1, .int a), (2, .int b)] rfl (by decide) rfl dX0_contrast_7 ?_
  refine j_iload_n C 3 rfl dX0_contrast_8 ?_
  refine j_aload_n C 1 rfl dX0_contrast_9 ?_
  refine gX_38_4 C tb_282 (σ.1 612) rfl dX0_contrast_10 ?_
  refine j_iload_n C 3 rfl dX0_contrast_13 ?_
  refine j_isub C dX0_contrast_14 ?_
  refine j_imul C dX0_contrast_15 ?_
  refine j_istore C [(5, .int (b * ((σ.1 612) - b))), (3, .long r1.toInt64), (0, .ref (g 38)), (1, .int a), (2, .int b)] (by decide) rfl dX0_contrast_16 ?_
  refine j_iload C 0 rfl dX0_contrast_18 ?_
  refine j_if_ne C 27 (by decide) dX0_contrast_20 (fun c2 => ?_) (fun c2 => ?_)
  · refine j_lload_n C 1 rfl dX0_contrast_27 ?_
    refine j_lload_n C 1 rfl dX0_contrast_28 ?_
    refine j_lmul C dX0_contrast_29 ?_
    refine j_iload C 0 rfl dX0_contrast_30 ?_
    refine j_i2l C dX0_contrast_32 ?_
    refine j_ldiv C (by first | decide | assumption | exact nI_ne0 (by omega) (by omega) | exact i64ne (by assumption) | exact i64ne (nI_ne0 (by omega) (by omega))) dX0_contrast_33 ?_
    refine j_topL (fun v3 => ?_)
    exact j_lret C E (σ) ⟨_, rfl, rfl⟩ rfl dX0_contrast_34
  · refine j_lconst C 0 (by decide) dX0_contrast_23 ?_
    refine j_goto C 34 (by decide) dX0_contrast_24 ?_
    exact j_lret C E (σ) ⟨_, rfl, rfl⟩ rfl dX0_contrast_34
set_option maxRecDepth 100000 in
set_option maxHeartbeats 4000000 in
theorem d_find (g kk : Nat → Nat) (σ : St) (k : Nat) (hk : σ.1 16 = nI k) (hk6 : k ≤ 6) (hI : iX σ) (hP : le_ 24 (σ.1 614)) (c : Nat) (hc0 : c < 6) : jM (S := St) yX0_find cX0_find 4 (some .boolean) { frames := 2, cells := 0, slots := 0, locals := 47 } kk (cX g kk σ) [.ref (g 38), .int (nI c)] (cX g kk) (rI (fun (r : Int32) (u : St) => ∃ (pF39 : Nat → Int32) (pF40 : Nat → Int32) (q : Nat) (pI613 : Int32) (p : Nat) (pL615 : Int64), u = sL (sI (sI (sI (sF (sF σ 39 pF39) 40 pF40) 612 (nI q)) 613 pI613) 614 (nI p)) 615 pL615 ∧ (q ≤ 28) ∧ (p ≤ 24) ∧ (r = nI 0 ∨ 8 ≤ q))) := by
  refine j_entry [(0, .ref (g 38)), (1, .int (nI c))] (by decide) (Nat.le_of_ble_eq_true rfl) rfl ?_
  intro X C E HI
  obtain ⟨p0, hp0, ep0⟩ := id hP
  refine j_aload_n C 0 rfl dX0_find_0 ?_
  refine j_iload_n C 1 rfl dX0_find_1 ?_
  refine j_bipush C (nI 28) (by decide) dX0_find_2 ?_
  refine j_imulN C dX0_find_4 ?_
  refine j_V1 C (d_gatherD g kk σ k hk hk6 hI  (c * 28) (by first | assumption | omega)) kyX0_gatherDifferences tb_656 tb_658 sp_12 38 rfl (eX_38 g kk _) rfl (Nat.le_of_ble_eq_true rfl) ⟨by decide, by decide⟩ dX0_find_5 rfl (fun vr ur hp => ?_)
  obtain ⟨rfl, w1, w2, w3, w4, hu, g5⟩ := hp
  replace hu := hu.symm
  subst hu
  refine j_aload_n C 0 rfl dX0_find_8 ?_
  refine gX_38_4 C tb_282 (nI w3) rfl dX0_find_9 ?_
  refine j_bipush C (nI 8) (by decide) dX0_find_12 ?_
  refine j_icmp_geN C 19 (by decide) (by omega) (by omega) dX0_find_14 (fun c6 => ?_) (fun c6 => ?_)
  · refine j_aload_n C 0 rfl dX0_find_19 ?_
    refine j_ldc2 C tb_660 dX0_find_20 ?_
    refine pX_38_7 C tb_285 dX0_find_23 ?_
    refine j_iconst C (nI 0) (by decide) dX0_find_26 ?_
    refine j_istore_n C [(2, .int (nI 0)), (0, .ref (g 38)), (1, .int (nI c))] rfl (by decide) rfl dX0_find_27 ?_
    refine j_iconst C (nI 1) (by decide) dX0_find_28 ?_
    refine j_istore_n C [(3, .int (nI 1)), (2, .int (nI 0)), (0, .ref (g 38)), (1, .int (nI c))] rfl (by decide) rfl dX0_find_29 ?_
    have L30 : ∀ (n30 : Nat) (j : Nat) (y30_2 : Int32) (p : Nat) (z30_L615 : Int64) (i30_0 : 1 ≤ j) (i30_1 : j ≤ 25) (i30_2 : p ≤ 24) (hm30 : 25 - j < n30), J X 0 0 (cX g kk (sL (sI (sI (sI (sF (sF σ 39 w1) 40 w2) 612 (nI w3)) 613 w4) 614 (nI p)) 615 z30_L615)) [(3, .int (nI j)), (2, .int y30_2), (0, .ref (g 38)), (1, .int (nI c))] 30 [] := by
      intro n30
      induction n30 with
      | zero => intro j y30_2 p z30_L615 i30_0 i30_1 i30_2 hm; exact absurd hm (Nat.not_lt_zero _)
      | succ n30 ih30 =>
        intro j y30_2 p z30_L615 i30_0 i30_1 i30_2 hm30
        refine j_iload_n C 0 rfl dX0_find_30 ?_
        refine j_aload_n C 2 rfl dX0_find_31 ?_
        refine gX_38_4 C tb_282 (nI w3) rfl dX0_find_32 ?_
        refine j_iconst C (nI 4) (by decide) dX0_find_35 ?_
        refine j_isubN C (by omega) dX0_find_36 ?_
        refine j_icmp_gtN C 91 (by decide) (by omega) (by omega) dX0_find_37 (fun c7 => ?_) (fun c7 => ?_)
        · refine j_iconst C (nI 1) (by decide) dX0_find_91 ?_
          exact j_zret C E (by first | rfl | decide) (sL (sI (sI (sI (sF (sF σ 39 w1) 40 w2) 612 (nI w3)) 613 w4) 614 (nI p)) 615 z30_L615) ⟨_, rfl, ⟨w1, w2, w3, w4, p, z30_L615, rfl, (by omega), (by omega), (Or.inr (by omega))⟩⟩ rfl dX0_find_92
        · refine j_iload_n C 1 rfl dX0_find_40 ?_
          refine j_aload_n C 2 rfl dX0_find_41 ?_
          refine gX_38_1 C tb_279 dX0_find_42 ?_
          refine j_iload_n C 0 rfl dX0_find_45 ?_
          refine j_iconst C (nI 1) (by decide) dX0_find_46 ?_
          refine j_isubN C (by omega) dX0_find_47 ?_
          refine rX_39 C (j - 1) rfl (by omega) (w1 (j - 1)) rfl dX0_find_48 ?_
          refine j_iadd C dX0_find_49 ?_
          refine j_istore_n C [(2, .int (y30_2 + (w1 (j - 1)))), (3, .int (nI j)), (0, .ref (g 38)), (1, .int (nI c))] rfl (by decide) rfl dX0_find_50 ?_
          refine j_iload_n C 1 rfl dX0_find_51 ?_
          refine j_iconst C (nI 4) (by decide) dX0_find_52 ?_
          refine j_icmp_ltN C 85 (by decide) (by omega) (by omega) dX0_find_53 (fun c8 => ?_) (fun c8 => ?_)
          · refine j_iinc C (nI (j + 1)) [(3, .int (nI (j + 1))), (2, .int (y30_2 + (w1 (j - 1)))), (0, .ref (g 38)), (1, .int (nI c))] 1 rfl (by rw [show Int32.ofInt 1 = nI 1 from by decide, nI_add]) (by decide) rfl dX0_find_85 ?_
            refine j_goto C 30 (by decide) dX0_find_88 ?_
            exact ih30 (j + 1) (y30_2 + (w1 (j - 1))) p z30_L615 (by omega) (by omega) (by omega) (by omega)
          · refine j_aload_n C 2 rfl dX0_find_56 ?_
            refine j_iload_n C 0 rfl dX0_find_57 ?_
            refine j_iload_n C 1 rfl dX0_find_58 ?_
            refine j_V1 C (d_contrast g kk (sL (sI (sI (sI (sF (sF σ 39 w1) 40 w2) 612 (nI w3)) 613 w4) 614 (nI p)) 615 z30_L615) k hk hk6 hI  (y30_2 + (w1 (j - 1))) (nI j)) kyX0_contrast tb_661 tb_663 sp_13 38 rfl (eX_38 g kk _) rfl (Nat.le_of_ble_eq_true rfl) ⟨by decide, by decide⟩ dX0_find_59 rfl (fun vr ur hp => ?_)
            obtain ⟨r9, rfl, hu⟩ := hp
            replace hu := hu.symm
            subst hu
            refine j_aload_n C 2 rfl dX0_find_62 ?_
            refine gX_38_7 C tb_285 (z30_L615) rfl dX0_find_63 ?_
            refine j_lcmp C dX0_find_66 ?_
            refine j_if_le C 85 (by decide) dX0_find_67 (fun c10 => ?_) (fun c10 => ?_)
            · refine j_iinc C (nI (j + 1)) [(3, .int (nI (j + 1))), (2, .int (y30_2 + (w1 (j - 1)))), (0, .ref (g 38)), (1, .int (nI c))] 1 rfl (by rw [show Int32.ofInt 1 = nI 1 from by decide, nI_add]) (by decide) rfl dX0_find_85 ?_
              refine j_goto C 30 (by decide) dX0_find_88 ?_
              exact ih30 (j + 1) (y30_2 + (w1 (j - 1))) p z30_L615 (by omega) (by omega) (by omega) (by omega)
            · refine j_aload_n C 2 rfl dX0_find_70 ?_
              refine j_aload_n C 2 rfl dX0_find_71 ?_
              refine j_iload_n C 0 rfl dX0_find_72 ?_
              refine j_iload_n C 1 rfl dX0_find_73 ?_
              refine j_V1 C (d_contrast g kk (sL (sI (sI (sI (sF (sF σ 39 w1) 40 w2) 612 (nI w3)) 613 w4) 614 (nI p)) 615 z30_L615) k hk hk6 hI  (y30_2 + (w1 (j - 1))) (nI j)) kyX0_contrast tb_661 tb_663 sp_13 38 rfl (eX_38 g kk _) rfl (Nat.le_of_ble_eq_true rfl) ⟨by decide, by decide⟩ dX0_find_74 rfl (fun vr ur hp => ?_)
              obtain ⟨r11, rfl, hu⟩ := hp
              replace hu := hu.symm
              subst hu
              refine pX_38_7 C tb_285 dX0_find_77 ?_
              refine j_aload_n C 2 rfl dX0_find_80 ?_
              refine j_iload_n C 1 rfl dX0_find_81 ?_
              refine pX_38_6 C tb_284 dX0_find_82 ?_
              refine j_iinc C (nI (j + 1)) [(3, .int (nI (j + 1))), (2, .int (y30_2 + (w1 (j - 1)))), (0, .ref (g 38)), (1, .int (nI c))] 1 rfl (by rw [show Int32.ofInt 1 = nI 1 from by decide, nI_add]) (by decide) rfl dX0_find_85 ?_
              refine j_goto C 30 (by decide) dX0_find_88 ?_
              refine j_w (cX g kk (sL (sI (sI (sI (sF (sF σ 39 w1) 40 w2) 612 (nI w3)) 613 w4) 614 (nI j)) 615 r11)) (congrArg (cX g kk) (show sI (sL (sL (sI (sI (sI (sF (sF σ 39 w1) 40 w2) 612 (nI w3)) 613 w4) 614 (nI p)) 615 z30_L615) 615 r11) 614 (nI j) = sL (sI (sI (sI (sF (sF σ 39 w1) 40 w2) 612 (nI w3)) 613 w4) 614 (nI j)) 615 r11 from (Eq.trans (wrI wrLs) (Eq.trans wrIL (wrL wrIs))))) ?_
              exact ih30 (j + 1) (y30_2 + (w1 (j - 1))) j r11 (by omega) (by omega) (by omega) (by omega)
    refine j_w (cX g kk (sI (sL (sI (sI (sF (sF σ 39 w1) 40 w2) 612 (nI w3)) 613 w4) 615 (-1)) 614 (nI p0))) (congrArg (cX g kk) (sI_self (σ := (sL (sI (sI (sF (sF σ 39 w1) 40 w2) 612 (nI w3)) 613 w4) 615 (-1))) (i := 614) (v := nI p0) ep0).symm) ?_
    refine j_w (cX g kk (sL (sI (sI (sI (sF (sF σ 39 w1) 40 w2) 612 (nI w3)) 613 w4) 614 (nI p0)) 615 (-1))) (congrArg (cX g kk) (show sI (sL (sI (sI (sF (sF σ 39 w1) 40 w2) 612 (nI w3)) 613 w4) 615 (-1)) 614 (nI p0) = sL (sI (sI (sI (sF (sF σ 39 w1) 40 w2) 612 (nI w3)) 613 w4) 614 (nI p0)) 615 (-1) from wrIL)) ?_
    exact L30 _ 1 (nI 0) p0 (-1) (by omega) (by omega) (by omega) (Nat.lt_succ_self _)
  · refine j_iconst C (nI 0) (by decide) dX0_find_17 ?_
    refine j_w (cX g kk (sI (sI (sI (sF (sF σ 39 w1) 40 w2) 612 (nI w3)) 613 w4) 614 (nI p0))) (congrArg (cX g kk) (sI_self (σ := (sI (sI (sF (sF σ 39 w1) 40 w2) 612 (nI w3)) 613 w4)) (i := 614) (v := nI p0) ep0).symm) ?_
    refine j_w (cX g kk (sL (sI (sI (sI (sF (sF σ 39 w1) 40 w2) 612 (nI w3)) 613 w4) 614 (nI p0)) 615 (σ.2.2.1 615))) (congrArg (cX g kk) (wrLi (S := (sI (sI (sI (sF (sF σ 39 w1) 40 w2) 612 (nI w3)) 613 w4) 614 (nI p0))) (c := 615) (v := σ.2.2.1 615) (gtLI (gtLI (gtLI (gtLF (gtLF rfl))))))) ?_
    exact j_zret C E (by first | rfl | decide) (sL (sI (sI (sI (sF (sF σ 39 w1) 40 w2) 612 (nI w3)) 613 w4) 614 (nI p0)) 615 (σ.2.2.1 615)) ⟨_, rfl, ⟨w1, w2, w3, w4, p0, (σ.2.2.1 615), rfl, (by omega), (by omega), (Or.inl rfl)⟩⟩ rfl dX0_find_18
set_option maxRecDepth 100000 in
set_option maxHeartbeats 4000000 in
theorem d_fdb (g kk : Nat → Nat) (σ : St) (k : Nat) (hk : σ.1 16 = nI k) (hk6 : k ≤ 6) (hI : iX σ) (p : Nat) (hp : σ.1 614 = nI p) (hpb : p ≤ 24)   : jM (S := St) yX0_firstDayBehind cX0_firstDayBehind 1 (some .int) { frames := 0, cells := 0, slots := 0, locals := 0 } kk (cX g kk σ) [.ref (g 38)] (cX g kk) (rI (fun (r : Int32) (u : St) => u = σ)) := by
  refine j_entry [(0, .ref (g 38))] (by decide) (Nat.le_of_ble_eq_true rfl) rfl ?_
  intro X C E HI
  refine j_aload_n C 0 rfl dX0_firstDayBehind_0 ?_
  refine gX_38_2 C tb_280 dX0_firstDayBehind_1 ?_
  refine j_aload_n C 0 rfl dX0_firstDayBehind_4 ?_
  refine gX_38_6 C tb_284 (nI p) hp dX0_firstDayBehind_5 ?_
  refine rX_40 C p rfl (by omega) ((σ.2.1 40) p) rfl dX0_firstDayBehind_8 ?_
  exact j_iret C E (σ) ⟨_, rfl, rfl⟩ rfl dX0_firstDayBehind_9
set_option maxRecDepth 100000 in
set_option maxHeartbeats 4000000 in
theorem d_step (g kk : Nat → Nat) (σ : St) (k : Nat) (hk : σ.1 16 = nI k) (hk6 : k ≤ 6) (hI : iX σ) (p : Nat) (hp : σ.1 614 = nI p) (hpb : p ≤ 24)   : jM (S := St) yX0_step cX0_step 3 (some .int) { frames := 1, cells := 0, slots := 0, locals := 22 } kk (cX g kk σ) [.ref (g 38)] (cX g kk) (rI (fun (r : Int32) (u : St) => u = σ)) := by
  refine j_entry [(0, .ref (g 38))] (by decide) (Nat.le_of_ble_eq_true rfl) rfl ?_
  intro X C E HI
  refine j_iconst C (nI 0) (by decide) dX0_step_0 ?_
  refine j_istore_n C [(1, .int (nI 0)), (0, .ref (g 38))] rfl (by decide) rfl dX0_step_1 ?_
  refine j_iconst C (nI 0) (by decide) dX0_step_2 ?_
  refine j_istore_n C [(2, .int (nI 0)), (1, .int (nI 0)), (0, .ref (g 38))] rfl (by decide) rfl dX0_step_3 ?_
  have L4 : ∀ (n4 : Nat) (i : Nat) (y4_1 : Int32) (i4_0 : i ≤ p) (hm4 : p - i < n4), J X 0 0 (cX g kk σ) [(2, .int (nI i)), (1, .int y4_1), (0, .ref (g 38))] 4 [] := by
    intro n4
    induction n4 with
    | zero => intro i y4_1 i4_0 hm; exact absurd hm (Nat.not_lt_zero _)
    | succ n4 ih4 =>
      intro i y4_1 i4_0 hm4
      refine j_iload_n C 0 rfl dX0_step_4 ?_
      refine j_aload_n C 2 rfl dX0_step_5 ?_
      refine gX_38_6 C tb_284 (nI p) hp dX0_step_6 ?_
      refine j_icmp_geN C 27 (by decide) (by omega) (by omega) dX0_step_9 (fun c1 => ?_) (fun c1 => ?_)
      · refine j_aload_n C 2 rfl dX0_step_27 ?_
        refine gX_38_6 C tb_284 (nI p) hp dX0_step_28 ?_
        refine j_aload_n C 2 rfl dX0_step_31 ?_
        refine gX_38_4 C tb_282 (σ.1 612) rfl dX0_step_32 ?_
        refine j_aload_n C 2 rfl dX0_step_35 ?_
        refine gX_38_6 C tb_284 (nI p) hp dX0_step_36 ?_
        refine j_isub C dX0_step_39 ?_
        refine j_imul C dX0_step_40 ?_
        refine j_istore_n C [(2, .int ((nI p) * ((σ.1 612) - (nI p)))), (1, .int y4_1), (0, .ref (g 38))] rfl (by decide) rfl dX0_step_41 ?_
        refine j_iload_n C 0 rfl dX0_step_42 ?_
        refine j_if_ne C 50 (by decide) dX0_step_43 (fun c2 => ?_) (fun c2 => ?_)
        · refine j_aload_n C 2 rfl dX0_step_50 ?_
          refine j_iload_n C 1 rfl dX0_step_51 ?_
          refine j_aload_n C 2 rfl dX0_step_52 ?_
          refine gX_38_6 C tb_284 (nI p) hp dX0_step_53 ?_
          refine j_V1 C (d_apart g kk σ k hk hk6 hI  y4_1 (nI p)) kyX0_apart tb_665 tb_667 sp_14 38 rfl (eX_38 g kk _) rfl (Nat.le_of_ble_eq_true rfl) ⟨by decide, by decide⟩ dX0_step_56 rfl (fun vr ur hp => ?_)
          obtain ⟨r3, rfl, hu⟩ := hp
          replace hu := hu.symm
          subst hu
          refine j_ineg C dX0_step_59 ?_
          refine j_iload_n C 0 rfl dX0_step_60 ?_
          refine j_idiv C (by first | decide | assumption | exact nI_ne0 (by omega) (by omega) | exact i64ne (by assumption) | exact i64ne (nI_ne0 (by omega) (by omega))) dX0_step_61 ?_
          refine j_top (fun v4 => ?_)
          exact j_iret C E (σ) ⟨_, rfl, rfl⟩ rfl dX0_step_62
        · refine j_iconst C (nI 0) (by decide) dX0_step_46 ?_
          refine j_goto C 62 (by decide) dX0_step_47 ?_
          exact j_iret C E (σ) ⟨_, rfl, rfl⟩ rfl dX0_step_62
      · refine j_iload_n C 1 rfl dX0_step_12 ?_
        refine j_aload_n C 2 rfl dX0_step_13 ?_
        refine gX_38_1 C tb_279 dX0_step_14 ?_
        refine j_iload_n C 0 rfl dX0_step_17 ?_
        refine rX_39 C i rfl (by omega) ((σ.2.1 39) i) rfl dX0_step_18 ?_
        refine j_iadd C dX0_step_19 ?_
        refine j_istore_n C [(1, .int (y4_1 + ((σ.2.1 39) i))), (2, .int (nI i)), (0, .ref (g 38))] rfl (by decide) rfl dX0_step_20 ?_
        refine j_iinc C (nI (i + 1)) [(2, .int (nI (i + 1))), (1, .int (y4_1 + ((σ.2.1 39) i))), (0, .ref (g 38))] 1 rfl (by rw [show Int32.ofInt 1 = nI 1 from by decide, nI_add]) (by decide) rfl dX0_step_21 ?_
        refine j_goto C 4 (by decide) dX0_step_24 ?_
        exact ih4 (i + 1) (y4_1 + ((σ.2.1 39) i)) (by omega) (by omega)
  exact L4 _ 0 (nI 0) (by omega) (Nat.lt_succ_self _)
set_option maxRecDepth 100000 in
set_option maxHeartbeats 4000000 in
theorem d_mix (g kk : Nat → Nat) (σ : St) (k : Nat) (hk : σ.1 16 = nI k) (hk6 : k ≤ 6) (hI : iX σ) (q : Nat) (hq : σ.1 612 = nI q) (hqb : 8 ≤ q ∧ q ≤ 28) (s : Nat) (hs : σ.1 616 = nI s) (hsb : s ≤ 65536)   : jM (S := St) yX0_mix cX0_mix 4 none { frames := 0, cells := 0, slots := 0, locals := 0 } kk (cX g kk σ) [.ref (g 38)] (cX g kk) (rV (fun u : St => ∃ (pF41 : Nat → Int32) (s2 : Nat), u = sI (sF σ 41 pF41) 616 (nI s2) ∧ (s2 ≤ 65536))) := by
  refine j_entry [(0, .ref (g 38))] (by decide) (Nat.le_of_ble_eq_true rfl) rfl ?_
  intro X C E HI
  refine j_aload_n C 0 rfl dX0_mix_0 ?_
  refine gX_38_4 C tb_282 (nI q) hq dX0_mix_1 ?_
  refine j_iconst C (nI 1) (by decide) dX0_mix_4 ?_
  refine j_isubN C (by omega) dX0_mix_5 ?_
  refine j_istore_n C [(1, .int (nI (q - 1))), (0, .ref (g 38))] rfl (by decide) rfl dX0_mix_6 ?_
  have L7 : ∀ (n7 : Nat) (i : Nat) (z7_F41 : Nat → Int32) (s1 : Nat) (i7_0 : i ≤ 27) (i7_1 : s1 ≤ 65536) (hm7 : i < n7), J X 0 0 (cX g kk (sI (sF σ 41 z7_F41) 616 (nI s1))) [(1, .int (nI i)), (0, .ref (g 38))] 7 [] := by
    intro n7
    induction n7 with
    | zero => intro i z7_F41 s1 i7_0 i7_1 hm; exact absurd hm (Nat.not_lt_zero _)
    | succ n7 ih7 =>
      intro i z7_F41 s1 i7_0 i7_1 hm7
      refine j_iload_n C 0 rfl dX0_mix_7 ?_
      refine j_iconst C (nI 1) (by decide) dX0_mix_8 ?_
      refine j_icmp_ltN C 70 (by decide) (by omega) (by omega) dX0_mix_9 (fun c1 => ?_) (fun c1 => ?_)
      · exact j_vret C E (sI (sF σ 41 z7_F41) 616 (nI s1)) ⟨rfl, ⟨z7_F41, s1, rfl, (by omega)⟩⟩ rfl dX0_mix_70
      · refine j_aload_n C 1 rfl dX0_mix_12 ?_
        refine j_aload_n C 1 rfl dX0_mix_13 ?_
        refine gX_38_8 C tb_286 (nI s1) rfl dX0_mix_14 ?_
        refine j_bipush C (nI 75) (by decide) dX0_mix_17 ?_
        refine j_imulN C dX0_mix_19 ?_
        refine j_bipush C (nI 74) (by decide) dX0_mix_20 ?_
        refine j_iaddN C dX0_mix_22 ?_
        refine j_ldc (v := nI 65537) C tb_691 dX0_mix_23 ?_
        refine j_iremN C (by omega) (by omega) (by omega) dX0_mix_25 ?_
        refine pX_38_8 C tb_286 dX0_mix_26 ?_
        refine j_aload_n C 1 rfl dX0_mix_29 ?_
        refine gX_38_8 C tb_286 (nI (((s1 * 75) + 74) % 65537)) rfl dX0_mix_30 ?_
        refine j_iload_n C 0 rfl dX0_mix_33 ?_
        refine j_iconst C (nI 1) (by decide) dX0_mix_34 ?_
        refine j_iaddN C dX0_mix_35 ?_
        have hq2 := Nat.mod_lt (((s1 * 75) + 74) % 65537) (show 0 < (i + 1) by omega)
        refine j_iremN C (by omega) (by omega) (by omega) dX0_mix_36 ?_
        refine j_istore_n C [(2, .int (nI ((((s1 * 75) + 74) % 65537) % (i + 1)))), (1, .int (nI i)), (0, .ref (g 38))] rfl (by decide) rfl dX0_mix_37 ?_
        refine j_aload_n C 2 rfl dX0_mix_38 ?_
        refine gX_38_3 C tb_281 dX0_mix_39 ?_
        refine j_iload_n C 1 rfl dX0_mix_42 ?_
        refine rX_41 C i rfl (by omega) (z7_F41 i) rfl dX0_mix_43 ?_
        refine j_istore_n C [(3, .int (z7_F41 i)), (2, .int (nI ((((s1 * 75) + 74) % 65537) % (i + 1)))), (1, .int (nI i)), (0, .ref (g 38))] rfl (by decide) rfl dX0_mix_44 ?_
        refine j_aload_n C 3 rfl dX0_mix_45 ?_
        refine gX_38_3 C tb_281 dX0_mix_46 ?_
        refine j_iload_n C 2 rfl dX0_mix_49 ?_
        refine j_aload_n C 3 rfl dX0_mix_50 ?_
        refine gX_38_3 C tb_281 dX0_mix_51 ?_
        refine j_iload_n C 1 rfl dX0_mix_54 ?_
        refine rX_41 C ((((s1 * 75) + 74) % 65537) % (i + 1)) rfl (by omega) (z7_F41 ((((s1 * 75) + 74) % 65537) % (i + 1))) rfl dX0_mix_55 ?_
        refine j_top (fun v3 => ?_)
        refine tX_41 C i rfl (by omega) dX0_mix_56 ?_
        refine j_aload_n C 3 rfl dX0_mix_57 ?_
        refine gX_38_3 C tb_281 dX0_mix_58 ?_
        refine j_iload_n C 1 rfl dX0_mix_61 ?_
        refine j_iload_n C 0 rfl dX0_mix_62 ?_
        refine tX_41 C ((((s1 * 75) + 74) % 65537) % (i + 1)) rfl (by omega) dX0_mix_63 ?_
        refine j_iinc C (nI (i - 1)) [(1, .int (nI (i - 1))), (3, .int (z7_F41 i)), (2, .int (nI ((((s1 * 75) + 74) % 65537) % (i + 1)))), (0, .ref (g 38))] 2 rfl (nI_dec (by omega)) (by decide) rfl dX0_mix_64 ?_
        refine j_goto C 7 (by decide) dX0_mix_67 ?_
        refine j_sub (lv' := [(1, .int (nI (i - 1))), (0, .ref (g 38))]) [0, 3] rfl ?_
        refine j_w (cX g kk (sI (sF σ 41 (upd (upd z7_F41 i v3) ((((s1 * 75) + 74) % 65537) % (i + 1)) (z7_F41 i))) 616 (nI (((s1 * 75) + 74) % 65537)))) (congrArg (cX g kk) (show sF (sF (sI (sI (sF σ 41 z7_F41) 616 (nI s1)) 616 (nI (((s1 * 75) + 74) % 65537))) 41 (upd z7_F41 i v3)) 41 (upd (upd z7_F41 i v3) ((((s1 * 75) + 74) % 65537) % (i + 1)) (z7_F41 i)) = sI (sF σ 41 (upd (upd z7_F41 i v3) ((((s1 * 75) + 74) % 65537) % (i + 1)) (z7_F41 i))) 616 (nI (((s1 * 75) + 74) % 65537)) from (Eq.trans (wrF (Eq.trans (wrF wrIs) (Eq.trans wrFI (wrI wrFs)))) (Eq.trans wrFI (wrI wrFs))))) ?_
        exact ih7 (i - 1) (upd (upd z7_F41 i v3) ((((s1 * 75) + 74) % 65537) % (i + 1)) (z7_F41 i)) (((s1 * 75) + 74) % 65537) (by omega) (by omega) (by omega)
  refine j_w (cX g kk (sI σ 616 (nI s))) (congrArg (cX g kk) (sI_self (σ := σ) (i := 616) (v := nI s) hs).symm) ?_
  refine j_w (cX g kk (sF (sI σ 616 (nI s)) 41 (σ.2.1 41))) (congrArg (cX g kk) (wrFi (S := (sI σ 616 (nI s))) (c := 41) (v := σ.2.1 41) (gtFI rfl))) ?_
  refine j_w (cX g kk (sI (sF σ 41 (σ.2.1 41)) 616 (nI s))) (congrArg (cX g kk) (show sF (sI σ 616 (nI s)) 41 (σ.2.1 41) = sI (sF σ 41 (σ.2.1 41)) 616 (nI s) from wrFI)) ?_
  exact L7 _ (q - 1) (σ.2.1 41) s (by omega) (by omega) (Nat.lt_succ_self _)
set_option maxRecDepth 100000 in
set_option maxHeartbeats 4000000 in
theorem d_isAsGreat (g kk : Nat → Nat) (σ : St) (k : Nat) (hk : σ.1 16 = nI k) (hk6 : k ≤ 6) (hI : iX σ) (q : Nat) (hq : σ.1 612 = nI q) (hqb : 8 ≤ q ∧ q ≤ 28)   : jM (S := St) yX0_isAsGreat cX0_isAsGreat 3 (some .boolean) { frames := 2, cells := 0, slots := 0, locals := 47 } kk (cX g kk σ) [.ref (g 38)] (cX g kk) (rI (fun (r : Int32) (u : St) => u = σ)) := by
  refine j_entry [(0, .ref (g 38))] (by decide) (Nat.le_of_ble_eq_true rfl) rfl ?_
  intro X C E HI
  refine j_iconst C (nI 0) (by decide) dX0_isAsGreat_0 ?_
  refine j_istore_n C [(1, .int (nI 0)), (0, .ref (g 38))] rfl (by decide) rfl dX0_isAsGreat_1 ?_
  refine j_iconst C (nI 1) (by decide) dX0_isAsGreat_2 ?_
  refine j_istore_n C [(2, .int (nI 1)), (1, .int (nI 0)), (0, .ref (g 38))] rfl (by decide) rfl dX0_isAsGreat_3 ?_
  have L4 : ∀ (n4 : Nat) (j : Nat) (y4_1 : Int32) (i4_0 : 1 ≤ j) (i4_1 : j ≤ 25) (hm4 : 25 - j < n4), J X 0 0 (cX g kk σ) [(2, .int (nI j)), (1, .int y4_1), (0, .ref (g 38))] 4 [] := by
    intro n4
    induction n4 with
    | zero => intro j y4_1 i4_0 i4_1 hm; exact absurd hm (Nat.not_lt_zero _)
    | succ n4 ih4 =>
      intro j y4_1 i4_0 i4_1 hm4
      refine j_iload_n C 0 rfl dX0_isAsGreat_4 ?_
      refine j_aload_n C 2 rfl dX0_isAsGreat_5 ?_
      refine gX_38_4 C tb_282 (nI q) hq dX0_isAsGreat_6 ?_
      refine j_iconst C (nI 4) (by decide) dX0_isAsGreat_9 ?_
      refine j_isubN C (by omega) dX0_isAsGreat_10 ?_
      refine j_icmp_gtN C 52 (by decide) (by omega) (by omega) dX0_isAsGreat_11 (fun c1 => ?_) (fun c1 => ?_)
      · refine j_iconst C (nI 0) (by decide) dX0_isAsGreat_52 ?_
        exact j_zret C E (by first | rfl | decide) (σ) ⟨_, rfl, rfl⟩ rfl dX0_isAsGreat_53
      · refine j_iload_n C 1 rfl dX0_isAsGreat_14 ?_
        refine j_aload_n C 2 rfl dX0_isAsGreat_15 ?_
        refine gX_38_3 C tb_281 dX0_isAsGreat_16 ?_
        refine j_iload_n C 0 rfl dX0_isAsGreat_19 ?_
        refine j_iconst C (nI 1) (by decide) dX0_isAsGreat_20 ?_
        refine j_isubN C (by omega) dX0_isAsGreat_21 ?_
        refine rX_41 C (j - 1) rfl (by omega) ((σ.2.1 41) (j - 1)) rfl dX0_isAsGreat_22 ?_
        refine j_iadd C dX0_isAsGreat_23 ?_
        refine j_istore_n C [(1, .int (y4_1 + ((σ.2.1 41) (j - 1)))), (2, .int (nI j)), (0, .ref (g 38))] rfl (by decide) rfl dX0_isAsGreat_24 ?_
        refine j_iload_n C 1 rfl dX0_isAsGreat_25 ?_
        refine j_iconst C (nI 4) (by decide) dX0_isAsGreat_26 ?_
        refine j_icmp_ltN C 46 (by decide) (by omega) (by omega) dX0_isAsGreat_27 (fun c2 => ?_) (fun c2 => ?_)
        · refine j_iinc C (nI (j + 1)) [(2, .int (nI (j + 1))), (1, .int (y4_1 + ((σ.2.1 41) (j - 1)))), (0, .ref (g 38))] 1 rfl (by rw [show Int32.ofInt 1 = nI 1 from by decide, nI_add]) (by decide) rfl dX0_isAsGreat_46 ?_
          refine j_goto C 4 (by decide) dX0_isAsGreat_49 ?_
          exact ih4 (j + 1) (y4_1 + ((σ.2.1 41) (j - 1))) (by omega) (by omega) (by omega)
        · refine j_aload_n C 2 rfl dX0_isAsGreat_30 ?_
          refine j_iload_n C 0 rfl dX0_isAsGreat_31 ?_
          refine j_iload_n C 1 rfl dX0_isAsGreat_32 ?_
          refine j_V1 C (d_contrast g kk σ k hk hk6 hI  (y4_1 + ((σ.2.1 41) (j - 1))) (nI j)) kyX0_contrast tb_661 tb_663 sp_13 38 rfl (eX_38 g kk _) rfl (Nat.le_of_ble_eq_true rfl) ⟨by decide, by decide⟩ dX0_isAsGreat_33 rfl (fun vr ur hp => ?_)
          obtain ⟨r3, rfl, hu⟩ := hp
          replace hu := hu.symm
          subst hu
          refine j_aload_n C 2 rfl dX0_isAsGreat_36 ?_
          refine gX_38_7 C tb_285 (σ.2.2.1 615) rfl dX0_isAsGreat_37 ?_
          refine j_lcmp C dX0_isAsGreat_40 ?_
          refine j_if_lt C 46 (by decide) dX0_isAsGreat_41 (fun c4 => ?_) (fun c4 => ?_)
          · refine j_iinc C (nI (j + 1)) [(2, .int (nI (j + 1))), (1, .int (y4_1 + ((σ.2.1 41) (j - 1)))), (0, .ref (g 38))] 1 rfl (by rw [show Int32.ofInt 1 = nI 1 from by decide, nI_add]) (by decide) rfl dX0_isAsGreat_46 ?_
            refine j_goto C 4 (by decide) dX0_isAsGreat_49 ?_
            exact ih4 (j + 1) (y4_1 + ((σ.2.1 41) (j - 1))) (by omega) (by omega) (by omega)
          · refine j_iconst C (nI 1) (by decide) dX0_isAsGreat_44 ?_
            exact j_zret C E (by first | rfl | decide) (σ) ⟨_, rfl, rfl⟩ rfl dX0_isAsGreat_45
  exact L4 _ 1 (nI 0) (by omega) (by omega) (Nat.lt_succ_self _)
set_option maxRecDepth 100000 in
set_option maxHeartbeats 4000000 in
theorem d_shuffled (g kk : Nat → Nat) (σ : St) (k : Nat) (hk : σ.1 16 = nI k) (hk6 : k ≤ 6) (hI : iX σ) (q : Nat) (hq : σ.1 612 = nI q) (hqb : 8 ≤ q ∧ q ≤ 28)  (s0 : Nat) (hs00 : s0 ≤ 9999) : jM (S := St) yX0_shuffledAsGreat cX0_shuffledAsGreat 4 (some .int) { frames := 3, cells := 0, slots := 0, locals := 69 } kk (cX g kk σ) [.ref (g 38), .int (nI s0)] (cX g kk) (rI (fun (r : Int32) (u : St) => ∃ (pF41 : Nat → Int32) (pI616 : Int32), u = sI (sF σ 41 pF41) 616 pI616)) := by
  refine j_entry [(0, .ref (g 38)), (1, .int (nI s0))] (by decide) (Nat.le_of_ble_eq_true rfl) rfl ?_
  intro X C E HI
  refine j_aload_n C 0 rfl dX0_shuffledAsGreat_0 ?_
  refine gX_38_1 C tb_279 dX0_shuffledAsGreat_1 ?_
  refine j_iconst C (nI 0) (by decide) dX0_shuffledAsGreat_4 ?_
  refine j_aload_n C 0 rfl dX0_shuffledAsGreat_5 ?_
  refine gX_38_3 C tb_281 dX0_shuffledAsGreat_6 ?_
  refine j_iconst C (nI 0) (by decide) dX0_shuffledAsGreat_9 ?_
  refine j_aload_n C 0 rfl dX0_shuffledAsGreat_10 ?_
  refine gX_38_4 C tb_282 (nI q) hq dX0_shuffledAsGreat_11 ?_
  refine j_copy C tb_686 tb_96 tb_95 tb_6 39 41 rfl rfl 0 0 q rfl rfl rfl (by omega) (by omega) (by decide) (by decide) (by decide) (Nat.le_of_ble_eq_true rfl) (w' := (cX g kk (sF σ 41 (va_cpy (σ.2.1 39) (σ.2.1 41) 0 0 q)))) rfl dX0_shuffledAsGreat_14 ?_
  refine j_aload_n C 0 rfl dX0_shuffledAsGreat_17 ?_
  refine j_iload_n C 1 rfl dX0_shuffledAsGreat_18 ?_
  refine pX_38_8 C tb_286 dX0_shuffledAsGreat_19 ?_
  refine j_iconst C (nI 0) (by decide) dX0_shuffledAsGreat_22 ?_
  refine j_istore_n C [(2, .int (nI 0)), (0, .ref (g 38)), (1, .int (nI s0))] rfl (by decide) rfl dX0_shuffledAsGreat_23 ?_
  refine j_iconst C (nI 0) (by decide) dX0_shuffledAsGreat_24 ?_
  refine j_istore_n C [(3, .int (nI 0)), (2, .int (nI 0)), (0, .ref (g 38)), (1, .int (nI s0))] rfl (by decide) rfl dX0_shuffledAsGreat_25 ?_
  have L26 : ∀ (n26 : Nat) (n : Nat) (y26_2 : Int32) (z26_F41 : Nat → Int32) (s : Nat) (i26_0 : n ≤ 99) (i26_1 : s ≤ 65536) (hm26 : 99 - n < n26), J X 0 0 (cX g kk (sI (sF σ 41 z26_F41) 616 (nI s))) [(3, .int (nI n)), (2, .int y26_2), (0, .ref (g 38)), (1, .int (nI s0))] 26 [] := by
    intro n26
    induction n26 with
    | zero => intro n y26_2 z26_F41 s i26_0 i26_1 hm; exact absurd hm (Nat.not_lt_zero _)
    | succ n26 ih26 =>
      intro n y26_2 z26_F41 s i26_0 i26_1 hm26
      refine j_iload_n C 0 rfl dX0_shuffledAsGreat_26 ?_
      refine j_bipush C (nI 99) (by decide) dX0_shuffledAsGreat_27 ?_
      refine j_icmp_geN C 52 (by decide) (by omega) (by omega) dX0_shuffledAsGreat_29 (fun c1 => ?_) (fun c1 => ?_)
      · refine j_iload_n C 1 rfl dX0_shuffledAsGreat_52 ?_
        exact j_iret C E (sI (sF σ 41 z26_F41) 616 (nI s)) ⟨_, rfl, ⟨z26_F41, (nI s), rfl⟩⟩ rfl dX0_shuffledAsGreat_53
      · refine j_aload_n C 2 rfl dX0_shuffledAsGreat_32 ?_
        refine j_V1 C (d_mix g kk (sI (sF σ 41 z26_F41) 616 (nI s)) k hk hk6 hI q hq (by omega) s rfl (by omega)  ) kyX0_mix tb_687 tb_689 sp_15 38 rfl (eX_38 g kk _) rfl (Nat.le_of_ble_eq_true rfl) ⟨by decide, by decide⟩ dX0_shuffledAsGreat_33 rfl (fun vr ur hp => ?_)
        obtain ⟨rfl, w2, w3, hu, g4⟩ := hp
        replace hu := hu.symm
        subst hu
        refine j_aload_n C 2 rfl dX0_shuffledAsGreat_36 ?_
        refine j_V1 C (d_isAsGreat g kk (sI (sF (sI (sF σ 41 z26_F41) 616 (nI s)) 41 w2) 616 (nI w3)) k hk hk6 hI q hq (by omega)  ) kyX0_isAsGreat tb_692 tb_694 sp_16 38 rfl (eX_38 g kk _) rfl (Nat.le_of_ble_eq_true rfl) ⟨by decide, by decide⟩ dX0_shuffledAsGreat_37 rfl (fun vr ur hp => ?_)
        obtain ⟨r5, rfl, hu⟩ := hp
        replace hu := hu.symm
        subst hu
        refine j_if_eq C 46 (by decide) dX0_shuffledAsGreat_40 (fun c6 => ?_) (fun c6 => ?_)
        · refine j_iinc C (nI (n + 1)) [(3, .int (nI (n + 1))), (2, .int y26_2), (0, .ref (g 38)), (1, .int (nI s0))] 0 rfl (by rw [show Int32.ofInt 1 = nI 1 from by decide, nI_add]) (by decide) rfl dX0_shuffledAsGreat_46 ?_
          refine j_goto C 26 (by decide) dX0_shuffledAsGreat_49 ?_
          refine j_w (cX g kk (sI (sF σ 41 w2) 616 (nI w3))) (congrArg (cX g kk) (show sI (sF (sI (sF σ 41 z26_F41) 616 (nI s)) 41 w2) 616 (nI w3) = sI (sF σ 41 w2) 616 (nI w3) from (Eq.trans (wrI (Eq.trans wrFI (wrI wrFs))) wrIs))) ?_
          exact ih26 (n + 1) y26_2 w2 w3 (by omega) (by omega) (by omega)
        · refine j_iinc C (y26_2 + (1)) [(2, .int (y26_2 + (1))), (3, .int (nI n)), (0, .ref (g 38)), (1, .int (nI s0))] 1 rfl (by rw [show Int32.ofInt (1) = (1) from by decide]) (by decide) rfl dX0_shuffledAsGreat_43 ?_
          refine j_iinc C (nI (n + 1)) [(3, .int (nI (n + 1))), (2, .int (y26_2 + (1))), (0, .ref (g 38)), (1, .int (nI s0))] 1 rfl (by rw [show Int32.ofInt 1 = nI 1 from by decide, nI_add]) (by decide) rfl dX0_shuffledAsGreat_46 ?_
          refine j_goto C 26 (by decide) dX0_shuffledAsGreat_49 ?_
          refine j_w (cX g kk (sI (sF σ 41 w2) 616 (nI w3))) (congrArg (cX g kk) (show sI (sF (sI (sF σ 41 z26_F41) 616 (nI s)) 41 w2) 616 (nI w3) = sI (sF σ 41 w2) 616 (nI w3) from (Eq.trans (wrI (Eq.trans wrFI (wrI wrFs))) wrIs))) ?_
          exact ih26 (n + 1) (y26_2 + (1)) w2 w3 (by omega) (by omega) (by omega)
  exact L26 _ 0 (nI 0) (va_cpy (σ.2.1 39) (σ.2.1 41) 0 0 q) s0 (by omega) (by omega) (Nat.lt_succ_self _)
set_option maxRecDepth 100000 in
set_option maxHeartbeats 4000000 in
theorem d_addAnchor (g kk : Nat → Nat) (σ : St) (k : Nat) (hk : σ.1 16 = nI k) (hk6 : k ≤ 6) (hI : iX σ) (q : Nat) (hq : σ.1 678 = nI q) (hqb : q < 12)  (a : Int32) (b : Int32) (c : Int32) (d : Int32) : jM (S := St) yX4_addAnchor cX4_addAnchor 5 none { frames := 0, cells := 0, slots := 0, locals := 0 } kk (cX g kk σ) [.ref (g 42), .int a, .int b, .int c, .int d] (cX g kk) (rV (fun u : St => ∃ (pF43 : Nat → Int32) (pF44 : Nat → Int32) (pF45 : Nat → Int32) (pF46 : Nat → Int32) (q1 : Nat), u = sI (sF (sF (sF (sF σ 43 pF43) 44 pF44) 45 pF45) 46 pF46) 678 (nI q1) ∧ (q1 = q + 1))) := by
  refine j_entry [(0, .ref (g 42)), (1, .int a), (2, .int b), (3, .int c), (4, .int d)] (by decide) (Nat.le_of_ble_eq_true rfl) rfl ?_
  intro X C E HI
  refine j_aload_n C 0 rfl dX4_addAnchor_0 ?_
  refine gX_42_2 C tb_314 dX4_addAnchor_1 ?_
  refine j_aload_n C 0 rfl dX4_addAnchor_4 ?_
  refine gX_42_6 C tb_318 (nI q) hq dX4_addAnchor_5 ?_
  refine j_iload_n C 1 rfl dX4_addAnchor_8 ?_
  refine tX_43 C q rfl (by omega) dX4_addAnchor_9 ?_
  refine j_aload_n C 0 rfl dX4_addAnchor_10 ?_
  refine gX_42_3 C tb_315 dX4_addAnchor_11 ?_
  refine j_aload_n C 0 rfl dX4_addAnchor_14 ?_
  refine gX_42_6 C tb_318 (nI q) hq dX4_addAnchor_15 ?_
  refine j_iload_n C 2 rfl dX4_addAnchor_18 ?_
  refine tX_44 C q rfl (by omega) dX4_addAnchor_19 ?_
  refine j_aload_n C 0 rfl dX4_addAnchor_20 ?_
  refine gX_42_4 C tb_316 dX4_addAnchor_21 ?_
  refine j_aload_n C 0 rfl dX4_addAnchor_24 ?_
  refine gX_42_6 C tb_318 (nI q) hq dX4_addAnchor_25 ?_
  refine j_iload_n C 3 rfl dX4_addAnchor_28 ?_
  refine tX_45 C q rfl (by omega) dX4_addAnchor_29 ?_
  refine j_aload_n C 0 rfl dX4_addAnchor_30 ?_
  refine gX_42_5 C tb_317 dX4_addAnchor_31 ?_
  refine j_aload_n C 0 rfl dX4_addAnchor_34 ?_
  refine gX_42_6 C tb_318 (nI q) hq dX4_addAnchor_35 ?_
  refine j_iload C 4 rfl dX4_addAnchor_38 ?_
  refine tX_46 C q rfl (by omega) dX4_addAnchor_40 ?_
  refine j_aload_n C 0 rfl dX4_addAnchor_41 ?_
  refine j_dup C rfl dX4_addAnchor_42 ?_
  refine gX_42_6 C tb_318 (nI q) hq dX4_addAnchor_43 ?_
  refine j_iconst C (nI 1) (by decide) dX4_addAnchor_46 ?_
  refine j_iaddN C dX4_addAnchor_47 ?_
  refine pX_42_6 C tb_318 dX4_addAnchor_48 ?_
  exact j_vret C E (sI (sF (sF (sF (sF σ 43 (upd (σ.2.1 43) q a)) 44 (upd (σ.2.1 44) q b)) 45 (upd (σ.2.1 45) q c)) 46 (upd (σ.2.1 46) q d)) 678 (nI (q + 1))) ⟨rfl, ⟨(upd (σ.2.1 43) q a), (upd (σ.2.1 44) q b), (upd (σ.2.1 45) q c), (upd (σ.2.1 46) q d), (q + 1), rfl, rfl⟩⟩ rfl dX4_addAnchor_51
set_option maxRecDepth 100000 in
set_option maxHeartbeats 4000000 in
theorem d_gather (g kk : Nat → Nat) (σ : St) (k : Nat) (hk : σ.1 16 = nI k) (hk6 : k ≤ 6) (hI : iX σ)  (d : Nat) (hd0 : d < 28) : jM (S := St) yX4_gather cX4_gather 4 none { frames := 1, cells := 0, slots := 0, locals := 24 } kk (cX g kk σ) [.ref (g 42), .int (nI d)] (cX g kk) (rV (fun u : St => ∃ (pF43 : Nat → Int32) (pF44 : Nat → Int32) (pF45 : Nat → Int32) (pF46 : Nat → Int32) (q : Nat), u = sI (sF (sF (sF (sF σ 43 pF43) 44 pF44) 45 pF45) 46 pF46) 678 (nI q) ∧ (q ≤ 12))) := by
  refine j_entry [(0, .ref (g 42)), (1, .int (nI d))] (by decide) (Nat.le_of_ble_eq_true rfl) rfl ?_
  intro X C E HI
  refine j_aload_n C 0 rfl dX4_gather_0 ?_
  refine j_iconst C (nI 0) (by decide) dX4_gather_1 ?_
  refine pX_42_6 C tb_318 dX4_gather_2 ?_
  refine j_iconst C (nI 0) (by decide) dX4_gather_5 ?_
  refine j_istore_n C [(2, .int (nI 0)), (0, .ref (g 42)), (1, .int (nI d))] rfl (by decide) rfl dX4_gather_6 ?_
  have L7 : ∀ (n7 : Nat) (a : Nat) (z7_F43 : Nat → Int32) (z7_F44 : Nat → Int32) (z7_F45 : Nat → Int32) (z7_F46 : Nat → Int32) (q : Nat) (i7_0 : a ≤ k) (i7_1 : q ≤ a) (hm7 : k - a < n7), J X 0 0 (cX g kk (sI (sF (sF (sF (sF σ 43 z7_F43) 44 z7_F44) 45 z7_F45) 46 z7_F46) 678 (nI q))) [(2, .int (nI a)), (0, .ref (g 42)), (1, .int (nI d))] 7 [] := by
    intro n7
    induction n7 with
    | zero => intro a z7_F43 z7_F44 z7_F45 z7_F46 q i7_0 i7_1 hm; exact absurd hm (Nat.not_lt_zero _)
    | succ n7 ih7 =>
      intro a z7_F43 z7_F44 z7_F45 z7_F46 q i7_0 i7_1 hm7
      refine j_iload_n C 0 rfl dX4_gather_7 ?_
      refine j_aload_n C 1 rfl dX4_gather_8 ?_
      refine gX_42_1 C tb_313 dX4_gather_9 ?_
      refine gX_1_0 C tb_98 (nI k) hk dX4_gather_12 ?_
      refine j_icmp_geN C 68 (by decide) (by omega) (by omega) dX4_gather_15 (fun c1 => ?_) (fun c1 => ?_)
      · refine j_aload_n C 1 rfl dX4_gather_68 ?_
        refine gX_42_1 C tb_313 dX4_gather_69 ?_
        refine gX_1_11 C tb_135 dX4_gather_72 ?_
        refine j_astore_n C [(2, .ref (g 16)), (0, .ref (g 42)), (1, .int (nI d))] rfl (by decide) rfl dX4_gather_75 ?_
        obtain ⟨ra, hra, era⟩ := id hI.rad
        refine j_iconst C (nI 0) (by decide) dX4_gather_76 ?_
        refine j_istore_n C [(3, .int (nI 0)), (2, .ref (g 16)), (0, .ref (g 42)), (1, .int (nI d))] rfl (by decide) rfl dX4_gather_77 ?_
        have L78 : ∀ (n78 : Nat) (b : Nat) (z78_F43 : Nat → Int32) (z78_F44 : Nat → Int32) (z78_F45 : Nat → Int32) (z78_F46 : Nat → Int32) (q2 : Nat) (i78_0 : b ≤ ra) (i78_1 : q2 ≤ 6 + b) (hm78 : ra - b < n78), J X 0 0 (cX g kk (sI (sF (sF (sF (sF σ 43 z78_F43) 44 z78_F44) 45 z78_F45) 46 z78_F46) 678 (nI q2))) [(3, .int (nI b)), (2, .ref (g 16)), (0, .ref (g 42)), (1, .int (nI d))] 78 [] := by
          intro n78
          induction n78 with
          | zero => intro b z78_F43 z78_F44 z78_F45 z78_F46 q2 i78_0 i78_1 hm; exact absurd hm (Nat.not_lt_zero _)
          | succ n78 ih78 =>
            intro b z78_F43 z78_F44 z78_F45 z78_F46 q2 i78_0 i78_1 hm78
            refine j_iload_n C 0 rfl dX4_gather_78 ?_
            refine j_aload_n C 1 rfl dX4_gather_79 ?_
            refine gX_16_0 C tb_66 (nI ra) era dX4_gather_80 ?_
            refine j_icmp_geN C 130 (by decide) (by omega) (by omega) dX4_gather_83 (fun c2 => ?_) (fun c2 => ?_)
            · exact j_vret C E (sI (sF (sF (sF (sF σ 43 z78_F43) 44 z78_F44) 45 z78_F45) 46 z78_F46) 678 (nI q2)) ⟨rfl, ⟨z78_F43, z78_F44, z78_F45, z78_F46, q2, rfl, (by omega)⟩⟩ rfl dX4_gather_130
            · refine j_aload_n C 1 rfl dX4_gather_86 ?_
              refine gX_16_1 C tb_69 dX4_gather_87 ?_
              refine j_iload_n C 0 rfl dX4_gather_90 ?_
              refine rX_17 C b rfl (by omega) ((σ.2.1 17) b) rfl dX4_gather_91 ?_
              refine j_iload_n C 3 rfl dX4_gather_92 ?_
              refine j_icmp_ne C 124 (by decide) dX4_gather_93 (fun c3 => ?_) (fun c3 => ?_)
              · refine j_iinc C (nI (b + 1)) [(3, .int (nI (b + 1))), (2, .ref (g 16)), (0, .ref (g 42)), (1, .int (nI d))] 0 rfl (by rw [show Int32.ofInt 1 = nI 1 from by decide, nI_add]) (by decide) rfl dX4_gather_124 ?_
                refine j_goto C 78 (by decide) dX4_gather_127 ?_
                exact ih78 (b + 1) z78_F43 z78_F44 z78_F45 z78_F46 q2 (by omega) (by omega) (by omega)
              · refine j_aload_n C 2 rfl dX4_gather_96 ?_
                refine j_aload_n C 1 rfl dX4_gather_97 ?_
                refine gX_16_2 C tb_71 dX4_gather_98 ?_
                refine j_iload_n C 0 rfl dX4_gather_101 ?_
                refine rX_18 C b rfl (by omega) ((σ.2.1 18) b) rfl dX4_gather_102 ?_
                refine j_aload_n C 1 rfl dX4_gather_103 ?_
                refine gX_16_3 C tb_73 dX4_gather_104 ?_
                refine j_iload_n C 0 rfl dX4_gather_107 ?_
                refine rX_19 C b rfl (by omega) ((σ.2.1 19) b) rfl dX4_gather_108 ?_
                refine j_aload_n C 1 rfl dX4_gather_109 ?_
                refine gX_16_4 C tb_75 dX4_gather_110 ?_
                refine j_iload_n C 0 rfl dX4_gather_113 ?_
                refine rX_20 C b rfl (by omega) ((σ.2.1 20) b) rfl dX4_gather_114 ?_
                refine j_aload_n C 1 rfl dX4_gather_115 ?_
                refine gX_16_5 C tb_77 dX4_gather_116 ?_
                refine j_iload_n C 0 rfl dX4_gather_119 ?_
                refine rX_21 C b rfl (by omega) ((σ.2.1 21) b) rfl dX4_gather_120 ?_
                refine j_V1 C (d_addAnchor g kk (sI (sF (sF (sF (sF σ 43 z78_F43) 44 z78_F44) 45 z78_F45) 46 z78_F46) 678 (nI q2)) k hk hk6 hI q2 rfl (by omega)  ((σ.2.1 18) b) ((σ.2.1 19) b) ((σ.2.1 20) b) ((σ.2.1 21) b)) kyX4_addAnchor tb_716 tb_718 sp_17 42 rfl (eX_42 g kk _) rfl (Nat.le_of_ble_eq_true rfl) ⟨by decide, by decide⟩ dX4_gather_121 rfl (fun vr ur hp => ?_)
                obtain ⟨rfl, w4, w5, w6, w7, w8, hu, g9⟩ := hp
                replace hu := hu.symm
                subst hu
                refine j_iinc C (nI (b + 1)) [(3, .int (nI (b + 1))), (2, .ref (g 16)), (0, .ref (g 42)), (1, .int (nI d))] 0 rfl (by rw [show Int32.ofInt 1 = nI 1 from by decide, nI_add]) (by decide) rfl dX4_gather_124 ?_
                refine j_goto C 78 (by decide) dX4_gather_127 ?_
                refine j_w (cX g kk (sI (sF (sF (sF (sF σ 43 w4) 44 w5) 45 w6) 46 w7) 678 (nI w8))) (congrArg (cX g kk) (show sI (sF (sF (sF (sF (sI (sF (sF (sF (sF σ 43 z78_F43) 44 z78_F44) 45 z78_F45) 46 z78_F46) 678 (nI q2)) 43 w4) 44 w5) 45 w6) 46 w7) 678 (nI w8) = sI (sF (sF (sF (sF σ 43 w4) 44 w5) 45 w6) 46 w7) 678 (nI w8) from (Eq.trans (wrI (Eq.trans (wrF (Eq.trans (wrF (Eq.trans (wrF (Eq.trans wrFI (wrI (Eq.trans (wrFc (by decide)) (wrF (Eq.trans (wrFc (by decide)) (wrF (Eq.trans (wrFc (by decide)) (wrF wrFs))))))))) (Eq.trans wrFI (wrI (Eq.trans (wrFc (by decide)) (wrF (Eq.trans (wrFc (by decide)) (wrF wrFs)))))))) (Eq.trans wrFI (wrI (Eq.trans (wrFc (by decide)) (wrF wrFs)))))) (Eq.trans wrFI (wrI wrFs)))) wrIs))) ?_
                exact ih78 (b + 1) w4 w5 w6 w7 w8 (by omega) (by omega) (by omega)
        exact L78 _ 0 z7_F43 z7_F44 z7_F45 z7_F46 q (by omega) (by omega) (Nat.lt_succ_self _)
      · refine j_aload_n C 1 rfl dX4_gather_18 ?_
        refine gX_42_0 C tb_312 dX4_gather_19 ?_
        refine gX_27_4 C tb_208 dX4_gather_22 ?_
        refine j_iload_n C 0 rfl dX4_gather_25 ?_
        refine j_bipush C (nI 28) (by decide) dX4_gather_26 ?_
        refine j_imulN C dX4_gather_28 ?_
        refine j_iload_n C 2 rfl dX4_gather_29 ?_
        refine j_iaddN C dX4_gather_30 ?_
        refine rX_31 C ((a * 28) + d) rfl (by omega) ((σ.2.1 31) ((a * 28) + d)) rfl dX4_gather_31 ?_
        refine j_istore_n C [(3, .int ((σ.2.1 31) ((a * 28) + d))), (2, .int (nI a)), (0, .ref (g 42)), (1, .int (nI d))] rfl (by decide) rfl dX4_gather_32 ?_
        refine j_iload_n C 0 rfl dX4_gather_33 ?_
        refine j_iconst C ((-1)) (by decide) dX4_gather_34 ?_
        refine j_icmp_eq C 62 (by decide) dX4_gather_35 (fun c10 => ?_) (fun c10 => ?_)
        · refine j_iinc C (nI (a + 1)) [(2, .int (nI (a + 1))), (3, .int ((σ.2.1 31) ((a * 28) + d))), (0, .ref (g 42)), (1, .int (nI d))] 1 rfl (by rw [show Int32.ofInt 1 = nI 1 from by decide, nI_add]) (by decide) rfl dX4_gather_62 ?_
          refine j_goto C 7 (by decide) dX4_gather_65 ?_
          refine j_sub (lv' := [(2, .int (nI (a + 1))), (0, .ref (g 42)), (1, .int (nI d))]) [0, 2, 3] rfl ?_
          exact ih7 (a + 1) z7_F43 z7_F44 z7_F45 z7_F46 q (by omega) (by omega) (by omega)
        · refine j_aload_n C 2 rfl dX4_gather_38 ?_
          refine j_aload_n C 2 rfl dX4_gather_39 ?_
          refine gX_42_1 C tb_313 dX4_gather_40 ?_
          refine gX_1_1 C tb_103 dX4_gather_43 ?_
          refine j_iload_n C 1 rfl dX4_gather_46 ?_
          refine rX_2 C a rfl (by omega) ((σ.2.1 2) a) rfl dX4_gather_47 ?_
          refine j_aload_n C 2 rfl dX4_gather_48 ?_
          refine gX_42_1 C tb_313 dX4_gather_49 ?_
          refine gX_1_2 C tb_107 dX4_gather_52 ?_
          refine j_iload_n C 1 rfl dX4_gather_55 ?_
          refine rX_3 C a rfl (by omega) ((σ.2.1 3) a) rfl dX4_gather_56 ?_
          refine j_iload_n C 0 rfl dX4_gather_57 ?_
          refine j_iload_n C 0 rfl dX4_gather_58 ?_
          refine j_V1 C (d_addAnchor g kk (sI (sF (sF (sF (sF σ 43 z7_F43) 44 z7_F44) 45 z7_F45) 46 z7_F46) 678 (nI q)) k hk hk6 hI q rfl (by omega)  ((σ.2.1 2) a) ((σ.2.1 3) a) ((σ.2.1 31) ((a * 28) + d)) ((σ.2.1 31) ((a * 28) + d))) kyX4_addAnchor tb_716 tb_718 sp_17 42 rfl (eX_42 g kk _) rfl (Nat.le_of_ble_eq_true rfl) ⟨by decide, by decide⟩ dX4_gather_59 rfl (fun vr ur hp => ?_)
          obtain ⟨rfl, w11, w12, w13, w14, w15, hu, g16⟩ := hp
          replace hu := hu.symm
          subst hu
          refine j_iinc C (nI (a + 1)) [(2, .int (nI (a + 1))), (3, .int ((σ.2.1 31) ((a * 28) + d))), (0, .ref (g 42)), (1, .int (nI d))] 1 rfl (by rw [show Int32.ofInt 1 = nI 1 from by decide, nI_add]) (by decide) rfl dX4_gather_62 ?_
          refine j_goto C 7 (by decide) dX4_gather_65 ?_
          refine j_sub (lv' := [(2, .int (nI (a + 1))), (0, .ref (g 42)), (1, .int (nI d))]) [0, 2, 3] rfl ?_
          refine j_w (cX g kk (sI (sF (sF (sF (sF σ 43 w11) 44 w12) 45 w13) 46 w14) 678 (nI w15))) (congrArg (cX g kk) (show sI (sF (sF (sF (sF (sI (sF (sF (sF (sF σ 43 z7_F43) 44 z7_F44) 45 z7_F45) 46 z7_F46) 678 (nI q)) 43 w11) 44 w12) 45 w13) 46 w14) 678 (nI w15) = sI (sF (sF (sF (sF σ 43 w11) 44 w12) 45 w13) 46 w14) 678 (nI w15) from (Eq.trans (wrI (Eq.trans (wrF (Eq.trans (wrF (Eq.trans (wrF (Eq.trans wrFI (wrI (Eq.trans (wrFc (by decide)) (wrF (Eq.trans (wrFc (by decide)) (wrF (Eq.trans (wrFc (by decide)) (wrF wrFs))))))))) (Eq.trans wrFI (wrI (Eq.trans (wrFc (by decide)) (wrF (Eq.trans (wrFc (by decide)) (wrF wrFs)))))))) (Eq.trans wrFI (wrI (Eq.trans (wrFc (by decide)) (wrF wrFs)))))) (Eq.trans wrFI (wrI wrFs)))) wrIs))) ?_
          exact ih7 (a + 1) w11 w12 w13 w14 w15 (by omega) (by omega) (by omega)
  refine j_w (cX g kk (sF (sI σ 678 (nI 0)) 43 (σ.2.1 43))) (congrArg (cX g kk) (wrFi (S := (sI σ 678 (nI 0))) (c := 43) (v := σ.2.1 43) (gtFI rfl))) ?_
  refine j_w (cX g kk (sF (sF (sI σ 678 (nI 0)) 43 (σ.2.1 43)) 44 (σ.2.1 44))) (congrArg (cX g kk) (wrFi (S := (sF (sI σ 678 (nI 0)) 43 (σ.2.1 43))) (c := 44) (v := σ.2.1 44) (gtFF (by decide) (gtFI rfl)))) ?_
  refine j_w (cX g kk (sF (sF (sF (sI σ 678 (nI 0)) 43 (σ.2.1 43)) 44 (σ.2.1 44)) 45 (σ.2.1 45))) (congrArg (cX g kk) (wrFi (S := (sF (sF (sI σ 678 (nI 0)) 43 (σ.2.1 43)) 44 (σ.2.1 44))) (c := 45) (v := σ.2.1 45) (gtFF (by decide) (gtFF (by decide) (gtFI rfl))))) ?_
  refine j_w (cX g kk (sF (sF (sF (sF (sI σ 678 (nI 0)) 43 (σ.2.1 43)) 44 (σ.2.1 44)) 45 (σ.2.1 45)) 46 (σ.2.1 46))) (congrArg (cX g kk) (wrFi (S := (sF (sF (sF (sI σ 678 (nI 0)) 43 (σ.2.1 43)) 44 (σ.2.1 44)) 45 (σ.2.1 45))) (c := 46) (v := σ.2.1 46) (gtFF (by decide) (gtFF (by decide) (gtFF (by decide) (gtFI rfl)))))) ?_
  refine j_w (cX g kk (sI (sF (sF (sF (sF σ 43 (σ.2.1 43)) 44 (σ.2.1 44)) 45 (σ.2.1 45)) 46 (σ.2.1 46)) 678 (nI 0))) (congrArg (cX g kk) (show sF (sF (sF (sF (sI σ 678 (nI 0)) 43 (σ.2.1 43)) 44 (σ.2.1 44)) 45 (σ.2.1 45)) 46 (σ.2.1 46) = sI (sF (sF (sF (sF σ 43 (σ.2.1 43)) 44 (σ.2.1 44)) 45 (σ.2.1 45)) 46 (σ.2.1 46)) 678 (nI 0) from (Eq.trans (wrF (Eq.trans (wrF (Eq.trans (wrF wrFI) wrFI)) wrFI)) wrFI))) ?_
  exact L7 _ 0 (σ.2.1 43) (σ.2.1 44) (σ.2.1 45) (σ.2.1 46) 0 (by omega) (by omega) (Nat.lt_succ_self _)
set_option maxRecDepth 100000 in
set_option maxHeartbeats 4000000 in
theorem d_boundsAt (g kk : Nat → Nat) (σ : St) (k : Nat) (hk : σ.1 16 = nI k) (hk6 : k ≤ 6) (hI : iX σ) (q : Nat) (hq : σ.1 678 = nI q) (hqb : q ≤ 12)  (x : Int32) (y : Int32) : jM (S := St) yX4_boundsAt cX4_boundsAt 5 (some .boolean) { frames := 2, cells := 0, slots := 0, locals := 44 } kk (cX g kk σ) [.ref (g 42), .int x, .int y] (cX g kk) (rI (fun (r : Int32) (u : St) => ∃ (pI679 : Int32) (pI680 : Int32), u = sI (sI σ 679 pI679) 680 pI680)) := by
  refine j_entry [(0, .ref (g 42)), (1, .int x), (2, .int y)] (by decide) (Nat.le_of_ble_eq_true rfl) rfl ?_
  intro X C E HI
  refine j_aload_n C 0 rfl dX4_boundsAt_0 ?_
  refine j_iconst C (nI 0) (by decide) dX4_boundsAt_1 ?_
  refine pX_42_7 C tb_319 dX4_boundsAt_2 ?_
  refine j_aload_n C 0 rfl dX4_boundsAt_5 ?_
  refine j_sipush C (nI 9999) (by decide) dX4_boundsAt_6 ?_
  refine pX_42_8 C tb_321 dX4_boundsAt_9 ?_
  refine j_iconst C (nI 0) (by decide) dX4_boundsAt_12 ?_
  refine j_istore_n C [(3, .int (nI 0)), (0, .ref (g 42)), (1, .int x), (2, .int y)] rfl (by decide) rfl dX4_boundsAt_13 ?_
  have L14 : ∀ (n14 : Nat) (n : Nat) (z14_I679 : Int32) (z14_I680 : Int32) (i14_0 : n ≤ q) (hm14 : q - n < n14), J X 0 0 (cX g kk (sI (sI σ 679 z14_I679) 680 z14_I680)) [(3, .int (nI n)), (0, .ref (g 42)), (1, .int x), (2, .int y)] 14 [] := by
    intro n14
    induction n14 with
    | zero => intro n z14_I679 z14_I680 i14_0 hm; exact absurd hm (Nat.not_lt_zero _)
    | succ n14 ih14 =>
      intro n z14_I679 z14_I680 i14_0 hm14
      refine j_iload_n C 0 rfl dX4_boundsAt_14 ?_
      refine j_aload_n C 1 rfl dX4_boundsAt_15 ?_
      refine gX_42_6 C tb_318 (nI q) hq dX4_boundsAt_16 ?_
      refine j_icmp_geN C 97 (by decide) (by omega) (by omega) dX4_boundsAt_19 (fun c1 => ?_) (fun c1 => ?_)
      · refine j_aload_n C 1 rfl dX4_boundsAt_97 ?_
        refine gX_42_7 C tb_319 (z14_I679) rfl dX4_boundsAt_98 ?_
        refine j_aload_n C 1 rfl dX4_boundsAt_101 ?_
        refine gX_42_8 C tb_321 (z14_I680) rfl dX4_boundsAt_102 ?_
        refine j_icmp_gt C 112 (by decide) dX4_boundsAt_105 (fun c2 => ?_) (fun c2 => ?_)
        · refine j_iconst C (nI 0) (by decide) dX4_boundsAt_112 ?_
          exact j_zret C E (by first | rfl | decide) (sI (sI σ 679 z14_I679) 680 z14_I680) ⟨_, rfl, ⟨z14_I679, z14_I680, rfl⟩⟩ rfl dX4_boundsAt_113
        · refine j_iconst C (nI 1) (by decide) dX4_boundsAt_108 ?_
          refine j_goto C 113 (by decide) dX4_boundsAt_109 ?_
          exact j_zret C E (by first | rfl | decide) (sI (sI σ 679 z14_I679) 680 z14_I680) ⟨_, rfl, ⟨z14_I679, z14_I680, rfl⟩⟩ rfl dX4_boundsAt_113
      · refine j_aload_n C 1 rfl dX4_boundsAt_22 ?_
        refine gX_42_1 C tb_313 dX4_boundsAt_23 ?_
        refine gX_1_9 C tb_128 dX4_boundsAt_26 ?_
        refine j_iconst C (nI 2) (by decide) dX4_boundsAt_29 ?_
        refine rX_10 C 2 rfl (by omega) ((σ.2.1 10) 2) rfl dX4_boundsAt_30 ?_
        refine j_iload_n C 2 rfl dX4_boundsAt_31 ?_
        refine j_iload_n C 3 rfl dX4_boundsAt_32 ?_
        refine j_aload_n C 1 rfl dX4_boundsAt_33 ?_
        refine gX_42_2 C tb_314 dX4_boundsAt_34 ?_
        refine j_iload_n C 0 rfl dX4_boundsAt_37 ?_
        refine rX_43 C n rfl (by omega) ((σ.2.1 43) n) rfl dX4_boundsAt_38 ?_
        refine j_aload_n C 1 rfl dX4_boundsAt_39 ?_
        refine gX_42_3 C tb_315 dX4_boundsAt_40 ?_
        refine j_iload_n C 0 rfl dX4_boundsAt_43 ?_
        refine rX_44 C n rfl (by omega) ((σ.2.1 44) n) rfl dX4_boundsAt_44 ?_
        refine j_SN01 C (c_far x y ((σ.2.1 43) n) ((σ.2.1 44) n)) kyX10_far (fun _ h => h.2.2.2.2.2.1) tb_587 rfl (Nat.le_of_ble_eq_true rfl) ⟨by decide, by decide⟩ ⟨by decide, by decide⟩ dX4_boundsAt_45 rfl ?_
        refine j_top (fun v3 => ?_)
        refine j_imul C dX4_boundsAt_48 ?_
        refine j_istore C [(4, .int (((σ.2.1 10) 2) * v3)), (3, .int (nI n)), (0, .ref (g 42)), (1, .int x), (2, .int y)] (by decide) rfl dX4_boundsAt_49 ?_
        refine j_aload_n C 2 rfl dX4_boundsAt_51 ?_
        refine j_aload_n C 2 rfl dX4_boundsAt_52 ?_
        refine gX_42_7 C tb_319 (z14_I679) rfl dX4_boundsAt_53 ?_
        refine j_aload_n C 2 rfl dX4_boundsAt_56 ?_
        refine gX_42_4 C tb_316 dX4_boundsAt_57 ?_
        refine j_iload_n C 1 rfl dX4_boundsAt_60 ?_
        refine rX_45 C n rfl (by omega) ((σ.2.1 45) n) rfl dX4_boundsAt_61 ?_
        refine j_iload C 0 rfl dX4_boundsAt_62 ?_
        refine j_isub C dX4_boundsAt_64 ?_
        refine j_top (fun v4 => ?_)
        refine j_mmax C tb_725 tb_600 tb_15 tb_601 (by decide) (Nat.le_of_ble_eq_true rfl) (by decide) (by decide) dX4_boundsAt_65 ?_
        refine j_top (fun v5 => ?_)
        refine pX_42_7 C tb_319 dX4_boundsAt_68 ?_
        refine j_aload_n C 2 rfl dX4_boundsAt_71 ?_
        refine j_aload_n C 2 rfl dX4_boundsAt_72 ?_
        refine gX_42_8 C tb_321 (z14_I680) rfl dX4_boundsAt_73 ?_
        refine j_aload_n C 2 rfl dX4_boundsAt_76 ?_
        refine gX_42_5 C tb_317 dX4_boundsAt_77 ?_
        refine j_iload_n C 1 rfl dX4_boundsAt_80 ?_
        refine rX_46 C n rfl (by omega) ((σ.2.1 46) n) rfl dX4_boundsAt_81 ?_
        refine j_iload C 0 rfl dX4_boundsAt_82 ?_
        refine j_iadd C dX4_boundsAt_84 ?_
        refine j_top (fun v6 => ?_)
        refine j_mmin C tb_726 tb_727 tb_15 tb_728 (by decide) (Nat.le_of_ble_eq_true rfl) (by decide) (by decide) dX4_boundsAt_85 ?_
        refine j_top (fun v7 => ?_)
        refine pX_42_8 C tb_321 dX4_boundsAt_88 ?_
        refine j_iinc C (nI (n + 1)) [(3, .int (nI (n + 1))), (4, .int (((σ.2.1 10) 2) * v3)), (0, .ref (g 42)), (1, .int x), (2, .int y)] 1 rfl (by rw [show Int32.ofInt 1 = nI 1 from by decide, nI_add]) (by decide) rfl dX4_boundsAt_91 ?_
        refine j_goto C 14 (by decide) dX4_boundsAt_94 ?_
        refine j_sub (lv' := [(3, .int (nI (n + 1))), (0, .ref (g 42)), (1, .int x), (2, .int y)]) [0, 2, 3, 4] rfl ?_
        refine j_w (cX g kk (sI (sI σ 679 v5) 680 v7)) (congrArg (cX g kk) (show sI (sI (sI (sI σ 679 z14_I679) 680 z14_I680) 679 v5) 680 v7 = sI (sI σ 679 v5) 680 v7 from (Eq.trans (wrI (Eq.trans (wrIc (by decide)) (wrI wrIs))) wrIs))) ?_
        exact ih14 (n + 1) v5 v7 (by omega) (by omega)
  exact L14 _ 0 (nI 0) (nI 9999) (by omega) (Nat.lt_succ_self _)
set_option maxRecDepth 100000 in
set_option maxHeartbeats 4000000 in
theorem d_sum (g kk : Nat → Nat) (σ : St) (k : Nat) (hk : σ.1 16 = nI k) (hk6 : k ≤ 6) (hI : iX σ) (q : Nat) (hq : σ.1 678 = nI q) (hqb : q ≤ 12)  (i : Nat) (hi0 : i ≤ 20) (j : Nat) (hj0 : j ≤ 20) (m : Nat) (hm0 : m ≤ 20) (l : Nat) (hl0 : l ≤ 20) : jM (S := St) yX4_sum cX4_sum 7 (some .boolean) { frames := 3, cells := 0, slots := 0, locals := 68 } kk (cX g kk σ) [.ref (g 42), .int (nI i), .int (nI j), .int (nI m), .int (nI l)] (cX g kk) (rI (fun (r : Int32) (u : St) => ∃ (pI679 : Int32) (pI680 : Int32) (pI681 : Int32) (pI682 : Int32), u = sI (sI (sI (sI σ 679 pI679) 680 pI680) 681 pI681) 682 pI682)) := by
  refine j_entry [(0, .ref (g 42)), (1, .int (nI i)), (2, .int (nI j)), (3, .int (nI m)), (4, .int (nI l))] (by decide) (Nat.le_of_ble_eq_true rfl) rfl ?_
  intro X C E HI
  refine j_aload_n C 0 rfl dX4_sum_0 ?_
  refine j_iconst C (nI 0) (by decide) dX4_sum_1 ?_
  refine pX_42_9 C tb_323 dX4_sum_2 ?_
  refine j_aload_n C 0 rfl dX4_sum_5 ?_
  refine j_iconst C (nI 0) (by decide) dX4_sum_6 ?_
  refine pX_42_10 C tb_325 dX4_sum_7 ?_
  refine j_iload_n C 1 rfl dX4_sum_10 ?_
  refine j_istore C [(5, .int (nI i)), (0, .ref (g 42)), (1, .int (nI i)), (2, .int (nI j)), (3, .int (nI m)), (4, .int (nI l))] (by decide) rfl dX4_sum_11 ?_
  have L13 : ∀ (n13 : Nat) (x : Nat) (z13_I679 : Int32) (z13_I680 : Int32) (z13_I681 : Int32) (z13_I682 : Int32) (i13_0 : x ≤ 21) (hm13 : 21 - x < n13), J X 0 0 (cX g kk (sI (sI (sI (sI σ 679 z13_I679) 680 z13_I680) 681 z13_I681) 682 z13_I682)) [(5, .int (nI x)), (0, .ref (g 42)), (1, .int (nI i)), (2, .int (nI j)), (3, .int (nI m)), (4, .int (nI l))] 13 [] := by
    intro n13
    induction n13 with
    | zero => intro x z13_I679 z13_I680 z13_I681 z13_I682 i13_0 hm; exact absurd hm (Nat.not_lt_zero _)
    | succ n13 ih13 =>
      intro x z13_I679 z13_I680 z13_I681 z13_I682 i13_0 hm13
      refine j_iload C 0 rfl dX4_sum_13 ?_
      refine j_iload_n C 3 rfl dX4_sum_15 ?_
      refine j_icmp_gtN C 80 (by decide) (by omega) (by omega) dX4_sum_16 (fun c1 => ?_) (fun c1 => ?_)
      · refine j_iconst C (nI 1) (by decide) dX4_sum_80 ?_
        exact j_zret C E (by first | rfl | decide) (sI (sI (sI (sI σ 679 z13_I679) 680 z13_I680) 681 z13_I681) 682 z13_I682) ⟨_, rfl, ⟨z13_I679, z13_I680, z13_I681, z13_I682, rfl⟩⟩ rfl dX4_sum_81
      · refine j_iload_n C 4 rfl dX4_sum_19 ?_
        refine j_istore C [(6, .int (nI m)), (5, .int (nI x)), (0, .ref (g 42)), (1, .int (nI i)), (2, .int (nI j)), (3, .int (nI m)), (4, .int (nI l))] (by decide) rfl dX4_sum_20 ?_
        have L22 : ∀ (n22 : Nat) (y : Nat) (z22_I679 : Int32) (z22_I680 : Int32) (z22_I681 : Int32) (z22_I682 : Int32) (i22_0 : y ≤ 21) (hm22 : 21 - y < n22), J X 0 0 (cX g kk (sI (sI (sI (sI σ 679 z22_I679) 680 z22_I680) 681 z22_I681) 682 z22_I682)) [(6, .int (nI y)), (5, .int (nI x)), (0, .ref (g 42)), (1, .int (nI i)), (2, .int (nI j)), (3, .int (nI m)), (4, .int (nI l))] 22 [] := by
          intro n22
          induction n22 with
          | zero => intro y z22_I679 z22_I680 z22_I681 z22_I682 i22_0 hm; exact absurd hm (Nat.not_lt_zero _)
          | succ n22 ih22 =>
            intro y z22_I679 z22_I680 z22_I681 z22_I682 i22_0 hm22
            refine j_iload C 0 rfl dX4_sum_22 ?_
            refine j_iload C 6 rfl dX4_sum_24 ?_
            refine j_icmp_gtN C 74 (by decide) (by omega) (by omega) dX4_sum_26 (fun c2 => ?_) (fun c2 => ?_)
            · refine j_iinc C (nI (x + 1)) [(5, .int (nI (x + 1))), (6, .int (nI y)), (0, .ref (g 42)), (1, .int (nI i)), (2, .int (nI j)), (3, .int (nI m)), (4, .int (nI l))] 1 rfl (by rw [show Int32.ofInt 1 = nI 1 from by decide, nI_add]) (by decide) rfl dX4_sum_74 ?_
              refine j_goto C 13 (by decide) dX4_sum_77 ?_
              refine j_sub (lv' := [(5, .int (nI (x + 1))), (0, .ref (g 42)), (1, .int (nI i)), (2, .int (nI j)), (3, .int (nI m)), (4, .int (nI l))]) [0, 2, 3, 4, 5, 6] rfl ?_
              exact ih13 (x + 1) z22_I679 z22_I680 z22_I681 z22_I682 (by omega) (by omega)
            · refine j_aload_n C 2 rfl dX4_sum_29 ?_
              refine j_iload C 1 rfl dX4_sum_30 ?_
              refine j_iload C 0 rfl dX4_sum_32 ?_
              refine j_V1 C (d_boundsAt g kk (sI (sI (sI (sI σ 679 z22_I679) 680 z22_I680) 681 z22_I681) 682 z22_I682) k hk hk6 hI q hq (by omega)  (nI x) (nI y)) kyX4_boundsAt tb_740 tb_721 tb_722 42 rfl (eX_42 g kk _) rfl (Nat.le_of_ble_eq_true rfl) ⟨by decide, by decide⟩ dX4_sum_34 rfl (fun vr ur hp => ?_)
              obtain ⟨r5, rfl, w3, w4, hu⟩ := hp
              replace hu := hu.symm
              subst hu
              refine j_if_ne C 42 (by decide) dX4_sum_37 (fun c6 => ?_) (fun c6 => ?_)
              · refine j_aload_n C 2 rfl dX4_sum_42 ?_
                refine j_dup C rfl dX4_sum_43 ?_
                refine gX_42_9 C tb_323 (z22_I681) rfl dX4_sum_44 ?_
                refine j_aload_n C 2 rfl dX4_sum_47 ?_
                refine gX_42_7 C tb_319 (w3) rfl dX4_sum_48 ?_
                refine j_iadd C dX4_sum_51 ?_
                refine pX_42_9 C tb_323 dX4_sum_52 ?_
                refine j_aload_n C 2 rfl dX4_sum_55 ?_
                refine j_dup C rfl dX4_sum_56 ?_
                refine gX_42_10 C tb_325 (z22_I682) rfl dX4_sum_57 ?_
                refine j_aload_n C 2 rfl dX4_sum_60 ?_
                refine gX_42_8 C tb_321 (w4) rfl dX4_sum_61 ?_
                refine j_iadd C dX4_sum_64 ?_
                refine pX_42_10 C tb_325 dX4_sum_65 ?_
                refine j_iinc C (nI (y + 1)) [(6, .int (nI (y + 1))), (5, .int (nI x)), (0, .ref (g 42)), (1, .int (nI i)), (2, .int (nI j)), (3, .int (nI m)), (4, .int (nI l))] 0 rfl (by rw [show Int32.ofInt 1 = nI 1 from by decide, nI_add]) (by decide) rfl dX4_sum_68 ?_
                refine j_goto C 22 (by decide) dX4_sum_71 ?_
                refine j_w (cX g kk (sI (sI (sI (sI σ 679 w3) 680 w4) 681 (z22_I681 + w3)) 682 (z22_I682 + w4))) (congrArg (cX g kk) (show sI (sI (sI (sI (sI (sI (sI (sI σ 679 z22_I679) 680 z22_I680) 681 z22_I681) 682 z22_I682) 679 w3) 680 w4) 681 (z22_I681 + w3)) 682 (z22_I682 + w4) = sI (sI (sI (sI σ 679 w3) 680 w4) 681 (z22_I681 + w3)) 682 (z22_I682 + w4) from (Eq.trans (wrI (Eq.trans (wrI (Eq.trans (wrI (Eq.trans (wrIc (by decide)) (wrI (Eq.trans (wrIc (by decide)) (wrI (Eq.trans (wrIc (by decide)) (wrI wrIs))))))) (Eq.trans (wrIc (by decide)) (wrI (Eq.trans (wrIc (by decide)) (wrI wrIs)))))) (Eq.trans (wrIc (by decide)) (wrI wrIs)))) wrIs))) ?_
                exact ih22 (y + 1) w3 w4 (z22_I681 + w3) (z22_I682 + w4) (by omega) (by omega)
              · refine j_iconst C (nI 0) (by decide) dX4_sum_40 ?_
                refine j_w (cX g kk (sI (sI (sI (sI σ 679 w3) 680 w4) 681 z22_I681) 682 z22_I682)) (congrArg (cX g kk) (show sI (sI (sI (sI (sI (sI σ 679 z22_I679) 680 z22_I680) 681 z22_I681) 682 z22_I682) 679 w3) 680 w4 = sI (sI (sI (sI σ 679 w3) 680 w4) 681 z22_I681) 682 z22_I682 from (Eq.trans (wrI (Eq.trans (wrIc (by decide)) (wrI (Eq.trans (wrIc (by decide)) (wrI (Eq.trans (wrIc (by decide)) (wrI wrIs))))))) (Eq.trans (wrIc (by decide)) (wrI (Eq.trans (wrIc (by decide)) (wrI wrIs))))))) ?_
                exact j_zret C E (by first | rfl | decide) (sI (sI (sI (sI σ 679 w3) 680 w4) 681 z22_I681) 682 z22_I682) ⟨_, rfl, ⟨w3, w4, z22_I681, z22_I682, rfl⟩⟩ rfl dX4_sum_41
        exact L22 _ m z13_I679 z13_I680 z13_I681 z13_I682 (by omega) (Nat.lt_succ_self _)
  refine j_w (cX g kk (sI (sI (sI σ 681 (nI 0)) 682 (nI 0)) 679 (σ.1 679))) (congrArg (cX g kk) (wrIi (S := (sI (sI σ 681 (nI 0)) 682 (nI 0))) (c := 679) (v := σ.1 679) (gtII (by decide) (gtII (by decide) rfl)))) ?_
  refine j_w (cX g kk (sI (sI (sI (sI σ 681 (nI 0)) 682 (nI 0)) 679 (σ.1 679)) 680 (σ.1 680))) (congrArg (cX g kk) (wrIi (S := (sI (sI (sI σ 681 (nI 0)) 682 (nI 0)) 679 (σ.1 679))) (c := 680) (v := σ.1 680) (gtII (by decide) (gtII (by decide) (gtII (by decide) rfl))))) ?_
  refine j_w (cX g kk (sI (sI (sI (sI σ 679 (σ.1 679)) 680 (σ.1 680)) 681 (nI 0)) 682 (nI 0))) (congrArg (cX g kk) (show sI (sI (sI (sI σ 681 (nI 0)) 682 (nI 0)) 679 (σ.1 679)) 680 (σ.1 680) = sI (sI (sI (sI σ 679 (σ.1 679)) 680 (σ.1 680)) 681 (nI 0)) 682 (nI 0) from (Eq.trans (wrI (Eq.trans (wrIc (by decide)) (wrI (wrIc (by decide))))) (Eq.trans (wrIc (by decide)) (wrI (wrIc (by decide))))))) ?_
  exact L13 _ i (σ.1 679) (σ.1 680) (nI 0) (nI 0) (by omega) (Nat.lt_succ_self _)
set_option maxRecDepth 100000 in
set_option maxHeartbeats 4000000 in
theorem d_beyond (g kk : Nat → Nat) (σ : St) (k : Nat) (hk : σ.1 16 = nI k) (hk6 : k ≤ 6) (hI : iX σ)  (a : Int32) (b : Int32) : jM (S := St) yX4_beyond cX4_beyond 4 (some .int) { frames := 0, cells := 0, slots := 0, locals := 0 } kk (cX g kk σ) [.ref (g 42), .int a, .int b] (cX g kk) (rI (fun (r : Int32) (u : St) => u = σ)) := by
  refine j_entry [(0, .ref (g 42)), (1, .int a), (2, .int b)] (by decide) (Nat.le_of_ble_eq_true rfl) rfl ?_
  intro X C E HI
  refine j_aload_n C 0 rfl dX4_beyond_0 ?_
  refine gX_42_9 C tb_323 (σ.1 681) rfl dX4_beyond_1 ?_
  refine j_bipush C (nI 100) (by decide) dX4_beyond_4 ?_
  refine j_iload_n C 1 rfl dX4_beyond_6 ?_
  refine j_isub C dX4_beyond_7 ?_
  refine j_imul C dX4_beyond_8 ?_
  refine j_bipush C (nI 100) (by decide) dX4_beyond_9 ?_
  refine j_idiv C (by first | decide | assumption | exact nI_ne0 (by omega) (by omega) | exact i64ne (by assumption) | exact i64ne (nI_ne0 (by omega) (by omega))) dX4_beyond_11 ?_
  refine j_top (fun v1 => ?_)
  refine j_istore_n C [(3, .int v1), (0, .ref (g 42)), (1, .int a), (2, .int b)] rfl (by decide) rfl dX4_beyond_12 ?_
  refine j_iload_n C 3 rfl dX4_beyond_13 ?_
  refine j_aload_n C 1 rfl dX4_beyond_14 ?_
  refine gX_42_10 C tb_325 (σ.1 682) rfl dX4_beyond_15 ?_
  refine j_icmp_le C 28 (by decide) dX4_beyond_18 (fun c2 => ?_) (fun c2 => ?_)
  · refine j_iload_n C 3 rfl dX4_beyond_28 ?_
    refine j_iload_n C 0 rfl dX4_beyond_29 ?_
    refine j_icmp_ge C 39 (by decide) dX4_beyond_30 (fun c3 => ?_) (fun c3 => ?_)
    · refine j_iconst C (nI 0) (by decide) dX4_beyond_39 ?_
      exact j_iret C E (σ) ⟨_, rfl, rfl⟩ rfl dX4_beyond_40
    · refine j_iload_n C 3 rfl dX4_beyond_33 ?_
      refine j_iload_n C 0 rfl dX4_beyond_34 ?_
      refine j_isub C dX4_beyond_35 ?_
      refine j_goto C 40 (by decide) dX4_beyond_36 ?_
      exact j_iret C E (σ) ⟨_, rfl, rfl⟩ rfl dX4_beyond_40
  · refine j_iload_n C 3 rfl dX4_beyond_21 ?_
    refine j_aload_n C 1 rfl dX4_beyond_22 ?_
    refine gX_42_10 C tb_325 (σ.1 682) rfl dX4_beyond_23 ?_
    refine j_isub C dX4_beyond_26 ?_
    exact j_iret C E (σ) ⟨_, rfl, rfl⟩ rfl dX4_beyond_27
set_option maxRecDepth 100000 in
set_option maxHeartbeats 4000000 in
theorem d_nearestCan (g kk : Nat → Nat) (σ : St) (k : Nat) (hk : σ.1 16 = nI k) (hk6 : k ≤ 6) (hI : iX σ)  (x : Int32) (y : Int32) : jM (S := St) yX4_nearestCan cX4_nearestCan 5 (some .int) { frames := 2, cells := 0, slots := 0, locals := 44 } kk (cX g kk σ) [.ref (g 42), .int x, .int y] (cX g kk) (rI (fun (r : Int32) (u : St) => u = σ)) := by
  refine j_entry [(0, .ref (g 42)), (1, .int x), (2, .int y)] (by decide) (Nat.le_of_ble_eq_true rfl) rfl ?_
  intro X C E HI
  refine j_bipush C (nI 42) (by decide) dX4_nearestCan_0 ?_
  refine j_istore_n C [(3, .int (nI 42)), (0, .ref (g 42)), (1, .int x), (2, .int y)] rfl (by decide) rfl dX4_nearestCan_2 ?_
  refine j_iconst C (nI 0) (by decide) dX4_nearestCan_3 ?_
  refine j_istore C [(4, .int (nI 0)), (3, .int (nI 42)), (0, .ref (g 42)), (1, .int x), (2, .int y)] (by decide) rfl dX4_nearestCan_4 ?_
  have L6 : ∀ (n6 : Nat) (c : Nat) (y6_3 : Int32) (i6_0 : c ≤ k) (hm6 : k - c < n6), J X 0 0 (cX g kk σ) [(4, .int (nI c)), (3, .int y6_3), (0, .ref (g 42)), (1, .int x), (2, .int y)] 6 [] := by
    intro n6
    induction n6 with
    | zero => intro c y6_3 i6_0 hm; exact absurd hm (Nat.not_lt_zero _)
    | succ n6 ih6 =>
      intro c y6_3 i6_0 hm6
      refine j_iload C 0 rfl dX4_nearestCan_6 ?_
      refine j_aload_n C 2 rfl dX4_nearestCan_8 ?_
      refine gX_42_1 C tb_313 dX4_nearestCan_9 ?_
      refine gX_1_0 C tb_98 (nI k) hk dX4_nearestCan_12 ?_
      refine j_icmp_geN C 54 (by decide) (by omega) (by omega) dX4_nearestCan_15 (fun c1 => ?_) (fun c1 => ?_)
      · refine j_iload_n C 1 rfl dX4_nearestCan_54 ?_
        exact j_iret C E (σ) ⟨_, rfl, rfl⟩ rfl dX4_nearestCan_55
      · refine j_iload_n C 1 rfl dX4_nearestCan_18 ?_
        refine j_iload_n C 3 rfl dX4_nearestCan_19 ?_
        refine j_iload_n C 4 rfl dX4_nearestCan_20 ?_
        refine j_aload_n C 2 rfl dX4_nearestCan_21 ?_
        refine gX_42_1 C tb_313 dX4_nearestCan_22 ?_
        refine gX_1_1 C tb_103 dX4_nearestCan_25 ?_
        refine j_iload C 0 rfl dX4_nearestCan_28 ?_
        refine rX_2 C c rfl (by omega) ((σ.2.1 2) c) rfl dX4_nearestCan_30 ?_
        refine j_aload_n C 2 rfl dX4_nearestCan_31 ?_
        refine gX_42_1 C tb_313 dX4_nearestCan_32 ?_
        refine gX_1_2 C tb_107 dX4_nearestCan_35 ?_
        refine j_iload C 0 rfl dX4_nearestCan_38 ?_
        refine rX_3 C c rfl (by omega) ((σ.2.1 3) c) rfl dX4_nearestCan_40 ?_
        refine j_SN01 C (c_far x y ((σ.2.1 2) c) ((σ.2.1 3) c)) kyX10_far (fun _ h => h.2.2.2.2.2.1) tb_587 rfl (Nat.le_of_ble_eq_true rfl) ⟨by decide, by decide⟩ ⟨by decide, by decide⟩ dX4_nearestCan_41 rfl ?_
        refine j_top (fun v2 => ?_)
        refine j_mmin C tb_726 tb_727 tb_15 tb_728 (by decide) (Nat.le_of_ble_eq_true rfl) (by decide) (by decide) dX4_nearestCan_44 ?_
        refine j_top (fun v3 => ?_)
        refine j_istore_n C [(3, .int v3), (4, .int (nI c)), (0, .ref (g 42)), (1, .int x), (2, .int y)] rfl (by decide) rfl dX4_nearestCan_47 ?_
        refine j_iinc C (nI (c + 1)) [(4, .int (nI (c + 1))), (3, .int v3), (0, .ref (g 42)), (1, .int x), (2, .int y)] 1 rfl (by rw [show Int32.ofInt 1 = nI 1 from by decide, nI_add]) (by decide) rfl dX4_nearestCan_48 ?_
        refine j_goto C 6 (by decide) dX4_nearestCan_51 ?_
        exact ih6 (c + 1) v3 (by omega) (by omega)
  exact L6 _ 0 (nI 42) (by omega) (Nat.lt_succ_self _)
set_option maxRecDepth 100000 in
set_option maxHeartbeats 4000000 in
theorem d_gatherN (g kk : Nat → Nat) (σ : St) (k : Nat) (hk : σ.1 16 = nI k) (hk6 : k ≤ 6) (hI : iX σ)  (i : Nat) (hi0 : i ≤ 20) (j : Nat) (hj0 : j ≤ 20) (m : Nat) (hm0 : m ≤ 20) (l : Nat) (hl0 : l ≤ 20) : jM (S := St) yX4_gatherNearest cX4_gatherNearest 7 none { frames := 3, cells := 0, slots := 0, locals := 68 } kk (cX g kk σ) [.ref (g 42), .int (nI i), .int (nI j), .int (nI m), .int (nI l)] (cX g kk) (rV (fun u : St => ∃ (pF47 : Nat → Int32) (pF48 : Nat → Int32) (pF49 : Nat → Int32) (n : Nat), u = sI (sF (sF (sF σ 47 pF47) 48 pF48) 49 pF49) 686 (nI n) ∧ (n ≤ 441))) := by
  refine j_entry [(0, .ref (g 42)), (1, .int (nI i)), (2, .int (nI j)), (3, .int (nI m)), (4, .int (nI l))] (by decide) (Nat.le_of_ble_eq_true rfl) rfl ?_
  intro X C E HI
  refine j_aload_n C 0 rfl dX4_gatherNearest_0 ?_
  refine j_iconst C (nI 0) (by decide) dX4_gatherNearest_1 ?_
  refine pX_42_14 C tb_330 dX4_gatherNearest_2 ?_
  refine j_iload_n C 1 rfl dX4_gatherNearest_5 ?_
  refine j_istore C [(5, .int (nI i)), (0, .ref (g 42)), (1, .int (nI i)), (2, .int (nI j)), (3, .int (nI m)), (4, .int (nI l))] (by decide) rfl dX4_gatherNearest_6 ?_
  have L8 : ∀ (n8 : Nat) (x : Nat) (z8_F47 : Nat → Int32) (z8_F48 : Nat → Int32) (z8_F49 : Nat → Int32) (n : Nat) (i8_0 : i ≤ x) (i8_1 : x ≤ 21) (i8_2 : n ≤ 21 * (x - i)) (hm8 : 21 - x < n8), J X 0 0 (cX g kk (sI (sF (sF (sF σ 47 z8_F47) 48 z8_F48) 49 z8_F49) 686 (nI n))) [(5, .int (nI x)), (0, .ref (g 42)), (1, .int (nI i)), (2, .int (nI j)), (3, .int (nI m)), (4, .int (nI l))] 8 [] := by
    intro n8
    induction n8 with
    | zero => intro x z8_F47 z8_F48 z8_F49 n i8_0 i8_1 i8_2 hm; exact absurd hm (Nat.not_lt_zero _)
    | succ n8 ih8 =>
      intro x z8_F47 z8_F48 z8_F49 n i8_0 i8_1 i8_2 hm8
      refine j_iload C 0 rfl dX4_gatherNearest_8 ?_
      refine j_iload_n C 3 rfl dX4_gatherNearest_10 ?_
      refine j_icmp_gtN C 85 (by decide) (by omega) (by omega) dX4_gatherNearest_11 (fun c1 => ?_) (fun c1 => ?_)
      · exact j_vret C E (sI (sF (sF (sF σ 47 z8_F47) 48 z8_F48) 49 z8_F49) 686 (nI n)) ⟨rfl, ⟨z8_F47, z8_F48, z8_F49, n, rfl, (by omega)⟩⟩ rfl dX4_gatherNearest_85
      · refine j_iload_n C 4 rfl dX4_gatherNearest_14 ?_
        refine j_istore C [(6, .int (nI m)), (5, .int (nI x)), (0, .ref (g 42)), (1, .int (nI i)), (2, .int (nI j)), (3, .int (nI m)), (4, .int (nI l))] (by decide) rfl dX4_gatherNearest_15 ?_
        have L17 : ∀ (n17 : Nat) (y : Nat) (z17_F47 : Nat → Int32) (z17_F48 : Nat → Int32) (z17_F49 : Nat → Int32) (n2 : Nat) (i17_0 : m ≤ y) (i17_1 : y ≤ 21) (i17_2 : n2 ≤ 21 * (x - i) + (y - m)) (hm17 : 21 - y < n17), J X 0 0 (cX g kk (sI (sF (sF (sF σ 47 z17_F47) 48 z17_F48) 49 z17_F49) 686 (nI n2))) [(6, .int (nI y)), (5, .int (nI x)), (0, .ref (g 42)), (1, .int (nI i)), (2, .int (nI j)), (3, .int (nI m)), (4, .int (nI l))] 17 [] := by
          intro n17
          induction n17 with
          | zero => intro y z17_F47 z17_F48 z17_F49 n2 i17_0 i17_1 i17_2 hm; exact absurd hm (Nat.not_lt_zero _)
          | succ n17 ih17 =>
            intro y z17_F47 z17_F48 z17_F49 n2 i17_0 i17_1 i17_2 hm17
            refine j_iload C 0 rfl dX4_gatherNearest_17 ?_
            refine j_iload C 6 rfl dX4_gatherNearest_19 ?_
            refine j_icmp_gtN C 79 (by decide) (by omega) (by omega) dX4_gatherNearest_21 (fun c2 => ?_) (fun c2 => ?_)
            · refine j_iinc C (nI (x + 1)) [(5, .int (nI (x + 1))), (6, .int (nI y)), (0, .ref (g 42)), (1, .int (nI i)), (2, .int (nI j)), (3, .int (nI m)), (4, .int (nI l))] 1 rfl (by rw [show Int32.ofInt 1 = nI 1 from by decide, nI_add]) (by decide) rfl dX4_gatherNearest_79 ?_
              refine j_goto C 8 (by decide) dX4_gatherNearest_82 ?_
              refine j_sub (lv' := [(5, .int (nI (x + 1))), (0, .ref (g 42)), (1, .int (nI i)), (2, .int (nI j)), (3, .int (nI m)), (4, .int (nI l))]) [0, 2, 3, 4, 5, 6] rfl ?_
              exact ih8 (x + 1) z17_F47 z17_F48 z17_F49 n2 (by omega) (by omega) (by omega) (by omega)
            · refine j_aload_n C 2 rfl dX4_gatherNearest_24 ?_
              refine gX_42_11 C tb_327 dX4_gatherNearest_25 ?_
              refine j_aload_n C 2 rfl dX4_gatherNearest_28 ?_
              refine gX_42_14 C tb_330 (nI n2) rfl dX4_gatherNearest_29 ?_
              refine j_iload C 1 rfl dX4_gatherNearest_32 ?_
              refine tX_47 C n2 rfl (by omega) dX4_gatherNearest_34 ?_
              refine j_aload_n C 2 rfl dX4_gatherNearest_35 ?_
              refine gX_42_12 C tb_328 dX4_gatherNearest_36 ?_
              refine j_aload_n C 2 rfl dX4_gatherNearest_39 ?_
              refine gX_42_14 C tb_330 (nI n2) rfl dX4_gatherNearest_40 ?_
              refine j_iload C 0 rfl dX4_gatherNearest_43 ?_
              refine tX_48 C n2 rfl (by omega) dX4_gatherNearest_45 ?_
              refine j_aload_n C 2 rfl dX4_gatherNearest_46 ?_
              refine gX_42_13 C tb_329 dX4_gatherNearest_47 ?_
              refine j_aload_n C 2 rfl dX4_gatherNearest_50 ?_
              refine gX_42_14 C tb_330 (nI n2) rfl dX4_gatherNearest_51 ?_
              refine j_aload_n C 2 rfl dX4_gatherNearest_54 ?_
              refine j_iload C 1 rfl dX4_gatherNearest_55 ?_
              refine j_iload C 0 rfl dX4_gatherNearest_57 ?_
              refine j_V1 C (d_nearestCan g kk (sF (sF (sI (sF (sF (sF σ 47 z17_F47) 48 z17_F48) 49 z17_F49) 686 (nI n2)) 47 (upd z17_F47 n2 (nI x))) 48 (upd z17_F48 n2 (nI y))) k hk hk6 hI  (nI x) (nI y)) kyX4_nearestCan tb_762 tb_764 sp_18 42 rfl (eX_42 g kk _) rfl (Nat.le_of_ble_eq_true rfl) ⟨by decide, by decide⟩ dX4_gatherNearest_59 rfl (fun vr ur hp => ?_)
              obtain ⟨r3, rfl, hu⟩ := hp
              replace hu := hu.symm
              subst hu
              refine tX_49 C n2 rfl (by omega) dX4_gatherNearest_62 ?_
              refine j_aload_n C 2 rfl dX4_gatherNearest_63 ?_
              refine j_dup C rfl dX4_gatherNearest_64 ?_
              refine gX_42_14 C tb_330 (nI n2) rfl dX4_gatherNearest_65 ?_
              refine j_iconst C (nI 1) (by decide) dX4_gatherNearest_68 ?_
              refine j_iaddN C dX4_gatherNearest_69 ?_
              refine pX_42_14 C tb_330 dX4_gatherNearest_70 ?_
              refine j_iinc C (nI (y + 1)) [(6, .int (nI (y + 1))), (5, .int (nI x)), (0, .ref (g 42)), (1, .int (nI i)), (2, .int (nI j)), (3, .int (nI m)), (4, .int (nI l))] 0 rfl (by rw [show Int32.ofInt 1 = nI 1 from by decide, nI_add]) (by decide) rfl dX4_gatherNearest_73 ?_
              refine j_goto C 17 (by decide) dX4_gatherNearest_76 ?_
              refine j_w (cX g kk (sI (sF (sF (sF σ 47 (upd z17_F47 n2 (nI x))) 48 (upd z17_F48 n2 (nI y))) 49 (upd z17_F49 n2 r3)) 686 (nI (n2 + 1)))) (congrArg (cX g kk) (show sI (sF (sF (sF (sI (sF (sF (sF σ 47 z17_F47) 48 z17_F48) 49 z17_F49) 686 (nI n2)) 47 (upd z17_F47 n2 (nI x))) 48 (upd z17_F48 n2 (nI y))) 49 (upd z17_F49 n2 r3)) 686 (nI (n2 + 1)) = sI (sF (sF (sF σ 47 (upd z17_F47 n2 (nI x))) 48 (upd z17_F48 n2 (nI y))) 49 (upd z17_F49 n2 r3)) 686 (nI (n2 + 1)) from (Eq.trans (wrI (Eq.trans (wrF (Eq.trans (wrF (Eq.trans wrFI (wrI (Eq.trans (wrFc (by decide)) (wrF (Eq.trans (wrFc (by decide)) (wrF wrFs))))))) (Eq.trans wrFI (wrI (Eq.trans (wrFc (by decide)) (wrF wrFs)))))) (Eq.trans wrFI (wrI wrFs)))) wrIs))) ?_
              exact ih17 (y + 1) (upd z17_F47 n2 (nI x)) (upd z17_F48 n2 (nI y)) (upd z17_F49 n2 r3) (n2 + 1) (by omega) (by omega) (by omega) (by omega)
        exact L17 _ m z8_F47 z8_F48 z8_F49 n (by omega) (by omega) (by omega) (Nat.lt_succ_self _)
  refine j_w (cX g kk (sF (sI σ 686 (nI 0)) 47 (σ.2.1 47))) (congrArg (cX g kk) (wrFi (S := (sI σ 686 (nI 0))) (c := 47) (v := σ.2.1 47) (gtFI rfl))) ?_
  refine j_w (cX g kk (sF (sF (sI σ 686 (nI 0)) 47 (σ.2.1 47)) 48 (σ.2.1 48))) (congrArg (cX g kk) (wrFi (S := (sF (sI σ 686 (nI 0)) 47 (σ.2.1 47))) (c := 48) (v := σ.2.1 48) (gtFF (by decide) (gtFI rfl)))) ?_
  refine j_w (cX g kk (sF (sF (sF (sI σ 686 (nI 0)) 47 (σ.2.1 47)) 48 (σ.2.1 48)) 49 (σ.2.1 49))) (congrArg (cX g kk) (wrFi (S := (sF (sF (sI σ 686 (nI 0)) 47 (σ.2.1 47)) 48 (σ.2.1 48))) (c := 49) (v := σ.2.1 49) (gtFF (by decide) (gtFF (by decide) (gtFI rfl))))) ?_
  refine j_w (cX g kk (sI (sF (sF (sF σ 47 (σ.2.1 47)) 48 (σ.2.1 48)) 49 (σ.2.1 49)) 686 (nI 0))) (congrArg (cX g kk) (show sF (sF (sF (sI σ 686 (nI 0)) 47 (σ.2.1 47)) 48 (σ.2.1 48)) 49 (σ.2.1 49) = sI (sF (sF (sF σ 47 (σ.2.1 47)) 48 (σ.2.1 48)) 49 (σ.2.1 49)) 686 (nI 0) from (Eq.trans (wrF (Eq.trans (wrF wrFI) wrFI)) wrFI))) ?_
  exact L8 _ i (σ.2.1 47) (σ.2.1 48) (σ.2.1 49) 0 (by omega) (by omega) (by omega) (Nat.lt_succ_self _)
set_option maxRecDepth 100000 in
set_option maxHeartbeats 4000000 in
theorem d_farness (g kk : Nat → Nat) (σ : St) (k : Nat) (hk : σ.1 16 = nI k) (hk6 : k ≤ 6) (hI : iX σ) (n : Nat) (hn : σ.1 686 = nI n) (hnb : n ≤ 441)  (x : Int32) (y : Int32) (e : Int32) : jM (S := St) yX4_farness cX4_farness 6 (some .int) { frames := 2, cells := 0, slots := 0, locals := 44 } kk (cX g kk σ) [.ref (g 42), .int x, .int y, .int e] (cX g kk) (rI (fun (r : Int32) (u : St) => u = σ)) := by
  refine j_entry [(0, .ref (g 42)), (1, .int x), (2, .int y), (3, .int e)] (by decide) (Nat.le_of_ble_eq_true rfl) rfl ?_
  intro X C E HI
  refine j_iconst C (nI 0) (by decide) dX4_farness_0 ?_
  refine j_istore C [(4, .int (nI 0)), (0, .ref (g 42)), (1, .int x), (2, .int y), (3, .int e)] (by decide) rfl dX4_farness_1 ?_
  refine j_iconst C (nI 0) (by decide) dX4_farness_3 ?_
  refine j_istore C [(5, .int (nI 0)), (4, .int (nI 0)), (0, .ref (g 42)), (1, .int x), (2, .int y), (3, .int e)] (by decide) rfl dX4_farness_4 ?_
  have L6 : ∀ (n6 : Nat) (m : Nat) (y6_4 : Int32) (i6_0 : m ≤ n) (hm6 : n - m < n6), J X 0 0 (cX g kk σ) [(5, .int (nI m)), (4, .int y6_4), (0, .ref (g 42)), (1, .int x), (2, .int y), (3, .int e)] 6 [] := by
    intro n6
    induction n6 with
    | zero => intro m y6_4 i6_0 hm; exact absurd hm (Nat.not_lt_zero _)
    | succ n6 ih6 =>
      intro m y6_4 i6_0 hm6
      refine j_iload C 0 rfl dX4_farness_6 ?_
      refine j_aload_n C 2 rfl dX4_farness_8 ?_
      refine gX_42_14 C tb_330 (nI n) hn dX4_farness_9 ?_
      refine j_icmp_geN C 61 (by decide) (by omega) (by omega) dX4_farness_12 (fun c1 => ?_) (fun c1 => ?_)
      · refine j_iload C 1 rfl dX4_farness_61 ?_
        exact j_iret C E (σ) ⟨_, rfl, rfl⟩ rfl dX4_farness_63
      · refine j_iload C 1 rfl dX4_farness_15 ?_
        refine j_iload_n C 5 rfl dX4_farness_17 ?_
        refine j_icmp_ge C 61 (by decide) dX4_farness_18 (fun c2 => ?_) (fun c2 => ?_)
        · refine j_iload C 1 rfl dX4_farness_61 ?_
          exact j_iret C E (σ) ⟨_, rfl, rfl⟩ rfl dX4_farness_63
        · refine j_iload C 1 rfl dX4_farness_21 ?_
          refine j_aload_n C 2 rfl dX4_farness_23 ?_
          refine gX_42_13 C tb_329 dX4_farness_24 ?_
          refine j_iload C 0 rfl dX4_farness_27 ?_
          refine rX_49 C m rfl (by omega) ((σ.2.1 49) m) rfl dX4_farness_29 ?_
          refine j_iload_n C 3 rfl dX4_farness_30 ?_
          refine j_iload_n C 4 rfl dX4_farness_31 ?_
          refine j_aload_n C 2 rfl dX4_farness_32 ?_
          refine gX_42_11 C tb_327 dX4_farness_33 ?_
          refine j_iload C 0 rfl dX4_farness_36 ?_
          refine rX_47 C m rfl (by omega) ((σ.2.1 47) m) rfl dX4_farness_38 ?_
          refine j_aload_n C 2 rfl dX4_farness_39 ?_
          refine gX_42_12 C tb_328 dX4_farness_40 ?_
          refine j_iload C 0 rfl dX4_farness_43 ?_
          refine rX_48 C m rfl (by omega) ((σ.2.1 48) m) rfl dX4_farness_45 ?_
          refine j_SN01 C (c_far x y ((σ.2.1 47) m) ((σ.2.1 48) m)) kyX10_far (fun _ h => h.2.2.2.2.2.1) tb_587 rfl (Nat.le_of_ble_eq_true rfl) ⟨by decide, by decide⟩ ⟨by decide, by decide⟩ dX4_farness_46 rfl ?_
          refine j_top (fun v3 => ?_)
          refine j_mmin C tb_726 tb_727 tb_15 tb_728 (by decide) (Nat.le_of_ble_eq_true rfl) (by decide) (by decide) dX4_farness_49 ?_
          refine j_top (fun v4 => ?_)
          refine j_iadd C dX4_farness_52 ?_
          refine j_istore C [(4, .int (y6_4 + v4)), (5, .int (nI m)), (0, .ref (g 42)), (1, .int x), (2, .int y), (3, .int e)] (by decide) rfl dX4_farness_53 ?_
          refine j_iinc C (nI (m + 1)) [(5, .int (nI (m + 1))), (4, .int (y6_4 + v4)), (0, .ref (g 42)), (1, .int x), (2, .int y), (3, .int e)] 1 rfl (by rw [show Int32.ofInt 1 = nI 1 from by decide, nI_add]) (by decide) rfl dX4_farness_55 ?_
          refine j_goto C 6 (by decide) dX4_farness_58 ?_
          exact ih6 (m + 1) (y6_4 + v4) (by omega) (by omega)
  exact L6 _ 0 (nI 0) (by omega) (Nat.lt_succ_self _)
set_option maxRecDepth 100000 in
set_option maxHeartbeats 4000000 in
theorem d_bestNew (g kk : Nat → Nat) (σ : St) (k : Nat) (hk : σ.1 16 = nI k) (hk6 : k ≤ 6) (hI : iX σ) (n : Nat) (hn : σ.1 686 = nI n) (hnb : n ≤ 441)   : jM (S := St) yX4_bestNew cX4_bestNew 6 (some .int) { frames := 3, cells := 0, slots := 0, locals := 69 } kk (cX g kk σ) [.ref (g 42)] (cX g kk) (rI (fun (r : Int32) (u : St) => u = σ)) := by
  refine j_entry [(0, .ref (g 42))] (by decide) (Nat.le_of_ble_eq_true rfl) rfl ?_
  intro X C E HI
  refine j_iconst C (nI 0) (by decide) dX4_bestNew_0 ?_
  refine j_istore_n C [(1, .int (nI 0)), (0, .ref (g 42))] rfl (by decide) rfl dX4_bestNew_1 ?_
  refine j_sipush C (nI 18522) (by decide) dX4_bestNew_2 ?_
  refine j_istore_n C [(2, .int (nI 18522)), (1, .int (nI 0)), (0, .ref (g 42))] rfl (by decide) rfl dX4_bestNew_5 ?_
  refine j_iconst C (nI 0) (by decide) dX4_bestNew_6 ?_
  refine j_istore_n C [(3, .int (nI 0)), (2, .int (nI 18522)), (1, .int (nI 0)), (0, .ref (g 42))] rfl (by decide) rfl dX4_bestNew_7 ?_
  have L8 : ∀ (n8 : Nat) (x : Nat) (y8_2 : Int32) (y8_1 : Int32) (i8_0 : x ≤ 21) (hm8 : 21 - x < n8), J X 0 0 (cX g kk σ) [(3, .int (nI x)), (2, .int y8_2), (1, .int y8_1), (0, .ref (g 42))] 8 [] := by
    intro n8
    induction n8 with
    | zero => intro x y8_2 y8_1 i8_0 hm; exact absurd hm (Nat.not_lt_zero _)
    | succ n8 ih8 =>
      intro x y8_2 y8_1 i8_0 hm8
      refine j_iload_n C 0 rfl dX4_bestNew_8 ?_
      refine j_bipush C (nI 21) (by decide) dX4_bestNew_9 ?_
      refine j_icmp_geN C 63 (by decide) (by omega) (by omega) dX4_bestNew_11 (fun c1 => ?_) (fun c1 => ?_)
      · refine j_iload_n C 2 rfl dX4_bestNew_63 ?_
        exact j_iret C E (σ) ⟨_, rfl, rfl⟩ rfl dX4_bestNew_64
      · refine j_iconst C (nI 0) (by decide) dX4_bestNew_14 ?_
        refine j_istore C [(4, .int (nI 0)), (3, .int (nI x)), (2, .int y8_2), (1, .int y8_1), (0, .ref (g 42))] (by decide) rfl dX4_bestNew_15 ?_
        have L17 : ∀ (n17 : Nat) (y : Nat) (y17_2 : Int32) (y17_1 : Int32) (i17_0 : y ≤ 21) (hm17 : 21 - y < n17), J X 0 0 (cX g kk σ) [(4, .int (nI y)), (3, .int (nI x)), (2, .int y17_2), (1, .int y17_1), (0, .ref (g 42))] 17 [] := by
          intro n17
          induction n17 with
          | zero => intro y y17_2 y17_1 i17_0 hm; exact absurd hm (Nat.not_lt_zero _)
          | succ n17 ih17 =>
            intro y y17_2 y17_1 i17_0 hm17
            refine j_iload C 0 rfl dX4_bestNew_17 ?_
            refine j_bipush C (nI 21) (by decide) dX4_bestNew_19 ?_
            refine j_icmp_geN C 57 (by decide) (by omega) (by omega) dX4_bestNew_21 (fun c2 => ?_) (fun c2 => ?_)
            · refine j_iinc C (nI (x + 1)) [(3, .int (nI (x + 1))), (4, .int (nI y)), (2, .int y17_2), (1, .int y17_1), (0, .ref (g 42))] 1 rfl (by rw [show Int32.ofInt 1 = nI 1 from by decide, nI_add]) (by decide) rfl dX4_bestNew_57 ?_
              refine j_goto C 8 (by decide) dX4_bestNew_60 ?_
              refine j_sub (lv' := [(3, .int (nI (x + 1))), (2, .int y17_2), (1, .int y17_1), (0, .ref (g 42))]) [0, 2, 3, 4] rfl ?_
              exact ih8 (x + 1) y17_2 y17_1 (by omega) (by omega)
            · refine j_aload_n C 4 rfl dX4_bestNew_24 ?_
              refine j_iload_n C 1 rfl dX4_bestNew_25 ?_
              refine j_iload C 0 rfl dX4_bestNew_26 ?_
              refine j_iload_n C 2 rfl dX4_bestNew_28 ?_
              refine j_V1 C (d_farness g kk σ k hk hk6 hI n hn (by omega)  (nI x) (nI y) y17_2) kyX4_farness tb_770 tb_772 sp_19 42 rfl (eX_42 g kk _) rfl (Nat.le_of_ble_eq_true rfl) ⟨by decide, by decide⟩ dX4_bestNew_29 rfl (fun vr ur hp => ?_)
              obtain ⟨r3, rfl, hu⟩ := hp
              replace hu := hu.symm
              subst hu
              refine j_istore C [(5, .int r3), (4, .int (nI y)), (3, .int (nI x)), (2, .int y17_2), (1, .int y17_1), (0, .ref (g 42))] (by decide) rfl dX4_bestNew_32 ?_
              refine j_iload C 0 rfl dX4_bestNew_34 ?_
              refine j_iload_n C 3 rfl dX4_bestNew_36 ?_
              refine j_icmp_ge C 51 (by decide) dX4_bestNew_37 (fun c4 => ?_) (fun c4 => ?_)
              · refine j_iinc C (nI (y + 1)) [(4, .int (nI (y + 1))), (5, .int r3), (3, .int (nI x)), (2, .int y17_2), (1, .int y17_1), (0, .ref (g 42))] 1 rfl (by rw [show Int32.ofInt 1 = nI 1 from by decide, nI_add]) (by decide) rfl dX4_bestNew_51 ?_
                refine j_goto C 17 (by decide) dX4_bestNew_54 ?_
                refine j_sub (lv' := [(4, .int (nI (y + 1))), (3, .int (nI x)), (2, .int y17_2), (1, .int y17_1), (0, .ref (g 42))]) [0, 2, 3, 4, 5] rfl ?_
                exact ih17 (y + 1) y17_2 y17_1 (by omega) (by omega)
              · refine j_iload C 0 rfl dX4_bestNew_40 ?_
                refine j_istore_n C [(2, .int r3), (5, .int r3), (4, .int (nI y)), (3, .int (nI x)), (1, .int y17_1), (0, .ref (g 42))] rfl (by decide) rfl dX4_bestNew_42 ?_
                refine j_bipush C (nI 100) (by decide) dX4_bestNew_43 ?_
                refine j_iload_n C 3 rfl dX4_bestNew_45 ?_
                refine j_imulN C dX4_bestNew_46 ?_
                refine j_iload C 2 rfl dX4_bestNew_47 ?_
                refine j_iaddN C dX4_bestNew_49 ?_
                refine j_istore_n C [(1, .int (nI ((100 * x) + y))), (2, .int r3), (5, .int r3), (4, .int (nI y)), (3, .int (nI x)), (0, .ref (g 42))] rfl (by decide) rfl dX4_bestNew_50 ?_
                refine j_iinc C (nI (y + 1)) [(4, .int (nI (y + 1))), (1, .int (nI ((100 * x) + y))), (2, .int r3), (5, .int r3), (3, .int (nI x)), (0, .ref (g 42))] 3 rfl (by rw [show Int32.ofInt 1 = nI 1 from by decide, nI_add]) (by decide) rfl dX4_bestNew_51 ?_
                refine j_goto C 17 (by decide) dX4_bestNew_54 ?_
                refine j_sub (lv' := [(4, .int (nI (y + 1))), (3, .int (nI x)), (2, .int r3), (1, .int (nI ((100 * x) + y))), (0, .ref (g 42))]) [0, 4, 2, 1, 5] rfl ?_
                exact ih17 (y + 1) r3 (nI ((100 * x) + y)) (by omega) (by omega)
        exact L17 _ 0 y8_2 y8_1 (by omega) (Nat.lt_succ_self _)
  exact L8 _ 0 (nI 18522) (nI 0) (by omega) (Nat.lt_succ_self _)
def Un (u q : Nat) : Prop := (u = 100000 ∧ q ≤ 0) ∨ (u = 10000 ∧ q ≤ 1) ∨ (u = 1000 ∧ q ≤ 2) ∨ (u = 100 ∧ q ≤ 3) ∨ (u = 10 ∧ q ≤ 4) ∨ (u = 1 ∧ q ≤ 5) ∨ (u = 0 ∧ q ≤ 6)
theorem Un_0 : Un 100000 0 := by unfold Un; omega
theorem Un_le {u q : Nat} (h : Un u q) : q ≤ 6 ∧ u ≤ 100000 ∧ (0 < u → q ≤ 5) := by unfold Un at h; omega
theorem Un_s {u q : Nat} (h : Un u q) (hu : 0 < u) : Un (u / 10) q := by
  rcases h with ⟨rfl, h⟩ | ⟨rfl, h⟩ | ⟨rfl, h⟩ | ⟨rfl, h⟩ | ⟨rfl, h⟩ | ⟨rfl, h⟩ | ⟨rfl, h⟩ <;> unfold Un <;> omega
theorem Un_t {u q : Nat} (h : Un u q) (hu : 0 < u) : Un (u / 10) (q + 1) := by
  rcases h with ⟨rfl, h⟩ | ⟨rfl, h⟩ | ⟨rfl, h⟩ | ⟨rfl, h⟩ | ⟨rfl, h⟩ | ⟨rfl, h⟩ | ⟨rfl, h⟩ <;> unfold Un <;> omega
set_option maxRecDepth 100000 in
set_option maxHeartbeats 4000000 in
theorem d_rgather (g kk : Nat → Nat) (σ : St) (k : Nat) (hk : σ.1 16 = nI k) (hk6 : k ≤ 6) (hI : iX σ) (hO : al_ 6 5 (σ.2.1 51)) (a : Nat) (ha0 : a ≤ 666666) : jM (S := St) yX8_gather cX8_gather 4 none { frames := 0, cells := 0, slots := 0, locals := 0 } kk (cX g kk σ) [.ref (g 50), .int (nI a)] (cX g kk) (rV (fun u : St => ∃ (pF51 : Nat → Int32) (q : Nat), u = sI (sF σ 51 pF51) 803 (nI q) ∧ (q ≤ 6) ∧ (al_ 6 5 pF51))) := by
  refine j_entry [(0, .ref (g 50)), (1, .int (nI a))] (by decide) (Nat.le_of_ble_eq_true rfl) rfl ?_
  intro X C E HI
  refine j_aload_n C 0 rfl dX8_gather_0 ?_
  refine j_iconst C (nI 0) (by decide) dX8_gather_1 ?_
  refine pX_50_3 C tb_372 dX8_gather_2 ?_
  refine j_ldc (v := nI 100000) C tb_786 dX8_gather_5 ?_
  refine j_istore_n C [(2, .int (nI 100000)), (0, .ref (g 50)), (1, .int (nI a))] rfl (by decide) rfl dX8_gather_7 ?_
  have L8 : ∀ (n8 : Nat) (u : Nat) (fo : Nat → Int32) (q : Nat) (hun : Un u q) (ho : al_ 6 5 fo) (hm8 : u < n8), J X 0 0 (cX g kk (sI (sF σ 51 fo) 803 (nI q))) [(2, .int (nI u)), (0, .ref (g 50)), (1, .int (nI a))] 8 [] := by
    intro n8
    induction n8 with
    | zero => intro u fo q hun ho hm; exact absurd hm (Nat.not_lt_zero _)
    | succ n8 ih8 =>
      intro u fo q hun ho hm8
      have hul := Un_le hun
      refine j_iload_n C 0 rfl dX8_gather_8 ?_
      refine j_iconst C (nI 1) (by decide) dX8_gather_9 ?_
      refine j_icmp_ltN C 69 (by decide) (by omega) (by omega) dX8_gather_10 (fun c1 => ?_) (fun c1 => ?_)
      · exact j_vret C E (sI (sF σ 51 fo) 803 (nI q)) ⟨rfl, ⟨fo, q, rfl, (by omega), ho⟩⟩ rfl dX8_gather_69
      · refine j_iload_n C 2 rfl dX8_gather_13 ?_
        refine j_iload_n C 0 rfl dX8_gather_14 ?_
        have hq2 := Nat.div_le_self a u
        refine j_idivN C (by omega) (by omega) (by omega) dX8_gather_15 ?_
        refine j_bipush C (nI 10) (by decide) dX8_gather_16 ?_
        refine j_iremN C (by omega) (by omega) (by omega) dX8_gather_18 ?_
        refine j_istore_n C [(3, .int (nI ((a / u) % 10))), (2, .int (nI u)), (0, .ref (g 50)), (1, .int (nI a))] rfl (by decide) rfl dX8_gather_19 ?_
        refine j_iload_n C 0 rfl dX8_gather_20 ?_
        refine j_iconst C (nI 1) (by decide) dX8_gather_21 ?_
        refine j_icmp_ltN C 61 (by decide) (by omega) (by omega) dX8_gather_22 (fun c3 => ?_) (fun c3 => ?_)
        · refine j_iload_n C 1 rfl dX8_gather_61 ?_
          refine j_bipush C (nI 10) (by decide) dX8_gather_62 ?_
          refine j_idivN C (by omega) (by omega) (by omega) dX8_gather_64 ?_
          refine j_istore_n C [(2, .int (nI (u / 10))), (3, .int (nI ((a / u) % 10))), (0, .ref (g 50)), (1, .int (nI a))] rfl (by decide) rfl dX8_gather_65 ?_
          refine j_goto C 8 (by decide) dX8_gather_66 ?_
          refine j_sub (lv' := [(2, .int (nI (u / 10))), (0, .ref (g 50)), (1, .int (nI a))]) [0, 2, 3] rfl ?_
          exact ih8 (u / 10) fo q (Un_s hun (by omega)) ho (by omega)
        · refine j_iload_n C 0 rfl dX8_gather_25 ?_
          refine j_aload_n C 2 rfl dX8_gather_26 ?_
          refine gX_50_0 C tb_368 dX8_gather_27 ?_
          refine gX_27_0 C tb_200 dX8_gather_30 ?_
          refine gX_1_0 C tb_101 (nI k) hk dX8_gather_33 ?_
          refine j_icmp_gtN C 61 (by decide) (by omega) (by omega) dX8_gather_36 (fun c4 => ?_) (fun c4 => ?_)
          · refine j_iload_n C 1 rfl dX8_gather_61 ?_
            refine j_bipush C (nI 10) (by decide) dX8_gather_62 ?_
            refine j_idivN C (by omega) (by omega) (by omega) dX8_gather_64 ?_
            refine j_istore_n C [(2, .int (nI (u / 10))), (3, .int (nI ((a / u) % 10))), (0, .ref (g 50)), (1, .int (nI a))] rfl (by decide) rfl dX8_gather_65 ?_
            refine j_goto C 8 (by decide) dX8_gather_66 ?_
            refine j_sub (lv' := [(2, .int (nI (u / 10))), (0, .ref (g 50)), (1, .int (nI a))]) [0, 2, 3] rfl ?_
            exact ih8 (u / 10) fo q (Un_s hun (by omega)) ho (by omega)
          · refine j_aload_n C 2 rfl dX8_gather_39 ?_
            refine gX_50_1 C tb_369 dX8_gather_40 ?_
            refine j_aload_n C 2 rfl dX8_gather_43 ?_
            refine gX_50_3 C tb_372 (nI q) rfl dX8_gather_44 ?_
            refine j_iload_n C 0 rfl dX8_gather_47 ?_
            refine j_iconst C (nI 1) (by decide) dX8_gather_48 ?_
            refine j_isubN C (by omega) dX8_gather_49 ?_
            refine tX_51 C q rfl (by omega) dX8_gather_50 ?_
            refine j_aload_n C 2 rfl dX8_gather_51 ?_
            refine j_dup C rfl dX8_gather_52 ?_
            refine gX_50_3 C tb_372 (nI q) rfl dX8_gather_53 ?_
            refine j_iconst C (nI 1) (by decide) dX8_gather_56 ?_
            refine j_iaddN C dX8_gather_57 ?_
            refine pX_50_3 C tb_372 dX8_gather_58 ?_
            refine j_iload_n C 1 rfl dX8_gather_61 ?_
            refine j_bipush C (nI 10) (by decide) dX8_gather_62 ?_
            refine j_idivN C (by omega) (by omega) (by omega) dX8_gather_64 ?_
            refine j_istore_n C [(2, .int (nI (u / 10))), (3, .int (nI ((a / u) % 10))), (0, .ref (g 50)), (1, .int (nI a))] rfl (by decide) rfl dX8_gather_65 ?_
            refine j_goto C 8 (by decide) dX8_gather_66 ?_
            refine j_sub (lv' := [(2, .int (nI (u / 10))), (0, .ref (g 50)), (1, .int (nI a))]) [0, 2, 3] rfl ?_
            refine j_w (cX g kk (sI (sF σ 51 (upd fo q (nI (((a / u) % 10) - 1)))) 803 (nI (q + 1)))) (congrArg (cX g kk) (show sI (sF (sI (sF σ 51 fo) 803 (nI q)) 51 (upd fo q (nI (((a / u) % 10) - 1)))) 803 (nI (q + 1)) = sI (sF σ 51 (upd fo q (nI (((a / u) % 10) - 1)))) 803 (nI (q + 1)) from (Eq.trans (wrI (Eq.trans wrFI (wrI wrFs))) wrIs))) ?_
            exact ih8 (u / 10) (upd fo q (nI (((a / u) % 10) - 1))) (q + 1) (Un_t hun (by omega)) (al_upd ho ⟨_, by omega, rfl⟩) (by omega)
  refine j_w (cX g kk (sF (sI σ 803 (nI 0)) 51 (σ.2.1 51))) (congrArg (cX g kk) (wrFi (S := (sI σ 803 (nI 0))) (c := 51) (v := σ.2.1 51) (gtFI rfl))) ?_
  refine j_w (cX g kk (sI (sF σ 51 (σ.2.1 51)) 803 (nI 0))) (congrArg (cX g kk) (show sF (sI σ 803 (nI 0)) 51 (σ.2.1 51) = sI (sF σ 51 (σ.2.1 51)) 803 (nI 0) from wrFI)) ?_
  exact L8 _ 100000 (σ.2.1 51) 0 Un_0 hO (Nat.lt_succ_self _)
set_option maxRecDepth 100000 in
set_option maxHeartbeats 4000000 in
theorem d_canOn (g kk : Nat → Nat) (σ : St) (k : Nat) (hk : σ.1 16 = nI k) (hk6 : k ≤ 6) (hI : iX σ) (q : Nat) (hq : σ.1 803 = nI q) (hqb : q ≤ 6) (hO : al_ 6 5 (σ.2.1 51)) (d : Nat) (hd0 : d < 28) : jM (S := St) yX8_canOn cX8_canOn 3 (some .int) { frames := 0, cells := 0, slots := 0, locals := 0 } kk (cX g kk σ) [.ref (g 50), .int (nI d)] (cX g kk) (rI (fun (r : Int32) (u : St) => u = σ ∧ (lm_ 5 r))) := by
  refine j_entry [(0, .ref (g 50)), (1, .int (nI d))] (by decide) (Nat.le_of_ble_eq_true rfl) rfl ?_
  intro X C E HI
  refine j_iconst C (nI 0) (by decide) dX8_canOn_0 ?_
  refine j_istore_n C [(2, .int (nI 0)), (0, .ref (g 50)), (1, .int (nI d))] rfl (by decide) rfl dX8_canOn_1 ?_
  have L2 : ∀ (n2 : Nat) (n : Nat) (i2_0 : n ≤ q) (hm2 : q - n < n2), J X 0 0 (cX g kk σ) [(2, .int (nI n)), (0, .ref (g 50)), (1, .int (nI d))] 2 [] := by
    intro n2
    induction n2 with
    | zero => intro n i2_0 hm; exact absurd hm (Nat.not_lt_zero _)
    | succ n2 ih2 =>
      intro n i2_0 hm2
      refine j_iload_n C 0 rfl dX8_canOn_2 ?_
      refine j_aload_n C 1 rfl dX8_canOn_3 ?_
      refine gX_50_3 C tb_372 (nI q) hq dX8_canOn_4 ?_
      refine j_icmp_geN C 46 (by decide) (by omega) (by omega) dX8_canOn_7 (fun c1 => ?_) (fun c1 => ?_)
      · refine j_iconst C ((-1)) (by decide) dX8_canOn_46 ?_
        exact j_iret C E (σ) ⟨_, rfl, ⟨rfl, (Or.inl rfl)⟩⟩ rfl dX8_canOn_47
      · refine j_aload_n C 1 rfl dX8_canOn_10 ?_
        refine gX_50_0 C tb_368 dX8_canOn_11 ?_
        refine gX_27_4 C tb_209 dX8_canOn_14 ?_
        refine j_aload_n C 1 rfl dX8_canOn_17 ?_
        refine gX_50_1 C tb_369 dX8_canOn_18 ?_
        refine j_iload_n C 0 rfl dX8_canOn_21 ?_
        obtain ⟨m2, hm2, em2⟩ := hO n (by omega)
        refine rX_51 C n rfl (by omega) (nI m2) em2 dX8_canOn_22 ?_
        refine j_bipush C (nI 28) (by decide) dX8_canOn_23 ?_
        refine j_imulN C dX8_canOn_25 ?_
        refine j_iload_n C 2 rfl dX8_canOn_26 ?_
        refine j_iaddN C dX8_canOn_27 ?_
        refine rX_31 C ((m2 * 28) + d) rfl (by omega) ((σ.2.1 31) ((m2 * 28) + d)) rfl dX8_canOn_28 ?_
        refine j_iconst C ((-1)) (by decide) dX8_canOn_29 ?_
        refine j_icmp_eq C 40 (by decide) dX8_canOn_30 (fun c3 => ?_) (fun c3 => ?_)
        · refine j_iinc C (nI (n + 1)) [(2, .int (nI (n + 1))), (0, .ref (g 50)), (1, .int (nI d))] 0 rfl (by rw [show Int32.ofInt 1 = nI 1 from by decide, nI_add]) (by decide) rfl dX8_canOn_40 ?_
          refine j_goto C 2 (by decide) dX8_canOn_43 ?_
          exact ih2 (n + 1) (by omega) (by omega)
        · refine j_aload_n C 1 rfl dX8_canOn_33 ?_
          refine gX_50_1 C tb_369 dX8_canOn_34 ?_
          refine j_iload_n C 0 rfl dX8_canOn_37 ?_
          obtain ⟨m4, hm4, em4⟩ := hO n (by omega)
          refine rX_51 C n rfl (by omega) (nI m4) em4 dX8_canOn_38 ?_
          exact j_iret C E (σ) ⟨_, rfl, ⟨rfl, (Or.inr ⟨_, by omega, rfl⟩)⟩⟩ rfl dX8_canOn_39
  exact L2 _ 0 (by omega) (Nat.lt_succ_self _)
set_option maxRecDepth 100000 in
set_option maxHeartbeats 4000000 in
theorem d_join (g kk : Nat → Nat) (σ : St) (k : Nat) (hk : σ.1 16 = nI k) (hk6 : k ≤ 6) (hI : iX σ) (q : Nat) (hq : σ.1 803 = nI q) (hqb : q ≤ 6) (hO : al_ 6 5 (σ.2.1 51))  : jM (S := St) yX8_join cX8_join 4 none { frames := 1, cells := 0, slots := 0, locals := 22 } kk (cX g kk σ) [.ref (g 50)] (cX g kk) (rV (fun u : St => ∃ (pF52 : Nat → Int32) (z : Nat) (pI805 : Int32), u = sI (sI (sF σ 52 pF52) 804 (nI z)) 805 pI805 ∧ (z ≤ 28))) := by
  refine j_entry [(0, .ref (g 50))] (by decide) (Nat.le_of_ble_eq_true rfl) rfl ?_
  intro X C E HI
  refine j_aload_n C 0 rfl dX8_join_0 ?_
  refine j_iconst C (nI 0) (by decide) dX8_join_1 ?_
  refine pX_50_4 C tb_373 dX8_join_2 ?_
  refine j_aload_n C 0 rfl dX8_join_5 ?_
  refine j_iconst C (nI 0) (by decide) dX8_join_6 ?_
  refine pX_50_5 C tb_375 dX8_join_7 ?_
  refine j_iconst C ((-1)) (by decide) dX8_join_10 ?_
  refine j_istore_n C [(1, .int (-1)), (0, .ref (g 50))] rfl (by decide) rfl dX8_join_11 ?_
  refine j_iconst C (nI 0) (by decide) dX8_join_12 ?_
  refine j_istore_n C [(2, .int (nI 0)), (1, .int (-1)), (0, .ref (g 50))] rfl (by decide) rfl dX8_join_13 ?_
  have L14 : ∀ (n14 : Nat) (d : Nat) (y14_1 : Int32) (z14_F52 : Nat → Int32) (z : Nat) (z14_I805 : Int32) (i14_0 : d ≤ 28) (i14_1 : z ≤ d) (hm14 : 28 - d < n14), J X 0 0 (cX g kk (sI (sI (sF σ 52 z14_F52) 804 (nI z)) 805 z14_I805)) [(2, .int (nI d)), (1, .int y14_1), (0, .ref (g 50))] 14 [] := by
    intro n14
    induction n14 with
    | zero => intro d y14_1 z14_F52 z z14_I805 i14_0 i14_1 hm; exact absurd hm (Nat.not_lt_zero _)
    | succ n14 ih14 =>
      intro d y14_1 z14_F52 z z14_I805 i14_0 i14_1 hm14
      refine j_iload_n C 0 rfl dX8_join_14 ?_
      refine j_bipush C (nI 28) (by decide) dX8_join_15 ?_
      refine j_icmp_geN C 95 (by decide) (by omega) (by omega) dX8_join_17 (fun c1 => ?_) (fun c1 => ?_)
      · exact j_vret C E (sI (sI (sF σ 52 z14_F52) 804 (nI z)) 805 z14_I805) ⟨rfl, ⟨z14_F52, z, z14_I805, rfl, (by omega)⟩⟩ rfl dX8_join_95
      · refine j_aload_n C 2 rfl dX8_join_20 ?_
        refine j_iload_n C 0 rfl dX8_join_21 ?_
        refine j_V1 C (d_canOn g kk (sI (sI (sF σ 52 z14_F52) 804 (nI z)) 805 z14_I805) k hk hk6 hI q hq (by omega) hO d (by first | assumption | omega)) kyX8_canOn tb_799 tb_788 tb_789 50 rfl (eX_50 g kk _) rfl (Nat.le_of_ble_eq_true rfl) ⟨by decide, by decide⟩ dX8_join_22 rfl (fun vr ur hp => ?_)
        obtain ⟨r3, rfl, hu, g2⟩ := hp
        replace hu := hu.symm
        subst hu
        rcases g2 with rfl | ⟨b4, hb4, rfl⟩
        · refine j_istore_n C [(3, .int (-1)), (2, .int (nI d)), (1, .int y14_1), (0, .ref (g 50))] rfl (by decide) rfl dX8_join_25 ?_
          refine j_iload_n C 0 rfl dX8_join_26 ?_
          refine j_iconst C ((-1)) (by decide) dX8_join_27 ?_
          refine j_icmp_ne C 34 (by decide) dX8_join_28 (fun c5 => ?_) (fun c5 => ?_)
          · exact absurd rfl c5
          · refine j_goto C 89 (by decide) dX8_join_31 ?_
            refine j_iinc C (nI (d + 1)) [(2, .int (nI (d + 1))), (3, .int (-1)), (1, .int y14_1), (0, .ref (g 50))] 1 rfl (by rw [show Int32.ofInt 1 = nI 1 from by decide, nI_add]) (by decide) rfl dX8_join_89 ?_
            refine j_goto C 14 (by decide) dX8_join_92 ?_
            refine j_sub (lv' := [(2, .int (nI (d + 1))), (1, .int y14_1), (0, .ref (g 50))]) [0, 2, 3] rfl ?_
            exact ih14 (d + 1) y14_1 z14_F52 z z14_I805 (by omega) (by omega) (by omega)
        · refine j_istore_n C [(3, .int (nI b4)), (2, .int (nI d)), (1, .int y14_1), (0, .ref (g 50))] rfl (by decide) rfl dX8_join_25 ?_
          refine j_iload_n C 0 rfl dX8_join_26 ?_
          refine j_iconst C ((-1)) (by decide) dX8_join_27 ?_
          refine j_icmp_ne C 34 (by decide) dX8_join_28 (fun c6 => ?_) (fun c6 => ?_)
          · refine j_aload_n C 3 rfl dX8_join_34 ?_
            refine j_dup C rfl dX8_join_35 ?_
            refine gX_50_5 C tb_375 (z14_I805) rfl dX8_join_36 ?_
            refine j_aload_n C 3 rfl dX8_join_39 ?_
            refine gX_50_0 C tb_368 dX8_join_40 ?_
            refine gX_27_4 C tb_209 dX8_join_43 ?_
            refine j_iload_n C 0 rfl dX8_join_46 ?_
            refine j_bipush C (nI 28) (by decide) dX8_join_47 ?_
            refine j_imulN C dX8_join_49 ?_
            refine j_iload_n C 1 rfl dX8_join_50 ?_
            refine j_iaddN C dX8_join_51 ?_
            refine rX_31 C ((b4 * 28) + d) rfl (by omega) ((σ.2.1 31) ((b4 * 28) + d)) rfl dX8_join_52 ?_
            refine j_iadd C dX8_join_53 ?_
            refine j_top (fun v7 => ?_)
            refine pX_50_5 C tb_375 dX8_join_54 ?_
            refine j_iload_n C 2 rfl dX8_join_57 ?_
            refine j_iconst C ((-1)) (by decide) dX8_join_58 ?_
            refine j_icmp_eq C 87 (by decide) dX8_join_59 (fun c8 => ?_) (fun c8 => ?_)
            · refine j_iload_n C 0 rfl dX8_join_87 ?_
              refine j_istore_n C [(1, .int (nI b4)), (3, .int (nI b4)), (2, .int (nI d)), (0, .ref (g 50))] rfl (by decide) rfl dX8_join_88 ?_
              refine j_iinc C (nI (d + 1)) [(2, .int (nI (d + 1))), (1, .int (nI b4)), (3, .int (nI b4)), (0, .ref (g 50))] 2 rfl (by rw [show Int32.ofInt 1 = nI 1 from by decide, nI_add]) (by decide) rfl dX8_join_89 ?_
              refine j_goto C 14 (by decide) dX8_join_92 ?_
              refine j_sub (lv' := [(2, .int (nI (d + 1))), (1, .int (nI b4)), (0, .ref (g 50))]) [0, 1, 3] rfl ?_
              refine j_w (cX g kk (sI (sI (sF σ 52 z14_F52) 804 (nI z)) 805 v7)) (congrArg (cX g kk) (show sI (sI (sI (sF σ 52 z14_F52) 804 (nI z)) 805 z14_I805) 805 v7 = sI (sI (sF σ 52 z14_F52) 804 (nI z)) 805 v7 from wrIs)) ?_
              exact ih14 (d + 1) (nI b4) z14_F52 z v7 (by omega) (by omega) (by omega)
            · refine j_iload_n C 0 rfl dX8_join_62 ?_
              refine j_iload_n C 2 rfl dX8_join_63 ?_
              refine j_icmp_eq C 87 (by decide) dX8_join_64 (fun c9 => ?_) (fun c9 => ?_)
              · refine j_iload_n C 0 rfl dX8_join_87 ?_
                refine j_istore_n C [(1, .int (nI b4)), (3, .int (nI b4)), (2, .int (nI d)), (0, .ref (g 50))] rfl (by decide) rfl dX8_join_88 ?_
                refine j_iinc C (nI (d + 1)) [(2, .int (nI (d + 1))), (1, .int (nI b4)), (3, .int (nI b4)), (0, .ref (g 50))] 2 rfl (by rw [show Int32.ofInt 1 = nI 1 from by decide, nI_add]) (by decide) rfl dX8_join_89 ?_
                refine j_goto C 14 (by decide) dX8_join_92 ?_
                refine j_sub (lv' := [(2, .int (nI (d + 1))), (1, .int (nI b4)), (0, .ref (g 50))]) [0, 1, 3] rfl ?_
                refine j_w (cX g kk (sI (sI (sF σ 52 z14_F52) 804 (nI z)) 805 v7)) (congrArg (cX g kk) (show sI (sI (sI (sF σ 52 z14_F52) 804 (nI z)) 805 z14_I805) 805 v7 = sI (sI (sF σ 52 z14_F52) 804 (nI z)) 805 v7 from wrIs)) ?_
                exact ih14 (d + 1) (nI b4) z14_F52 z v7 (by omega) (by omega) (by omega)
              · refine j_aload_n C 3 rfl dX8_join_67 ?_
                refine gX_50_2 C tb_370 dX8_join_68 ?_
                refine j_aload_n C 3 rfl dX8_join_71 ?_
                refine gX_50_4 C tb_373 (nI z) rfl dX8_join_72 ?_
                refine j_iload_n C 1 rfl dX8_join_75 ?_
                refine tX_52 C z rfl (by omega) dX8_join_76 ?_
                refine j_aload_n C 3 rfl dX8_join_77 ?_
                refine j_dup C rfl dX8_join_78 ?_
                refine gX_50_4 C tb_373 (nI z) rfl dX8_join_79 ?_
                refine j_iconst C (nI 1) (by decide) dX8_join_82 ?_
                refine j_iaddN C dX8_join_83 ?_
                refine pX_50_4 C tb_373 dX8_join_84 ?_
                refine j_iload_n C 0 rfl dX8_join_87 ?_
                refine j_istore_n C [(1, .int (nI b4)), (3, .int (nI b4)), (2, .int (nI d)), (0, .ref (g 50))] rfl (by decide) rfl dX8_join_88 ?_
                refine j_iinc C (nI (d + 1)) [(2, .int (nI (d + 1))), (1, .int (nI b4)), (3, .int (nI b4)), (0, .ref (g 50))] 2 rfl (by rw [show Int32.ofInt 1 = nI 1 from by decide, nI_add]) (by decide) rfl dX8_join_89 ?_
                refine j_goto C 14 (by decide) dX8_join_92 ?_
                refine j_sub (lv' := [(2, .int (nI (d + 1))), (1, .int (nI b4)), (0, .ref (g 50))]) [0, 1, 3] rfl ?_
                refine j_w (cX g kk (sI (sI (sF σ 52 (upd z14_F52 z (nI d))) 804 (nI (z + 1))) 805 v7)) (congrArg (cX g kk) (show sI (sF (sI (sI (sI (sF σ 52 z14_F52) 804 (nI z)) 805 z14_I805) 805 v7) 52 (upd z14_F52 z (nI d))) 804 (nI (z + 1)) = sI (sI (sF σ 52 (upd z14_F52 z (nI d))) 804 (nI (z + 1))) 805 v7 from (Eq.trans (wrI (Eq.trans (wrF wrIs) (Eq.trans wrFI (wrI (Eq.trans wrFI (wrI wrFs)))))) (Eq.trans (wrIc (by decide)) (wrI wrIs))))) ?_
                exact ih14 (d + 1) (nI b4) (upd z14_F52 z (nI d)) (z + 1) v7 (by omega) (by omega) (by omega)
          · exact absurd c6 (nI_nm1 (by omega))
  refine j_w (cX g kk (sF (sI (sI σ 804 (nI 0)) 805 (nI 0)) 52 (σ.2.1 52))) (congrArg (cX g kk) (wrFi (S := (sI (sI σ 804 (nI 0)) 805 (nI 0))) (c := 52) (v := σ.2.1 52) (gtFI (gtFI rfl)))) ?_
  refine j_w (cX g kk (sI (sI (sF σ 52 (σ.2.1 52)) 804 (nI 0)) 805 (nI 0))) (congrArg (cX g kk) (show sF (sI (sI σ 804 (nI 0)) 805 (nI 0)) 52 (σ.2.1 52) = sI (sI (sF σ 52 (σ.2.1 52)) 804 (nI 0)) 805 (nI 0) from (Eq.trans wrFI (wrI wrFI)))) ?_
  exact L14 _ 0 (-1) (σ.2.1 52) 0 (nI 0) (by omega) (by omega) (Nat.lt_succ_self _)
set_option maxRecDepth 100000 in
set_option maxHeartbeats 4000000 in
theorem d_spanEnd (g kk : Nat → Nat) (σ : St) (k : Nat) (hk : σ.1 16 = nI k) (hk6 : k ≤ 6) (hI : iX σ)  (v : Int32) : jM (S := St) yX8_spanEnd cX8_spanEnd 2 (some .int) { frames := 0, cells := 0, slots := 0, locals := 0 } kk (cX g kk σ) [.ref (g 50), .int v] (cX g kk) (rI (fun (r : Int32) (u : St) => u = σ)) := by
  refine j_entry [(0, .ref (g 50)), (1, .int v)] (by decide) (Nat.le_of_ble_eq_true rfl) rfl ?_
  intro X C E HI
  refine j_iload_n C 1 rfl dX8_spanEnd_0 ?_
  refine j_bipush C (nI 10) (by decide) dX8_spanEnd_1 ?_
  refine j_aload_n C 0 rfl dX8_spanEnd_3 ?_
  refine gX_50_0 C tb_368 dX8_spanEnd_4 ?_
  refine gX_27_0 C tb_200 dX8_spanEnd_7 ?_
  refine gX_1_9 C tb_129 dX8_spanEnd_10 ?_
  refine j_iconst C (nI 3) (by decide) dX8_spanEnd_13 ?_
  refine rX_10 C 3 rfl (by omega) ((σ.2.1 10) 3) rfl dX8_spanEnd_14 ?_
  refine j_iadd C dX8_spanEnd_15 ?_
  refine j_imul C dX8_spanEnd_16 ?_
  refine j_bipush C (nI 10) (by decide) dX8_spanEnd_17 ?_
  refine j_idiv C (by first | decide | assumption | exact nI_ne0 (by omega) (by omega) | exact i64ne (by assumption) | exact i64ne (nI_ne0 (by omega) (by omega))) dX8_spanEnd_19 ?_
  refine j_top (fun v1 => ?_)
  exact j_iret C E (σ) ⟨_, rfl, rfl⟩ rfl dX8_spanEnd_20
set_option maxRecDepth 100000 in
set_option maxHeartbeats 4000000 in
theorem d_judge (g kk : Nat → Nat) (σ : St) (k : Nat) (hk : σ.1 16 = nI k) (hk6 : k ≤ 6) (hI : iX σ)  (c : Nat) (hc0 : c < 168) : jM (S := St) yX8_judge cX8_judge 8 (some .int) { frames := 1, cells := 0, slots := 0, locals := 21 } kk (cX g kk σ) [.ref (g 50), .int (nI c)] (cX g kk) (rI (fun (r : Int32) (u : St) => u = σ)) := by
  refine j_entry [(0, .ref (g 50)), (1, .int (nI c))] (by decide) (Nat.le_of_ble_eq_true rfl) rfl ?_
  intro X C E HI
  refine j_aload_n C 0 rfl dX8_judge_0 ?_
  refine gX_50_0 C tb_368 dX8_judge_1 ?_
  refine gX_27_4 C tb_209 dX8_judge_4 ?_
  refine j_iload_n C 1 rfl dX8_judge_7 ?_
  refine rX_31 C c rfl (by omega) ((σ.2.1 31) c) rfl dX8_judge_8 ?_
  refine j_istore_n C [(2, .int ((σ.2.1 31) c)), (0, .ref (g 50)), (1, .int (nI c))] rfl (by decide) rfl dX8_judge_9 ?_
  refine j_aload_n C 1 rfl dX8_judge_10 ?_
  refine j_iload_n C 0 rfl dX8_judge_11 ?_
  refine j_V1 C (d_spanEnd g kk σ k hk hk6 hI  ((σ.2.1 31) c)) kyX8_spanEnd tb_808 tb_810 sp_20 50 rfl (eX_50 g kk _) rfl (Nat.le_of_ble_eq_true rfl) ⟨by decide, by decide⟩ dX8_judge_12 rfl (fun vr ur hp => ?_)
  obtain ⟨r1, rfl, hu⟩ := hp
  replace hu := hu.symm
  subst hu
  refine j_istore_n C [(3, .int r1), (2, .int ((σ.2.1 31) c)), (0, .ref (g 50)), (1, .int (nI c))] rfl (by decide) rfl dX8_judge_15 ?_
  refine j_iconst C (nI 1) (by decide) dX8_judge_16 ?_
  refine j_istore C [(4, .int (nI 1)), (3, .int r1), (2, .int ((σ.2.1 31) c)), (0, .ref (g 50)), (1, .int (nI c))] (by decide) rfl dX8_judge_17 ?_
  refine j_aload_n C 3 rfl dX8_judge_19 ?_
  refine gX_50_0 C tb_368 dX8_judge_20 ?_
  refine gX_27_0 C tb_200 dX8_judge_23 ?_
  refine gX_1_0 C tb_101 (nI k) hk dX8_judge_26 ?_
  refine j_bipush C (nI 28) (by decide) dX8_judge_29 ?_
  refine j_imulN C dX8_judge_31 ?_
  refine j_istore C [(5, .int (nI (k * 28))), (4, .int (nI 1)), (3, .int r1), (2, .int ((σ.2.1 31) c)), (0, .ref (g 50)), (1, .int (nI c))] (by decide) rfl dX8_judge_32 ?_
  refine j_iconst C (nI 0) (by decide) dX8_judge_34 ?_
  refine j_istore C [(6, .int (nI 0)), (5, .int (nI (k * 28))), (4, .int (nI 1)), (3, .int r1), (2, .int ((σ.2.1 31) c)), (0, .ref (g 50)), (1, .int (nI c))] (by decide) rfl dX8_judge_35 ?_
  have L37 : ∀ (n37 : Nat) (o : Nat) (y37_4 : Int32) (i37_0 : o ≤ k * 28) (hm37 : k * 28 - o < n37), J X 0 0 (cX g kk σ) [(6, .int (nI o)), (5, .int (nI (k * 28))), (4, .int y37_4), (3, .int r1), (2, .int ((σ.2.1 31) c)), (0, .ref (g 50)), (1, .int (nI c))] 37 [] := by
    intro n37
    induction n37 with
    | zero => intro o y37_4 i37_0 hm; exact absurd hm (Nat.not_lt_zero _)
    | succ n37 ih37 =>
      intro o y37_4 i37_0 hm37
      refine j_iload C 0 rfl dX8_judge_37 ?_
      refine j_iload C 1 rfl dX8_judge_39 ?_
      refine j_icmp_geN C 107 (by decide) (by omega) (by omega) dX8_judge_41 (fun c2 => ?_) (fun c2 => ?_)
      · refine j_iload C 2 rfl dX8_judge_107 ?_
        refine j_if_eq C 116 (by decide) dX8_judge_109 (fun c3 => ?_) (fun c3 => ?_)
        · refine j_iconst C (nI 1) (by decide) dX8_judge_116 ?_
          exact j_iret C E (σ) ⟨_, rfl, rfl⟩ rfl dX8_judge_117
        · refine j_iconst C (nI 2) (by decide) dX8_judge_112 ?_
          refine j_goto C 117 (by decide) dX8_judge_113 ?_
          exact j_iret C E (σ) ⟨_, rfl, rfl⟩ rfl dX8_judge_117
      · refine j_aload_n C 5 rfl dX8_judge_44 ?_
        refine gX_50_0 C tb_368 dX8_judge_45 ?_
        refine gX_27_4 C tb_209 dX8_judge_48 ?_
        refine j_iload C 0 rfl dX8_judge_51 ?_
        refine rX_31 C o rfl (by omega) ((σ.2.1 31) o) rfl dX8_judge_53 ?_
        refine j_istore C [(7, .int ((σ.2.1 31) o)), (6, .int (nI o)), (5, .int (nI (k * 28))), (4, .int y37_4), (3, .int r1), (2, .int ((σ.2.1 31) c)), (0, .ref (g 50)), (1, .int (nI c))] (by decide) rfl dX8_judge_54 ?_
        refine j_iload C 1 rfl dX8_judge_56 ?_
        refine j_iload_n C 7 rfl dX8_judge_58 ?_
        refine j_icmp_eqN C 101 (by decide) (by omega) (by omega) dX8_judge_59 (fun c4 => ?_) (fun c4 => ?_)
        · refine j_iinc C (nI (o + 1)) [(6, .int (nI (o + 1))), (7, .int ((σ.2.1 31) o)), (5, .int (nI (k * 28))), (4, .int y37_4), (3, .int r1), (2, .int ((σ.2.1 31) c)), (0, .ref (g 50)), (1, .int (nI c))] 1 rfl (by rw [show Int32.ofInt 1 = nI 1 from by decide, nI_add]) (by decide) rfl dX8_judge_101 ?_
          refine j_goto C 37 (by decide) dX8_judge_104 ?_
          refine j_sub (lv' := [(6, .int (nI (o + 1))), (5, .int (nI (k * 28))), (4, .int y37_4), (3, .int r1), (2, .int ((σ.2.1 31) c)), (0, .ref (g 50)), (1, .int (nI c))]) [0, 2, 3, 4, 5, 6, 7] rfl ?_
          exact ih37 (o + 1) y37_4 (by omega) (by omega)
        · refine j_iload C 0 rfl dX8_judge_62 ?_
          refine j_iconst C ((-1)) (by decide) dX8_judge_64 ?_
          refine j_icmp_ne C 71 (by decide) dX8_judge_65 (fun c5 => ?_) (fun c5 => ?_)
          · refine j_iload C 0 rfl dX8_judge_71 ?_
            refine j_iload_n C 4 rfl dX8_judge_73 ?_
            refine j_icmp_le C 79 (by decide) dX8_judge_74 (fun c6 => ?_) (fun c6 => ?_)
            · refine j_iload C 3 rfl dX8_judge_79 ?_
              refine j_if_eq C 98 (by decide) dX8_judge_81 (fun c7 => ?_) (fun c7 => ?_)
              · refine j_iconst C (nI 0) (by decide) dX8_judge_98 ?_
                refine j_istore C [(4, .int (nI 0)), (7, .int ((σ.2.1 31) o)), (6, .int (nI o)), (5, .int (nI (k * 28))), (3, .int r1), (2, .int ((σ.2.1 31) c)), (0, .ref (g 50)), (1, .int (nI c))] (by decide) rfl dX8_judge_99 ?_
                refine j_iinc C (nI (o + 1)) [(6, .int (nI (o + 1))), (4, .int (nI 0)), (7, .int ((σ.2.1 31) o)), (5, .int (nI (k * 28))), (3, .int r1), (2, .int ((σ.2.1 31) c)), (0, .ref (g 50)), (1, .int (nI c))] 2 rfl (by rw [show Int32.ofInt 1 = nI 1 from by decide, nI_add]) (by decide) rfl dX8_judge_101 ?_
                refine j_goto C 37 (by decide) dX8_judge_104 ?_
                refine j_sub (lv' := [(6, .int (nI (o + 1))), (5, .int (nI (k * 28))), (4, .int (nI 0)), (3, .int r1), (2, .int ((σ.2.1 31) c)), (0, .ref (g 50)), (1, .int (nI c))]) [0, 3, 1, 4, 5, 6, 7] rfl ?_
                exact ih37 (o + 1) (nI 0) (by omega) (by omega)
              · refine j_aload_n C 6 rfl dX8_judge_84 ?_
                refine j_iload C 0 rfl dX8_judge_85 ?_
                refine j_V1 C (d_spanEnd g kk σ k hk hk6 hI  ((σ.2.1 31) o)) kyX8_spanEnd tb_808 tb_810 sp_20 50 rfl (eX_50 g kk _) rfl (Nat.le_of_ble_eq_true rfl) ⟨by decide, by decide⟩ dX8_judge_87 rfl (fun vr ur hp => ?_)
                obtain ⟨r8, rfl, hu⟩ := hp
                replace hu := hu.symm
                subst hu
                refine j_iload_n C 5 rfl dX8_judge_90 ?_
                refine j_icmp_ge C 98 (by decide) dX8_judge_91 (fun c9 => ?_) (fun c9 => ?_)
                · refine j_iconst C (nI 0) (by decide) dX8_judge_98 ?_
                  refine j_istore C [(4, .int (nI 0)), (7, .int ((σ.2.1 31) o)), (6, .int (nI o)), (5, .int (nI (k * 28))), (3, .int r1), (2, .int ((σ.2.1 31) c)), (0, .ref (g 50)), (1, .int (nI c))] (by decide) rfl dX8_judge_99 ?_
                  refine j_iinc C (nI (o + 1)) [(6, .int (nI (o + 1))), (4, .int (nI 0)), (7, .int ((σ.2.1 31) o)), (5, .int (nI (k * 28))), (3, .int r1), (2, .int ((σ.2.1 31) c)), (0, .ref (g 50)), (1, .int (nI c))] 2 rfl (by rw [show Int32.ofInt 1 = nI 1 from by decide, nI_add]) (by decide) rfl dX8_judge_101 ?_
                  refine j_goto C 37 (by decide) dX8_judge_104 ?_
                  refine j_sub (lv' := [(6, .int (nI (o + 1))), (5, .int (nI (k * 28))), (4, .int (nI 0)), (3, .int r1), (2, .int ((σ.2.1 31) c)), (0, .ref (g 50)), (1, .int (nI c))]) [0, 3, 1, 4, 5, 6, 7] rfl ?_
                  exact ih37 (o + 1) (nI 0) (by omega) (by omega)
                · refine j_iconst C (nI 1) (by decide) dX8_judge_94 ?_
                  refine j_goto C 99 (by decide) dX8_judge_95 ?_
                  refine j_istore C [(4, .int (nI 1)), (7, .int ((σ.2.1 31) o)), (6, .int (nI o)), (5, .int (nI (k * 28))), (3, .int r1), (2, .int ((σ.2.1 31) c)), (0, .ref (g 50)), (1, .int (nI c))] (by decide) rfl dX8_judge_99 ?_
                  refine j_iinc C (nI (o + 1)) [(6, .int (nI (o + 1))), (4, .int (nI 1)), (7, .int ((σ.2.1 31) o)), (5, .int (nI (k * 28))), (3, .int r1), (2, .int ((σ.2.1 31) c)), (0, .ref (g 50)), (1, .int (nI c))] 2 rfl (by rw [show Int32.ofInt 1 = nI 1 from by decide, nI_add]) (by decide) rfl dX8_judge_101 ?_
                  refine j_goto C 37 (by decide) dX8_judge_104 ?_
                  refine j_sub (lv' := [(6, .int (nI (o + 1))), (5, .int (nI (k * 28))), (4, .int (nI 1)), (3, .int r1), (2, .int ((σ.2.1 31) c)), (0, .ref (g 50)), (1, .int (nI c))]) [0, 3, 1, 4, 5, 6, 7] rfl ?_
                  exact ih37 (o + 1) (nI 1) (by omega) (by omega)
            · refine j_iconst C (nI 0) (by decide) dX8_judge_77 ?_
              exact j_iret C E (σ) ⟨_, rfl, rfl⟩ rfl dX8_judge_78
          · refine j_goto C 101 (by decide) dX8_judge_68 ?_
            refine j_iinc C (nI (o + 1)) [(6, .int (nI (o + 1))), (7, .int ((σ.2.1 31) o)), (5, .int (nI (k * 28))), (4, .int y37_4), (3, .int r1), (2, .int ((σ.2.1 31) c)), (0, .ref (g 50)), (1, .int (nI c))] 1 rfl (by rw [show Int32.ofInt 1 = nI 1 from by decide, nI_add]) (by decide) rfl dX8_judge_101 ?_
            refine j_goto C 37 (by decide) dX8_judge_104 ?_
            refine j_sub (lv' := [(6, .int (nI (o + 1))), (5, .int (nI (k * 28))), (4, .int y37_4), (3, .int r1), (2, .int ((σ.2.1 31) c)), (0, .ref (g 50)), (1, .int (nI c))]) [0, 2, 3, 4, 5, 6, 7] rfl ?_
            exact ih37 (o + 1) y37_4 (by omega) (by omega)
  exact L37 _ 0 (nI 1) (by omega) (Nat.lt_succ_self _)
set_option maxRecDepth 100000 in
set_option maxHeartbeats 4000000 in
theorem d_countFives (g kk : Nat → Nat) (σ : St) (k : Nat) (hk : σ.1 16 = nI k) (hk6 : k ≤ 6) (hI : iX σ)  (c : Nat) (hc0 : c < 6) : jM (S := St) yX3_countFives cX3_countFives 4 none { frames := 0, cells := 0, slots := 0, locals := 0 } kk (cX g kk σ) [.ref (g 53), .int (nI c)] (cX g kk) (rV (fun u : St => ∃ (a : Nat) (b : Nat), u = sI (sI σ 850 (nI a)) 851 (nI b) ∧ (b ≤ a ∧ a ≤ 26))) := by
  refine j_entry [(0, .ref (g 53)), (1, .int (nI c))] (by decide) (Nat.le_of_ble_eq_true rfl) rfl ?_
  intro X C E HI
  refine j_aload_n C 0 rfl dX3_countFives_0 ?_
  refine j_iconst C (nI 0) (by decide) dX3_countFives_1 ?_
  refine pX_53_2 C tb_398 dX3_countFives_2 ?_
  refine j_aload_n C 0 rfl dX3_countFives_5 ?_
  refine j_iconst C (nI 0) (by decide) dX3_countFives_6 ?_
  refine pX_53_3 C tb_400 dX3_countFives_7 ?_
  refine j_iconst C (nI 0) (by decide) dX3_countFives_10 ?_
  refine j_istore_n C [(2, .int (nI 0)), (0, .ref (g 53)), (1, .int (nI c))] rfl (by decide) rfl dX3_countFives_11 ?_
  have L12 : ∀ (n12 : Nat) (d : Nat) (a : Nat) (b : Nat) (i12_0 : d ≤ 28) (i12_1 : b ≤ a) (i12_2 : a ≤ 26) (hm12 : 28 - d < n12), J X 0 0 (cX g kk (sI (sI σ 850 (nI a)) 851 (nI b))) [(2, .int (nI d)), (0, .ref (g 53)), (1, .int (nI c))] 12 [] := by
    intro n12
    induction n12 with
    | zero => intro d a b i12_0 i12_1 i12_2 hm; exact absurd hm (Nat.not_lt_zero _)
    | succ n12 ih12 =>
      intro d a b i12_0 i12_1 i12_2 hm12
      refine j_iload_n C 0 rfl dX3_countFives_12 ?_
      refine j_bipush C (nI 28) (by decide) dX3_countFives_13 ?_
      refine j_icmp_geN C 82 (by decide) (by omega) (by omega) dX3_countFives_15 (fun c1 => ?_) (fun c1 => ?_)
      · exact j_vret C E (sI (sI σ 850 (nI a)) 851 (nI b)) ⟨rfl, ⟨a, b, rfl, (by omega)⟩⟩ rfl dX3_countFives_82
      · refine j_aload_n C 1 rfl dX3_countFives_18 ?_
        refine gX_53_2 C tb_398 (nI a) rfl dX3_countFives_19 ?_
        refine j_bipush C (nI 26) (by decide) dX3_countFives_22 ?_
        refine j_icmp_geN C 82 (by decide) (by omega) (by omega) dX3_countFives_24 (fun c2 => ?_) (fun c2 => ?_)
        · exact j_vret C E (sI (sI σ 850 (nI a)) 851 (nI b)) ⟨rfl, ⟨a, b, rfl, (by omega)⟩⟩ rfl dX3_countFives_82
        · refine j_aload_n C 1 rfl dX3_countFives_27 ?_
          refine gX_53_0 C tb_396 dX3_countFives_28 ?_
          refine gX_1_5 C tb_117 dX3_countFives_31 ?_
          refine j_iload_n C 2 rfl dX3_countFives_34 ?_
          refine j_bipush C (nI 28) (by decide) dX3_countFives_35 ?_
          refine j_imulN C dX3_countFives_37 ?_
          refine j_iload_n C 0 rfl dX3_countFives_38 ?_
          refine j_iaddN C dX3_countFives_39 ?_
          refine rX_6 C ((c * 28) + d) rfl (by omega) ((σ.2.1 6) ((c * 28) + d)) rfl dX3_countFives_40 ?_
          refine j_istore_n C [(3, .int ((σ.2.1 6) ((c * 28) + d))), (2, .int (nI d)), (0, .ref (g 53)), (1, .int (nI c))] rfl (by decide) rfl dX3_countFives_41 ?_
          refine j_iload_n C 0 rfl dX3_countFives_42 ?_
          refine j_if_le C 76 (by decide) dX3_countFives_43 (fun c3 => ?_) (fun c3 => ?_)
          · refine j_iinc C (nI (d + 1)) [(2, .int (nI (d + 1))), (3, .int ((σ.2.1 6) ((c * 28) + d))), (0, .ref (g 53)), (1, .int (nI c))] 1 rfl (by rw [show Int32.ofInt 1 = nI 1 from by decide, nI_add]) (by decide) rfl dX3_countFives_76 ?_
            refine j_goto C 12 (by decide) dX3_countFives_79 ?_
            refine j_sub (lv' := [(2, .int (nI (d + 1))), (0, .ref (g 53)), (1, .int (nI c))]) [0, 2, 3] rfl ?_
            exact ih12 (d + 1) a b (by omega) (by omega) (by omega) (by omega)
          · refine j_aload_n C 2 rfl dX3_countFives_46 ?_
            refine j_dup C rfl dX3_countFives_47 ?_
            refine gX_53_2 C tb_398 (nI a) rfl dX3_countFives_48 ?_
            refine j_iconst C (nI 1) (by decide) dX3_countFives_51 ?_
            refine j_iaddN C dX3_countFives_52 ?_
            refine pX_53_2 C tb_398 dX3_countFives_53 ?_
            refine j_aload_n C 2 rfl dX3_countFives_56 ?_
            refine j_dup C rfl dX3_countFives_57 ?_
            refine gX_53_3 C tb_400 (nI b) rfl dX3_countFives_58 ?_
            refine j_iload_n C 0 rfl dX3_countFives_61 ?_
            refine j_iconst C (nI 5) (by decide) dX3_countFives_62 ?_
            refine j_irem C (by first | decide | assumption | exact nI_ne0 (by omega) (by omega) | exact i64ne (by assumption) | exact i64ne (nI_ne0 (by omega) (by omega))) dX3_countFives_63 ?_
            refine j_top (fun v4 => ?_)
            refine j_if_ne C 71 (by decide) dX3_countFives_64 (fun c5 => ?_) (fun c5 => ?_)
            · refine j_iconst C (nI 0) (by decide) dX3_countFives_71 ?_
              refine j_iaddN C dX3_countFives_72 ?_
              refine pX_53_3 C tb_400 dX3_countFives_73 ?_
              refine j_iinc C (nI (d + 1)) [(2, .int (nI (d + 1))), (3, .int ((σ.2.1 6) ((c * 28) + d))), (0, .ref (g 53)), (1, .int (nI c))] 1 rfl (by rw [show Int32.ofInt 1 = nI 1 from by decide, nI_add]) (by decide) rfl dX3_countFives_76 ?_
              refine j_goto C 12 (by decide) dX3_countFives_79 ?_
              refine j_sub (lv' := [(2, .int (nI (d + 1))), (0, .ref (g 53)), (1, .int (nI c))]) [0, 2, 3] rfl ?_
              refine j_w (cX g kk (sI (sI σ 850 (nI (a + 1))) 851 (nI (b + 0)))) (congrArg (cX g kk) (show sI (sI (sI (sI σ 850 (nI a)) 851 (nI b)) 850 (nI (a + 1))) 851 (nI (b + 0)) = sI (sI σ 850 (nI (a + 1))) 851 (nI (b + 0)) from (Eq.trans (wrI (Eq.trans (wrIc (by decide)) (wrI wrIs))) wrIs))) ?_
              exact ih12 (d + 1) (a + 1) (b + 0) (by omega) (by omega) (by omega) (by omega)
            · refine j_iconst C (nI 1) (by decide) dX3_countFives_67 ?_
              refine j_goto C 72 (by decide) dX3_countFives_68 ?_
              refine j_iaddN C dX3_countFives_72 ?_
              refine pX_53_3 C tb_400 dX3_countFives_73 ?_
              refine j_iinc C (nI (d + 1)) [(2, .int (nI (d + 1))), (3, .int ((σ.2.1 6) ((c * 28) + d))), (0, .ref (g 53)), (1, .int (nI c))] 1 rfl (by rw [show Int32.ofInt 1 = nI 1 from by decide, nI_add]) (by decide) rfl dX3_countFives_76 ?_
              refine j_goto C 12 (by decide) dX3_countFives_79 ?_
              refine j_sub (lv' := [(2, .int (nI (d + 1))), (0, .ref (g 53)), (1, .int (nI c))]) [0, 2, 3] rfl ?_
              refine j_w (cX g kk (sI (sI σ 850 (nI (a + 1))) 851 (nI (b + 1)))) (congrArg (cX g kk) (show sI (sI (sI (sI σ 850 (nI a)) 851 (nI b)) 850 (nI (a + 1))) 851 (nI (b + 1)) = sI (sI σ 850 (nI (a + 1))) 851 (nI (b + 1)) from (Eq.trans (wrI (Eq.trans (wrIc (by decide)) (wrI wrIs))) wrIs))) ?_
              exact ih12 (d + 1) (a + 1) (b + 1) (by omega) (by omega) (by omega) (by omega)
  exact L12 _ 0 0 0 (by omega) (by omega) (by omega) (Nat.lt_succ_self _)
set_option maxRecDepth 100000 in
set_option maxHeartbeats 4000000 in
theorem d_weigh (g kk : Nat → Nat) (σ : St) (k : Nat) (hk : σ.1 16 = nI k) (hk6 : k ≤ 6) (hI : iX σ) (a : Nat) (ha : σ.1 850 = nI a) (hab : a ≤ 26) (b : Nat) (hb : σ.1 851 = nI b) (hbb : b ≤ a)   : jM (S := St) yX3_weighFives cX3_weighFives 6 none { frames := 0, cells := 0, slots := 0, locals := 0 } kk (cX g kk σ) [.ref (g 53)] (cX g kk) (rV (fun u : St => ∃ (pL852 : Int64) (pL853 : Int64), u = sL (sL σ 852 pL852) 853 pL853)) := by
  refine j_entry [(0, .ref (g 53))] (by decide) (Nat.le_of_ble_eq_true rfl) rfl ?_
  intro X C E HI
  refine j_aload_n C 0 rfl dX3_weighFives_0 ?_
  refine j_lconst C 0 (by decide) dX3_weighFives_1 ?_
  refine pX_53_4 C tb_402 dX3_weighFives_2 ?_
  refine j_aload_n C 0 rfl dX3_weighFives_5 ?_
  refine j_lconst C 1 (by decide) dX3_weighFives_6 ?_
  refine pX_53_5 C tb_404 dX3_weighFives_7 ?_
  refine j_lconst C 1 (by decide) dX3_weighFives_10 ?_
  refine j_lstore_n C [(1, .long 1), (0, .ref (g 53))] rfl (by decide) rfl dX3_weighFives_11 ?_
  refine j_lconst C 1 (by decide) dX3_weighFives_12 ?_
  refine j_lstore_n C [(3, .long 1), (1, .long 1), (0, .ref (g 53))] rfl (by decide) rfl dX3_weighFives_13 ?_
  refine j_iconst C (nI 0) (by decide) dX3_weighFives_14 ?_
  refine j_istore C [(5, .int (nI 0)), (3, .long 1), (1, .long 1), (0, .ref (g 53))] (by decide) rfl dX3_weighFives_15 ?_
  have L17 : ∀ (n17 : Nat) (o : Nat) (y17_3 : Int64) (y17_1 : Int64) (z17_L852 : Int64) (i17_0 : o ≤ 27) (i17_1 : o ≤ a + 1 - b) (hm17 : 27 - o < n17), J X 0 0 (cX g kk (sL (sL σ 852 z17_L852) 853 1)) [(5, .int (nI o)), (3, .long y17_3), (1, .long y17_1), (0, .ref (g 53))] 17 [] := by
    intro n17
    induction n17 with
    | zero => intro o y17_3 y17_1 z17_L852 i17_0 i17_1 hm; exact absurd hm (Nat.not_lt_zero _)
    | succ n17 ih17 =>
      intro o y17_3 y17_1 z17_L852 i17_0 i17_1 hm17
      refine j_iload C 0 rfl dX3_weighFives_17 ?_
      refine j_aload_n C 3 rfl dX3_weighFives_19 ?_
      refine gX_53_2 C tb_398 (nI a) ha dX3_weighFives_20 ?_
      refine j_aload_n C 3 rfl dX3_weighFives_23 ?_
      refine gX_53_3 C tb_400 (nI b) hb dX3_weighFives_24 ?_
      refine j_isubN C (by omega) dX3_weighFives_27 ?_
      refine j_icmp_gtN C 72 (by decide) (by omega) (by omega) dX3_weighFives_28 (fun c1 => ?_) (fun c1 => ?_)
      · refine j_iconst C (nI 0) (by decide) dX3_weighFives_72 ?_
        refine j_istore C [(5, .int (nI 0)), (3, .long y17_3), (1, .long y17_1), (0, .ref (g 53))] (by decide) rfl dX3_weighFives_73 ?_
        have L75 : ∀ (n75 : Nat) (n : Nat) (z75_L853 : Int64) (i75_0 : n ≤ a) (hm75 : a - n < n75), J X 0 0 (cX g kk (sL (sL σ 852 z17_L852) 853 z75_L853)) [(5, .int (nI n)), (3, .long y17_3), (1, .long y17_1), (0, .ref (g 53))] 75 [] := by
          intro n75
          induction n75 with
          | zero => intro n z75_L853 i75_0 hm; exact absurd hm (Nat.not_lt_zero _)
          | succ n75 ih75 =>
            intro n z75_L853 i75_0 hm75
            refine j_iload C 0 rfl dX3_weighFives_75 ?_
            refine j_aload_n C 3 rfl dX3_weighFives_77 ?_
            refine gX_53_2 C tb_398 (nI a) ha dX3_weighFives_78 ?_
            refine j_icmp_geN C 102 (by decide) (by omega) (by omega) dX3_weighFives_81 (fun c2 => ?_) (fun c2 => ?_)
            · refine j_iconst C (nI 0) (by decide) dX3_weighFives_102 ?_
              refine j_istore C [(5, .int (nI 0)), (3, .long y17_3), (1, .long y17_1), (0, .ref (g 53))] (by decide) rfl dX3_weighFives_103 ?_
              have L105 : ∀ (n105 : Nat) (m : Nat) (z105_L852 : Int64) (z105_L853 : Int64) (i105_0 : m ≤ a) (hm105 : a - m < n105), J X 0 0 (cX g kk (sL (sL σ 852 z105_L852) 853 z105_L853)) [(5, .int (nI m)), (3, .long y17_3), (1, .long y17_1), (0, .ref (g 53))] 105 [] := by
                intro n105
                induction n105 with
                | zero => intro m z105_L852 z105_L853 i105_0 hm; exact absurd hm (Nat.not_lt_zero _)
                | succ n105 ih105 =>
                  intro m z105_L852 z105_L853 i105_0 hm105
                  refine j_iload C 0 rfl dX3_weighFives_105 ?_
                  refine j_aload_n C 3 rfl dX3_weighFives_107 ?_
                  refine gX_53_2 C tb_398 (nI a) ha dX3_weighFives_108 ?_
                  refine j_icmp_geN C 157 (by decide) (by omega) (by omega) dX3_weighFives_111 (fun c3 => ?_) (fun c3 => ?_)
                  · exact j_vret C E (sL (sL σ 852 z105_L852) 853 z105_L853) ⟨rfl, ⟨z105_L852, z105_L853, rfl⟩⟩ rfl dX3_weighFives_157
                  · refine j_aload_n C 3 rfl dX3_weighFives_114 ?_
                    refine gX_53_4 C tb_402 (z105_L852) rfl dX3_weighFives_115 ?_
                    refine j_ldc2 C tb_831 dX3_weighFives_118 ?_
                    refine j_lrem C (by first | decide | assumption | exact nI_ne0 (by omega) (by omega) | exact i64ne (by assumption) | exact i64ne (nI_ne0 (by omega) (by omega))) dX3_weighFives_121 ?_
                    refine j_topL (fun v4 => ?_)
                    refine j_lconst C 0 (by decide) dX3_weighFives_122 ?_
                    refine j_lcmp C dX3_weighFives_123 ?_
                    refine j_if_ne C 157 (by decide) dX3_weighFives_124 (fun c5 => ?_) (fun c5 => ?_)
                    · exact j_vret C E (sL (sL σ 852 z105_L852) 853 z105_L853) ⟨rfl, ⟨z105_L852, z105_L853, rfl⟩⟩ rfl dX3_weighFives_157
                    · refine j_aload_n C 3 rfl dX3_weighFives_127 ?_
                      refine j_aload_n C 3 rfl dX3_weighFives_128 ?_
                      refine gX_53_4 C tb_402 (z105_L852) rfl dX3_weighFives_129 ?_
                      refine j_ldc2 C tb_831 dX3_weighFives_132 ?_
                      refine j_ldiv C (by first | decide | assumption | exact nI_ne0 (by omega) (by omega) | exact i64ne (by assumption) | exact i64ne (nI_ne0 (by omega) (by omega))) dX3_weighFives_135 ?_
                      refine pX_53_4 C tb_402 dX3_weighFives_136 ?_
                      refine j_aload_n C 3 rfl dX3_weighFives_139 ?_
                      refine j_aload_n C 3 rfl dX3_weighFives_140 ?_
                      refine gX_53_5 C tb_404 (z105_L853) rfl dX3_weighFives_141 ?_
                      refine j_ldc2 C tb_831 dX3_weighFives_144 ?_
                      refine j_ldiv C (by first | decide | assumption | exact nI_ne0 (by omega) (by omega) | exact i64ne (by assumption) | exact i64ne (nI_ne0 (by omega) (by omega))) dX3_weighFives_147 ?_
                      refine pX_53_5 C tb_404 dX3_weighFives_148 ?_
                      refine j_iinc C (nI (m + 1)) [(5, .int (nI (m + 1))), (3, .long y17_3), (1, .long y17_1), (0, .ref (g 53))] 0 rfl (by rw [show Int32.ofInt 1 = nI 1 from by decide, nI_add]) (by decide) rfl dX3_weighFives_151 ?_
                      refine j_goto C 105 (by decide) dX3_weighFives_154 ?_
                      refine j_w (cX g kk (sL (sL σ 852 (z105_L852 / (5))) 853 (z105_L853 / (5)))) (congrArg (cX g kk) (show sL (sL (sL (sL σ 852 z105_L852) 853 z105_L853) 852 (z105_L852 / (5))) 853 (z105_L853 / (5)) = sL (sL σ 852 (z105_L852 / (5))) 853 (z105_L853 / (5)) from (Eq.trans (wrL (Eq.trans (wrLc (by decide)) (wrL wrLs))) wrLs))) ?_
                      exact ih105 (m + 1) (z105_L852 / (5)) (z105_L853 / (5)) (by omega) (by omega)
              exact L105 _ 0 z17_L852 z75_L853 (by omega) (Nat.lt_succ_self _)
            · refine j_aload_n C 3 rfl dX3_weighFives_84 ?_
              refine j_aload_n C 3 rfl dX3_weighFives_85 ?_
              refine gX_53_5 C tb_404 (z75_L853) rfl dX3_weighFives_86 ?_
              refine j_ldc2 C tb_831 dX3_weighFives_89 ?_
              refine j_lmul C dX3_weighFives_92 ?_
              refine pX_53_5 C tb_404 dX3_weighFives_93 ?_
              refine j_iinc C (nI (n + 1)) [(5, .int (nI (n + 1))), (3, .long y17_3), (1, .long y17_1), (0, .ref (g 53))] 0 rfl (by rw [show Int32.ofInt 1 = nI 1 from by decide, nI_add]) (by decide) rfl dX3_weighFives_96 ?_
              refine j_goto C 75 (by decide) dX3_weighFives_99 ?_
              refine j_w (cX g kk (sL (sL σ 852 z17_L852) 853 (z75_L853 * (5)))) (congrArg (cX g kk) (show sL (sL (sL σ 852 z17_L852) 853 z75_L853) 853 (z75_L853 * (5)) = sL (sL σ 852 z17_L852) 853 (z75_L853 * (5)) from wrLs)) ?_
              exact ih75 (n + 1) (z75_L853 * (5)) (by omega) (by omega)
        exact L75 _ 0 1 (by omega) (Nat.lt_succ_self _)
      · refine j_aload_n C 3 rfl dX3_weighFives_31 ?_
        refine j_dup C rfl dX3_weighFives_32 ?_
        refine gX_53_4 C tb_402 (z17_L852) rfl dX3_weighFives_33 ?_
        refine j_lload_n C 2 rfl dX3_weighFives_36 ?_
        refine j_lload_n C 1 rfl dX3_weighFives_37 ?_
        refine j_lmul C dX3_weighFives_38 ?_
        refine j_ladd C dX3_weighFives_39 ?_
        refine pX_53_4 C tb_402 dX3_weighFives_40 ?_
        refine j_lload_n C 2 rfl dX3_weighFives_43 ?_
        refine j_aload_n C 3 rfl dX3_weighFives_44 ?_
        refine gX_53_2 C tb_398 (nI a) ha dX3_weighFives_45 ?_
        refine j_iload C 0 rfl dX3_weighFives_48 ?_
        refine j_isubN C (by omega) dX3_weighFives_50 ?_
        refine j_i2l C dX3_weighFives_51 ?_
        refine j_lmul C dX3_weighFives_52 ?_
        refine j_iload C 0 rfl dX3_weighFives_53 ?_
        refine j_iconst C (nI 1) (by decide) dX3_weighFives_55 ?_
        refine j_iaddN C dX3_weighFives_56 ?_
        refine j_i2l C dX3_weighFives_57 ?_
        refine j_ldiv C (by first | decide | assumption | exact nI_ne0 (by omega) (by omega) | exact i64ne (by assumption) | exact i64ne (nI_ne0 (by omega) (by omega))) dX3_weighFives_58 ?_
        refine j_topL (fun v6 => ?_)
        refine j_lstore_n C [(1, .long v6), (5, .int (nI o)), (3, .long y17_3), (0, .ref (g 53))] rfl (by decide) rfl dX3_weighFives_59 ?_
        refine j_lload_n C 2 rfl dX3_weighFives_60 ?_
        refine j_ldc2 C tb_830 dX3_weighFives_61 ?_
        refine j_lmul C dX3_weighFives_64 ?_
        refine j_lstore_n C [(3, .long (y17_3 * (4))), (1, .long v6), (5, .int (nI o)), (0, .ref (g 53))] rfl (by decide) rfl dX3_weighFives_65 ?_
        refine j_iinc C (nI (o + 1)) [(5, .int (nI (o + 1))), (3, .long (y17_3 * (4))), (1, .long v6), (0, .ref (g 53))] 2 rfl (by rw [show Int32.ofInt 1 = nI 1 from by decide, nI_add]) (by decide) rfl dX3_weighFives_66 ?_
        refine j_goto C 17 (by decide) dX3_weighFives_69 ?_
        refine j_w (cX g kk (sL (sL σ 852 (z17_L852 + (y17_1 * y17_3))) 853 1)) (congrArg (cX g kk) (show sL (sL (sL σ 852 z17_L852) 853 1) 852 (z17_L852 + (y17_1 * y17_3)) = sL (sL σ 852 (z17_L852 + (y17_1 * y17_3))) 853 1 from (Eq.trans (wrLc (by decide)) (wrL wrLs)))) ?_
        exact ih17 (o + 1) (y17_3 * (4)) v6 (z17_L852 + (y17_1 * y17_3)) (by omega) (by omega) (by omega)
  exact L17 _ 0 1 1 0 (by omega) (by omega) (Nat.lt_succ_self _)
set_option maxRecDepth 100000 in
set_option maxHeartbeats 4000000 in
theorem d_forgot (g kk : Nat → Nat) (σ : St) (k : Nat) (hk : σ.1 16 = nI k) (hk6 : k ≤ 6) (hI : iX σ)  (c : Nat) (hc0 : c < 6) : jM (S := St) yX3_findForgotten cX3_findForgotten 3 none { frames := 1, cells := 0, slots := 0, locals := 23 } kk (cX g kk σ) [.ref (g 53), .int (nI c)] (cX g kk) (rV (fun u : St => ∃ (pF54 : Nat → Int32) (pI854 : Int32) (pI855 : Int32), u = sI (sI (sF σ 54 pF54) 854 pI854) 855 pI855)) := by
  refine j_entry [(0, .ref (g 53)), (1, .int (nI c))] (by decide) (Nat.le_of_ble_eq_true rfl) rfl ?_
  intro X C E HI
  refine j_aload_n C 0 rfl dX3_findForgotten_0 ?_
  refine gX_53_1 C tb_397 dX3_findForgotten_1 ?_
  refine j_iconst C (nI 0) (by decide) dX3_findForgotten_4 ?_
  refine fl_54 C tb_840 (Nat.le_of_ble_eq_true rfl) ⟨by decide, by decide⟩ ⟨by decide, by decide⟩ dX3_findForgotten_5 ?_
  refine j_iconst C (nI 0) (by decide) dX3_findForgotten_8 ?_
  refine j_istore_n C [(2, .int (nI 0)), (0, .ref (g 53)), (1, .int (nI c))] rfl (by decide) rfl dX3_findForgotten_9 ?_
  have L10 : ∀ (n10 : Nat) (d : Nat) (z10_F54 : Nat → Int32) (i10_0 : d ≤ 28) (hm10 : 28 - d < n10), J X 0 0 (cX g kk (sF σ 54 z10_F54)) [(2, .int (nI d)), (0, .ref (g 53)), (1, .int (nI c))] 10 [] := by
    intro n10
    induction n10 with
    | zero => intro d z10_F54 i10_0 hm; exact absurd hm (Nat.not_lt_zero _)
    | succ n10 ih10 =>
      intro d z10_F54 i10_0 hm10
      refine j_iload_n C 0 rfl dX3_findForgotten_10 ?_
      refine j_bipush C (nI 28) (by decide) dX3_findForgotten_11 ?_
      refine j_icmp_geN C 53 (by decide) (by omega) (by omega) dX3_findForgotten_13 (fun c1 => ?_) (fun c1 => ?_)
      · refine j_aload_n C 1 rfl dX3_findForgotten_53 ?_
        refine j_iconst C (nI 0) (by decide) dX3_findForgotten_54 ?_
        refine pX_53_6 C tb_406 dX3_findForgotten_55 ?_
        refine j_iconst C (nI 1) (by decide) dX3_findForgotten_58 ?_
        refine j_istore_n C [(2, .int (nI 1)), (0, .ref (g 53)), (1, .int (nI c))] rfl (by decide) rfl dX3_findForgotten_59 ?_
        have L60 : ∀ (n60 : Nat) (n : Nat) (w : Nat) (i60_0 : n ≤ 7) (i60_1 : w ≤ 6) (hm60 : 7 - n < n60), J X 0 0 (cX g kk (sI (sF σ 54 z10_F54) 854 (nI w))) [(2, .int (nI n)), (0, .ref (g 53)), (1, .int (nI c))] 60 [] := by
          intro n60
          induction n60 with
          | zero => intro n w i60_0 i60_1 hm; exact absurd hm (Nat.not_lt_zero _)
          | succ n60 ih60 =>
            intro n w i60_0 i60_1 hm60
            refine j_iload_n C 0 rfl dX3_findForgotten_60 ?_
            refine j_bipush C (nI 7) (by decide) dX3_findForgotten_61 ?_
            refine j_icmp_geN C 95 (by decide) (by omega) (by omega) dX3_findForgotten_63 (fun c2 => ?_) (fun c2 => ?_)
            · refine j_aload_n C 1 rfl dX3_findForgotten_95 ?_
              refine j_aload_n C 1 rfl dX3_findForgotten_96 ?_
              refine gX_53_1 C tb_397 dX3_findForgotten_97 ?_
              refine j_aload_n C 1 rfl dX3_findForgotten_100 ?_
              refine gX_53_6 C tb_406 (nI w) rfl dX3_findForgotten_101 ?_
              refine rX_54 C w rfl (by omega) (z10_F54 w) rfl dX3_findForgotten_104 ?_
              refine pX_53_7 C tb_408 dX3_findForgotten_105 ?_
              exact j_vret C E (sI (sI (sF σ 54 z10_F54) 854 (nI w)) 855 (z10_F54 w)) ⟨rfl, ⟨z10_F54, (nI w), (z10_F54 w), rfl⟩⟩ rfl dX3_findForgotten_108
            · refine j_aload_n C 1 rfl dX3_findForgotten_66 ?_
              refine gX_53_1 C tb_397 dX3_findForgotten_67 ?_
              refine j_iload_n C 0 rfl dX3_findForgotten_70 ?_
              refine rX_54 C n rfl (by omega) (z10_F54 n) rfl dX3_findForgotten_71 ?_
              refine j_aload_n C 1 rfl dX3_findForgotten_72 ?_
              refine gX_53_1 C tb_397 dX3_findForgotten_73 ?_
              refine j_aload_n C 1 rfl dX3_findForgotten_76 ?_
              refine gX_53_6 C tb_406 (nI w) rfl dX3_findForgotten_77 ?_
              refine rX_54 C w rfl (by omega) (z10_F54 w) rfl dX3_findForgotten_80 ?_
              refine j_icmp_le C 89 (by decide) dX3_findForgotten_81 (fun c3 => ?_) (fun c3 => ?_)
              · refine j_iinc C (nI (n + 1)) [(2, .int (nI (n + 1))), (0, .ref (g 53)), (1, .int (nI c))] 0 rfl (by rw [show Int32.ofInt 1 = nI 1 from by decide, nI_add]) (by decide) rfl dX3_findForgotten_89 ?_
                refine j_goto C 60 (by decide) dX3_findForgotten_92 ?_
                exact ih60 (n + 1) w (by omega) (by omega) (by omega)
              · refine j_aload_n C 1 rfl dX3_findForgotten_84 ?_
                refine j_iload_n C 0 rfl dX3_findForgotten_85 ?_
                refine pX_53_6 C tb_406 dX3_findForgotten_86 ?_
                refine j_iinc C (nI (n + 1)) [(2, .int (nI (n + 1))), (0, .ref (g 53)), (1, .int (nI c))] 0 rfl (by rw [show Int32.ofInt 1 = nI 1 from by decide, nI_add]) (by decide) rfl dX3_findForgotten_89 ?_
                refine j_goto C 60 (by decide) dX3_findForgotten_92 ?_
                refine j_w (cX g kk (sI (sF σ 54 z10_F54) 854 (nI n))) (congrArg (cX g kk) (show sI (sI (sF σ 54 z10_F54) 854 (nI w)) 854 (nI n) = sI (sF σ 54 z10_F54) 854 (nI n) from wrIs)) ?_
                exact ih60 (n + 1) n (by omega) (by omega) (by omega)
        exact L60 _ 1 0 (by omega) (by omega) (Nat.lt_succ_self _)
      · refine j_aload_n C 1 rfl dX3_findForgotten_16 ?_
        refine gX_53_0 C tb_396 dX3_findForgotten_17 ?_
        refine gX_1_5 C tb_117 dX3_findForgotten_20 ?_
        refine j_iload_n C 2 rfl dX3_findForgotten_23 ?_
        refine j_bipush C (nI 28) (by decide) dX3_findForgotten_24 ?_
        refine j_imulN C dX3_findForgotten_26 ?_
        refine j_iload_n C 0 rfl dX3_findForgotten_27 ?_
        refine j_iaddN C dX3_findForgotten_28 ?_
        refine rX_6 C ((c * 28) + d) rfl (by omega) ((σ.2.1 6) ((c * 28) + d)) rfl dX3_findForgotten_29 ?_
        refine j_iconst C ((-1)) (by decide) dX3_findForgotten_30 ?_
        refine j_icmp_ne C 47 (by decide) dX3_findForgotten_31 (fun c4 => ?_) (fun c4 => ?_)
        · refine j_iinc C (nI (d + 1)) [(2, .int (nI (d + 1))), (0, .ref (g 53)), (1, .int (nI c))] 0 rfl (by rw [show Int32.ofInt 1 = nI 1 from by decide, nI_add]) (by decide) rfl dX3_findForgotten_47 ?_
          refine j_goto C 10 (by decide) dX3_findForgotten_50 ?_
          exact ih10 (d + 1) z10_F54 (by omega) (by omega)
        · refine j_aload_n C 1 rfl dX3_findForgotten_34 ?_
          refine gX_53_1 C tb_397 dX3_findForgotten_35 ?_
          refine j_iload_n C 0 rfl dX3_findForgotten_38 ?_
          refine j_bipush C (nI 7) (by decide) dX3_findForgotten_39 ?_
          refine j_iremN C (by omega) (by omega) (by omega) dX3_findForgotten_41 ?_
          refine j_dup2 C rfl rfl dX3_findForgotten_42 ?_
          refine rX_54 C (d % 7) rfl (by omega) (z10_F54 (d % 7)) rfl dX3_findForgotten_43 ?_
          refine j_iconst C (nI 1) (by decide) dX3_findForgotten_44 ?_
          refine j_iadd C dX3_findForgotten_45 ?_
          refine tX_54 C (d % 7) rfl (by omega) dX3_findForgotten_46 ?_
          refine j_iinc C (nI (d + 1)) [(2, .int (nI (d + 1))), (0, .ref (g 53)), (1, .int (nI c))] 0 rfl (by rw [show Int32.ofInt 1 = nI 1 from by decide, nI_add]) (by decide) rfl dX3_findForgotten_47 ?_
          refine j_goto C 10 (by decide) dX3_findForgotten_50 ?_
          refine j_w (cX g kk (sF σ 54 (upd z10_F54 (d % 7) ((z10_F54 (d % 7)) + (nI 1))))) (congrArg (cX g kk) (show sF (sF σ 54 z10_F54) 54 (upd z10_F54 (d % 7) ((z10_F54 (d % 7)) + (nI 1))) = sF σ 54 (upd z10_F54 (d % 7) ((z10_F54 (d % 7)) + (nI 1))) from wrFs)) ?_
          exact ih10 (d + 1) (upd z10_F54 (d % 7) ((z10_F54 (d % 7)) + (nI 1))) (by omega) (by omega)
  exact L10 _ 0 (fillF (σ.2.1 54) (nI 0) 7) (by omega) (Nat.lt_succ_self _)
