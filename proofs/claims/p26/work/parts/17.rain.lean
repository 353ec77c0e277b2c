set_option maxRecDepth 100000 in
set_option maxHeartbeats 4000000 in
theorem d_counted (g kk : Nat → Nat) (σ : St) (k : Nat) (hk : σ.1 16 = nI k) (hk6 : k ≤ 6) (hI : iX σ)  (q : Nat) (hq0 : q < 168) : jM (S := St) yX2_counted cX2_counted 3 (some .int) { frames := 0, cells := 0, slots := 0, locals := 0 } kk (cX g kk σ) [.ref (g 1), .int (nI q)] (cX g kk) (rI (fun (r : Int32) (u : St) => u = σ)) := by
  refine j_entry [(0, .ref (g 1)), (1, .int (nI q))] (by decide) (Nat.le_of_ble_eq_true rfl) rfl ?_
  intro X C E HI
  refine j_aload_n C 0 rfl dX2_counted_0 ?_
  refine gX_1_10 C tb_132 dX2_counted_1 ?_
  refine gX_11_4 C tb_46 dX2_counted_4 ?_
  refine j_iload_n C 1 rfl dX2_counted_7 ?_
  obtain ⟨vl, hvl⟩ : ∃ v, σ.2.1 15 q = v := ⟨_, rfl⟩
  refine rX_15 C q rfl (by omega) (vl) hvl dX2_counted_8 ?_
  refine j_istore_n C [(2, .int vl), (0, .ref (g 1)), (1, .int (nI q))] rfl (by decide) rfl dX2_counted_9 ?_
  refine j_iload_n C 0 rfl dX2_counted_10 ?_
  refine j_iconst C ((-1)) (by decide) dX2_counted_11 ?_
  refine j_icmp_ne C 24 (by decide) dX2_counted_12 (fun c1 => ?_) (fun c1 => ?_)
  · refine j_aload_n C 1 rfl dX2_counted_24 ?_
    refine gX_1_10 C tb_132 dX2_counted_25 ?_
    refine gX_11_2 C tb_43 dX2_counted_28 ?_
    refine j_iload_n C 0 rfl dX2_counted_31 ?_
    have hl := hI.last q hq0
    rw [hvl] at hl
    obtain ⟨m, hm, em⟩ := hl.resolve_left c1
    refine rX_13 C m em (by omega) ((σ.2.1 13) m) rfl dX2_counted_32 ?_
    exact j_iret C E (σ) ⟨_, rfl, rfl⟩ rfl dX2_counted_33
  · refine j_aload_n C 1 rfl dX2_counted_15 ?_
    refine gX_1_5 C tb_116 dX2_counted_16 ?_
    refine j_iload_n C 2 rfl dX2_counted_19 ?_
    refine rX_6 C q rfl (by omega) ((σ.2.1 6) q) rfl dX2_counted_20 ?_
    refine j_goto C 33 (by decide) dX2_counted_21 ?_
    exact j_iret C E (σ) ⟨_, rfl, rfl⟩ rfl dX2_counted_33
set_option maxRecDepth 100000 in
set_option maxHeartbeats 4000000 in
theorem d_fallen (g kk : Nat → Nat) (σ : St) (k : Nat) (hk : σ.1 16 = nI k) (hk6 : k ≤ 6) (hI : iX σ)  (c : Nat) (hc0 : c < 6) (d : Nat) (hd0 : d < 28) (v : Int32) : jM (S := St) yX7_fallen cX7_fallen 5 (some .int) { frames := 0, cells := 0, slots := 0, locals := 0 } kk (cX g kk σ) [.ref (g 27), .int (nI c), .int (nI d), .int v] (cX g kk) (rI (fun (r : Int32) (u : St) => u = σ)) := by
  refine j_entry [(0, .ref (g 27)), (1, .int (nI c)), (2, .int (nI d)), (3, .int v)] (by decide) (Nat.le_of_ble_eq_true rfl) rfl ?_
  intro X C E HI
  refine j_bipush C (nI 10) (by decide) dX7_fallen_0 ?_
  refine j_aload_n C 0 rfl dX7_fallen_2 ?_
  refine gX_27_0 C tb_198 dX7_fallen_3 ?_
  refine gX_1_3 C tb_112 dX7_fallen_6 ?_
  refine j_iload_n C 1 rfl dX7_fallen_9 ?_
  refine j_iconst C (nI 3) (by decide) dX7_fallen_10 ?_
  refine j_imulN C dX7_fallen_11 ?_
  refine j_aload_n C 0 rfl dX7_fallen_12 ?_
  refine gX_27_0 C tb_198 dX7_fallen_13 ?_
  refine gX_1_4 C tb_115 dX7_fallen_16 ?_
  refine j_iload_n C 2 rfl dX7_fallen_19 ?_
  obtain ⟨m1, hm1, em1⟩ := hI.wind d (by omega)
  refine rX_5 C d rfl (by omega) (nI m1) em1 dX7_fallen_20 ?_
  refine j_iaddN C dX7_fallen_21 ?_
  refine rX_4 C ((c * 3) + m1) rfl (by omega) ((σ.2.1 4) ((c * 3) + m1)) rfl dX7_fallen_22 ?_
  refine j_isub C dX7_fallen_23 ?_
  refine j_top (fun v2 => ?_)
  refine j_istore C [(4, .int v2), (0, .ref (g 27)), (1, .int (nI c)), (2, .int (nI d)), (3, .int v)] (by decide) rfl dX7_fallen_24 ?_
  refine j_iload C 0 rfl dX7_fallen_26 ?_
  refine j_if_ne C 35 (by decide) dX7_fallen_28 (fun c3 => ?_) (fun c3 => ?_)
  · refine j_iload_n C 4 rfl dX7_fallen_35 ?_
    refine j_bipush C (nI 10) (by decide) dX7_fallen_36 ?_
    refine j_imul C dX7_fallen_38 ?_
    refine j_iload C 0 rfl dX7_fallen_39 ?_
    refine j_idiv C (by first | decide | assumption | exact nI_ne0 (by omega) (by omega) | exact i64ne (by assumption) | exact i64ne (nI_ne0 (by omega) (by omega))) dX7_fallen_41 ?_
    exact j_iret C E (σ) ⟨_, rfl, rfl⟩ rfl dX7_fallen_42
  · refine j_iconst C ((-1)) (by decide) dX7_fallen_31 ?_
    refine j_goto C 42 (by decide) dX7_fallen_32 ?_
    exact j_iret C E (σ) ⟨_, rfl, rfl⟩ rfl dX7_fallen_42
set_option maxRecDepth 100000 in
set_option maxHeartbeats 4000000 in
theorem d_readDay (g kk : Nat → Nat) (σ : St) (k : Nat) (hk : σ.1 16 = nI k) (hk6 : k ≤ 6) (hI : iX σ)  (c : Nat) (hc0 : c < 6) (d : Nat) (hd0 : d < 28) : jM (S := St) yX7_readDay cX7_readDay 6 none { frames := 1, cells := 0, slots := 0, locals := 24 } kk (cX g kk σ) [.ref (g 27), .int (nI c), .int (nI d)] (cX g kk) (rV (fun u : St => ∃ (pF28 : Nat → Int32) (pF29 : Nat → Int32), u = sF (sF σ 28 pF28) 29 pF29)) := by
  refine j_entry [(0, .ref (g 27)), (1, .int (nI c)), (2, .int (nI d))] (by decide) (Nat.le_of_ble_eq_true rfl) rfl ?_
  intro X C E HI
  refine j_iload_n C 1 rfl dX7_readDay_0 ?_
  refine j_bipush C (nI 28) (by decide) dX7_readDay_1 ?_
  refine j_imulN C dX7_readDay_3 ?_
  refine j_iload_n C 2 rfl dX7_readDay_4 ?_
  refine j_iaddN C dX7_readDay_5 ?_
  refine j_istore_n C [(3, .int (nI ((c * 28) + d))), (0, .ref (g 27)), (1, .int (nI c)), (2, .int (nI d))] rfl (by decide) rfl dX7_readDay_6 ?_
  refine j_aload_n C 1 rfl dX7_readDay_7 ?_
  refine gX_27_0 C tb_198 dX7_readDay_8 ?_
  refine gX_1_6 C tb_121 dX7_readDay_11 ?_
  refine j_iload_n C 0 rfl dX7_readDay_14 ?_
  refine rX_7 C ((c * 28) + d) rfl (by omega) ((σ.2.1 7) ((c * 28) + d)) rfl dX7_readDay_15 ?_
  refine j_istore C [(4, .int ((σ.2.1 7) ((c * 28) + d))), (3, .int (nI ((c * 28) + d))), (0, .ref (g 27)), (1, .int (nI c)), (2, .int (nI d))] (by decide) rfl dX7_readDay_16 ?_
  have K107 : ∀ (y107_5 : Int32) , J X 0 0 (cX g kk σ) [(4, .int ((σ.2.1 7) ((c * 28) + d))), (3, .int (nI ((c * 28) + d))), (0, .ref (g 27)), (1, .int (nI c)), (2, .int (nI d)), (5, .int y107_5)] 107 [] := by
    intro y107_5
    refine j_aload_n C 2 rfl dX7_readDay_107 ?_
    refine gX_27_1 C tb_202 dX7_readDay_108 ?_
    refine j_iload_n C 1 rfl dX7_readDay_111 ?_
    refine j_iload C 5 rfl dX7_readDay_112 ?_
    refine tX_28 C ((c * 28) + d) rfl (by omega) dX7_readDay_114 ?_
    refine j_aload_n C 2 rfl dX7_readDay_115 ?_
    refine gX_27_2 C tb_203 dX7_readDay_116 ?_
    refine j_iload_n C 1 rfl dX7_readDay_119 ?_
    refine j_iload C 5 rfl dX7_readDay_120 ?_
    refine j_iconst C ((-1)) (by decide) dX7_readDay_122 ?_
    refine j_icmp_eq C 132 (by decide) dX7_readDay_123 (fun c1 => ?_) (fun c1 => ?_)
    · refine j_iconst C ((-1)) (by decide) dX7_readDay_132 ?_
      refine j_goto C 144 (by decide) dX7_readDay_133 ?_
      refine tX_29 C ((c * 28) + d) rfl (by omega) dX7_readDay_144 ?_
      exact j_vret C E (sF (sF σ 28 (upd (σ.2.1 28) ((c * 28) + d) y107_5)) 29 (upd (σ.2.1 29) ((c * 28) + d) (-1))) ⟨rfl, ⟨(upd (σ.2.1 28) ((c * 28) + d) y107_5), (upd (σ.2.1 29) ((c * 28) + d) (-1)), rfl⟩⟩ rfl dX7_readDay_145
    · refine j_iload C 0 rfl dX7_readDay_126 ?_
      refine j_iconst C (nI 3) (by decide) dX7_readDay_128 ?_
      refine j_icmp_ne C 136 (by decide) dX7_readDay_129 (fun c2 => ?_) (fun c2 => ?_)
      · refine j_aload_n C 2 rfl dX7_readDay_136 ?_
        refine j_iload_n C 3 rfl dX7_readDay_137 ?_
        refine j_iload_n C 4 rfl dX7_readDay_138 ?_
        refine j_iload C 5 rfl dX7_readDay_139 ?_
        refine j_V1 C (d_fallen g kk (sF σ 28 (upd (σ.2.1 28) ((c * 28) + d) y107_5)) k hk hk6 hI  c (by first | assumption | omega) d (by first | assumption | omega) y107_5) kyX7_fallen tb_574 tb_576 sp_3 27 rfl (eX_27 g kk _) rfl (Nat.le_of_ble_eq_true rfl) ⟨by decide, by decide⟩ dX7_readDay_141 rfl (fun vr ur hp => ?_)
        obtain ⟨r3, rfl, hu⟩ := hp
        replace hu := hu.symm
        subst hu
        refine tX_29 C ((c * 28) + d) rfl (by omega) dX7_readDay_144 ?_
        exact j_vret C E (sF (sF σ 28 (upd (σ.2.1 28) ((c * 28) + d) y107_5)) 29 (upd (σ.2.1 29) ((c * 28) + d) r3)) ⟨rfl, ⟨(upd (σ.2.1 28) ((c * 28) + d) y107_5), (upd (σ.2.1 29) ((c * 28) + d) r3), rfl⟩⟩ rfl dX7_readDay_145
      · refine j_iconst C ((-1)) (by decide) dX7_readDay_132 ?_
        refine j_goto C 144 (by decide) dX7_readDay_133 ?_
        refine tX_29 C ((c * 28) + d) rfl (by omega) dX7_readDay_144 ?_
        exact j_vret C E (sF (sF σ 28 (upd (σ.2.1 28) ((c * 28) + d) y107_5)) 29 (upd (σ.2.1 29) ((c * 28) + d) (-1))) ⟨rfl, ⟨(upd (σ.2.1 28) ((c * 28) + d) y107_5), (upd (σ.2.1 29) ((c * 28) + d) (-1)), rfl⟩⟩ rfl dX7_readDay_145
  refine j_iload C 0 rfl dX7_readDay_18 ?_
  refine j_iconst C (nI 1) (by decide) dX7_readDay_20 ?_
  refine j_icmp_eq C 43 (by decide) dX7_readDay_21 (fun c4 => ?_) (fun c4 => ?_)
  · refine j_iconst C ((-1)) (by decide) dX7_readDay_43 ?_
    refine j_istore C [(5, .int (-1)), (4, .int ((σ.2.1 7) ((c * 28) + d))), (3, .int (nI ((c * 28) + d))), (0, .ref (g 27)), (1, .int (nI c)), (2, .int (nI d))] (by decide) rfl dX7_readDay_44 ?_
    refine j_goto C 107 (by decide) dX7_readDay_46 ?_
    refine j_sub (lv' := [(4, .int ((σ.2.1 7) ((c * 28) + d))), (3, .int (nI ((c * 28) + d))), (0, .ref (g 27)), (1, .int (nI c)), (2, .int (nI d)), (5, .int (-1))]) [1, 2, 3, 4, 5, 0] rfl ?_
    exact K107 (-1)
  · refine j_iload C 0 rfl dX7_readDay_24 ?_
    refine j_iconst C (nI 3) (by decide) dX7_readDay_26 ?_
    refine j_icmp_ne C 49 (by decide) dX7_readDay_27 (fun c5 => ?_) (fun c5 => ?_)
    · refine j_iload_n C 4 rfl dX7_readDay_49 ?_
      refine j_iconst C (nI 1) (by decide) dX7_readDay_50 ?_
      refine j_iaddN C dX7_readDay_51 ?_
      refine j_bipush C (nI 28) (by decide) dX7_readDay_52 ?_
      refine j_icmp_geN C 87 (by decide) (by omega) (by omega) dX7_readDay_54 (fun c6 => ?_) (fun c6 => ?_)
      · refine j_iload C 0 rfl dX7_readDay_87 ?_
        refine j_iconst C (nI 2) (by decide) dX7_readDay_89 ?_
        refine j_icmp_ne C 97 (by decide) dX7_readDay_90 (fun c7 => ?_) (fun c7 => ?_)
        · refine j_aload_n C 2 rfl dX7_readDay_97 ?_
          refine gX_27_0 C tb_198 dX7_readDay_98 ?_
          refine j_iload_n C 1 rfl dX7_readDay_101 ?_
          refine j_V1 C (d_counted g kk σ k hk hk6 hI  ((c * 28) + d) (by first | assumption | omega)) kyX2_counted tb_570 tb_571 tb_572 1 rfl (eX_1 g kk _) rfl (Nat.le_of_ble_eq_true rfl) ⟨by decide, by decide⟩ dX7_readDay_102 rfl (fun vr ur hp => ?_)
          obtain ⟨r8, rfl, hu⟩ := hp
          replace hu := hu.symm
          subst hu
          refine j_istore C [(5, .int r8), (4, .int ((σ.2.1 7) ((c * 28) + d))), (3, .int (nI ((c * 28) + d))), (0, .ref (g 27)), (1, .int (nI c)), (2, .int (nI d))] (by decide) rfl dX7_readDay_105 ?_
          refine j_sub (lv' := [(4, .int ((σ.2.1 7) ((c * 28) + d))), (3, .int (nI ((c * 28) + d))), (0, .ref (g 27)), (1, .int (nI c)), (2, .int (nI d)), (5, .int r8)]) [1, 2, 3, 4, 5, 0] rfl ?_
          exact K107 r8
        · refine j_iconst C ((-1)) (by decide) dX7_readDay_93 ?_
          refine j_goto C 105 (by decide) dX7_readDay_94 ?_
          refine j_istore C [(5, .int (-1)), (4, .int ((σ.2.1 7) ((c * 28) + d))), (3, .int (nI ((c * 28) + d))), (0, .ref (g 27)), (1, .int (nI c)), (2, .int (nI d))] (by decide) rfl dX7_readDay_105 ?_
          refine j_sub (lv' := [(4, .int ((σ.2.1 7) ((c * 28) + d))), (3, .int (nI ((c * 28) + d))), (0, .ref (g 27)), (1, .int (nI c)), (2, .int (nI d)), (5, .int (-1))]) [1, 2, 3, 4, 5, 0] rfl ?_
          exact K107 (-1)
      · refine j_aload_n C 2 rfl dX7_readDay_57 ?_
        refine gX_27_0 C tb_198 dX7_readDay_58 ?_
        refine gX_1_6 C tb_121 dX7_readDay_61 ?_
        refine j_iload_n C 1 rfl dX7_readDay_64 ?_
        refine j_iconst C (nI 1) (by decide) dX7_readDay_65 ?_
        refine j_iaddN C dX7_readDay_66 ?_
        refine rX_7 C (((c * 28) + d) + 1) rfl (by omega) ((σ.2.1 7) (((c * 28) + d) + 1)) rfl dX7_readDay_67 ?_
        refine j_iconst C (nI 2) (by decide) dX7_readDay_68 ?_
        refine j_icmp_ne C 87 (by decide) dX7_readDay_69 (fun c9 => ?_) (fun c9 => ?_)
        · refine j_iload C 0 rfl dX7_readDay_87 ?_
          refine j_iconst C (nI 2) (by decide) dX7_readDay_89 ?_
          refine j_icmp_ne C 97 (by decide) dX7_readDay_90 (fun c10 => ?_) (fun c10 => ?_)
          · refine j_aload_n C 2 rfl dX7_readDay_97 ?_
            refine gX_27_0 C tb_198 dX7_readDay_98 ?_
            refine j_iload_n C 1 rfl dX7_readDay_101 ?_
            refine j_V1 C (d_counted g kk σ k hk hk6 hI  ((c * 28) + d) (by first | assumption | omega)) kyX2_counted tb_570 tb_571 tb_572 1 rfl (eX_1 g kk _) rfl (Nat.le_of_ble_eq_true rfl) ⟨by decide, by decide⟩ dX7_readDay_102 rfl (fun vr ur hp => ?_)
            obtain ⟨r11, rfl, hu⟩ := hp
            replace hu := hu.symm
            subst hu
            refine j_istore C [(5, .int r11), (4, .int ((σ.2.1 7) ((c * 28) + d))), (3, .int (nI ((c * 28) + d))), (0, .ref (g 27)), (1, .int (nI c)), (2, .int (nI d))] (by decide) rfl dX7_readDay_105 ?_
            refine j_sub (lv' := [(4, .int ((σ.2.1 7) ((c * 28) + d))), (3, .int (nI ((c * 28) + d))), (0, .ref (g 27)), (1, .int (nI c)), (2, .int (nI d)), (5, .int r11)]) [1, 2, 3, 4, 5, 0] rfl ?_
            exact K107 r11
          · refine j_iconst C ((-1)) (by decide) dX7_readDay_93 ?_
            refine j_goto C 105 (by decide) dX7_readDay_94 ?_
            refine j_istore C [(5, .int (-1)), (4, .int ((σ.2.1 7) ((c * 28) + d))), (3, .int (nI ((c * 28) + d))), (0, .ref (g 27)), (1, .int (nI c)), (2, .int (nI d))] (by decide) rfl dX7_readDay_105 ?_
            refine j_sub (lv' := [(4, .int ((σ.2.1 7) ((c * 28) + d))), (3, .int (nI ((c * 28) + d))), (0, .ref (g 27)), (1, .int (nI c)), (2, .int (nI d)), (5, .int (-1))]) [1, 2, 3, 4, 5, 0] rfl ?_
            exact K107 (-1)
        · refine j_aload_n C 2 rfl dX7_readDay_72 ?_
          refine gX_27_0 C tb_198 dX7_readDay_73 ?_
          refine j_iload_n C 1 rfl dX7_readDay_76 ?_
          refine j_iconst C (nI 1) (by decide) dX7_readDay_77 ?_
          refine j_iaddN C dX7_readDay_78 ?_
          refine j_V1 C (d_counted g kk σ k hk hk6 hI  (((c * 28) + d) + 1) (by first | assumption | omega)) kyX2_counted tb_570 tb_571 tb_572 1 rfl (eX_1 g kk _) rfl (Nat.le_of_ble_eq_true rfl) ⟨by decide, by decide⟩ dX7_readDay_79 rfl (fun vr ur hp => ?_)
          obtain ⟨r12, rfl, hu⟩ := hp
          replace hu := hu.symm
          subst hu
          refine j_istore C [(5, .int r12), (4, .int ((σ.2.1 7) ((c * 28) + d))), (3, .int (nI ((c * 28) + d))), (0, .ref (g 27)), (1, .int (nI c)), (2, .int (nI d))] (by decide) rfl dX7_readDay_82 ?_
          refine j_goto C 107 (by decide) dX7_readDay_84 ?_
          refine j_sub (lv' := [(4, .int ((σ.2.1 7) ((c * 28) + d))), (3, .int (nI ((c * 28) + d))), (0, .ref (g 27)), (1, .int (nI c)), (2, .int (nI d)), (5, .int r12)]) [1, 2, 3, 4, 5, 0] rfl ?_
          exact K107 r12
    · refine j_aload_n C 2 rfl dX7_readDay_30 ?_
      refine gX_27_0 C tb_198 dX7_readDay_31 ?_
      refine gX_1_8 C tb_125 dX7_readDay_34 ?_
      refine j_iload_n C 1 rfl dX7_readDay_37 ?_
      refine rX_9 C ((c * 28) + d) rfl (by omega) ((σ.2.1 9) ((c * 28) + d)) rfl dX7_readDay_38 ?_
      refine j_iload_n C 4 rfl dX7_readDay_39 ?_
      refine j_icmp_eq C 49 (by decide) dX7_readDay_40 (fun c13 => ?_) (fun c13 => ?_)
      · refine j_iload_n C 4 rfl dX7_readDay_49 ?_
        refine j_iconst C (nI 1) (by decide) dX7_readDay_50 ?_
        refine j_iaddN C dX7_readDay_51 ?_
        refine j_bipush C (nI 28) (by decide) dX7_readDay_52 ?_
        refine j_icmp_geN C 87 (by decide) (by omega) (by omega) dX7_readDay_54 (fun c14 => ?_) (fun c14 => ?_)
        · refine j_iload C 0 rfl dX7_readDay_87 ?_
          refine j_iconst C (nI 2) (by decide) dX7_readDay_89 ?_
          refine j_icmp_ne C 97 (by decide) dX7_readDay_90 (fun c15 => ?_) (fun c15 => ?_)
          · refine j_aload_n C 2 rfl dX7_readDay_97 ?_
            refine gX_27_0 C tb_198 dX7_readDay_98 ?_
            refine j_iload_n C 1 rfl dX7_readDay_101 ?_
            refine j_V1 C (d_counted g kk σ k hk hk6 hI  ((c * 28) + d) (by first | assumption | omega)) kyX2_counted tb_570 tb_571 tb_572 1 rfl (eX_1 g kk _) rfl (Nat.le_of_ble_eq_true rfl) ⟨by decide, by decide⟩ dX7_readDay_102 rfl (fun vr ur hp => ?_)
            obtain ⟨r16, rfl, hu⟩ := hp
            replace hu := hu.symm
            subst hu
            refine j_istore C [(5, .int r16), (4, .int ((σ.2.1 7) ((c * 28) + d))), (3, .int (nI ((c * 28) + d))), (0, .ref (g 27)), (1, .int (nI c)), (2, .int (nI d))] (by decide) rfl dX7_readDay_105 ?_
            refine j_sub (lv' := [(4, .int ((σ.2.1 7) ((c * 28) + d))), (3, .int (nI ((c * 28) + d))), (0, .ref (g 27)), (1, .int (nI c)), (2, .int (nI d)), (5, .int r16)]) [1, 2, 3, 4, 5, 0] rfl ?_
            exact K107 r16
          · refine j_iconst C ((-1)) (by decide) dX7_readDay_93 ?_
            refine j_goto C 105 (by decide) dX7_readDay_94 ?_
            refine j_istore C [(5, .int (-1)), (4, .int ((σ.2.1 7) ((c * 28) + d))), (3, .int (nI ((c * 28) + d))), (0, .ref (g 27)), (1, .int (nI c)), (2, .int (nI d))] (by decide) rfl dX7_readDay_105 ?_
            refine j_sub (lv' := [(4, .int ((σ.2.1 7) ((c * 28) + d))), (3, .int (nI ((c * 28) + d))), (0, .ref (g 27)), (1, .int (nI c)), (2, .int (nI d)), (5, .int (-1))]) [1, 2, 3, 4, 5, 0] rfl ?_
            exact K107 (-1)
        · refine j_aload_n C 2 rfl dX7_readDay_57 ?_
          refine gX_27_0 C tb_198 dX7_readDay_58 ?_
          refine gX_1_6 C tb_121 dX7_readDay_61 ?_
          refine j_iload_n C 1 rfl dX7_readDay_64 ?_
          refine j_iconst C (nI 1) (by decide) dX7_readDay_65 ?_
          refine j_iaddN C dX7_readDay_66 ?_
          refine rX_7 C (((c * 28) + d) + 1) rfl (by omega) ((σ.2.1 7) (((c * 28) + d) + 1)) rfl dX7_readDay_67 ?_
          refine j_iconst C (nI 2) (by decide) dX7_readDay_68 ?_
          refine j_icmp_ne C 87 (by decide) dX7_readDay_69 (fun c17 => ?_) (fun c17 => ?_)
          · refine j_iload C 0 rfl dX7_readDay_87 ?_
            refine j_iconst C (nI 2) (by decide) dX7_readDay_89 ?_
            refine j_icmp_ne C 97 (by decide) dX7_readDay_90 (fun c18 => ?_) (fun c18 => ?_)
            · refine j_aload_n C 2 rfl dX7_readDay_97 ?_
              refine gX_27_0 C tb_198 dX7_readDay_98 ?_
              refine j_iload_n C 1 rfl dX7_readDay_101 ?_
              refine j_V1 C (d_counted g kk σ k hk hk6 hI  ((c * 28) + d) (by first | assumption | omega)) kyX2_counted tb_570 tb_571 tb_572 1 rfl (eX_1 g kk _) rfl (Nat.le_of_ble_eq_true rfl) ⟨by decide, by decide⟩ dX7_readDay_102 rfl (fun vr ur hp => ?_)
              obtain ⟨r19, rfl, hu⟩ := hp
              replace hu := hu.symm
              subst hu
              refine j_istore C [(5, .int r19), (4, .int ((σ.2.1 7) ((c * 28) + d))), (3, .int (nI ((c * 28) + d))), (0, .ref (g 27)), (1, .int (nI c)), (2, .int (nI d))] (by decide) rfl dX7_readDay_105 ?_
              refine j_sub (lv' := [(4, .int ((σ.2.1 7) ((c * 28) + d))), (3, .int (nI ((c * 28) + d))), (0, .ref (g 27)), (1, .int (nI c)), (2, .int (nI d)), (5, .int r19)]) [1, 2, 3, 4, 5, 0] rfl ?_
              exact K107 r19
            · refine j_iconst C ((-1)) (by decide) dX7_readDay_93 ?_
              refine j_goto C 105 (by decide) dX7_readDay_94 ?_
              refine j_istore C [(5, .int (-1)), (4, .int ((σ.2.1 7) ((c * 28) + d))), (3, .int (nI ((c * 28) + d))), (0, .ref (g 27)), (1, .int (nI c)), (2, .int (nI d))] (by decide) rfl dX7_readDay_105 ?_
              refine j_sub (lv' := [(4, .int ((σ.2.1 7) ((c * 28) + d))), (3, .int (nI ((c * 28) + d))), (0, .ref (g 27)), (1, .int (nI c)), (2, .int (nI d)), (5, .int (-1))]) [1, 2, 3, 4, 5, 0] rfl ?_
              exact K107 (-1)
          · refine j_aload_n C 2 rfl dX7_readDay_72 ?_
            refine gX_27_0 C tb_198 dX7_readDay_73 ?_
            refine j_iload_n C 1 rfl dX7_readDay_76 ?_
            refine j_iconst C (nI 1) (by decide) dX7_readDay_77 ?_
            refine j_iaddN C dX7_readDay_78 ?_
            refine j_V1 C (d_counted g kk σ k hk hk6 hI  (((c * 28) + d) + 1) (by first | assumption | omega)) kyX2_counted tb_570 tb_571 tb_572 1 rfl (eX_1 g kk _) rfl (Nat.le_of_ble_eq_true rfl) ⟨by decide, by decide⟩ dX7_readDay_79 rfl (fun vr ur hp => ?_)
            obtain ⟨r20, rfl, hu⟩ := hp
            replace hu := hu.symm
            subst hu
            refine j_istore C [(5, .int r20), (4, .int ((σ.2.1 7) ((c * 28) + d))), (3, .int (nI ((c * 28) + d))), (0, .ref (g 27)), (1, .int (nI c)), (2, .int (nI d))] (by decide) rfl dX7_readDay_82 ?_
            refine j_goto C 107 (by decide) dX7_readDay_84 ?_
            refine j_sub (lv' := [(4, .int ((σ.2.1 7) ((c * 28) + d))), (3, .int (nI ((c * 28) + d))), (0, .ref (g 27)), (1, .int (nI c)), (2, .int (nI d)), (5, .int r20)]) [1, 2, 3, 4, 5, 0] rfl ?_
            exact K107 r20
      · refine j_iconst C ((-1)) (by decide) dX7_readDay_43 ?_
        refine j_istore C [(5, .int (-1)), (4, .int ((σ.2.1 7) ((c * 28) + d))), (3, .int (nI ((c * 28) + d))), (0, .ref (g 27)), (1, .int (nI c)), (2, .int (nI d))] (by decide) rfl dX7_readDay_44 ?_
        refine j_goto C 107 (by decide) dX7_readDay_46 ?_
        refine j_sub (lv' := [(4, .int ((σ.2.1 7) ((c * 28) + d))), (3, .int (nI ((c * 28) + d))), (0, .ref (g 27)), (1, .int (nI c)), (2, .int (nI d)), (5, .int (-1))]) [1, 2, 3, 4, 5, 0] rfl ?_
        exact K107 (-1)
set_option maxRecDepth 100000 in
set_option maxHeartbeats 4000000 in
theorem d_isNeighbour (g kk : Nat → Nat) (σ : St) (k : Nat) (hk : σ.1 16 = nI k) (hk6 : k ≤ 6) (hI : iX σ)  (c : Nat) (hc0 : c < 6) (d : Nat) (hd0 : d < 6) : jM (S := St) yX7_isNeighbour cX7_isNeighbour 3 (some .boolean) { frames := 2, cells := 0, slots := 0, locals := 44 } kk (cX g kk σ) [.ref (g 27), .int (nI c), .int (nI d)] (cX g kk) (rI (fun (r : Int32) (u : St) => u = σ ∧ (r = nI 0 ∨ r = nI 1))) := by
  refine j_entry [(0, .ref (g 27)), (1, .int (nI c)), (2, .int (nI d))] (by decide) (Nat.le_of_ble_eq_true rfl) rfl ?_
  intro X C E HI
  refine j_iload_n C 1 rfl dX7_isNeighbour_0 ?_
  refine j_iload_n C 2 rfl dX7_isNeighbour_1 ?_
  refine j_icmp_eqN C 60 (by decide) (by omega) (by omega) dX7_isNeighbour_2 (fun c1 => ?_) (fun c1 => ?_)
  · refine j_iconst C (nI 0) (by decide) dX7_isNeighbour_60 ?_
    exact j_zret C E (by first | rfl | decide) (σ) ⟨_, rfl, ⟨rfl, (Or.inl rfl)⟩⟩ rfl dX7_isNeighbour_61
  · refine j_aload_n C 0 rfl dX7_isNeighbour_5 ?_
    refine gX_27_0 C tb_198 dX7_isNeighbour_6 ?_
    refine gX_1_1 C tb_104 dX7_isNeighbour_9 ?_
    refine j_iload_n C 1 rfl dX7_isNeighbour_12 ?_
    refine rX_2 C c rfl (by omega) ((σ.2.1 2) c) rfl dX7_isNeighbour_13 ?_
    refine j_aload_n C 0 rfl dX7_isNeighbour_14 ?_
    refine gX_27_0 C tb_198 dX7_isNeighbour_15 ?_
    refine gX_1_2 C tb_108 dX7_isNeighbour_18 ?_
    refine j_iload_n C 1 rfl dX7_isNeighbour_21 ?_
    refine rX_3 C c rfl (by omega) ((σ.2.1 3) c) rfl dX7_isNeighbour_22 ?_
    refine j_aload_n C 0 rfl dX7_isNeighbour_23 ?_
    refine gX_27_0 C tb_198 dX7_isNeighbour_24 ?_
    refine gX_1_1 C tb_104 dX7_isNeighbour_27 ?_
    refine j_iload_n C 2 rfl dX7_isNeighbour_30 ?_
    refine rX_2 C d rfl (by omega) ((σ.2.1 2) d) rfl dX7_isNeighbour_31 ?_
    refine j_aload_n C 0 rfl dX7_isNeighbour_32 ?_
    refine gX_27_0 C tb_198 dX7_isNeighbour_33 ?_
    refine gX_1_2 C tb_108 dX7_isNeighbour_36 ?_
    refine j_iload_n C 2 rfl dX7_isNeighbour_39 ?_
    refine rX_3 C d rfl (by omega) ((σ.2.1 3) d) rfl dX7_isNeighbour_40 ?_
    refine j_SN01 C (c_far ((σ.2.1 2) c) ((σ.2.1 3) c) ((σ.2.1 2) d) ((σ.2.1 3) d)) kyX10_far (fun _ h => h.2.2.1) tb_587 rfl (Nat.le_of_ble_eq_true rfl) ⟨by decide, by decide⟩ ⟨by decide, by decide⟩ dX7_isNeighbour_41 rfl ?_
    refine j_top (fun v2 => ?_)
    refine j_aload_n C 0 rfl dX7_isNeighbour_44 ?_
    refine gX_27_0 C tb_198 dX7_isNeighbour_45 ?_
    refine gX_1_9 C tb_130 dX7_isNeighbour_48 ?_
    refine j_iconst C (nI 0) (by decide) dX7_isNeighbour_51 ?_
    refine rX_10 C 0 rfl (by omega) ((σ.2.1 10) 0) rfl dX7_isNeighbour_52 ?_
    refine j_icmp_gt C 60 (by decide) dX7_isNeighbour_53 (fun c3 => ?_) (fun c3 => ?_)
    · refine j_iconst C (nI 0) (by decide) dX7_isNeighbour_60 ?_
      exact j_zret C E (by first | rfl | decide) (σ) ⟨_, rfl, ⟨rfl, (Or.inl rfl)⟩⟩ rfl dX7_isNeighbour_61
    · refine j_iconst C (nI 1) (by decide) dX7_isNeighbour_56 ?_
      refine j_goto C 61 (by decide) dX7_isNeighbour_57 ?_
      exact j_zret C E (by first | rfl | decide) (σ) ⟨_, rfl, ⟨rfl, (Or.inr rfl)⟩⟩ rfl dX7_isNeighbour_61
set_option maxRecDepth 100000 in
set_option maxHeartbeats 4000000 in
theorem d_expectDays (g kk : Nat → Nat) (σ : St) (k : Nat) (hk : σ.1 16 = nI k) (hk6 : k ≤ 6) (hI : iX σ)  (c : Nat) (hc0 : c < 6) : jM (S := St) yX7_expectDays cX7_expectDays 8 none { frames := 3, cells := 0, slots := 0, locals := 66 } kk (cX g kk σ) [.ref (g 27), .int (nI c)] (cX g kk) (rV (fun u : St => ∃ (pF30 : Nat → Int32), u = sF σ 30 pF30)) := by
  refine j_entry [(0, .ref (g 27)), (1, .int (nI c))] (by decide) (Nat.le_of_ble_eq_true rfl) rfl ?_
  intro X C E HI
  refine j_iload_n C 1 rfl dX7_expectDays_0 ?_
  refine j_bipush C (nI 28) (by decide) dX7_expectDays_1 ?_
  refine j_imulN C dX7_expectDays_3 ?_
  refine j_istore_n C [(2, .int (nI (c * 28))), (0, .ref (g 27)), (1, .int (nI c))] rfl (by decide) rfl dX7_expectDays_4 ?_
  refine j_iconst C (nI 0) (by decide) dX7_expectDays_5 ?_
  refine j_istore_n C [(3, .int (nI 0)), (2, .int (nI (c * 28))), (0, .ref (g 27)), (1, .int (nI c))] rfl (by decide) rfl dX7_expectDays_6 ?_
  have L7 : ∀ (n7 : Nat) (d : Nat) (z7_F30 : Nat → Int32) (i7_0 : d ≤ 28) (hm7 : 28 - d < n7), J X 0 0 (cX g kk (sF σ 30 z7_F30)) [(3, .int (nI d)), (2, .int (nI (c * 28))), (0, .ref (g 27)), (1, .int (nI c))] 7 [] := by
    intro n7
    induction n7 with
    | zero => intro d z7_F30 i7_0 hm; exact absurd hm (Nat.not_lt_zero _)
    | succ n7 ih7 =>
      intro d z7_F30 i7_0 hm7
      refine j_iload_n C 0 rfl dX7_expectDays_7 ?_
      refine j_bipush C (nI 28) (by decide) dX7_expectDays_8 ?_
      refine j_icmp_geN C 108 (by decide) (by omega) (by omega) dX7_expectDays_10 (fun c1 => ?_) (fun c1 => ?_)
      · exact j_vret C E (sF σ 30 z7_F30) ⟨rfl, ⟨z7_F30, rfl⟩⟩ rfl dX7_expectDays_108
      · refine j_iconst C (nI 0) (by decide) dX7_expectDays_13 ?_
        refine j_istore C [(4, .int (nI 0)), (3, .int (nI d)), (2, .int (nI (c * 28))), (0, .ref (g 27)), (1, .int (nI c))] (by decide) rfl dX7_expectDays_14 ?_
        refine j_iconst C (nI 0) (by decide) dX7_expectDays_16 ?_
        refine j_istore C [(5, .int (nI 0)), (4, .int (nI 0)), (3, .int (nI d)), (2, .int (nI (c * 28))), (0, .ref (g 27)), (1, .int (nI c))] (by decide) rfl dX7_expectDays_17 ?_
        refine j_iconst C (nI 0) (by decide) dX7_expectDays_19 ?_
        refine j_istore C [(6, .int (nI 0)), (5, .int (nI 0)), (4, .int (nI 0)), (3, .int (nI d)), (2, .int (nI (c * 28))), (0, .ref (g 27)), (1, .int (nI c))] (by decide) rfl dX7_expectDays_20 ?_
        have L22 : ∀ (n22 : Nat) (e : Nat) (y22_5 : Int32) (y22_4 : Int32) (i22_0 : e ≤ k) (hm22 : k - e < n22), J X 0 0 (cX g kk (sF σ 30 z7_F30)) [(6, .int (nI e)), (5, .int y22_5), (4, .int y22_4), (3, .int (nI d)), (2, .int (nI (c * 28))), (0, .ref (g 27)), (1, .int (nI c))] 22 [] := by
          intro n22
          induction n22 with
          | zero => intro e y22_5 y22_4 i22_0 hm; exact absurd hm (Nat.not_lt_zero _)
          | succ n22 ih22 =>
            intro e y22_5 y22_4 i22_0 hm22
            refine j_iload C 0 rfl dX7_expectDays_22 ?_
            refine j_aload_n C 5 rfl dX7_expectDays_24 ?_
            refine gX_27_0 C tb_198 dX7_expectDays_25 ?_
            refine gX_1_0 C tb_100 (nI k) hk dX7_expectDays_28 ?_
            refine j_icmp_geN C 80 (by decide) (by omega) (by omega) dX7_expectDays_31 (fun c2 => ?_) (fun c2 => ?_)
            · refine j_aload_n C 5 rfl dX7_expectDays_80 ?_
              refine gX_27_3 C tb_204 dX7_expectDays_81 ?_
              refine j_iload_n C 4 rfl dX7_expectDays_84 ?_
              refine j_iload_n C 3 rfl dX7_expectDays_85 ?_
              refine j_iaddN C dX7_expectDays_86 ?_
              refine j_iload C 1 rfl dX7_expectDays_87 ?_
              refine j_if_ne C 96 (by decide) dX7_expectDays_89 (fun c3 => ?_) (fun c3 => ?_)
              · refine j_iload C 2 rfl dX7_expectDays_96 ?_
                refine j_iload C 1 rfl dX7_expectDays_98 ?_
                refine j_idiv C (by first | decide | assumption | exact nI_ne0 (by omega) (by omega) | exact i64ne (by assumption) | exact i64ne (nI_ne0 (by omega) (by omega))) dX7_expectDays_100 ?_
                refine tX_30 C ((c * 28) + d) rfl (by omega) dX7_expectDays_101 ?_
                refine j_iinc C (nI (d + 1)) [(3, .int (nI (d + 1))), (6, .int (nI e)), (5, .int y22_5), (4, .int y22_4), (2, .int (nI (c * 28))), (0, .ref (g 27)), (1, .int (nI c))] 3 rfl (by rw [show Int32.ofInt 1 = nI 1 from by decide, nI_add]) (by decide) rfl dX7_expectDays_102 ?_
                refine j_goto C 7 (by decide) dX7_expectDays_105 ?_
                refine j_sub (lv' := [(3, .int (nI (d + 1))), (2, .int (nI (c * 28))), (0, .ref (g 27)), (1, .int (nI c))]) [0, 4, 5, 6] rfl ?_
                refine j_w (cX g kk (sF σ 30 (upd z7_F30 ((c * 28) + d) (y22_4 / y22_5)))) (congrArg (cX g kk) (show sF (sF σ 30 z7_F30) 30 (upd z7_F30 ((c * 28) + d) (y22_4 / y22_5)) = sF σ 30 (upd z7_F30 ((c * 28) + d) (y22_4 / y22_5)) from wrFs)) ?_
                exact ih7 (d + 1) (upd z7_F30 ((c * 28) + d) (y22_4 / y22_5)) (by omega) (by omega)
              · refine j_iconst C ((-1)) (by decide) dX7_expectDays_92 ?_
                refine j_goto C 101 (by decide) dX7_expectDays_93 ?_
                refine tX_30 C ((c * 28) + d) rfl (by omega) dX7_expectDays_101 ?_
                refine j_iinc C (nI (d + 1)) [(3, .int (nI (d + 1))), (6, .int (nI e)), (5, .int y22_5), (4, .int y22_4), (2, .int (nI (c * 28))), (0, .ref (g 27)), (1, .int (nI c))] 3 rfl (by rw [show Int32.ofInt 1 = nI 1 from by decide, nI_add]) (by decide) rfl dX7_expectDays_102 ?_
                refine j_goto C 7 (by decide) dX7_expectDays_105 ?_
                refine j_sub (lv' := [(3, .int (nI (d + 1))), (2, .int (nI (c * 28))), (0, .ref (g 27)), (1, .int (nI c))]) [0, 4, 5, 6] rfl ?_
                refine j_w (cX g kk (sF σ 30 (upd z7_F30 ((c * 28) + d) (-1)))) (congrArg (cX g kk) (show sF (sF σ 30 z7_F30) 30 (upd z7_F30 ((c * 28) + d) (-1)) = sF σ 30 (upd z7_F30 ((c * 28) + d) (-1)) from wrFs)) ?_
                exact ih7 (d + 1) (upd z7_F30 ((c * 28) + d) (-1)) (by omega) (by omega)
            · refine j_aload_n C 5 rfl dX7_expectDays_34 ?_
              refine gX_27_2 C tb_203 dX7_expectDays_35 ?_
              refine j_iload C 0 rfl dX7_expectDays_38 ?_
              refine j_bipush C (nI 28) (by decide) dX7_expectDays_40 ?_
              refine j_imulN C dX7_expectDays_42 ?_
              refine j_iload_n C 3 rfl dX7_expectDays_43 ?_
              refine j_iaddN C dX7_expectDays_44 ?_
              refine rX_29 C ((e * 28) + d) rfl (by omega) ((σ.2.1 29) ((e * 28) + d)) rfl dX7_expectDays_45 ?_
              refine j_istore C [(7, .int ((σ.2.1 29) ((e * 28) + d))), (6, .int (nI e)), (5, .int y22_5), (4, .int y22_4), (3, .int (nI d)), (2, .int (nI (c * 28))), (0, .ref (g 27)), (1, .int (nI c))] (by decide) rfl dX7_expectDays_46 ?_
              refine j_iload C 0 rfl dX7_expectDays_48 ?_
              refine j_iconst C ((-1)) (by decide) dX7_expectDays_50 ?_
              refine j_icmp_eq C 74 (by decide) dX7_expectDays_51 (fun c4 => ?_) (fun c4 => ?_)
              · refine j_iinc C (nI (e + 1)) [(6, .int (nI (e + 1))), (7, .int ((σ.2.1 29) ((e * 28) + d))), (5, .int y22_5), (4, .int y22_4), (3, .int (nI d)), (2, .int (nI (c * 28))), (0, .ref (g 27)), (1, .int (nI c))] 1 rfl (by rw [show Int32.ofInt 1 = nI 1 from by decide, nI_add]) (by decide) rfl dX7_expectDays_74 ?_
                refine j_goto C 22 (by decide) dX7_expectDays_77 ?_
                refine j_sub (lv' := [(6, .int (nI (e + 1))), (5, .int y22_5), (4, .int y22_4), (3, .int (nI d)), (2, .int (nI (c * 28))), (0, .ref (g 27)), (1, .int (nI c))]) [0, 2, 3, 4, 5, 6, 7] rfl ?_
                exact ih22 (e + 1) y22_5 y22_4 (by omega) (by omega)
              · refine j_aload_n C 6 rfl dX7_expectDays_54 ?_
                refine j_iload_n C 7 rfl dX7_expectDays_55 ?_
                refine j_iload C 1 rfl dX7_expectDays_56 ?_
                refine j_V1 C (d_isNeighbour g kk (sF σ 30 z7_F30) k hk hk6 hI  c (by first | assumption | omega) e (by first | assumption | omega)) kyX7_isNeighbour tb_582 tb_584 sp_5 27 rfl (eX_27 g kk _) rfl (Nat.le_of_ble_eq_true rfl) ⟨by decide, by decide⟩ dX7_expectDays_58 rfl (fun vr ur hp => ?_)
                obtain ⟨r6, rfl, hu, g5⟩ := hp
                replace hu := hu.symm
                subst hu
                refine j_if_eq C 74 (by decide) dX7_expectDays_61 (fun c7 => ?_) (fun c7 => ?_)
                · refine j_iinc C (nI (e + 1)) [(6, .int (nI (e + 1))), (7, .int ((σ.2.1 29) ((e * 28) + d))), (5, .int y22_5), (4, .int y22_4), (3, .int (nI d)), (2, .int (nI (c * 28))), (0, .ref (g 27)), (1, .int (nI c))] 1 rfl (by rw [show Int32.ofInt 1 = nI 1 from by decide, nI_add]) (by decide) rfl dX7_expectDays_74 ?_
                  refine j_goto C 22 (by decide) dX7_expectDays_77 ?_
                  refine j_sub (lv' := [(6, .int (nI (e + 1))), (5, .int y22_5), (4, .int y22_4), (3, .int (nI d)), (2, .int (nI (c * 28))), (0, .ref (g 27)), (1, .int (nI c))]) [0, 2, 3, 4, 5, 6, 7] rfl ?_
                  exact ih22 (e + 1) y22_5 y22_4 (by omega) (by omega)
                · refine j_iload C 3 rfl dX7_expectDays_64 ?_
                  refine j_iload C 0 rfl dX7_expectDays_66 ?_
                  refine j_iadd C dX7_expectDays_68 ?_
                  refine j_top (fun v8 => ?_)
                  refine j_istore C [(4, .int v8), (7, .int ((σ.2.1 29) ((e * 28) + d))), (6, .int (nI e)), (5, .int y22_5), (3, .int (nI d)), (2, .int (nI (c * 28))), (0, .ref (g 27)), (1, .int (nI c))] (by decide) rfl dX7_expectDays_69 ?_
                  refine j_iinc C (y22_5 + (1)) [(5, .int (y22_5 + (1))), (4, .int v8), (7, .int ((σ.2.1 29) ((e * 28) + d))), (6, .int (nI e)), (3, .int (nI d)), (2, .int (nI (c * 28))), (0, .ref (g 27)), (1, .int (nI c))] 3 rfl (by rw [show Int32.ofInt (1) = (1) from by decide]) (by decide) rfl dX7_expectDays_71 ?_
                  refine j_iinc C (nI (e + 1)) [(6, .int (nI (e + 1))), (5, .int (y22_5 + (1))), (4, .int v8), (7, .int ((σ.2.1 29) ((e * 28) + d))), (3, .int (nI d)), (2, .int (nI (c * 28))), (0, .ref (g 27)), (1, .int (nI c))] 3 rfl (by rw [show Int32.ofInt 1 = nI 1 from by decide, nI_add]) (by decide) rfl dX7_expectDays_74 ?_
                  refine j_goto C 22 (by decide) dX7_expectDays_77 ?_
                  refine j_sub (lv' := [(6, .int (nI (e + 1))), (5, .int (y22_5 + (1))), (4, .int v8), (3, .int (nI d)), (2, .int (nI (c * 28))), (0, .ref (g 27)), (1, .int (nI c))]) [0, 1, 2, 4, 5, 6, 7] rfl ?_
                  exact ih22 (e + 1) (y22_5 + (1)) v8 (by omega) (by omega)
        exact L22 _ 0 (nI 0) (nI 0) (by omega) (Nat.lt_succ_self _)
  refine j_w (cX g kk (sF σ 30 (σ.2.1 30))) (congrArg (cX g kk) (wrFi (S := σ) (c := 30) (v := σ.2.1 30) rfl)) ?_
  exact L7 _ 0 (σ.2.1 30) (by omega) (Nat.lt_succ_self _)
set_option maxRecDepth 100000 in
set_option maxHeartbeats 4000000 in
theorem d_part_31_30 (g kk : Nat → Nat) (σ : St) (k : Nat) (hk : σ.1 16 = nI k) (hk6 : k ≤ 6) (hI : iX σ)  (a : Nat) (ha0 : a < 168) (b : Nat) (hb0 : b < 168) (v : Int32) : jM (S := St) yX10_part cX10_part 8 none { frames := 1, cells := 0, slots := 0, locals := 21 } kk (cX g kk σ) [.ref (g 31), .int (nI a), .int (nI b), .int v, .ref (g 30)] (cX g kk) (rV (fun u : St => ∃ (pF31 : Nat → Int32), u = sF σ 31 pF31)) := by
  refine j_entry [(0, .ref (g 31)), (1, .int (nI a)), (2, .int (nI b)), (3, .int v), (4, .ref (g 30))] (by decide) (Nat.le_of_ble_eq_true rfl) rfl ?_
  intro X C E HI
  refine j_iconst C (nI 0) (by decide) dX10_part_0 ?_
  refine j_istore C [(5, .int (nI 0)), (0, .ref (g 31)), (1, .int (nI a)), (2, .int (nI b)), (3, .int v), (4, .ref (g 30))] (by decide) rfl dX10_part_1 ?_
  refine j_iload_n C 2 rfl dX10_part_3 ?_
  refine j_istore C [(6, .int (nI a)), (5, .int (nI 0)), (0, .ref (g 31)), (1, .int (nI a)), (2, .int (nI b)), (3, .int v), (4, .ref (g 30))] (by decide) rfl dX10_part_4 ?_
  have L6 : ∀ (n6 : Nat) (i : Nat) (y6_5 : Int32) (i6_0 : i ≤ 168) (hm6 : 168 - i < n6), J X 0 0 (cX g kk σ) [(6, .int (nI i)), (5, .int y6_5), (0, .ref (g 31)), (1, .int (nI a)), (2, .int (nI b)), (3, .int v), (4, .ref (g 30))] 6 [] := by
    intro n6
    induction n6 with
    | zero => intro i y6_5 i6_0 hm; exact absurd hm (Nat.not_lt_zero _)
    | succ n6 ih6 =>
      intro i y6_5 i6_0 hm6
      refine j_iload C 0 rfl dX10_part_6 ?_
      refine j_iload_n C 4 rfl dX10_part_8 ?_
      refine j_icmp_gtN C 32 (by decide) (by omega) (by omega) dX10_part_9 (fun c1 => ?_) (fun c1 => ?_)
      · refine j_iload_n C 5 rfl dX10_part_32 ?_
        refine j_istore C [(6, .int v), (5, .int y6_5), (0, .ref (g 31)), (1, .int (nI a)), (2, .int (nI b)), (3, .int v), (4, .ref (g 30))] (by decide) rfl dX10_part_33 ?_
        refine j_iload_n C 3 rfl dX10_part_35 ?_
        refine j_istore C [(7, .int (nI a)), (6, .int v), (5, .int y6_5), (0, .ref (g 31)), (1, .int (nI a)), (2, .int (nI b)), (3, .int v), (4, .ref (g 30))] (by decide) rfl dX10_part_36 ?_
        have L38 : ∀ (n38 : Nat) (j : Nat) (y38_6 : Int32) (z38_F31 : Nat → Int32) (i38_0 : j ≤ 168) (hm38 : 168 - j < n38), J X 0 0 (cX g kk (sF σ 31 z38_F31)) [(7, .int (nI j)), (6, .int y38_6), (5, .int y6_5), (0, .ref (g 31)), (1, .int (nI a)), (2, .int (nI b)), (3, .int v), (4, .ref (g 30))] 38 [] := by
          intro n38
          induction n38 with
          | zero => intro j y38_6 z38_F31 i38_0 hm; exact absurd hm (Nat.not_lt_zero _)
          | succ n38 ih38 =>
            intro j y38_6 z38_F31 i38_0 hm38
            refine j_iload C 0 rfl dX10_part_38 ?_
            refine j_iload_n C 5 rfl dX10_part_40 ?_
            refine j_icmp_geN C 86 (by decide) (by omega) (by omega) dX10_part_41 (fun c2 => ?_) (fun c2 => ?_)
            · refine j_aload_n C 3 rfl dX10_part_86 ?_
              refine j_iload_n C 5 rfl dX10_part_87 ?_
              refine j_iload C 1 rfl dX10_part_88 ?_
              refine tX_31 C b rfl (by omega) dX10_part_90 ?_
              refine j_w (cX g kk (sF σ 31 (upd z38_F31 b y38_6))) (congrArg (cX g kk) (show sF (sF σ 31 z38_F31) 31 (upd z38_F31 b y38_6) = sF σ 31 (upd z38_F31 b y38_6) from wrFs)) ?_
              exact j_vret C E (sF σ 31 (upd z38_F31 b y38_6)) ⟨rfl, ⟨(upd z38_F31 b y38_6), rfl⟩⟩ rfl dX10_part_91
            · refine j_aload_n C 3 rfl dX10_part_44 ?_
              refine j_iload C 0 rfl dX10_part_45 ?_
              refine j_iload C 2 rfl dX10_part_47 ?_
              refine j_if_ne C 56 (by decide) dX10_part_49 (fun c3 => ?_) (fun c3 => ?_)
              · refine j_iload_n C 6 rfl dX10_part_56 ?_
                refine j_iconst C (nI 0) (by decide) dX10_part_57 ?_
                refine j_aload C 7 rfl dX10_part_58 ?_
                refine j_iload C 0 rfl dX10_part_60 ?_
                refine rX_30 C j rfl (by omega) ((σ.2.1 30) j) rfl dX10_part_62 ?_
                refine j_mmax C tb_599 tb_600 tb_15 tb_601 (by decide) (Nat.le_of_ble_eq_true rfl) (by decide) (by decide) dX10_part_63 ?_
                refine j_top (fun v4 => ?_)
                refine j_imul C dX10_part_66 ?_
                refine j_iload C 2 rfl dX10_part_67 ?_
                refine j_idiv C (by first | decide | assumption | exact nI_ne0 (by omega) (by omega) | exact i64ne (by assumption) | exact i64ne (nI_ne0 (by omega) (by omega))) dX10_part_69 ?_
                refine tX_31 C j rfl (by omega) dX10_part_70 ?_
                refine j_iload C 1 rfl dX10_part_71 ?_
                refine j_aload_n C 3 rfl dX10_part_73 ?_
                refine j_iload C 0 rfl dX10_part_74 ?_
                refine rX_31 C j rfl (by omega) ((upd z38_F31 j ((v * v4) / y6_5)) j) rfl dX10_part_76 ?_
                refine j_top (fun v5 => ?_)
                refine j_isub C dX10_part_77 ?_
                refine j_istore C [(6, .int (y38_6 - v5)), (7, .int (nI j)), (5, .int y6_5), (0, .ref (g 31)), (1, .int (nI a)), (2, .int (nI b)), (3, .int v), (4, .ref (g 30))] (by decide) rfl dX10_part_78 ?_
                refine j_iinc C (nI (j + 1)) [(7, .int (nI (j + 1))), (6, .int (y38_6 - v5)), (5, .int y6_5), (0, .ref (g 31)), (1, .int (nI a)), (2, .int (nI b)), (3, .int v), (4, .ref (g 30))] 1 rfl (by rw [show Int32.ofInt 1 = nI 1 from by decide, nI_add]) (by decide) rfl dX10_part_80 ?_
                refine j_goto C 38 (by decide) dX10_part_83 ?_
                refine j_w (cX g kk (sF σ 31 (upd z38_F31 j ((v * v4) / y6_5)))) (congrArg (cX g kk) (show sF (sF σ 31 z38_F31) 31 (upd z38_F31 j ((v * v4) / y6_5)) = sF σ 31 (upd z38_F31 j ((v * v4) / y6_5)) from wrFs)) ?_
                exact ih38 (j + 1) (y38_6 - v5) (upd z38_F31 j ((v * v4) / y6_5)) (by omega) (by omega)
              · refine j_iconst C (nI 0) (by decide) dX10_part_52 ?_
                refine j_goto C 70 (by decide) dX10_part_53 ?_
                refine tX_31 C j rfl (by omega) dX10_part_70 ?_
                refine j_iload C 1 rfl dX10_part_71 ?_
                refine j_aload_n C 3 rfl dX10_part_73 ?_
                refine j_iload C 0 rfl dX10_part_74 ?_
                refine rX_31 C j rfl (by omega) ((upd z38_F31 j (nI 0)) j) rfl dX10_part_76 ?_
                refine j_isub C dX10_part_77 ?_
                refine j_top (fun v6 => ?_)
                refine j_istore C [(6, .int v6), (7, .int (nI j)), (5, .int y6_5), (0, .ref (g 31)), (1, .int (nI a)), (2, .int (nI b)), (3, .int v), (4, .ref (g 30))] (by decide) rfl dX10_part_78 ?_
                refine j_iinc C (nI (j + 1)) [(7, .int (nI (j + 1))), (6, .int v6), (5, .int y6_5), (0, .ref (g 31)), (1, .int (nI a)), (2, .int (nI b)), (3, .int v), (4, .ref (g 30))] 1 rfl (by rw [show Int32.ofInt 1 = nI 1 from by decide, nI_add]) (by decide) rfl dX10_part_80 ?_
                refine j_goto C 38 (by decide) dX10_part_83 ?_
                refine j_w (cX g kk (sF σ 31 (upd z38_F31 j (nI 0)))) (congrArg (cX g kk) (show sF (sF σ 31 z38_F31) 31 (upd z38_F31 j (nI 0)) = sF σ 31 (upd z38_F31 j (nI 0)) from wrFs)) ?_
                exact ih38 (j + 1) v6 (upd z38_F31 j (nI 0)) (by omega) (by omega)
        refine j_w (cX g kk (sF σ 31 (σ.2.1 31))) (congrArg (cX g kk) (wrFi (S := σ) (c := 31) (v := σ.2.1 31) rfl)) ?_
        exact L38 _ a v (σ.2.1 31) (by omega) (Nat.lt_succ_self _)
      · refine j_iload C 1 rfl dX10_part_12 ?_
        refine j_iconst C (nI 0) (by decide) dX10_part_14 ?_
        refine j_aload C 6 rfl dX10_part_15 ?_
        refine j_iload C 0 rfl dX10_part_17 ?_
        refine rX_30 C i rfl (by omega) ((σ.2.1 30) i) rfl dX10_part_19 ?_
        refine j_mmax C tb_599 tb_600 tb_15 tb_601 (by decide) (Nat.le_of_ble_eq_true rfl) (by decide) (by decide) dX10_part_20 ?_
        refine j_top (fun v7 => ?_)
        refine j_iadd C dX10_part_23 ?_
        refine j_istore C [(5, .int (y6_5 + v7)), (6, .int (nI i)), (0, .ref (g 31)), (1, .int (nI a)), (2, .int (nI b)), (3, .int v), (4, .ref (g 30))] (by decide) rfl dX10_part_24 ?_
        refine j_iinc C (nI (i + 1)) [(6, .int (nI (i + 1))), (5, .int (y6_5 + v7)), (0, .ref (g 31)), (1, .int (nI a)), (2, .int (nI b)), (3, .int v), (4, .ref (g 30))] 1 rfl (by rw [show Int32.ofInt 1 = nI 1 from by decide, nI_add]) (by decide) rfl dX10_part_26 ?_
        refine j_goto C 6 (by decide) dX10_part_29 ?_
        exact ih6 (i + 1) (y6_5 + v7) (by omega) (by omega)
  exact L6 _ a (nI 0) (by omega) (Nat.lt_succ_self _)
set_option maxRecDepth 100000 in
set_option maxHeartbeats 4000000 in
theorem d_valueDays (g kk : Nat → Nat) (σ : St) (k : Nat) (hk : σ.1 16 = nI k) (hk6 : k ≤ 6) (hI : iX σ)  (c : Nat) (hc0 : c < 6) : jM (S := St) yX7_valueDays cX7_valueDays 6 none { frames := 2, cells := 0, slots := 0, locals := 48 } kk (cX g kk σ) [.ref (g 27), .int (nI c)] (cX g kk) (rV (fun u : St => ∃ (pF31 : Nat → Int32), u = sF σ 31 pF31)) := by
  refine j_entry [(0, .ref (g 27)), (1, .int (nI c))] (by decide) (Nat.le_of_ble_eq_true rfl) rfl ?_
  intro X C E HI
  refine j_iload_n C 1 rfl dX7_valueDays_0 ?_
  refine j_bipush C (nI 28) (by decide) dX7_valueDays_1 ?_
  refine j_imulN C dX7_valueDays_3 ?_
  refine j_istore_n C [(2, .int (nI (c * 28))), (0, .ref (g 27)), (1, .int (nI c))] rfl (by decide) rfl dX7_valueDays_4 ?_
  refine j_iconst C (nI 0) (by decide) dX7_valueDays_5 ?_
  refine j_istore_n C [(3, .int (nI 0)), (2, .int (nI (c * 28))), (0, .ref (g 27)), (1, .int (nI c))] rfl (by decide) rfl dX7_valueDays_6 ?_
  have L7 : ∀ (n7 : Nat) (d : Nat) (z7_F31 : Nat → Int32) (i7_0 : d ≤ 28) (hm7 : 28 - d < n7), J X 0 0 (cX g kk (sF σ 31 z7_F31)) [(3, .int (nI d)), (2, .int (nI (c * 28))), (0, .ref (g 27)), (1, .int (nI c))] 7 [] := by
    intro n7
    induction n7 with
    | zero => intro d z7_F31 i7_0 hm; exact absurd hm (Nat.not_lt_zero _)
    | succ n7 ih7 =>
      intro d z7_F31 i7_0 hm7
      refine j_iload_n C 0 rfl dX7_valueDays_7 ?_
      refine j_bipush C (nI 28) (by decide) dX7_valueDays_8 ?_
      refine j_icmp_geN C 119 (by decide) (by omega) (by omega) dX7_valueDays_10 (fun c1 => ?_) (fun c1 => ?_)
      · exact j_vret C E (sF σ 31 z7_F31) ⟨rfl, ⟨z7_F31, rfl⟩⟩ rfl dX7_valueDays_119
      · refine j_iload_n C 1 rfl dX7_valueDays_13 ?_
        refine j_iload_n C 0 rfl dX7_valueDays_14 ?_
        refine j_iaddN C dX7_valueDays_15 ?_
        refine j_istore C [(4, .int (nI ((c * 28) + d))), (3, .int (nI d)), (2, .int (nI (c * 28))), (0, .ref (g 27)), (1, .int (nI c))] (by decide) rfl dX7_valueDays_16 ?_
        refine j_aload_n C 3 rfl dX7_valueDays_18 ?_
        refine gX_27_4 C tb_207 dX7_valueDays_19 ?_
        refine j_iload C 0 rfl dX7_valueDays_22 ?_
        refine j_aload_n C 3 rfl dX7_valueDays_24 ?_
        refine gX_27_2 C tb_203 dX7_valueDays_25 ?_
        refine j_iload C 0 rfl dX7_valueDays_28 ?_
        refine rX_29 C ((c * 28) + d) rfl (by omega) ((σ.2.1 29) ((c * 28) + d)) rfl dX7_valueDays_30 ?_
        refine tX_31 C ((c * 28) + d) rfl (by omega) dX7_valueDays_31 ?_
        refine j_aload_n C 3 rfl dX7_valueDays_32 ?_
        refine gX_27_0 C tb_198 dX7_valueDays_33 ?_
        refine gX_1_6 C tb_121 dX7_valueDays_36 ?_
        refine j_iload C 0 rfl dX7_valueDays_39 ?_
        refine rX_7 C ((c * 28) + d) rfl (by omega) ((σ.2.1 7) ((c * 28) + d)) rfl dX7_valueDays_41 ?_
        refine j_iconst C (nI 3) (by decide) dX7_valueDays_42 ?_
        refine j_icmp_ne C 113 (by decide) dX7_valueDays_43 (fun c2 => ?_) (fun c2 => ?_)
        · refine j_iinc C (nI (d + 1)) [(3, .int (nI (d + 1))), (4, .int (nI ((c * 28) + d))), (2, .int (nI (c * 28))), (0, .ref (g 27)), (1, .int (nI c))] 1 rfl (by rw [show Int32.ofInt 1 = nI 1 from by decide, nI_add]) (by decide) rfl dX7_valueDays_113 ?_
          refine j_goto C 7 (by decide) dX7_valueDays_116 ?_
          refine j_sub (lv' := [(3, .int (nI (d + 1))), (2, .int (nI (c * 28))), (0, .ref (g 27)), (1, .int (nI c))]) [0, 2, 3, 4] rfl ?_
          refine j_w (cX g kk (sF σ 31 (upd z7_F31 ((c * 28) + d) ((σ.2.1 29) ((c * 28) + d))))) (congrArg (cX g kk) (show sF (sF σ 31 z7_F31) 31 (upd z7_F31 ((c * 28) + d) ((σ.2.1 29) ((c * 28) + d))) = sF σ 31 (upd z7_F31 ((c * 28) + d) ((σ.2.1 29) ((c * 28) + d))) from wrFs)) ?_
          exact ih7 (d + 1) (upd z7_F31 ((c * 28) + d) ((σ.2.1 29) ((c * 28) + d))) (by omega) (by omega)
        · refine j_aload_n C 3 rfl dX7_valueDays_46 ?_
          refine gX_27_0 C tb_198 dX7_valueDays_47 ?_
          refine gX_1_8 C tb_125 dX7_valueDays_50 ?_
          refine j_iload C 0 rfl dX7_valueDays_53 ?_
          refine rX_9 C ((c * 28) + d) rfl (by omega) ((σ.2.1 9) ((c * 28) + d)) rfl dX7_valueDays_55 ?_
          refine j_iload_n C 1 rfl dX7_valueDays_56 ?_
          refine j_icmp_ne C 113 (by decide) dX7_valueDays_57 (fun c3 => ?_) (fun c3 => ?_)
          · refine j_iinc C (nI (d + 1)) [(3, .int (nI (d + 1))), (4, .int (nI ((c * 28) + d))), (2, .int (nI (c * 28))), (0, .ref (g 27)), (1, .int (nI c))] 1 rfl (by rw [show Int32.ofInt 1 = nI 1 from by decide, nI_add]) (by decide) rfl dX7_valueDays_113 ?_
            refine j_goto C 7 (by decide) dX7_valueDays_116 ?_
            refine j_sub (lv' := [(3, .int (nI (d + 1))), (2, .int (nI (c * 28))), (0, .ref (g 27)), (1, .int (nI c))]) [0, 2, 3, 4] rfl ?_
            refine j_w (cX g kk (sF σ 31 (upd z7_F31 ((c * 28) + d) ((σ.2.1 29) ((c * 28) + d))))) (congrArg (cX g kk) (show sF (sF σ 31 z7_F31) 31 (upd z7_F31 ((c * 28) + d) ((σ.2.1 29) ((c * 28) + d))) = sF σ 31 (upd z7_F31 ((c * 28) + d) ((σ.2.1 29) ((c * 28) + d))) from wrFs)) ?_
            exact ih7 (d + 1) (upd z7_F31 ((c * 28) + d) ((σ.2.1 29) ((c * 28) + d))) (by omega) (by omega)
          · refine j_aload_n C 3 rfl dX7_valueDays_60 ?_
            refine gX_27_1 C tb_202 dX7_valueDays_61 ?_
            refine j_iload C 0 rfl dX7_valueDays_64 ?_
            refine rX_28 C ((c * 28) + d) rfl (by omega) ((σ.2.1 28) ((c * 28) + d)) rfl dX7_valueDays_66 ?_
            refine j_iconst C ((-1)) (by decide) dX7_valueDays_67 ?_
            refine j_icmp_eq C 113 (by decide) dX7_valueDays_68 (fun c4 => ?_) (fun c4 => ?_)
            · refine j_iinc C (nI (d + 1)) [(3, .int (nI (d + 1))), (4, .int (nI ((c * 28) + d))), (2, .int (nI (c * 28))), (0, .ref (g 27)), (1, .int (nI c))] 1 rfl (by rw [show Int32.ofInt 1 = nI 1 from by decide, nI_add]) (by decide) rfl dX7_valueDays_113 ?_
              refine j_goto C 7 (by decide) dX7_valueDays_116 ?_
              refine j_sub (lv' := [(3, .int (nI (d + 1))), (2, .int (nI (c * 28))), (0, .ref (g 27)), (1, .int (nI c))]) [0, 2, 3, 4] rfl ?_
              refine j_w (cX g kk (sF σ 31 (upd z7_F31 ((c * 28) + d) ((σ.2.1 29) ((c * 28) + d))))) (congrArg (cX g kk) (show sF (sF σ 31 z7_F31) 31 (upd z7_F31 ((c * 28) + d) ((σ.2.1 29) ((c * 28) + d))) = sF σ 31 (upd z7_F31 ((c * 28) + d) ((σ.2.1 29) ((c * 28) + d))) from wrFs)) ?_
              exact ih7 (d + 1) (upd z7_F31 ((c * 28) + d) ((σ.2.1 29) ((c * 28) + d))) (by omega) (by omega)
            · refine j_aload_n C 3 rfl dX7_valueDays_71 ?_
              refine j_iload_n C 4 rfl dX7_valueDays_72 ?_
              refine j_iload_n C 1 rfl dX7_valueDays_73 ?_
              refine j_aload_n C 3 rfl dX7_valueDays_74 ?_
              refine gX_27_1 C tb_202 dX7_valueDays_75 ?_
              refine j_iload C 0 rfl dX7_valueDays_78 ?_
              refine rX_28 C ((c * 28) + d) rfl (by omega) ((σ.2.1 28) ((c * 28) + d)) rfl dX7_valueDays_80 ?_
              refine j_V1 C (d_fallen g kk (sF (sF σ 31 z7_F31) 31 (upd z7_F31 ((c * 28) + d) ((σ.2.1 29) ((c * 28) + d)))) k hk hk6 hI  c (by first | assumption | omega) d (by first | assumption | omega) ((σ.2.1 28) ((c * 28) + d))) kyX7_fallen tb_574 tb_576 sp_3 27 rfl (eX_27 g kk _) rfl (Nat.le_of_ble_eq_true rfl) ⟨by decide, by decide⟩ dX7_valueDays_81 rfl (fun vr ur hp => ?_)
              obtain ⟨r5, rfl, hu⟩ := hp
              replace hu := hu.symm
              subst hu
              refine j_istore C [(5, .int r5), (4, .int (nI ((c * 28) + d))), (3, .int (nI d)), (2, .int (nI (c * 28))), (0, .ref (g 27)), (1, .int (nI c))] (by decide) rfl dX7_valueDays_84 ?_
              refine j_aload_n C 4 rfl dX7_valueDays_86 ?_
              refine gX_27_4 C tb_207 dX7_valueDays_87 ?_
              refine j_iload_n C 3 rfl dX7_valueDays_90 ?_
              refine j_aload_n C 4 rfl dX7_valueDays_91 ?_
              refine gX_27_0 C tb_198 dX7_valueDays_92 ?_
              refine gX_1_7 C tb_123 dX7_valueDays_95 ?_
              refine j_iload C 1 rfl dX7_valueDays_98 ?_
              obtain ⟨m6, hm6, em6⟩ := hI.sf ((c * 28) + d) (by omega)
              refine rX_8 C ((c * 28) + d) rfl (by omega) (nI m6) em6 dX7_valueDays_100 ?_
              refine j_iaddN C dX7_valueDays_101 ?_
              refine j_iload C 1 rfl dX7_valueDays_102 ?_
              refine j_iload C 0 rfl dX7_valueDays_104 ?_
              refine j_aload_n C 4 rfl dX7_valueDays_106 ?_
              refine gX_27_3 C tb_204 dX7_valueDays_107 ?_
              refine j_SN1 C (d_part_31_30 g kk (sF (sF σ 31 z7_F31) 31 (upd z7_F31 ((c * 28) + d) ((σ.2.1 29) ((c * 28) + d)))) k hk hk6 hI  ((c * 28) + m6) (by first | assumption | omega) ((c * 28) + d) (by first | assumption | omega) r5) kyX10_part (fun _ h => h.2.2.2.1) tb_597 rfl (Nat.le_of_ble_eq_true rfl) ⟨by decide, by decide⟩ dX7_valueDays_110 rfl (fun vr ur hp => ?_)
              obtain ⟨rfl, w7, hu⟩ := hp
              replace hu := hu.symm
              subst hu
              refine j_iinc C (nI (d + 1)) [(3, .int (nI (d + 1))), (5, .int r5), (4, .int (nI ((c * 28) + d))), (2, .int (nI (c * 28))), (0, .ref (g 27)), (1, .int (nI c))] 2 rfl (by rw [show Int32.ofInt 1 = nI 1 from by decide, nI_add]) (by decide) rfl dX7_valueDays_113 ?_
              refine j_goto C 7 (by decide) dX7_valueDays_116 ?_
              refine j_sub (lv' := [(3, .int (nI (d + 1))), (2, .int (nI (c * 28))), (0, .ref (g 27)), (1, .int (nI c))]) [0, 3, 4, 5] rfl ?_
              refine j_w (cX g kk (sF σ 31 w7)) (congrArg (cX g kk) (show sF (sF (sF σ 31 z7_F31) 31 (upd z7_F31 ((c * 28) + d) ((σ.2.1 29) ((c * 28) + d)))) 31 w7 = sF σ 31 w7 from (Eq.trans (wrF wrFs) wrFs))) ?_
              exact ih7 (d + 1) w7 (by omega) (by omega)
  refine j_w (cX g kk (sF σ 31 (σ.2.1 31))) (congrArg (cX g kk) (wrFi (S := σ) (c := 31) (v := σ.2.1 31) rfl)) ?_
  exact L7 _ 0 (σ.2.1 31) (by omega) (Nat.lt_succ_self _)
set_option maxRecDepth 100000 in
set_option maxHeartbeats 4000000 in
theorem d_refresh (g kk : Nat → Nat) (σ : St) (k : Nat) (hk : σ.1 16 = nI k) (hk6 : k ≤ 6) (hI : iX σ)   : jM (S := St) yX7_refresh cX7_refresh 3 none { frames := 4, cells := 0, slots := 0, locals := 93 } kk (cX g kk σ) [.ref (g 27)] (cX g kk) (rV (fun u : St => ∃ (pF28 : Nat → Int32) (pF29 : Nat → Int32) (pF30 : Nat → Int32) (pF31 : Nat → Int32) (pI437 : Int32), u = sI (sF (sF (sF (sF σ 28 pF28) 29 pF29) 30 pF30) 31 pF31) 437 pI437)) := by
  refine j_entry [(0, .ref (g 27))] (by decide) (Nat.le_of_ble_eq_true rfl) rfl ?_
  intro X C E HI
  refine j_aload_n C 0 rfl dX7_refresh_0 ?_
  refine gX_27_5 C tb_213 (σ.1 437) rfl dX7_refresh_1 ?_
  refine j_if_ne C 8 (by decide) dX7_refresh_4 (fun c1 => ?_) (fun c1 => ?_)
  · refine j_iconst C (nI 0) (by decide) dX7_refresh_8 ?_
    refine j_istore_n C [(1, .int (nI 0)), (0, .ref (g 27))] rfl (by decide) rfl dX7_refresh_9 ?_
    have L10 : ∀ (n10 : Nat) (a : Nat) (z10_F28 : Nat → Int32) (z10_F29 : Nat → Int32) (i10_0 : a ≤ k) (hm10 : k - a < n10), J X 0 0 (cX g kk (sF (sF σ 28 z10_F28) 29 z10_F29)) [(1, .int (nI a)), (0, .ref (g 27))] 10 [] := by
      intro n10
      induction n10 with
      | zero => intro a z10_F28 z10_F29 i10_0 hm; exact absurd hm (Nat.not_lt_zero _)
      | succ n10 ih10 =>
        intro a z10_F28 z10_F29 i10_0 hm10
        refine j_iload_n C 0 rfl dX7_refresh_10 ?_
        refine j_aload_n C 1 rfl dX7_refresh_11 ?_
        refine gX_27_0 C tb_198 dX7_refresh_12 ?_
        refine gX_1_0 C tb_100 (nI k) hk dX7_refresh_15 ?_
        refine j_icmp_geN C 47 (by decide) (by omega) (by omega) dX7_refresh_18 (fun c2 => ?_) (fun c2 => ?_)
        · refine j_iconst C (nI 0) (by decide) dX7_refresh_47 ?_
          refine j_istore_n C [(1, .int (nI 0)), (0, .ref (g 27))] rfl (by decide) rfl dX7_refresh_48 ?_
          have L49 : ∀ (n49 : Nat) (c : Nat) (z49_F30 : Nat → Int32) (i49_0 : c ≤ k) (hm49 : k - c < n49), J X 0 0 (cX g kk (sF (sF (sF σ 28 z10_F28) 29 z10_F29) 30 z49_F30)) [(1, .int (nI c)), (0, .ref (g 27))] 49 [] := by
            intro n49
            induction n49 with
            | zero => intro c z49_F30 i49_0 hm; exact absurd hm (Nat.not_lt_zero _)
            | succ n49 ih49 =>
              intro c z49_F30 i49_0 hm49
              refine j_iload_n C 0 rfl dX7_refresh_49 ?_
              refine j_aload_n C 1 rfl dX7_refresh_50 ?_
              refine gX_27_0 C tb_198 dX7_refresh_51 ?_
              refine gX_1_0 C tb_100 (nI k) hk dX7_refresh_54 ?_
              refine j_icmp_geN C 71 (by decide) (by omega) (by omega) dX7_refresh_57 (fun c3 => ?_) (fun c3 => ?_)
              · refine j_iconst C (nI 0) (by decide) dX7_refresh_71 ?_
                refine j_istore_n C [(1, .int (nI 0)), (0, .ref (g 27))] rfl (by decide) rfl dX7_refresh_72 ?_
                have L73 : ∀ (n73 : Nat) (d : Nat) (z73_F31 : Nat → Int32) (i73_0 : d ≤ k) (hm73 : k - d < n73), J X 0 0 (cX g kk (sF (sF (sF (sF σ 28 z10_F28) 29 z10_F29) 30 z49_F30) 31 z73_F31)) [(1, .int (nI d)), (0, .ref (g 27))] 73 [] := by
                  intro n73
                  induction n73 with
                  | zero => intro d z73_F31 i73_0 hm; exact absurd hm (Nat.not_lt_zero _)
                  | succ n73 ih73 =>
                    intro d z73_F31 i73_0 hm73
                    refine j_iload_n C 0 rfl dX7_refresh_73 ?_
                    refine j_aload_n C 1 rfl dX7_refresh_74 ?_
                    refine gX_27_0 C tb_198 dX7_refresh_75 ?_
                    refine gX_1_0 C tb_100 (nI k) hk dX7_refresh_78 ?_
                    refine j_icmp_geN C 95 (by decide) (by omega) (by omega) dX7_refresh_81 (fun c4 => ?_) (fun c4 => ?_)
                    · refine j_aload_n C 1 rfl dX7_refresh_95 ?_
                      refine j_iconst C (nI 0) (by decide) dX7_refresh_96 ?_
                      refine pX_27_5 C tb_213 rfl rfl dX7_refresh_97 ?_
                      exact j_vret C E (sI (sF (sF (sF (sF σ 28 z10_F28) 29 z10_F29) 30 z49_F30) 31 z73_F31) 437 (nI 0)) ⟨rfl, ⟨z10_F28, z10_F29, z49_F30, z73_F31, (nI 0), rfl⟩⟩ rfl dX7_refresh_100
                    · refine j_aload_n C 1 rfl dX7_refresh_84 ?_
                      refine j_iload_n C 0 rfl dX7_refresh_85 ?_
                      refine j_V1 C (d_valueDays g kk (sF (sF (sF (sF σ 28 z10_F28) 29 z10_F29) 30 z49_F30) 31 z73_F31) k hk hk6 hI  d (by first | assumption | omega)) kyX7_valueDays tb_592 tb_594 sp_6 27 rfl (eX_27 g kk _) rfl (Nat.le_of_ble_eq_true rfl) ⟨by decide, by decide⟩ dX7_refresh_86 rfl (fun vr ur hp => ?_)
                      obtain ⟨rfl, w5, hu⟩ := hp
                      replace hu := hu.symm
                      subst hu
                      refine j_iinc C (nI (d + 1)) [(1, .int (nI (d + 1))), (0, .ref (g 27))] 0 rfl (by rw [show Int32.ofInt 1 = nI 1 from by decide, nI_add]) (by decide) rfl dX7_refresh_89 ?_
                      refine j_goto C 73 (by decide) dX7_refresh_92 ?_
                      refine j_w (cX g kk (sF (sF (sF (sF σ 28 z10_F28) 29 z10_F29) 30 z49_F30) 31 w5)) (congrArg (cX g kk) (show sF (sF (sF (sF (sF σ 28 z10_F28) 29 z10_F29) 30 z49_F30) 31 z73_F31) 31 w5 = sF (sF (sF (sF σ 28 z10_F28) 29 z10_F29) 30 z49_F30) 31 w5 from wrFs)) ?_
                      exact ih73 (d + 1) w5 (by omega) (by omega)
                refine j_w (cX g kk (sF (sF (sF (sF σ 28 z10_F28) 29 z10_F29) 30 z49_F30) 31 (σ.2.1 31))) (congrArg (cX g kk) (wrFi (S := (sF (sF (sF σ 28 z10_F28) 29 z10_F29) 30 z49_F30)) (c := 31) (v := σ.2.1 31) (gtFF (by decide) (gtFF (by decide) (gtFF (by decide) rfl))))) ?_
                exact L73 _ 0 (σ.2.1 31) (by omega) (Nat.lt_succ_self _)
              · refine j_aload_n C 1 rfl dX7_refresh_60 ?_
                refine j_iload_n C 0 rfl dX7_refresh_61 ?_
                refine j_V1 C (d_expectDays g kk (sF (sF (sF σ 28 z10_F28) 29 z10_F29) 30 z49_F30) k hk hk6 hI  c (by first | assumption | omega)) kyX7_expectDays tb_578 tb_580 sp_4 27 rfl (eX_27 g kk _) rfl (Nat.le_of_ble_eq_true rfl) ⟨by decide, by decide⟩ dX7_refresh_62 rfl (fun vr ur hp => ?_)
                obtain ⟨rfl, w6, hu⟩ := hp
                replace hu := hu.symm
                subst hu
                refine j_iinc C (nI (c + 1)) [(1, .int (nI (c + 1))), (0, .ref (g 27))] 0 rfl (by rw [show Int32.ofInt 1 = nI 1 from by decide, nI_add]) (by decide) rfl dX7_refresh_65 ?_
                refine j_goto C 49 (by decide) dX7_refresh_68 ?_
                refine j_w (cX g kk (sF (sF (sF σ 28 z10_F28) 29 z10_F29) 30 w6)) (congrArg (cX g kk) (show sF (sF (sF (sF σ 28 z10_F28) 29 z10_F29) 30 z49_F30) 30 w6 = sF (sF (sF σ 28 z10_F28) 29 z10_F29) 30 w6 from wrFs)) ?_
                exact ih49 (c + 1) w6 (by omega) (by omega)
          refine j_w (cX g kk (sF (sF (sF σ 28 z10_F28) 29 z10_F29) 30 (σ.2.1 30))) (congrArg (cX g kk) (wrFi (S := (sF (sF σ 28 z10_F28) 29 z10_F29)) (c := 30) (v := σ.2.1 30) (gtFF (by decide) (gtFF (by decide) rfl)))) ?_
          exact L49 _ 0 (σ.2.1 30) (by omega) (Nat.lt_succ_self _)
        · refine j_iconst C (nI 0) (by decide) dX7_refresh_21 ?_
          refine j_istore_n C [(2, .int (nI 0)), (1, .int (nI a)), (0, .ref (g 27))] rfl (by decide) rfl dX7_refresh_22 ?_
          have L23 : ∀ (n23 : Nat) (b : Nat) (z23_F28 : Nat → Int32) (z23_F29 : Nat → Int32) (i23_0 : b ≤ 28) (hm23 : 28 - b < n23), J X 0 0 (cX g kk (sF (sF σ 28 z23_F28) 29 z23_F29)) [(2, .int (nI b)), (1, .int (nI a)), (0, .ref (g 27))] 23 [] := by
            intro n23
            induction n23 with
            | zero => intro b z23_F28 z23_F29 i23_0 hm; exact absurd hm (Nat.not_lt_zero _)
            | succ n23 ih23 =>
              intro b z23_F28 z23_F29 i23_0 hm23
              refine j_iload_n C 0 rfl dX7_refresh_23 ?_
              refine j_bipush C (nI 28) (by decide) dX7_refresh_24 ?_
              refine j_icmp_geN C 41 (by decide) (by omega) (by omega) dX7_refresh_26 (fun c7 => ?_) (fun c7 => ?_)
              · refine j_iinc C (nI (a + 1)) [(1, .int (nI (a + 1))), (2, .int (nI b)), (0, .ref (g 27))] 1 rfl (by rw [show Int32.ofInt 1 = nI 1 from by decide, nI_add]) (by decide) rfl dX7_refresh_41 ?_
                refine j_goto C 10 (by decide) dX7_refresh_44 ?_
                refine j_sub (lv' := [(1, .int (nI (a + 1))), (0, .ref (g 27))]) [0, 2] rfl ?_
                exact ih10 (a + 1) z23_F28 z23_F29 (by omega) (by omega)
              · refine j_aload_n C 2 rfl dX7_refresh_29 ?_
                refine j_iload_n C 1 rfl dX7_refresh_30 ?_
                refine j_iload_n C 0 rfl dX7_refresh_31 ?_
                refine j_V1 C (d_readDay g kk (sF (sF σ 28 z23_F28) 29 z23_F29) k hk hk6 hI  a (by first | assumption | omega) b (by first | assumption | omega)) kyX7_readDay tb_566 tb_568 sp_2 27 rfl (eX_27 g kk _) rfl (Nat.le_of_ble_eq_true rfl) ⟨by decide, by decide⟩ dX7_refresh_32 rfl (fun vr ur hp => ?_)
                obtain ⟨rfl, w8, w9, hu⟩ := hp
                replace hu := hu.symm
                subst hu
                refine j_iinc C (nI (b + 1)) [(2, .int (nI (b + 1))), (1, .int (nI a)), (0, .ref (g 27))] 0 rfl (by rw [show Int32.ofInt 1 = nI 1 from by decide, nI_add]) (by decide) rfl dX7_refresh_35 ?_
                refine j_goto C 23 (by decide) dX7_refresh_38 ?_
                refine j_w (cX g kk (sF (sF σ 28 w8) 29 w9)) (congrArg (cX g kk) (show sF (sF (sF (sF σ 28 z23_F28) 29 z23_F29) 28 w8) 29 w9 = sF (sF σ 28 w8) 29 w9 from (Eq.trans (wrF (Eq.trans (wrFc (by decide)) (wrF wrFs))) wrFs))) ?_
                exact ih23 (b + 1) w8 w9 (by omega) (by omega)
          exact L23 _ 0 z10_F28 z10_F29 (by omega) (Nat.lt_succ_self _)
    refine j_w (cX g kk (sF σ 28 (σ.2.1 28))) (congrArg (cX g kk) (wrFi (S := σ) (c := 28) (v := σ.2.1 28) rfl)) ?_
    refine j_w (cX g kk (sF (sF σ 28 (σ.2.1 28)) 29 (σ.2.1 29))) (congrArg (cX g kk) (wrFi (S := (sF σ 28 (σ.2.1 28))) (c := 29) (v := σ.2.1 29) (gtFF (by decide) rfl))) ?_
    exact L10 _ 0 (σ.2.1 28) (σ.2.1 29) (by omega) (Nat.lt_succ_self _)
  · refine j_w (cX g kk (sF σ 28 (σ.2.1 28))) (congrArg (cX g kk) (wrFi (S := σ) (c := 28) (v := σ.2.1 28) rfl)) ?_
    refine j_w (cX g kk (sF (sF σ 28 (σ.2.1 28)) 29 (σ.2.1 29))) (congrArg (cX g kk) (wrFi (S := (sF σ 28 (σ.2.1 28))) (c := 29) (v := σ.2.1 29) (gtFF (by decide) rfl))) ?_
    refine j_w (cX g kk (sF (sF (sF σ 28 (σ.2.1 28)) 29 (σ.2.1 29)) 30 (σ.2.1 30))) (congrArg (cX g kk) (wrFi (S := (sF (sF σ 28 (σ.2.1 28)) 29 (σ.2.1 29))) (c := 30) (v := σ.2.1 30) (gtFF (by decide) (gtFF (by decide) rfl)))) ?_
    refine j_w (cX g kk (sF (sF (sF (sF σ 28 (σ.2.1 28)) 29 (σ.2.1 29)) 30 (σ.2.1 30)) 31 (σ.2.1 31))) (congrArg (cX g kk) (wrFi (S := (sF (sF (sF σ 28 (σ.2.1 28)) 29 (σ.2.1 29)) 30 (σ.2.1 30))) (c := 31) (v := σ.2.1 31) (gtFF (by decide) (gtFF (by decide) (gtFF (by decide) rfl))))) ?_
    refine j_w (cX g kk (sI (sF (sF (sF (sF σ 28 (σ.2.1 28)) 29 (σ.2.1 29)) 30 (σ.2.1 30)) 31 (σ.2.1 31)) 437 (σ.1 437))) (congrArg (cX g kk) (wrIi (S := (sF (sF (sF (sF σ 28 (σ.2.1 28)) 29 (σ.2.1 29)) 30 (σ.2.1 30)) 31 (σ.2.1 31))) (c := 437) (v := σ.1 437) (gtIF (gtIF (gtIF (gtIF rfl)))))) ?_
    exact j_vret C E (sI (sF (sF (sF (sF σ 28 (σ.2.1 28)) 29 (σ.2.1 29)) 30 (σ.2.1 30)) 31 (σ.2.1 31)) 437 (σ.1 437)) ⟨rfl, ⟨(σ.2.1 28), (σ.2.1 29), (σ.2.1 30), (σ.2.1 31), (σ.1 437), rfl⟩⟩ rfl dX7_refresh_7
