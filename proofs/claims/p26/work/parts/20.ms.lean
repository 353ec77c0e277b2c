set_option maxRecDepth 100000 in
set_option maxHeartbeats 4000000 in
theorem n_stepOf (g kk : Nat → Nat) (σ : St) (k : Nat) (hk : σ.1 3 = nI k) (hk6 : k ≤ 6) (hI : iM σ)  (a : Int32) (v : Int32) : jM (S := St) yX11_stepOf cX11_stepOf 3 (some .int) { frames := 1, cells := 0, slots := 0, locals := 25 } kk (cM g kk σ) [.int a, .int v] (cM g kk) (rI (fun (r : Int32) (u : St) => u = σ)) := by
  refine j_entry [(0, .int a), (1, .int v)] (by decide) (Nat.le_of_ble_eq_true rfl) rfl ?_
  intro X C E HI
  refine j_iload_n C 1 rfl dX11_stepOf_0 ?_
  refine j_i2l C dX11_stepOf_1 ?_
  refine j_ldc2 C tb_1112 dX11_stepOf_2 ?_
  refine j_ldc2 C tb_1113 dX11_stepOf_5 ?_
  refine j_S01 C (m_inB v (nI 48) (nI 57) (48) (57) (by decide) (by decide)) kyX11_in tb_1057 tb_1058 rfl (Nat.le_of_ble_eq_true rfl) ⟨by decide, by decide⟩ ⟨by decide, by decide⟩ dX11_stepOf_8 rfl ?_
  refine j_istore_n C [(2, .int (bI (wB v (nI 48) (nI 57)))), (0, .int a), (1, .int v)] rfl (by decide) rfl dX11_stepOf_11 ?_
  refine j_iload_n C 1 rfl dX11_stepOf_12 ?_
  by_cases q1 : a = nI 0
  · rw [q1]
    refine j_tabIn C 48 (by decide) (by decide) rfl (by decide) dX11_stepOf_13 ?_
    refine j_iload_n C 2 rfl dX11_stepOf_48 ?_
    refine j_bipush C (nI 120) (by decide) dX11_stepOf_49 ?_
    refine j_icmp_eq C 66 (by decide) dX11_stepOf_51 (fun c2 => ?_) (fun c2 => ?_)
    · refine j_iconst C (nI 1) (by decide) dX11_stepOf_66 ?_
      refine j_goto C 71 (by decide) dX11_stepOf_67 ?_
      exact j_iret C E (σ) ⟨_, rfl, rfl⟩ rfl dX11_stepOf_71
    · refine j_iload_n C 2 rfl dX11_stepOf_54 ?_
      refine j_bipush C (nI 108) (by decide) dX11_stepOf_55 ?_
      refine j_icmp_eq C 66 (by decide) dX11_stepOf_57 (fun c3 => ?_) (fun c3 => ?_)
      · refine j_iconst C (nI 1) (by decide) dX11_stepOf_66 ?_
        refine j_goto C 71 (by decide) dX11_stepOf_67 ?_
        exact j_iret C E (σ) ⟨_, rfl, rfl⟩ rfl dX11_stepOf_71
      · refine j_iload_n C 2 rfl dX11_stepOf_60 ?_
        refine j_bipush C (nI 115) (by decide) dX11_stepOf_61 ?_
        refine j_icmp_ne C 70 (by decide) dX11_stepOf_63 (fun c4 => ?_) (fun c4 => ?_)
        · refine j_iconst C ((-1)) (by decide) dX11_stepOf_70 ?_
          exact j_iret C E (σ) ⟨_, rfl, rfl⟩ rfl dX11_stepOf_71
        · refine j_iconst C (nI 1) (by decide) dX11_stepOf_66 ?_
          refine j_goto C 71 (by decide) dX11_stepOf_67 ?_
          exact j_iret C E (σ) ⟨_, rfl, rfl⟩ rfl dX11_stepOf_71
  · by_cases q5 : a = nI 1
    · rw [q5]
      refine j_tabIn C 72 (by decide) (by decide) rfl (by decide) dX11_stepOf_13 ?_
      refine j_iload_n C 0 rfl dX11_stepOf_72 ?_
      refine j_if_eq C 80 (by decide) dX11_stepOf_73 (fun c6 => ?_) (fun c6 => ?_)
      · replace c6 := bI_f c6
        refine j_iconst C ((-1)) (by decide) dX11_stepOf_80 ?_
        exact j_iret C E (σ) ⟨_, rfl, rfl⟩ rfl dX11_stepOf_81
      · replace c6 := bI_t c6
        obtain ⟨vn, vn1, vn2, rfl⟩ := wB_nat (by decide) (by decide) c6
        refine j_iconst C (nI 2) (by decide) dX11_stepOf_76 ?_
        refine j_goto C 81 (by decide) dX11_stepOf_77 ?_
        exact j_iret C E (σ) ⟨_, rfl, rfl⟩ rfl dX11_stepOf_81
    · by_cases q7 : a = nI 2
      · rw [q7]
        refine j_tabIn C 92 (by decide) (by decide) rfl (by decide) dX11_stepOf_13 ?_
        refine j_iload_n C 0 rfl dX11_stepOf_92 ?_
        refine j_if_eq C 114 (by decide) dX11_stepOf_93 (fun c8 => ?_) (fun c8 => ?_)
        · replace c8 := bI_f c8
          refine j_iload_n C 2 rfl dX11_stepOf_114 ?_
          refine j_bipush C (nI 59) (by decide) dX11_stepOf_115 ?_
          refine j_icmp_ne C 124 (by decide) dX11_stepOf_117 (fun c9 => ?_) (fun c9 => ?_)
          · refine j_iload_n C 2 rfl dX11_stepOf_124 ?_
            refine j_bipush C (nI 45) (by decide) dX11_stepOf_125 ?_
            refine j_icmp_ne C 139 (by decide) dX11_stepOf_127 (fun c10 => ?_) (fun c10 => ?_)
            · refine j_iconst C ((-1)) (by decide) dX11_stepOf_139 ?_
              exact j_iret C E (σ) ⟨_, rfl, rfl⟩ rfl dX11_stepOf_140
            · refine j_iload_n C 1 rfl dX11_stepOf_130 ?_
              refine j_iconst C (nI 4) (by decide) dX11_stepOf_131 ?_
              refine j_icmp_geN C 139 (by decide) (by omega) (by omega) dX11_stepOf_132 (fun c11 => ?_) (fun c11 => ?_)
              · exact absurd c11 (by decide)
              · refine j_iconst C (nI 4) (by decide) dX11_stepOf_135 ?_
                refine j_goto C 140 (by decide) dX11_stepOf_136 ?_
                exact j_iret C E (σ) ⟨_, rfl, rfl⟩ rfl dX11_stepOf_140
          · refine j_iconst C (nI 0) (by decide) dX11_stepOf_120 ?_
            refine j_goto C 140 (by decide) dX11_stepOf_121 ?_
            exact j_iret C E (σ) ⟨_, rfl, rfl⟩ rfl dX11_stepOf_140
        · replace c8 := bI_t c8
          obtain ⟨vn, vn1, vn2, rfl⟩ := wB_nat (by decide) (by decide) c8
          refine j_iload_n C 1 rfl dX11_stepOf_96 ?_
          refine j_iconst C (nI 2) (by decide) dX11_stepOf_97 ?_
          refine j_icmp_eqN C 106 (by decide) (by omega) (by omega) dX11_stepOf_98 (fun c12 => ?_) (fun c12 => ?_)
          · refine j_iload_n C 1 rfl dX11_stepOf_106 ?_
            refine j_iconst C (nI 1) (by decide) dX11_stepOf_107 ?_
            refine j_iaddN C dX11_stepOf_108 ?_
            refine j_goto C 113 (by decide) dX11_stepOf_109 ?_
            exact j_iret C E (σ) ⟨_, rfl, rfl⟩ rfl dX11_stepOf_113
          · exact absurd c12 (by decide)
      · by_cases q13 : a = nI 3
        · rw [q13]
          refine j_tabIn C 92 (by decide) (by decide) rfl (by decide) dX11_stepOf_13 ?_
          refine j_iload_n C 0 rfl dX11_stepOf_92 ?_
          refine j_if_eq C 114 (by decide) dX11_stepOf_93 (fun c14 => ?_) (fun c14 => ?_)
          · replace c14 := bI_f c14
            refine j_iload_n C 2 rfl dX11_stepOf_114 ?_
            refine j_bipush C (nI 59) (by decide) dX11_stepOf_115 ?_
            refine j_icmp_ne C 124 (by decide) dX11_stepOf_117 (fun c15 => ?_) (fun c15 => ?_)
            · refine j_iload_n C 2 rfl dX11_stepOf_124 ?_
              refine j_bipush C (nI 45) (by decide) dX11_stepOf_125 ?_
              refine j_icmp_ne C 139 (by decide) dX11_stepOf_127 (fun c16 => ?_) (fun c16 => ?_)
              · refine j_iconst C ((-1)) (by decide) dX11_stepOf_139 ?_
                exact j_iret C E (σ) ⟨_, rfl, rfl⟩ rfl dX11_stepOf_140
              · refine j_iload_n C 1 rfl dX11_stepOf_130 ?_
                refine j_iconst C (nI 4) (by decide) dX11_stepOf_131 ?_
                refine j_icmp_geN C 139 (by decide) (by omega) (by omega) dX11_stepOf_132 (fun c17 => ?_) (fun c17 => ?_)
                · exact absurd c17 (by decide)
                · refine j_iconst C (nI 4) (by decide) dX11_stepOf_135 ?_
                  refine j_goto C 140 (by decide) dX11_stepOf_136 ?_
                  exact j_iret C E (σ) ⟨_, rfl, rfl⟩ rfl dX11_stepOf_140
            · refine j_iconst C (nI 0) (by decide) dX11_stepOf_120 ?_
              refine j_goto C 140 (by decide) dX11_stepOf_121 ?_
              exact j_iret C E (σ) ⟨_, rfl, rfl⟩ rfl dX11_stepOf_140
          · replace c14 := bI_t c14
            obtain ⟨vn, vn1, vn2, rfl⟩ := wB_nat (by decide) (by decide) c14
            refine j_iload_n C 1 rfl dX11_stepOf_96 ?_
            refine j_iconst C (nI 2) (by decide) dX11_stepOf_97 ?_
            refine j_icmp_eqN C 106 (by decide) (by omega) (by omega) dX11_stepOf_98 (fun c18 => ?_) (fun c18 => ?_)
            · exact absurd c18 (by decide)
            · refine j_iload_n C 1 rfl dX11_stepOf_101 ?_
              refine j_iconst C (nI 5) (by decide) dX11_stepOf_102 ?_
              refine j_icmp_neN C 112 (by decide) (by omega) (by omega) dX11_stepOf_103 (fun c19 => ?_) (fun c19 => ?_)
              · refine j_iconst C ((-1)) (by decide) dX11_stepOf_112 ?_
                exact j_iret C E (σ) ⟨_, rfl, rfl⟩ rfl dX11_stepOf_113
              · exact absurd c19 (by decide)
        · by_cases q20 : a = nI 4
          · rw [q20]
            refine j_tabIn C 82 (by decide) (by decide) rfl (by decide) dX11_stepOf_13 ?_
            refine j_iload_n C 0 rfl dX11_stepOf_82 ?_
            refine j_if_eq C 90 (by decide) dX11_stepOf_83 (fun c21 => ?_) (fun c21 => ?_)
            · replace c21 := bI_f c21
              refine j_iconst C ((-1)) (by decide) dX11_stepOf_90 ?_
              exact j_iret C E (σ) ⟨_, rfl, rfl⟩ rfl dX11_stepOf_91
            · replace c21 := bI_t c21
              obtain ⟨vn, vn1, vn2, rfl⟩ := wB_nat (by decide) (by decide) c21
              refine j_iconst C (nI 5) (by decide) dX11_stepOf_86 ?_
              refine j_goto C 91 (by decide) dX11_stepOf_87 ?_
              exact j_iret C E (σ) ⟨_, rfl, rfl⟩ rfl dX11_stepOf_91
          · refine j_tabOut C 92 (swOut 4 (by decide) (fun j hj => by rcases (show j = 0 ∨ j = 1 ∨ j = 2 ∨ j = 3 ∨ j = 4 by omega) with rfl | rfl | rfl | rfl | rfl <;> assumption)) (by decide) dX11_stepOf_13 ?_
            refine j_iload_n C 0 rfl dX11_stepOf_92 ?_
            refine j_if_eq C 114 (by decide) dX11_stepOf_93 (fun c22 => ?_) (fun c22 => ?_)
            · replace c22 := bI_f c22
              refine j_iload_n C 2 rfl dX11_stepOf_114 ?_
              refine j_bipush C (nI 59) (by decide) dX11_stepOf_115 ?_
              refine j_icmp_ne C 124 (by decide) dX11_stepOf_117 (fun c23 => ?_) (fun c23 => ?_)
              · refine j_iload_n C 2 rfl dX11_stepOf_124 ?_
                refine j_bipush C (nI 45) (by decide) dX11_stepOf_125 ?_
                refine j_icmp_ne C 139 (by decide) dX11_stepOf_127 (fun c24 => ?_) (fun c24 => ?_)
                · refine j_iconst C ((-1)) (by decide) dX11_stepOf_139 ?_
                  exact j_iret C E (σ) ⟨_, rfl, rfl⟩ rfl dX11_stepOf_140
                · refine j_iload_n C 1 rfl dX11_stepOf_130 ?_
                  refine j_iconst C (nI 4) (by decide) dX11_stepOf_131 ?_
                  refine j_icmp_ge C 139 (by decide) dX11_stepOf_132 (fun c25 => ?_) (fun c25 => ?_)
                  · refine j_iconst C ((-1)) (by decide) dX11_stepOf_139 ?_
                    exact j_iret C E (σ) ⟨_, rfl, rfl⟩ rfl dX11_stepOf_140
                  · refine j_iconst C (nI 4) (by decide) dX11_stepOf_135 ?_
                    refine j_goto C 140 (by decide) dX11_stepOf_136 ?_
                    exact j_iret C E (σ) ⟨_, rfl, rfl⟩ rfl dX11_stepOf_140
              · refine j_iconst C (nI 0) (by decide) dX11_stepOf_120 ?_
                refine j_goto C 140 (by decide) dX11_stepOf_121 ?_
                exact j_iret C E (σ) ⟨_, rfl, rfl⟩ rfl dX11_stepOf_140
            · replace c22 := bI_t c22
              obtain ⟨vn, vn1, vn2, rfl⟩ := wB_nat (by decide) (by decide) c22
              refine j_iload_n C 1 rfl dX11_stepOf_96 ?_
              refine j_iconst C (nI 2) (by decide) dX11_stepOf_97 ?_
              refine j_icmp_eq C 106 (by decide) dX11_stepOf_98 (fun c26 => ?_) (fun c26 => ?_)
              · refine j_iload_n C 1 rfl dX11_stepOf_106 ?_
                refine j_iconst C (nI 1) (by decide) dX11_stepOf_107 ?_
                refine j_iadd C dX11_stepOf_108 ?_
                refine j_goto C 113 (by decide) dX11_stepOf_109 ?_
                exact j_iret C E (σ) ⟨_, rfl, rfl⟩ rfl dX11_stepOf_113
              · refine j_iload_n C 1 rfl dX11_stepOf_101 ?_
                refine j_iconst C (nI 5) (by decide) dX11_stepOf_102 ?_
                refine j_icmp_ne C 112 (by decide) dX11_stepOf_103 (fun c27 => ?_) (fun c27 => ?_)
                · refine j_iconst C ((-1)) (by decide) dX11_stepOf_112 ?_
                  exact j_iret C E (σ) ⟨_, rfl, rfl⟩ rfl dX11_stepOf_113
                · refine j_iload_n C 1 rfl dX11_stepOf_106 ?_
                  refine j_iconst C (nI 1) (by decide) dX11_stepOf_107 ?_
                  refine j_iadd C dX11_stepOf_108 ?_
                  refine j_goto C 113 (by decide) dX11_stepOf_109 ?_
                  exact j_iret C E (σ) ⟨_, rfl, rfl⟩ rfl dX11_stepOf_113
set_option maxRecDepth 100000 in
set_option maxHeartbeats 4000000 in
theorem n_fault (g kk : Nat → Nat) (σ : St) (k : Nat) (hk : σ.1 3 = nI k) (hk6 : k ≤ 6) (hI : iM σ)   : jM (S := St) yX11_fault cX11_fault 3 (some .int) { frames := 2, cells := 0, slots := 0, locals := 47 } kk (cM g kk σ) [.ref (g 0)] (cM g kk) (rI (fun (r : Int32) (u : St) => u = σ)) := by
  refine j_entry [(0, .ref (g 0))] (by decide) (Nat.le_of_ble_eq_true rfl) rfl ?_
  intro X C E HI
  obtain ⟨n, hn, en⟩ := id hI.sg
  refine j_iconst C (nI 0) (by decide) dX11_fault_0 ?_
  refine j_istore_n C [(1, .int (nI 0)), (0, .ref (g 0))] rfl (by decide) rfl dX11_fault_1 ?_
  refine j_iconst C (nI 0) (by decide) dX11_fault_2 ?_
  refine j_istore_n C [(2, .int (nI 0)), (1, .int (nI 0)), (0, .ref (g 0))] rfl (by decide) rfl dX11_fault_3 ?_
  have L4 : ∀ (n4 : Nat) (i : Nat) (y4_1 : Int32) (i4_0 : i ≤ n) (hm4 : n - i < n4), J X 0 0 (cM g kk σ) [(2, .int (nI i)), (1, .int y4_1), (0, .ref (g 0))] 4 [] := by
    intro n4
    induction n4 with
    | zero => intro i y4_1 i4_0 hm; exact absurd hm (Nat.not_lt_zero _)
    | succ n4 ih4 =>
      intro i y4_1 i4_0 hm4
      refine j_iload_n C 0 rfl dX11_fault_4 ?_
      refine j_aload_n C 2 rfl dX11_fault_5 ?_
      refine gM_0_15 C tb_888 (nI n) en dX11_fault_6 ?_
      refine j_icmp_geN C 35 (by decide) (by omega) (by omega) dX11_fault_9 (fun c1 => ?_) (fun c1 => ?_)
      · refine j_iload_n C 1 rfl dX11_fault_35 ?_
        refine j_iconst C (nI 2) (by decide) dX11_fault_36 ?_
        refine j_icmp_eq C 56 (by decide) dX11_fault_37 (fun c2 => ?_) (fun c2 => ?_)
        · refine j_bipush C ((-6)) (by decide) dX11_fault_56 ?_
          refine j_goto C 65 (by decide) dX11_fault_58 ?_
          exact j_iret C E (σ) ⟨_, rfl, rfl⟩ rfl dX11_fault_65
        · refine j_iload_n C 1 rfl dX11_fault_40 ?_
          refine j_iconst C (nI 3) (by decide) dX11_fault_41 ?_
          refine j_icmp_eq C 56 (by decide) dX11_fault_42 (fun c3 => ?_) (fun c3 => ?_)
          · refine j_bipush C ((-6)) (by decide) dX11_fault_56 ?_
            refine j_goto C 65 (by decide) dX11_fault_58 ?_
            exact j_iret C E (σ) ⟨_, rfl, rfl⟩ rfl dX11_fault_65
          · refine j_iload_n C 1 rfl dX11_fault_45 ?_
            refine j_iconst C (nI 5) (by decide) dX11_fault_46 ?_
            refine j_icmp_eq C 56 (by decide) dX11_fault_47 (fun c4 => ?_) (fun c4 => ?_)
            · refine j_bipush C ((-6)) (by decide) dX11_fault_56 ?_
              refine j_goto C 65 (by decide) dX11_fault_58 ?_
              exact j_iret C E (σ) ⟨_, rfl, rfl⟩ rfl dX11_fault_65
            · refine j_iload_n C 1 rfl dX11_fault_50 ?_
              refine j_bipush C (nI 6) (by decide) dX11_fault_51 ?_
              refine j_icmp_ne C 61 (by decide) dX11_fault_53 (fun c5 => ?_) (fun c5 => ?_)
              · refine j_aload_n C 2 rfl dX11_fault_61 ?_
                refine gM_0_15 C tb_888 (nI n) en dX11_fault_62 ?_
                exact j_iret C E (σ) ⟨_, rfl, rfl⟩ rfl dX11_fault_65
              · refine j_bipush C ((-6)) (by decide) dX11_fault_56 ?_
                refine j_goto C 65 (by decide) dX11_fault_58 ?_
                exact j_iret C E (σ) ⟨_, rfl, rfl⟩ rfl dX11_fault_65
      · refine j_iload_n C 1 rfl dX11_fault_12 ?_
        refine j_aload_n C 2 rfl dX11_fault_13 ?_
        refine gM_0_14 C tb_887 dX11_fault_14 ?_
        refine j_iload_n C 0 rfl dX11_fault_17 ?_
        refine rM_9 C i rfl (by omega) ((σ.2.1 9) i) rfl dX11_fault_18 ?_
        refine j_S1 C (n_stepOf g kk σ k hk hk6 hI  y4_1 ((σ.2.1 9) i)) kyX11_stepOf tb_1109 tb_1110 rfl (Nat.le_of_ble_eq_true rfl) ⟨by decide, by decide⟩ dX11_fault_19 rfl (fun vr ur hp => ?_)
        obtain ⟨r6, rfl, hu⟩ := hp
        replace hu := hu.symm
        subst hu
        refine j_istore_n C [(1, .int r6), (2, .int (nI i)), (0, .ref (g 0))] rfl (by decide) rfl dX11_fault_22 ?_
        refine j_iload_n C 0 rfl dX11_fault_23 ?_
        refine j_if_ge C 29 (by decide) dX11_fault_24 (fun c7 => ?_) (fun c7 => ?_)
        · refine j_iinc C (nI (i + 1)) [(2, .int (nI (i + 1))), (1, .int r6), (0, .ref (g 0))] 1 rfl (by rw [show Int32.ofInt 1 = nI 1 from by decide, nI_add]) (by decide) rfl dX11_fault_29 ?_
          refine j_goto C 4 (by decide) dX11_fault_32 ?_
          exact ih4 (i + 1) r6 (by omega) (by omega)
        · refine j_iload_n C 1 rfl dX11_fault_27 ?_
          exact j_iret C E (σ) ⟨_, rfl, rfl⟩ rfl dX11_fault_28
  exact L4 _ 0 (nI 0) (by omega) (Nat.lt_succ_self _)
set_option maxRecDepth 100000 in
set_option maxHeartbeats 4000000 in
theorem n_lay (g kk : Nat → Nat) (σ : St) (k : Nat) (hk : σ.1 3 = nI k) (hk6 : k ≤ 6) (hI : iM σ) (hS : al_ 28 27 (σ.2.1 14)) (a : Int32) (b : Int32) (c : Int32) : jM (S := St) yX11_lay cX11_lay 9 (some .boolean) { frames := 1, cells := 0, slots := 0, locals := 25 } kk (cM g kk σ) [.ref (g 0), .int a, .int b, .int c] (cM g kk) (rI (fun (r : Int32) (u : St) => ∃ (pF13 : Nat → Int32) (pF14 : Nat → Int32) (pF15 : Nat → Int32), u = sF (sF (sF σ 13 pF13) 14 pF14) 15 pF15 ∧ (al_ 28 27 pF14))) := by
  refine j_entry [(0, .ref (g 0)), (1, .int a), (2, .int b), (3, .int c)] (by decide) (Nat.le_of_ble_eq_true rfl) rfl ?_
  intro X C E HI
  have K98 : ∀ (y98_2 : Int32) (y98_3 : Int32) (y98_5 : Int32) (y98_6 : Int32) (gd : Nat) (i98_0 : gd ≤ 1) (hg : gd = 0 ∨ (le_ 27 y98_5 ∧ le_ 27 y98_6)), J X 0 0 (cM g kk σ) [(0, .ref (g 0)), (1, .int a), (2, .int y98_2), (3, .int y98_3), (5, .int y98_5), (6, .int y98_6), (7, .int (nI gd))] 98 [] := by
    intro y98_2 y98_3 y98_5 y98_6 gd i98_0 hg
    rcases hg with hg | hg
    · subst hg
      refine j_iload C 4 rfl dX11_lay_98 ?_
      refine j_top (fun v1 => ?_)
      refine j_istore C [(8, .int v1), (0, .ref (g 0)), (1, .int a), (2, .int y98_2), (3, .int y98_3), (5, .int y98_5), (6, .int y98_6), (7, .int (nI 0))] (by decide) rfl dX11_lay_100 ?_
      refine j_iload C 0 rfl dX11_lay_102 ?_
      refine j_iload C 6 rfl dX11_lay_104 ?_
      refine j_top (fun v2 => ?_)
      refine j_icmp_gt C 183 (by decide) dX11_lay_106 (fun c3 => ?_) (fun c3 => ?_)
      · refine j_iload C 7 rfl dX11_lay_183 ?_
        refine j_w (cM g kk (sF σ 13 (σ.2.1 13))) (congrArg (cM g kk) (wrFi (S := σ) (c := 13) (v := σ.2.1 13) rfl)) ?_
        refine j_w (cM g kk (sF (sF σ 13 (σ.2.1 13)) 14 (σ.2.1 14))) (congrArg (cM g kk) (wrFi (S := (sF σ 13 (σ.2.1 13))) (c := 14) (v := σ.2.1 14) (gtFF (by decide) rfl))) ?_
        refine j_w (cM g kk (sF (sF (sF σ 13 (σ.2.1 13)) 14 (σ.2.1 14)) 15 (σ.2.1 15))) (congrArg (cM g kk) (wrFi (S := (sF (sF σ 13 (σ.2.1 13)) 14 (σ.2.1 14))) (c := 15) (v := σ.2.1 15) (gtFF (by decide) (gtFF (by decide) rfl)))) ?_
        exact j_zret C E (nbz (by omega)) (sF (sF (sF σ 13 (σ.2.1 13)) 14 (σ.2.1 14)) 15 (σ.2.1 15)) ⟨_, rfl, ⟨(σ.2.1 13), (σ.2.1 14), (σ.2.1 15), rfl, hS⟩⟩ rfl dX11_lay_185
      · refine j_iload C 7 rfl dX11_lay_109 ?_
        refine j_if_eqN C 183 (by decide) (by omega) dX11_lay_111 (fun c4 => ?_) (fun c4 => ?_)
        · refine j_iload C 7 rfl dX11_lay_183 ?_
          refine j_w (cM g kk (sF σ 13 (σ.2.1 13))) (congrArg (cM g kk) (wrFi (S := σ) (c := 13) (v := σ.2.1 13) rfl)) ?_
          refine j_w (cM g kk (sF (sF σ 13 (σ.2.1 13)) 14 (σ.2.1 14))) (congrArg (cM g kk) (wrFi (S := (sF σ 13 (σ.2.1 13))) (c := 14) (v := σ.2.1 14) (gtFF (by decide) rfl))) ?_
          refine j_w (cM g kk (sF (sF (sF σ 13 (σ.2.1 13)) 14 (σ.2.1 14)) 15 (σ.2.1 15))) (congrArg (cM g kk) (wrFi (S := (sF (sF σ 13 (σ.2.1 13)) 14 (σ.2.1 14))) (c := 15) (v := σ.2.1 15) (gtFF (by decide) (gtFF (by decide) rfl)))) ?_
          exact j_zret C E (nbz (by omega)) (sF (sF (sF σ 13 (σ.2.1 13)) 14 (σ.2.1 14)) 15 (σ.2.1 15)) ⟨_, rfl, ⟨(σ.2.1 13), (σ.2.1 14), (σ.2.1 15), rfl, hS⟩⟩ rfl dX11_lay_185
        · exact absurd c4 (by decide)
    · obtain ⟨⟨ff, hff, rfl⟩, ⟨ll, hll, rfl⟩⟩ := hg
      refine j_iload C 4 rfl dX11_lay_98 ?_
      refine j_istore C [(8, .int (nI ff)), (0, .ref (g 0)), (1, .int a), (2, .int y98_2), (3, .int y98_3), (5, .int (nI ff)), (6, .int (nI ll)), (7, .int (nI gd))] (by decide) rfl dX11_lay_100 ?_
      have L102 : ∀ (n102 : Nat) (d : Nat) (g2 : Nat) (z102_F13 : Nat → Int32) (f14 : Nat → Int32) (z102_F15 : Nat → Int32) (i102_0 : d ≤ 28) (i102_1 : ff ≤ d) (i102_2 : g2 ≤ 1) (hs : al_ 28 27 f14) (hm102 : 28 - d < n102), J X 0 0 (cM g kk (sF (sF (sF σ 13 z102_F13) 14 f14) 15 z102_F15)) [(8, .int (nI d)), (0, .ref (g 0)), (1, .int a), (2, .int y98_2), (3, .int y98_3), (5, .int (nI ff)), (6, .int (nI ll)), (7, .int (nI g2))] 102 [] := by
        intro n102
        induction n102 with
        | zero => intro d g2 z102_F13 f14 z102_F15 i102_0 i102_1 i102_2 hs hm; exact absurd hm (Nat.not_lt_zero _)
        | succ n102 ih102 =>
          intro d g2 z102_F13 f14 z102_F15 i102_0 i102_1 i102_2 hs hm102
          refine j_iload C 0 rfl dX11_lay_102 ?_
          refine j_iload C 6 rfl dX11_lay_104 ?_
          refine j_icmp_gtN C 183 (by decide) (by omega) (by omega) dX11_lay_106 (fun c5 => ?_) (fun c5 => ?_)
          · refine j_iload C 7 rfl dX11_lay_183 ?_
            exact j_zret C E (nbz (by omega)) (sF (sF (sF σ 13 z102_F13) 14 f14) 15 z102_F15) ⟨_, rfl, ⟨z102_F13, f14, z102_F15, rfl, hs⟩⟩ rfl dX11_lay_185
          · refine j_iload C 7 rfl dX11_lay_109 ?_
            refine j_if_eqN C 183 (by decide) (by omega) dX11_lay_111 (fun c6 => ?_) (fun c6 => ?_)
            · refine j_iload C 7 rfl dX11_lay_183 ?_
              exact j_zret C E (nbz (by omega)) (sF (sF (sF σ 13 z102_F13) 14 f14) 15 z102_F15) ⟨_, rfl, ⟨z102_F13, f14, z102_F15, rfl, hs⟩⟩ rfl dX11_lay_185
            · refine j_aload_n C 1 rfl dX11_lay_114 ?_
              refine gM_0_19 C tb_892 dX11_lay_115 ?_
              refine j_iload C 0 rfl dX11_lay_118 ?_
              refine rM_13 C d rfl (by omega) (z102_F13 d) rfl dX11_lay_120 ?_
              refine j_top (fun v7 => ?_)
              refine j_if_ne C 128 (by decide) dX11_lay_121 (fun c8 => ?_) (fun c8 => ?_)
              · refine j_iconst C (nI 0) (by decide) dX11_lay_128 ?_
                refine j_istore C [(7, .int (nI 0)), (8, .int (nI d)), (0, .ref (g 0)), (1, .int a), (2, .int y98_2), (3, .int y98_3), (5, .int (nI ff)), (6, .int (nI ll))] (by decide) rfl dX11_lay_129 ?_
                refine j_aload_n C 2 rfl dX11_lay_131 ?_
                refine gM_0_19 C tb_892 dX11_lay_132 ?_
                refine j_iload C 1 rfl dX11_lay_135 ?_
                refine j_iload_n C 3 rfl dX11_lay_137 ?_
                refine j_bipush C (nI 120) (by decide) dX11_lay_138 ?_
                refine j_icmp_ne C 147 (by decide) dX11_lay_140 (fun c9 => ?_) (fun c9 => ?_)
                · refine j_iload_n C 3 rfl dX11_lay_147 ?_
                  refine j_bipush C (nI 108) (by decide) dX11_lay_148 ?_
                  refine j_icmp_ne C 157 (by decide) dX11_lay_150 (fun c10 => ?_) (fun c10 => ?_)
                  · refine j_iconst C (nI 3) (by decide) dX11_lay_157 ?_
                    refine tM_13 C d rfl (by omega) dX11_lay_158 ?_
                    refine j_aload_n C 2 rfl dX11_lay_159 ?_
                    refine gM_0_20 C tb_893 dX11_lay_160 ?_
                    refine j_iload C 1 rfl dX11_lay_163 ?_
                    refine j_iload C 6 rfl dX11_lay_165 ?_
                    refine tM_14 C d rfl (by omega) dX11_lay_167 ?_
                    refine j_aload_n C 2 rfl dX11_lay_168 ?_
                    refine gM_0_21 C tb_894 dX11_lay_169 ?_
                    refine j_iload C 1 rfl dX11_lay_172 ?_
                    refine j_iload C 7 rfl dX11_lay_174 ?_
                    refine tM_15 C d rfl (by omega) dX11_lay_176 ?_
                    refine j_iinc C (nI (d + 1)) [(8, .int (nI (d + 1))), (7, .int (nI 0)), (0, .ref (g 0)), (1, .int a), (2, .int y98_2), (3, .int y98_3), (5, .int (nI ff)), (6, .int (nI ll))] 1 rfl (by rw [show Int32.ofInt 1 = nI 1 from by decide, nI_add]) (by decide) rfl dX11_lay_177 ?_
                    refine j_goto C 102 (by decide) dX11_lay_180 ?_
                    refine j_sub (lv' := [(8, .int (nI (d + 1))), (0, .ref (g 0)), (1, .int a), (2, .int y98_2), (3, .int y98_3), (5, .int (nI ff)), (6, .int (nI ll)), (7, .int (nI 0))]) [0, 2, 3, 4, 5, 6, 7, 1] rfl ?_
                    refine j_w (cM g kk (sF (sF (sF σ 13 (upd z102_F13 d (nI 3))) 14 (upd f14 d (nI ff))) 15 (upd z102_F15 d (nI ll)))) (congrArg (cM g kk) (show sF (sF (sF (sF (sF (sF σ 13 z102_F13) 14 f14) 15 z102_F15) 13 (upd z102_F13 d (nI 3))) 14 (upd f14 d (nI ff))) 15 (upd z102_F15 d (nI ll)) = sF (sF (sF σ 13 (upd z102_F13 d (nI 3))) 14 (upd f14 d (nI ff))) 15 (upd z102_F15 d (nI ll)) from (Eq.trans (wrF (Eq.trans (wrF (Eq.trans (wrFc (by decide)) (wrF (Eq.trans (wrFc (by decide)) (wrF wrFs))))) (Eq.trans (wrFc (by decide)) (wrF wrFs)))) wrFs))) ?_
                    exact ih102 (d + 1) 0 (upd z102_F13 d (nI 3)) (upd f14 d (nI ff)) (upd z102_F15 d (nI ll)) (by omega) (by omega) (by omega) (al_upd hs ⟨_, by omega, rfl⟩) (by omega)
                  · refine j_iconst C (nI 2) (by decide) dX11_lay_153 ?_
                    refine j_goto C 158 (by decide) dX11_lay_154 ?_
                    refine tM_13 C d rfl (by omega) dX11_lay_158 ?_
                    refine j_aload_n C 2 rfl dX11_lay_159 ?_
                    refine gM_0_20 C tb_893 dX11_lay_160 ?_
                    refine j_iload C 1 rfl dX11_lay_163 ?_
                    refine j_iload C 6 rfl dX11_lay_165 ?_
                    refine tM_14 C d rfl (by omega) dX11_lay_167 ?_
                    refine j_aload_n C 2 rfl dX11_lay_168 ?_
                    refine gM_0_21 C tb_894 dX11_lay_169 ?_
                    refine j_iload C 1 rfl dX11_lay_172 ?_
                    refine j_iload C 7 rfl dX11_lay_174 ?_
                    refine tM_15 C d rfl (by omega) dX11_lay_176 ?_
                    refine j_iinc C (nI (d + 1)) [(8, .int (nI (d + 1))), (7, .int (nI 0)), (0, .ref (g 0)), (1, .int a), (2, .int y98_2), (3, .int y98_3), (5, .int (nI ff)), (6, .int (nI ll))] 1 rfl (by rw [show Int32.ofInt 1 = nI 1 from by decide, nI_add]) (by decide) rfl dX11_lay_177 ?_
                    refine j_goto C 102 (by decide) dX11_lay_180 ?_
                    refine j_sub (lv' := [(8, .int (nI (d + 1))), (0, .ref (g 0)), (1, .int a), (2, .int y98_2), (3, .int y98_3), (5, .int (nI ff)), (6, .int (nI ll)), (7, .int (nI 0))]) [0, 2, 3, 4, 5, 6, 7, 1] rfl ?_
                    refine j_w (cM g kk (sF (sF (sF σ 13 (upd z102_F13 d (nI 2))) 14 (upd f14 d (nI ff))) 15 (upd z102_F15 d (nI ll)))) (congrArg (cM g kk) (show sF (sF (sF (sF (sF (sF σ 13 z102_F13) 14 f14) 15 z102_F15) 13 (upd z102_F13 d (nI 2))) 14 (upd f14 d (nI ff))) 15 (upd z102_F15 d (nI ll)) = sF (sF (sF σ 13 (upd z102_F13 d (nI 2))) 14 (upd f14 d (nI ff))) 15 (upd z102_F15 d (nI ll)) from (Eq.trans (wrF (Eq.trans (wrF (Eq.trans (wrFc (by decide)) (wrF (Eq.trans (wrFc (by decide)) (wrF wrFs))))) (Eq.trans (wrFc (by decide)) (wrF wrFs)))) wrFs))) ?_
                    exact ih102 (d + 1) 0 (upd z102_F13 d (nI 2)) (upd f14 d (nI ff)) (upd z102_F15 d (nI ll)) (by omega) (by omega) (by omega) (al_upd hs ⟨_, by omega, rfl⟩) (by omega)
                · refine j_iconst C (nI 1) (by decide) dX11_lay_143 ?_
                  refine j_goto C 158 (by decide) dX11_lay_144 ?_
                  refine tM_13 C d rfl (by omega) dX11_lay_158 ?_
                  refine j_aload_n C 2 rfl dX11_lay_159 ?_
                  refine gM_0_20 C tb_893 dX11_lay_160 ?_
                  refine j_iload C 1 rfl dX11_lay_163 ?_
                  refine j_iload C 6 rfl dX11_lay_165 ?_
                  refine tM_14 C d rfl (by omega) dX11_lay_167 ?_
                  refine j_aload_n C 2 rfl dX11_lay_168 ?_
                  refine gM_0_21 C tb_894 dX11_lay_169 ?_
                  refine j_iload C 1 rfl dX11_lay_172 ?_
                  refine j_iload C 7 rfl dX11_lay_174 ?_
                  refine tM_15 C d rfl (by omega) dX11_lay_176 ?_
                  refine j_iinc C (nI (d + 1)) [(8, .int (nI (d + 1))), (7, .int (nI 0)), (0, .ref (g 0)), (1, .int a), (2, .int y98_2), (3, .int y98_3), (5, .int (nI ff)), (6, .int (nI ll))] 1 rfl (by rw [show Int32.ofInt 1 = nI 1 from by decide, nI_add]) (by decide) rfl dX11_lay_177 ?_
                  refine j_goto C 102 (by decide) dX11_lay_180 ?_
                  refine j_sub (lv' := [(8, .int (nI (d + 1))), (0, .ref (g 0)), (1, .int a), (2, .int y98_2), (3, .int y98_3), (5, .int (nI ff)), (6, .int (nI ll)), (7, .int (nI 0))]) [0, 2, 3, 4, 5, 6, 7, 1] rfl ?_
                  refine j_w (cM g kk (sF (sF (sF σ 13 (upd z102_F13 d (nI 1))) 14 (upd f14 d (nI ff))) 15 (upd z102_F15 d (nI ll)))) (congrArg (cM g kk) (show sF (sF (sF (sF (sF (sF σ 13 z102_F13) 14 f14) 15 z102_F15) 13 (upd z102_F13 d (nI 1))) 14 (upd f14 d (nI ff))) 15 (upd z102_F15 d (nI ll)) = sF (sF (sF σ 13 (upd z102_F13 d (nI 1))) 14 (upd f14 d (nI ff))) 15 (upd z102_F15 d (nI ll)) from (Eq.trans (wrF (Eq.trans (wrF (Eq.trans (wrFc (by decide)) (wrF (Eq.trans (wrFc (by decide)) (wrF wrFs))))) (Eq.trans (wrFc (by decide)) (wrF wrFs)))) wrFs))) ?_
                  exact ih102 (d + 1) 0 (upd z102_F13 d (nI 1)) (upd f14 d (nI ff)) (upd z102_F15 d (nI ll)) (by omega) (by omega) (by omega) (al_upd hs ⟨_, by omega, rfl⟩) (by omega)
              · refine j_iconst C (nI 1) (by decide) dX11_lay_124 ?_
                refine j_goto C 129 (by decide) dX11_lay_125 ?_
                refine j_istore C [(7, .int (nI 1)), (8, .int (nI d)), (0, .ref (g 0)), (1, .int a), (2, .int y98_2), (3, .int y98_3), (5, .int (nI ff)), (6, .int (nI ll))] (by decide) rfl dX11_lay_129 ?_
                refine j_aload_n C 2 rfl dX11_lay_131 ?_
                refine gM_0_19 C tb_892 dX11_lay_132 ?_
                refine j_iload C 1 rfl dX11_lay_135 ?_
                refine j_iload_n C 3 rfl dX11_lay_137 ?_
                refine j_bipush C (nI 120) (by decide) dX11_lay_138 ?_
                refine j_icmp_ne C 147 (by decide) dX11_lay_140 (fun c11 => ?_) (fun c11 => ?_)
                · refine j_iload_n C 3 rfl dX11_lay_147 ?_
                  refine j_bipush C (nI 108) (by decide) dX11_lay_148 ?_
                  refine j_icmp_ne C 157 (by decide) dX11_lay_150 (fun c12 => ?_) (fun c12 => ?_)
                  · refine j_iconst C (nI 3) (by decide) dX11_lay_157 ?_
                    refine tM_13 C d rfl (by omega) dX11_lay_158 ?_
                    refine j_aload_n C 2 rfl dX11_lay_159 ?_
                    refine gM_0_20 C tb_893 dX11_lay_160 ?_
                    refine j_iload C 1 rfl dX11_lay_163 ?_
                    refine j_iload C 6 rfl dX11_lay_165 ?_
                    refine tM_14 C d rfl (by omega) dX11_lay_167 ?_
                    refine j_aload_n C 2 rfl dX11_lay_168 ?_
                    refine gM_0_21 C tb_894 dX11_lay_169 ?_
                    refine j_iload C 1 rfl dX11_lay_172 ?_
                    refine j_iload C 7 rfl dX11_lay_174 ?_
                    refine tM_15 C d rfl (by omega) dX11_lay_176 ?_
                    refine j_iinc C (nI (d + 1)) [(8, .int (nI (d + 1))), (7, .int (nI 1)), (0, .ref (g 0)), (1, .int a), (2, .int y98_2), (3, .int y98_3), (5, .int (nI ff)), (6, .int (nI ll))] 1 rfl (by rw [show Int32.ofInt 1 = nI 1 from by decide, nI_add]) (by decide) rfl dX11_lay_177 ?_
                    refine j_goto C 102 (by decide) dX11_lay_180 ?_
                    refine j_sub (lv' := [(8, .int (nI (d + 1))), (0, .ref (g 0)), (1, .int a), (2, .int y98_2), (3, .int y98_3), (5, .int (nI ff)), (6, .int (nI ll)), (7, .int (nI 1))]) [0, 2, 3, 4, 5, 6, 7, 1] rfl ?_
                    refine j_w (cM g kk (sF (sF (sF σ 13 (upd z102_F13 d (nI 3))) 14 (upd f14 d (nI ff))) 15 (upd z102_F15 d (nI ll)))) (congrArg (cM g kk) (show sF (sF (sF (sF (sF (sF σ 13 z102_F13) 14 f14) 15 z102_F15) 13 (upd z102_F13 d (nI 3))) 14 (upd f14 d (nI ff))) 15 (upd z102_F15 d (nI ll)) = sF (sF (sF σ 13 (upd z102_F13 d (nI 3))) 14 (upd f14 d (nI ff))) 15 (upd z102_F15 d (nI ll)) from (Eq.trans (wrF (Eq.trans (wrF (Eq.trans (wrFc (by decide)) (wrF (Eq.trans (wrFc (by decide)) (wrF wrFs))))) (Eq.trans (wrFc (by decide)) (wrF wrFs)))) wrFs))) ?_
                    exact ih102 (d + 1) 1 (upd z102_F13 d (nI 3)) (upd f14 d (nI ff)) (upd z102_F15 d (nI ll)) (by omega) (by omega) (by omega) (al_upd hs ⟨_, by omega, rfl⟩) (by omega)
                  · refine j_iconst C (nI 2) (by decide) dX11_lay_153 ?_
                    refine j_goto C 158 (by decide) dX11_lay_154 ?_
                    refine tM_13 C d rfl (by omega) dX11_lay_158 ?_
                    refine j_aload_n C 2 rfl dX11_lay_159 ?_
                    refine gM_0_20 C tb_893 dX11_lay_160 ?_
                    refine j_iload C 1 rfl dX11_lay_163 ?_
                    refine j_iload C 6 rfl dX11_lay_165 ?_
                    refine tM_14 C d rfl (by omega) dX11_lay_167 ?_
                    refine j_aload_n C 2 rfl dX11_lay_168 ?_
                    refine gM_0_21 C tb_894 dX11_lay_169 ?_
                    refine j_iload C 1 rfl dX11_lay_172 ?_
                    refine j_iload C 7 rfl dX11_lay_174 ?_
                    refine tM_15 C d rfl (by omega) dX11_lay_176 ?_
                    refine j_iinc C (nI (d + 1)) [(8, .int (nI (d + 1))), (7, .int (nI 1)), (0, .ref (g 0)), (1, .int a), (2, .int y98_2), (3, .int y98_3), (5, .int (nI ff)), (6, .int (nI ll))] 1 rfl (by rw [show Int32.ofInt 1 = nI 1 from by decide, nI_add]) (by decide) rfl dX11_lay_177 ?_
                    refine j_goto C 102 (by decide) dX11_lay_180 ?_
                    refine j_sub (lv' := [(8, .int (nI (d + 1))), (0, .ref (g 0)), (1, .int a), (2, .int y98_2), (3, .int y98_3), (5, .int (nI ff)), (6, .int (nI ll)), (7, .int (nI 1))]) [0, 2, 3, 4, 5, 6, 7, 1] rfl ?_
                    refine j_w (cM g kk (sF (sF (sF σ 13 (upd z102_F13 d (nI 2))) 14 (upd f14 d (nI ff))) 15 (upd z102_F15 d (nI ll)))) (congrArg (cM g kk) (show sF (sF (sF (sF (sF (sF σ 13 z102_F13) 14 f14) 15 z102_F15) 13 (upd z102_F13 d (nI 2))) 14 (upd f14 d (nI ff))) 15 (upd z102_F15 d (nI ll)) = sF (sF (sF σ 13 (upd z102_F13 d (nI 2))) 14 (upd f14 d (nI ff))) 15 (upd z102_F15 d (nI ll)) from (Eq.trans (wrF (Eq.trans (wrF (Eq.trans (wrFc (by decide)) (wrF (Eq.trans (wrFc (by decide)) (wrF wrFs))))) (Eq.trans (wrFc (by decide)) (wrF wrFs)))) wrFs))) ?_
                    exact ih102 (d + 1) 1 (upd z102_F13 d (nI 2)) (upd f14 d (nI ff)) (upd z102_F15 d (nI ll)) (by omega) (by omega) (by omega) (al_upd hs ⟨_, by omega, rfl⟩) (by omega)
                · refine j_iconst C (nI 1) (by decide) dX11_lay_143 ?_
                  refine j_goto C 158 (by decide) dX11_lay_144 ?_
                  refine tM_13 C d rfl (by omega) dX11_lay_158 ?_
                  refine j_aload_n C 2 rfl dX11_lay_159 ?_
                  refine gM_0_20 C tb_893 dX11_lay_160 ?_
                  refine j_iload C 1 rfl dX11_lay_163 ?_
                  refine j_iload C 6 rfl dX11_lay_165 ?_
                  refine tM_14 C d rfl (by omega) dX11_lay_167 ?_
                  refine j_aload_n C 2 rfl dX11_lay_168 ?_
                  refine gM_0_21 C tb_894 dX11_lay_169 ?_
                  refine j_iload C 1 rfl dX11_lay_172 ?_
                  refine j_iload C 7 rfl dX11_lay_174 ?_
                  refine tM_15 C d rfl (by omega) dX11_lay_176 ?_
                  refine j_iinc C (nI (d + 1)) [(8, .int (nI (d + 1))), (7, .int (nI 1)), (0, .ref (g 0)), (1, .int a), (2, .int y98_2), (3, .int y98_3), (5, .int (nI ff)), (6, .int (nI ll))] 1 rfl (by rw [show Int32.ofInt 1 = nI 1 from by decide, nI_add]) (by decide) rfl dX11_lay_177 ?_
                  refine j_goto C 102 (by decide) dX11_lay_180 ?_
                  refine j_sub (lv' := [(8, .int (nI (d + 1))), (0, .ref (g 0)), (1, .int a), (2, .int y98_2), (3, .int y98_3), (5, .int (nI ff)), (6, .int (nI ll)), (7, .int (nI 1))]) [0, 2, 3, 4, 5, 6, 7, 1] rfl ?_
                  refine j_w (cM g kk (sF (sF (sF σ 13 (upd z102_F13 d (nI 1))) 14 (upd f14 d (nI ff))) 15 (upd z102_F15 d (nI ll)))) (congrArg (cM g kk) (show sF (sF (sF (sF (sF (sF σ 13 z102_F13) 14 f14) 15 z102_F15) 13 (upd z102_F13 d (nI 1))) 14 (upd f14 d (nI ff))) 15 (upd z102_F15 d (nI ll)) = sF (sF (sF σ 13 (upd z102_F13 d (nI 1))) 14 (upd f14 d (nI ff))) 15 (upd z102_F15 d (nI ll)) from (Eq.trans (wrF (Eq.trans (wrF (Eq.trans (wrFc (by decide)) (wrF (Eq.trans (wrFc (by decide)) (wrF wrFs))))) (Eq.trans (wrFc (by decide)) (wrF wrFs)))) wrFs))) ?_
                  exact ih102 (d + 1) 1 (upd z102_F13 d (nI 1)) (upd f14 d (nI ff)) (upd z102_F15 d (nI ll)) (by omega) (by omega) (by omega) (al_upd hs ⟨_, by omega, rfl⟩) (by omega)
      refine j_w (cM g kk (sF σ 13 (σ.2.1 13))) (congrArg (cM g kk) (wrFi (S := σ) (c := 13) (v := σ.2.1 13) rfl)) ?_
      refine j_w (cM g kk (sF (sF σ 13 (σ.2.1 13)) 14 (σ.2.1 14))) (congrArg (cM g kk) (wrFi (S := (sF σ 13 (σ.2.1 13))) (c := 14) (v := σ.2.1 14) (gtFF (by decide) rfl))) ?_
      refine j_w (cM g kk (sF (sF (sF σ 13 (σ.2.1 13)) 14 (σ.2.1 14)) 15 (σ.2.1 15))) (congrArg (cM g kk) (wrFi (S := (sF (sF σ 13 (σ.2.1 13)) 14 (σ.2.1 14))) (c := 15) (v := σ.2.1 15) (gtFF (by decide) (gtFF (by decide) rfl)))) ?_
      exact L102 _ ff gd (σ.2.1 13) (σ.2.1 14) (σ.2.1 15) (by omega) (by omega) (by omega) hS (Nat.lt_succ_self _)
  refine j_iload_n C 3 rfl dX11_lay_0 ?_
  refine j_if_ge C 8 (by decide) dX11_lay_1 (fun c13 => ?_) (fun c13 => ?_)
  · refine j_iconst C (nI 0) (by decide) dX11_lay_8 ?_
    refine j_istore C [(4, .int (nI 0)), (0, .ref (g 0)), (1, .int a), (2, .int b), (3, .int c)] (by decide) rfl dX11_lay_9 ?_
    refine j_iload C 0 rfl dX11_lay_11 ?_
    refine j_if_eqN C 28 (by decide) (by omega) dX11_lay_13 (fun c14 => ?_) (fun c14 => ?_)
    · refine j_iload_n C 3 rfl dX11_lay_28 ?_
      refine j_istore C [(5, .int b), (4, .int (nI 0)), (0, .ref (g 0)), (1, .int a), (2, .int b), (3, .int c)] (by decide) rfl dX11_lay_29 ?_
      refine j_iload C 1 rfl dX11_lay_31 ?_
      refine j_if_eqN C 40 (by decide) (by omega) dX11_lay_33 (fun c15 => ?_) (fun c15 => ?_)
      · refine j_iload_n C 5 rfl dX11_lay_40 ?_
        refine j_istore C [(6, .int c), (5, .int b), (4, .int (nI 0)), (0, .ref (g 0)), (1, .int a), (2, .int b), (3, .int c)] (by decide) rfl dX11_lay_41 ?_
        refine j_iload C 1 rfl dX11_lay_43 ?_
        refine j_i2l C dX11_lay_45 ?_
        refine j_iload_n C 4 rfl dX11_lay_46 ?_
        refine j_bipush C (nI 108) (by decide) dX11_lay_47 ?_
        refine j_icmp_ne C 56 (by decide) dX11_lay_49 (fun c16 => ?_) (fun c16 => ?_)
        · refine j_lconst C 0 (by decide) dX11_lay_56 ?_
          refine j_ldc2 C tb_1080 dX11_lay_57 ?_
          refine j_S01 C (m_inB b (nI 0) (nI 27) 0 (27) (by decide) (by decide)) kyX11_in tb_1057 tb_1058 rfl (Nat.le_of_ble_eq_true rfl) ⟨by decide, by decide⟩ ⟨by decide, by decide⟩ dX11_lay_60 rfl ?_
          refine j_if_eq C 95 (by decide) dX11_lay_63 (fun c17 => ?_) (fun c17 => ?_)
          · replace c17 := bI_f c17
            refine j_iconst C (nI 0) (by decide) dX11_lay_95 ?_
            refine j_istore C [(7, .int (nI 0)), (6, .int c), (5, .int b), (4, .int (nI 0)), (0, .ref (g 0)), (1, .int a), (2, .int b), (3, .int c)] (by decide) rfl dX11_lay_96 ?_
            refine j_sub (lv' := [(0, .ref (g 0)), (1, .int a), (2, .int b), (3, .int c), (5, .int b), (6, .int c), (7, .int (nI 0))]) [4, 5, 6, 7, 2, 1, 0] rfl ?_
            exact K98 b c b c 0 (by omega) (Or.inl rfl)
          · replace c17 := bI_t c17
            obtain ⟨bn, bn1, bn2, rfl⟩ := wB_nat (by decide) (by decide) c17
            refine j_iload C 0 rfl dX11_lay_66 ?_
            refine j_i2l C dX11_lay_68 ?_
            refine j_lconst C 0 (by decide) dX11_lay_69 ?_
            refine j_ldc2 C tb_1080 dX11_lay_70 ?_
            refine j_S01 C (m_inB c (nI 0) (nI 27) 0 (27) (by decide) (by decide)) kyX11_in tb_1057 tb_1058 rfl (Nat.le_of_ble_eq_true rfl) ⟨by decide, by decide⟩ ⟨by decide, by decide⟩ dX11_lay_73 rfl ?_
            refine j_if_eq C 95 (by decide) dX11_lay_76 (fun c18 => ?_) (fun c18 => ?_)
            · replace c18 := bI_f c18
              refine j_iconst C (nI 0) (by decide) dX11_lay_95 ?_
              refine j_istore C [(7, .int (nI 0)), (6, .int c), (5, .int (nI bn)), (4, .int (nI 0)), (0, .ref (g 0)), (1, .int a), (2, .int (nI bn)), (3, .int c)] (by decide) rfl dX11_lay_96 ?_
              refine j_sub (lv' := [(0, .ref (g 0)), (1, .int a), (2, .int (nI bn)), (3, .int c), (5, .int (nI bn)), (6, .int c), (7, .int (nI 0))]) [4, 5, 6, 7, 2, 1, 0] rfl ?_
              exact K98 (nI bn) c (nI bn) c 0 (by omega) (Or.inl rfl)
            · replace c18 := bI_t c18
              obtain ⟨cn, cn1, cn2, rfl⟩ := wB_nat (by decide) (by decide) c18
              refine j_iload C 2 rfl dX11_lay_79 ?_
              refine j_if_neN C 91 (by decide) (by omega) dX11_lay_81 (fun c19 => ?_) (fun c19 => ?_)
              · exact absurd c19 (by decide)
              · refine j_iload C 1 rfl dX11_lay_84 ?_
                refine j_iload C 0 rfl dX11_lay_86 ?_
                refine j_icmp_geN C 95 (by decide) (by omega) (by omega) dX11_lay_88 (fun c20 => ?_) (fun c20 => ?_)
                · refine j_iconst C (nI 0) (by decide) dX11_lay_95 ?_
                  refine j_istore C [(7, .int (nI 0)), (6, .int (nI cn)), (5, .int (nI bn)), (4, .int (nI 0)), (0, .ref (g 0)), (1, .int a), (2, .int (nI bn)), (3, .int (nI cn))] (by decide) rfl dX11_lay_96 ?_
                  refine j_sub (lv' := [(0, .ref (g 0)), (1, .int a), (2, .int (nI bn)), (3, .int (nI cn)), (5, .int (nI bn)), (6, .int (nI cn)), (7, .int (nI 0))]) [4, 5, 6, 7, 2, 1, 0] rfl ?_
                  exact K98 (nI bn) (nI cn) (nI bn) (nI cn) 0 (by omega) (Or.inl rfl)
                · refine j_iconst C (nI 1) (by decide) dX11_lay_91 ?_
                  refine j_goto C 96 (by decide) dX11_lay_92 ?_
                  refine j_istore C [(7, .int (nI 1)), (6, .int (nI cn)), (5, .int (nI bn)), (4, .int (nI 0)), (0, .ref (g 0)), (1, .int a), (2, .int (nI bn)), (3, .int (nI cn))] (by decide) rfl dX11_lay_96 ?_
                  refine j_sub (lv' := [(0, .ref (g 0)), (1, .int a), (2, .int (nI bn)), (3, .int (nI cn)), (5, .int (nI bn)), (6, .int (nI cn)), (7, .int (nI 1))]) [4, 5, 6, 7, 2, 1, 0] rfl ?_
                  exact K98 (nI bn) (nI cn) (nI bn) (nI cn) 1 (by omega) (Or.inr ⟨⟨_, by omega, rfl⟩, ⟨_, by omega, rfl⟩⟩)
        · refine j_lconst C 1 (by decide) dX11_lay_52 ?_
          refine j_goto C 57 (by decide) dX11_lay_53 ?_
          refine j_ldc2 C tb_1080 dX11_lay_57 ?_
          refine j_S01 C (m_inB b (nI 1) (nI 27) 1 (27) (by decide) (by decide)) kyX11_in tb_1057 tb_1058 rfl (Nat.le_of_ble_eq_true rfl) ⟨by decide, by decide⟩ ⟨by decide, by decide⟩ dX11_lay_60 rfl ?_
          refine j_if_eq C 95 (by decide) dX11_lay_63 (fun c21 => ?_) (fun c21 => ?_)
          · replace c21 := bI_f c21
            refine j_iconst C (nI 0) (by decide) dX11_lay_95 ?_
            refine j_istore C [(7, .int (nI 0)), (6, .int c), (5, .int b), (4, .int (nI 0)), (0, .ref (g 0)), (1, .int a), (2, .int b), (3, .int c)] (by decide) rfl dX11_lay_96 ?_
            refine j_sub (lv' := [(0, .ref (g 0)), (1, .int a), (2, .int b), (3, .int c), (5, .int b), (6, .int c), (7, .int (nI 0))]) [4, 5, 6, 7, 2, 1, 0] rfl ?_
            exact K98 b c b c 0 (by omega) (Or.inl rfl)
          · replace c21 := bI_t c21
            obtain ⟨bn, bn1, bn2, rfl⟩ := wB_nat (by decide) (by decide) c21
            refine j_iload C 0 rfl dX11_lay_66 ?_
            refine j_i2l C dX11_lay_68 ?_
            refine j_lconst C 0 (by decide) dX11_lay_69 ?_
            refine j_ldc2 C tb_1080 dX11_lay_70 ?_
            refine j_S01 C (m_inB c (nI 0) (nI 27) 0 (27) (by decide) (by decide)) kyX11_in tb_1057 tb_1058 rfl (Nat.le_of_ble_eq_true rfl) ⟨by decide, by decide⟩ ⟨by decide, by decide⟩ dX11_lay_73 rfl ?_
            refine j_if_eq C 95 (by decide) dX11_lay_76 (fun c22 => ?_) (fun c22 => ?_)
            · replace c22 := bI_f c22
              refine j_iconst C (nI 0) (by decide) dX11_lay_95 ?_
              refine j_istore C [(7, .int (nI 0)), (6, .int c), (5, .int (nI bn)), (4, .int (nI 0)), (0, .ref (g 0)), (1, .int a), (2, .int (nI bn)), (3, .int c)] (by decide) rfl dX11_lay_96 ?_
              refine j_sub (lv' := [(0, .ref (g 0)), (1, .int a), (2, .int (nI bn)), (3, .int c), (5, .int (nI bn)), (6, .int c), (7, .int (nI 0))]) [4, 5, 6, 7, 2, 1, 0] rfl ?_
              exact K98 (nI bn) c (nI bn) c 0 (by omega) (Or.inl rfl)
            · replace c22 := bI_t c22
              obtain ⟨cn, cn1, cn2, rfl⟩ := wB_nat (by decide) (by decide) c22
              refine j_iload C 2 rfl dX11_lay_79 ?_
              refine j_if_neN C 91 (by decide) (by omega) dX11_lay_81 (fun c23 => ?_) (fun c23 => ?_)
              · exact absurd c23 (by decide)
              · refine j_iload C 1 rfl dX11_lay_84 ?_
                refine j_iload C 0 rfl dX11_lay_86 ?_
                refine j_icmp_geN C 95 (by decide) (by omega) (by omega) dX11_lay_88 (fun c24 => ?_) (fun c24 => ?_)
                · refine j_iconst C (nI 0) (by decide) dX11_lay_95 ?_
                  refine j_istore C [(7, .int (nI 0)), (6, .int (nI cn)), (5, .int (nI bn)), (4, .int (nI 0)), (0, .ref (g 0)), (1, .int a), (2, .int (nI bn)), (3, .int (nI cn))] (by decide) rfl dX11_lay_96 ?_
                  refine j_sub (lv' := [(0, .ref (g 0)), (1, .int a), (2, .int (nI bn)), (3, .int (nI cn)), (5, .int (nI bn)), (6, .int (nI cn)), (7, .int (nI 0))]) [4, 5, 6, 7, 2, 1, 0] rfl ?_
                  exact K98 (nI bn) (nI cn) (nI bn) (nI cn) 0 (by omega) (Or.inl rfl)
                · refine j_iconst C (nI 1) (by decide) dX11_lay_91 ?_
                  refine j_goto C 96 (by decide) dX11_lay_92 ?_
                  refine j_istore C [(7, .int (nI 1)), (6, .int (nI cn)), (5, .int (nI bn)), (4, .int (nI 0)), (0, .ref (g 0)), (1, .int a), (2, .int (nI bn)), (3, .int (nI cn))] (by decide) rfl dX11_lay_96 ?_
                  refine j_sub (lv' := [(0, .ref (g 0)), (1, .int a), (2, .int (nI bn)), (3, .int (nI cn)), (5, .int (nI bn)), (6, .int (nI cn)), (7, .int (nI 1))]) [4, 5, 6, 7, 2, 1, 0] rfl ?_
                  exact K98 (nI bn) (nI cn) (nI bn) (nI cn) 1 (by omega) (Or.inr ⟨⟨_, by omega, rfl⟩, ⟨_, by omega, rfl⟩⟩)
      · exact absurd c15 (by decide)
    · exact absurd c14 (by decide)
  · refine j_iconst C (nI 1) (by decide) dX11_lay_4 ?_
    refine j_goto C 9 (by decide) dX11_lay_5 ?_
    refine j_istore C [(4, .int (nI 1)), (0, .ref (g 0)), (1, .int a), (2, .int b), (3, .int c)] (by decide) rfl dX11_lay_9 ?_
    refine j_iload C 0 rfl dX11_lay_11 ?_
    refine j_if_eqN C 28 (by decide) (by omega) dX11_lay_13 (fun c25 => ?_) (fun c25 => ?_)
    · exact absurd c25 (by decide)
    · refine j_iload_n C 2 rfl dX11_lay_16 ?_
      refine j_bipush C (nI 115) (by decide) dX11_lay_17 ?_
      refine j_icmp_ne C 28 (by decide) dX11_lay_19 (fun c26 => ?_) (fun c26 => ?_)
      · refine j_iload_n C 3 rfl dX11_lay_28 ?_
        refine j_istore C [(5, .int b), (4, .int (nI 1)), (0, .ref (g 0)), (1, .int a), (2, .int b), (3, .int c)] (by decide) rfl dX11_lay_29 ?_
        refine j_iload C 1 rfl dX11_lay_31 ?_
        refine j_if_eqN C 40 (by decide) (by omega) dX11_lay_33 (fun c27 => ?_) (fun c27 => ?_)
        · exact absurd c27 (by decide)
        · refine j_iload_n C 4 rfl dX11_lay_36 ?_
          refine j_goto C 41 (by decide) dX11_lay_37 ?_
          refine j_istore C [(6, .int b), (5, .int b), (4, .int (nI 1)), (0, .ref (g 0)), (1, .int a), (2, .int b), (3, .int c)] (by decide) rfl dX11_lay_41 ?_
          refine j_iload C 1 rfl dX11_lay_43 ?_
          refine j_i2l C dX11_lay_45 ?_
          refine j_iload_n C 4 rfl dX11_lay_46 ?_
          refine j_bipush C (nI 108) (by decide) dX11_lay_47 ?_
          refine j_icmp_ne C 56 (by decide) dX11_lay_49 (fun c28 => ?_) (fun c28 => ?_)
          · refine j_lconst C 0 (by decide) dX11_lay_56 ?_
            refine j_ldc2 C tb_1080 dX11_lay_57 ?_
            refine j_S01 C (m_inB b (nI 0) (nI 27) 0 (27) (by decide) (by decide)) kyX11_in tb_1057 tb_1058 rfl (Nat.le_of_ble_eq_true rfl) ⟨by decide, by decide⟩ ⟨by decide, by decide⟩ dX11_lay_60 rfl ?_
            refine j_if_eq C 95 (by decide) dX11_lay_63 (fun c29 => ?_) (fun c29 => ?_)
            · replace c29 := bI_f c29
              refine j_iconst C (nI 0) (by decide) dX11_lay_95 ?_
              refine j_istore C [(7, .int (nI 0)), (6, .int b), (5, .int b), (4, .int (nI 1)), (0, .ref (g 0)), (1, .int a), (2, .int b), (3, .int c)] (by decide) rfl dX11_lay_96 ?_
              refine j_sub (lv' := [(0, .ref (g 0)), (1, .int a), (2, .int b), (3, .int c), (5, .int b), (6, .int b), (7, .int (nI 0))]) [4, 5, 6, 7, 2, 1, 0] rfl ?_
              exact K98 b c b b 0 (by omega) (Or.inl rfl)
            · replace c29 := bI_t c29
              obtain ⟨bn, bn1, bn2, rfl⟩ := wB_nat (by decide) (by decide) c29
              refine j_iload C 0 rfl dX11_lay_66 ?_
              refine j_i2l C dX11_lay_68 ?_
              refine j_lconst C 0 (by decide) dX11_lay_69 ?_
              refine j_ldc2 C tb_1080 dX11_lay_70 ?_
              refine j_S01 C (m_inB (nI bn) (nI 0) (nI 27) 0 (27) (by decide) (by decide)) kyX11_in tb_1057 tb_1058 rfl (Nat.le_of_ble_eq_true rfl) ⟨by decide, by decide⟩ ⟨by decide, by decide⟩ dX11_lay_73 rfl ?_
              refine j_if_eq C 95 (by decide) dX11_lay_76 (fun c30 => ?_) (fun c30 => ?_)
              · replace c30 := bI_f c30
                refine j_iconst C (nI 0) (by decide) dX11_lay_95 ?_
                refine j_istore C [(7, .int (nI 0)), (6, .int (nI bn)), (5, .int (nI bn)), (4, .int (nI 1)), (0, .ref (g 0)), (1, .int a), (2, .int (nI bn)), (3, .int c)] (by decide) rfl dX11_lay_96 ?_
                refine j_sub (lv' := [(0, .ref (g 0)), (1, .int a), (2, .int (nI bn)), (3, .int c), (5, .int (nI bn)), (6, .int (nI bn)), (7, .int (nI 0))]) [4, 5, 6, 7, 2, 1, 0] rfl ?_
                exact K98 (nI bn) c (nI bn) (nI bn) 0 (by omega) (Or.inl rfl)
              · replace c30 := bI_t c30
                refine j_iload C 2 rfl dX11_lay_79 ?_
                refine j_if_neN C 91 (by decide) (by omega) dX11_lay_81 (fun c31 => ?_) (fun c31 => ?_)
                · refine j_iconst C (nI 1) (by decide) dX11_lay_91 ?_
                  refine j_goto C 96 (by decide) dX11_lay_92 ?_
                  refine j_istore C [(7, .int (nI 1)), (6, .int (nI bn)), (5, .int (nI bn)), (4, .int (nI 1)), (0, .ref (g 0)), (1, .int a), (2, .int (nI bn)), (3, .int c)] (by decide) rfl dX11_lay_96 ?_
                  refine j_sub (lv' := [(0, .ref (g 0)), (1, .int a), (2, .int (nI bn)), (3, .int c), (5, .int (nI bn)), (6, .int (nI bn)), (7, .int (nI 1))]) [4, 5, 6, 7, 2, 1, 0] rfl ?_
                  exact K98 (nI bn) c (nI bn) (nI bn) 1 (by omega) (Or.inr ⟨⟨_, by omega, rfl⟩, ⟨_, by omega, rfl⟩⟩)
                · exact absurd c31 (by decide)
          · refine j_lconst C 1 (by decide) dX11_lay_52 ?_
            refine j_goto C 57 (by decide) dX11_lay_53 ?_
            refine j_ldc2 C tb_1080 dX11_lay_57 ?_
            refine j_S01 C (m_inB b (nI 1) (nI 27) 1 (27) (by decide) (by decide)) kyX11_in tb_1057 tb_1058 rfl (Nat.le_of_ble_eq_true rfl) ⟨by decide, by decide⟩ ⟨by decide, by decide⟩ dX11_lay_60 rfl ?_
            refine j_if_eq C 95 (by decide) dX11_lay_63 (fun c32 => ?_) (fun c32 => ?_)
            · replace c32 := bI_f c32
              refine j_iconst C (nI 0) (by decide) dX11_lay_95 ?_
              refine j_istore C [(7, .int (nI 0)), (6, .int b), (5, .int b), (4, .int (nI 1)), (0, .ref (g 0)), (1, .int a), (2, .int b), (3, .int c)] (by decide) rfl dX11_lay_96 ?_
              refine j_sub (lv' := [(0, .ref (g 0)), (1, .int a), (2, .int b), (3, .int c), (5, .int b), (6, .int b), (7, .int (nI 0))]) [4, 5, 6, 7, 2, 1, 0] rfl ?_
              exact K98 b c b b 0 (by omega) (Or.inl rfl)
            · replace c32 := bI_t c32
              obtain ⟨bn, bn1, bn2, rfl⟩ := wB_nat (by decide) (by decide) c32
              refine j_iload C 0 rfl dX11_lay_66 ?_
              refine j_i2l C dX11_lay_68 ?_
              refine j_lconst C 0 (by decide) dX11_lay_69 ?_
              refine j_ldc2 C tb_1080 dX11_lay_70 ?_
              refine j_S01 C (m_inB (nI bn) (nI 0) (nI 27) 0 (27) (by decide) (by decide)) kyX11_in tb_1057 tb_1058 rfl (Nat.le_of_ble_eq_true rfl) ⟨by decide, by decide⟩ ⟨by decide, by decide⟩ dX11_lay_73 rfl ?_
              refine j_if_eq C 95 (by decide) dX11_lay_76 (fun c33 => ?_) (fun c33 => ?_)
              · replace c33 := bI_f c33
                refine j_iconst C (nI 0) (by decide) dX11_lay_95 ?_
                refine j_istore C [(7, .int (nI 0)), (6, .int (nI bn)), (5, .int (nI bn)), (4, .int (nI 1)), (0, .ref (g 0)), (1, .int a), (2, .int (nI bn)), (3, .int c)] (by decide) rfl dX11_lay_96 ?_
                refine j_sub (lv' := [(0, .ref (g 0)), (1, .int a), (2, .int (nI bn)), (3, .int c), (5, .int (nI bn)), (6, .int (nI bn)), (7, .int (nI 0))]) [4, 5, 6, 7, 2, 1, 0] rfl ?_
                exact K98 (nI bn) c (nI bn) (nI bn) 0 (by omega) (Or.inl rfl)
              · replace c33 := bI_t c33
                refine j_iload C 2 rfl dX11_lay_79 ?_
                refine j_if_neN C 91 (by decide) (by omega) dX11_lay_81 (fun c34 => ?_) (fun c34 => ?_)
                · refine j_iconst C (nI 1) (by decide) dX11_lay_91 ?_
                  refine j_goto C 96 (by decide) dX11_lay_92 ?_
                  refine j_istore C [(7, .int (nI 1)), (6, .int (nI bn)), (5, .int (nI bn)), (4, .int (nI 1)), (0, .ref (g 0)), (1, .int a), (2, .int (nI bn)), (3, .int c)] (by decide) rfl dX11_lay_96 ?_
                  refine j_sub (lv' := [(0, .ref (g 0)), (1, .int a), (2, .int (nI bn)), (3, .int c), (5, .int (nI bn)), (6, .int (nI bn)), (7, .int (nI 1))]) [4, 5, 6, 7, 2, 1, 0] rfl ?_
                  exact K98 (nI bn) c (nI bn) (nI bn) 1 (by omega) (Or.inr ⟨⟨_, by omega, rfl⟩, ⟨_, by omega, rfl⟩⟩)
                · exact absurd c34 (by decide)
      · refine j_iload_n C 3 rfl dX11_lay_22 ?_
        refine j_iconst C (nI 1) (by decide) dX11_lay_23 ?_
        refine j_isub C dX11_lay_24 ?_
        refine j_top (fun v35 => ?_)
        refine j_goto C 29 (by decide) dX11_lay_25 ?_
        refine j_istore C [(5, .int v35), (4, .int (nI 1)), (0, .ref (g 0)), (1, .int a), (2, .int b), (3, .int c)] (by decide) rfl dX11_lay_29 ?_
        refine j_iload C 1 rfl dX11_lay_31 ?_
        refine j_if_eqN C 40 (by decide) (by omega) dX11_lay_33 (fun c36 => ?_) (fun c36 => ?_)
        · exact absurd c36 (by decide)
        · refine j_iload_n C 4 rfl dX11_lay_36 ?_
          refine j_goto C 41 (by decide) dX11_lay_37 ?_
          refine j_istore C [(6, .int b), (5, .int v35), (4, .int (nI 1)), (0, .ref (g 0)), (1, .int a), (2, .int b), (3, .int c)] (by decide) rfl dX11_lay_41 ?_
          refine j_iload C 1 rfl dX11_lay_43 ?_
          refine j_i2l C dX11_lay_45 ?_
          refine j_iload_n C 4 rfl dX11_lay_46 ?_
          refine j_bipush C (nI 108) (by decide) dX11_lay_47 ?_
          refine j_icmp_ne C 56 (by decide) dX11_lay_49 (fun c37 => ?_) (fun c37 => ?_)
          · refine j_lconst C 0 (by decide) dX11_lay_56 ?_
            refine j_ldc2 C tb_1080 dX11_lay_57 ?_
            refine j_S01 C (m_inB v35 (nI 0) (nI 27) 0 (27) (by decide) (by decide)) kyX11_in tb_1057 tb_1058 rfl (Nat.le_of_ble_eq_true rfl) ⟨by decide, by decide⟩ ⟨by decide, by decide⟩ dX11_lay_60 rfl ?_
            refine j_if_eq C 95 (by decide) dX11_lay_63 (fun c38 => ?_) (fun c38 => ?_)
            · replace c38 := bI_f c38
              refine j_iconst C (nI 0) (by decide) dX11_lay_95 ?_
              refine j_istore C [(7, .int (nI 0)), (6, .int b), (5, .int v35), (4, .int (nI 1)), (0, .ref (g 0)), (1, .int a), (2, .int b), (3, .int c)] (by decide) rfl dX11_lay_96 ?_
              refine j_sub (lv' := [(0, .ref (g 0)), (1, .int a), (2, .int b), (3, .int c), (5, .int v35), (6, .int b), (7, .int (nI 0))]) [4, 5, 6, 7, 2, 1, 0] rfl ?_
              exact K98 b c v35 b 0 (by omega) (Or.inl rfl)
            · replace c38 := bI_t c38
              obtain ⟨v35n, v35n1, v35n2, rfl⟩ := wB_nat (by decide) (by decide) c38
              refine j_iload C 0 rfl dX11_lay_66 ?_
              refine j_i2l C dX11_lay_68 ?_
              refine j_lconst C 0 (by decide) dX11_lay_69 ?_
              refine j_ldc2 C tb_1080 dX11_lay_70 ?_
              refine j_S01 C (m_inB b (nI 0) (nI 27) 0 (27) (by decide) (by decide)) kyX11_in tb_1057 tb_1058 rfl (Nat.le_of_ble_eq_true rfl) ⟨by decide, by decide⟩ ⟨by decide, by decide⟩ dX11_lay_73 rfl ?_
              refine j_if_eq C 95 (by decide) dX11_lay_76 (fun c39 => ?_) (fun c39 => ?_)
              · replace c39 := bI_f c39
                refine j_iconst C (nI 0) (by decide) dX11_lay_95 ?_
                refine j_istore C [(7, .int (nI 0)), (6, .int b), (5, .int (nI v35n)), (4, .int (nI 1)), (0, .ref (g 0)), (1, .int a), (2, .int b), (3, .int c)] (by decide) rfl dX11_lay_96 ?_
                refine j_sub (lv' := [(0, .ref (g 0)), (1, .int a), (2, .int b), (3, .int c), (5, .int (nI v35n)), (6, .int b), (7, .int (nI 0))]) [4, 5, 6, 7, 2, 1, 0] rfl ?_
                exact K98 b c (nI v35n) b 0 (by omega) (Or.inl rfl)
              · replace c39 := bI_t c39
                obtain ⟨bn, bn1, bn2, rfl⟩ := wB_nat (by decide) (by decide) c39
                refine j_iload C 2 rfl dX11_lay_79 ?_
                refine j_if_neN C 91 (by decide) (by omega) dX11_lay_81 (fun c40 => ?_) (fun c40 => ?_)
                · refine j_iconst C (nI 1) (by decide) dX11_lay_91 ?_
                  refine j_goto C 96 (by decide) dX11_lay_92 ?_
                  refine j_istore C [(7, .int (nI 1)), (6, .int (nI bn)), (5, .int (nI v35n)), (4, .int (nI 1)), (0, .ref (g 0)), (1, .int a), (2, .int (nI bn)), (3, .int c)] (by decide) rfl dX11_lay_96 ?_
                  refine j_sub (lv' := [(0, .ref (g 0)), (1, .int a), (2, .int (nI bn)), (3, .int c), (5, .int (nI v35n)), (6, .int (nI bn)), (7, .int (nI 1))]) [4, 5, 6, 7, 2, 1, 0] rfl ?_
                  exact K98 (nI bn) c (nI v35n) (nI bn) 1 (by omega) (Or.inr ⟨⟨_, by omega, rfl⟩, ⟨_, by omega, rfl⟩⟩)
                · exact absurd c40 (by decide)
          · refine j_lconst C 1 (by decide) dX11_lay_52 ?_
            refine j_goto C 57 (by decide) dX11_lay_53 ?_
            refine j_ldc2 C tb_1080 dX11_lay_57 ?_
            refine j_S01 C (m_inB v35 (nI 1) (nI 27) 1 (27) (by decide) (by decide)) kyX11_in tb_1057 tb_1058 rfl (Nat.le_of_ble_eq_true rfl) ⟨by decide, by decide⟩ ⟨by decide, by decide⟩ dX11_lay_60 rfl ?_
            refine j_if_eq C 95 (by decide) dX11_lay_63 (fun c41 => ?_) (fun c41 => ?_)
            · replace c41 := bI_f c41
              refine j_iconst C (nI 0) (by decide) dX11_lay_95 ?_
              refine j_istore C [(7, .int (nI 0)), (6, .int b), (5, .int v35), (4, .int (nI 1)), (0, .ref (g 0)), (1, .int a), (2, .int b), (3, .int c)] (by decide) rfl dX11_lay_96 ?_
              refine j_sub (lv' := [(0, .ref (g 0)), (1, .int a), (2, .int b), (3, .int c), (5, .int v35), (6, .int b), (7, .int (nI 0))]) [4, 5, 6, 7, 2, 1, 0] rfl ?_
              exact K98 b c v35 b 0 (by omega) (Or.inl rfl)
            · replace c41 := bI_t c41
              obtain ⟨v35n, v35n1, v35n2, rfl⟩ := wB_nat (by decide) (by decide) c41
              refine j_iload C 0 rfl dX11_lay_66 ?_
              refine j_i2l C dX11_lay_68 ?_
              refine j_lconst C 0 (by decide) dX11_lay_69 ?_
              refine j_ldc2 C tb_1080 dX11_lay_70 ?_
              refine j_S01 C (m_inB b (nI 0) (nI 27) 0 (27) (by decide) (by decide)) kyX11_in tb_1057 tb_1058 rfl (Nat.le_of_ble_eq_true rfl) ⟨by decide, by decide⟩ ⟨by decide, by decide⟩ dX11_lay_73 rfl ?_
              refine j_if_eq C 95 (by decide) dX11_lay_76 (fun c42 => ?_) (fun c42 => ?_)
              · replace c42 := bI_f c42
                refine j_iconst C (nI 0) (by decide) dX11_lay_95 ?_
                refine j_istore C [(7, .int (nI 0)), (6, .int b), (5, .int (nI v35n)), (4, .int (nI 1)), (0, .ref (g 0)), (1, .int a), (2, .int b), (3, .int c)] (by decide) rfl dX11_lay_96 ?_
                refine j_sub (lv' := [(0, .ref (g 0)), (1, .int a), (2, .int b), (3, .int c), (5, .int (nI v35n)), (6, .int b), (7, .int (nI 0))]) [4, 5, 6, 7, 2, 1, 0] rfl ?_
                exact K98 b c (nI v35n) b 0 (by omega) (Or.inl rfl)
              · replace c42 := bI_t c42
                obtain ⟨bn, bn1, bn2, rfl⟩ := wB_nat (by decide) (by decide) c42
                refine j_iload C 2 rfl dX11_lay_79 ?_
                refine j_if_neN C 91 (by decide) (by omega) dX11_lay_81 (fun c43 => ?_) (fun c43 => ?_)
                · refine j_iconst C (nI 1) (by decide) dX11_lay_91 ?_
                  refine j_goto C 96 (by decide) dX11_lay_92 ?_
                  refine j_istore C [(7, .int (nI 1)), (6, .int (nI bn)), (5, .int (nI v35n)), (4, .int (nI 1)), (0, .ref (g 0)), (1, .int a), (2, .int (nI bn)), (3, .int c)] (by decide) rfl dX11_lay_96 ?_
                  refine j_sub (lv' := [(0, .ref (g 0)), (1, .int a), (2, .int (nI bn)), (3, .int c), (5, .int (nI v35n)), (6, .int (nI bn)), (7, .int (nI 1))]) [4, 5, 6, 7, 2, 1, 0] rfl ?_
                  exact K98 (nI bn) c (nI v35n) (nI bn) 1 (by omega) (Or.inr ⟨⟨_, by omega, rfl⟩, ⟨_, by omega, rfl⟩⟩)
                · exact absurd c43 (by decide)
set_option maxRecDepth 100000 in
set_option maxHeartbeats 4000000 in
theorem n_layAll (g kk : Nat → Nat) (σ : St) (k : Nat) (hk : σ.1 3 = nI k) (hk6 : k ≤ 6) (hI : iM σ) (hS : al_ 28 27 (σ.2.1 14))  : jM (S := St) yX11_layAll cX11_layAll 10 (some .int) { frames := 2, cells := 0, slots := 0, locals := 53 } kk (cM g kk σ) [.ref (g 0)] (cM g kk) (rI (fun (r : Int32) (u : St) => ∃ (pF13 : Nat → Int32) (pF14 : Nat → Int32) (pF15 : Nat → Int32), u = sF (sF (sF σ 13 pF13) 14 pF14) 15 pF15 ∧ (al_ 28 27 pF14))) := by
  refine j_entry [(0, .ref (g 0))] (by decide) (Nat.le_of_ble_eq_true rfl) rfl ?_
  intro X C E HI
  obtain ⟨n, hn, en⟩ := id hI.sg
  refine j_iconst C (nI 0) (by decide) dX11_layAll_0 ?_
  refine j_istore_n C [(1, .int (nI 0)), (0, .ref (g 0))] rfl (by decide) rfl dX11_layAll_1 ?_
  have L2 : ∀ (n2 : Nat) (i : Nat) (z2_F13 : Nat → Int32) (i2_0 : i ≤ 28) (hm2 : 28 - i < n2), J X 0 0 (cM g kk (sF σ 13 z2_F13)) [(1, .int (nI i)), (0, .ref (g 0))] 2 [] := by
    intro n2
    induction n2 with
    | zero => intro i z2_F13 i2_0 hm; exact absurd hm (Nat.not_lt_zero _)
    | succ n2 ih2 =>
      intro i z2_F13 i2_0 hm2
      refine j_iload_n C 0 rfl dX11_layAll_2 ?_
      refine j_bipush C (nI 28) (by decide) dX11_layAll_3 ?_
      refine j_icmp_geN C 21 (by decide) (by omega) (by omega) dX11_layAll_5 (fun c1 => ?_) (fun c1 => ?_)
      · refine j_iconst C (nI 0) (by decide) dX11_layAll_21 ?_
        refine j_istore_n C [(1, .int (nI 0)), (0, .ref (g 0))] rfl (by decide) rfl dX11_layAll_22 ?_
        refine j_iconst C (nI 0) (by decide) dX11_layAll_23 ?_
        refine j_istore_n C [(2, .int (nI 0)), (1, .int (nI 0)), (0, .ref (g 0))] rfl (by decide) rfl dX11_layAll_24 ?_
        refine j_iconst C (nI 0) (by decide) dX11_layAll_25 ?_
        refine j_istore_n C [(3, .int (nI 0)), (2, .int (nI 0)), (1, .int (nI 0)), (0, .ref (g 0))] rfl (by decide) rfl dX11_layAll_26 ?_
        refine j_bipush C ((-6)) (by decide) dX11_layAll_27 ?_
        refine j_istore C [(4, .int (-6)), (3, .int (nI 0)), (2, .int (nI 0)), (1, .int (nI 0)), (0, .ref (g 0))] (by decide) rfl dX11_layAll_29 ?_
        refine j_iconst C (nI 0) (by decide) dX11_layAll_31 ?_
        refine j_istore C [(5, .int (nI 0)), (4, .int (-6)), (3, .int (nI 0)), (2, .int (nI 0)), (1, .int (nI 0)), (0, .ref (g 0))] (by decide) rfl dX11_layAll_32 ?_
        refine j_iconst C (nI 1) (by decide) dX11_layAll_34 ?_
        refine j_istore C [(6, .int (nI 1)), (5, .int (nI 0)), (4, .int (-6)), (3, .int (nI 0)), (2, .int (nI 0)), (1, .int (nI 0)), (0, .ref (g 0))] (by decide) rfl dX11_layAll_35 ?_
        refine j_iconst C (nI 0) (by decide) dX11_layAll_37 ?_
        refine j_istore C [(7, .int (nI 0)), (6, .int (nI 1)), (5, .int (nI 0)), (4, .int (-6)), (3, .int (nI 0)), (2, .int (nI 0)), (1, .int (nI 0)), (0, .ref (g 0))] (by decide) rfl dX11_layAll_38 ?_
        have L40 : ∀ (n40 : Nat) (j : Nat) (y40_6 : Int32) (y40_5 : Int32) (y40_4 : Int32) (y40_3 : Int32) (y40_2 : Int32) (y40_1 : Int32) (z40_F13 : Nat → Int32) (f14 : Nat → Int32) (z40_F15 : Nat → Int32) (i40_0 : j ≤ n + 1) (hs : al_ 28 27 f14) (hm40 : n + 1 - j < n40), J X 0 0 (cM g kk (sF (sF (sF σ 13 z40_F13) 14 f14) 15 z40_F15)) [(7, .int (nI j)), (6, .int y40_6), (5, .int y40_5), (4, .int y40_4), (3, .int y40_3), (2, .int y40_2), (1, .int y40_1), (0, .ref (g 0))] 40 [] := by
          intro n40
          induction n40 with
          | zero => intro j y40_6 y40_5 y40_4 y40_3 y40_2 y40_1 z40_F13 f14 z40_F15 i40_0 hs hm; exact absurd hm (Nat.not_lt_zero _)
          | succ n40 ih40 =>
            intro j y40_6 y40_5 y40_4 y40_3 y40_2 y40_1 z40_F13 f14 z40_F15 i40_0 hs hm40
            refine j_iload C 0 rfl dX11_layAll_40 ?_
            refine j_aload_n C 7 rfl dX11_layAll_42 ?_
            refine gM_0_15 C tb_888 (nI n) en dX11_layAll_43 ?_
            refine j_icmp_gtN C 206 (by decide) (by omega) (by omega) dX11_layAll_46 (fun c2 => ?_) (fun c2 => ?_)
            · refine j_iload C 1 rfl dX11_layAll_206 ?_
              refine j_if_eq C 215 (by decide) dX11_layAll_208 (fun c3 => ?_) (fun c3 => ?_)
              · refine j_bipush C ((-6)) (by decide) dX11_layAll_215 ?_
                exact j_iret C E (sF (sF (sF σ 13 z40_F13) 14 f14) 15 z40_F15) ⟨_, rfl, ⟨z40_F13, f14, z40_F15, rfl, hs⟩⟩ rfl dX11_layAll_217
              · refine j_iload_n C 6 rfl dX11_layAll_211 ?_
                refine j_goto C 217 (by decide) dX11_layAll_212 ?_
                exact j_iret C E (sF (sF (sF σ 13 z40_F13) 14 f14) 15 z40_F15) ⟨_, rfl, ⟨z40_F13, f14, z40_F15, rfl, hs⟩⟩ rfl dX11_layAll_217
            · refine j_aload_n C 7 rfl dX11_layAll_49 ?_
              refine gM_0_15 C tb_888 (nI n) en dX11_layAll_50 ?_
              refine j_if_leN C 206 (by decide) (by omega) dX11_layAll_53 (fun c4 => ?_) (fun c4 => ?_)
              · refine j_iload C 1 rfl dX11_layAll_206 ?_
                refine j_if_eq C 215 (by decide) dX11_layAll_208 (fun c5 => ?_) (fun c5 => ?_)
                · refine j_bipush C ((-6)) (by decide) dX11_layAll_215 ?_
                  exact j_iret C E (sF (sF (sF σ 13 z40_F13) 14 f14) 15 z40_F15) ⟨_, rfl, ⟨z40_F13, f14, z40_F15, rfl, hs⟩⟩ rfl dX11_layAll_217
                · refine j_iload_n C 6 rfl dX11_layAll_211 ?_
                  refine j_goto C 217 (by decide) dX11_layAll_212 ?_
                  exact j_iret C E (sF (sF (sF σ 13 z40_F13) 14 f14) 15 z40_F15) ⟨_, rfl, ⟨z40_F13, f14, z40_F15, rfl, hs⟩⟩ rfl dX11_layAll_217
              · refine j_iload C 0 rfl dX11_layAll_56 ?_
                refine j_aload_n C 7 rfl dX11_layAll_58 ?_
                refine gM_0_15 C tb_888 (nI n) en dX11_layAll_59 ?_
                refine j_icmp_geN C 75 (by decide) (by omega) (by omega) dX11_layAll_62 (fun c6 => ?_) (fun c6 => ?_)
                · refine j_bipush C (nI 59) (by decide) dX11_layAll_75 ?_
                  refine j_istore C [(8, .int (nI 59)), (7, .int (nI j)), (6, .int y40_6), (5, .int y40_5), (4, .int y40_4), (3, .int y40_3), (2, .int y40_2), (1, .int y40_1), (0, .ref (g 0))] (by decide) rfl dX11_layAll_77 ?_
                  refine j_iload C 0 rfl dX11_layAll_79 ?_
                  refine j_bipush C (nI 48) (by decide) dX11_layAll_81 ?_
                  refine j_isub C dX11_layAll_83 ?_
                  refine j_istore C [(9, .int ((nI 59) - (nI 48))), (8, .int (nI 59)), (7, .int (nI j)), (6, .int y40_6), (5, .int y40_5), (4, .int y40_4), (3, .int y40_3), (2, .int y40_2), (1, .int y40_1), (0, .ref (g 0))] (by decide) rfl dX11_layAll_84 ?_
                  refine j_iload C 4 rfl dX11_layAll_86 ?_
                  refine j_iload C 1 rfl dX11_layAll_88 ?_
                  refine j_S1 C (n_stepOf g kk (sF (sF (sF σ 13 z40_F13) 14 f14) 15 z40_F15) k hk hk6 hI  y40_5 (nI 59)) kyX11_stepOf tb_1109 tb_1110 rfl (Nat.le_of_ble_eq_true rfl) ⟨by decide, by decide⟩ dX11_layAll_90 rfl (fun vr ur hp => ?_)
                  obtain ⟨r7, rfl, hu⟩ := hp
                  replace hu := hu.symm
                  subst hu
                  refine j_istore C [(5, .int r7), (9, .int ((nI 59) - (nI 48))), (8, .int (nI 59)), (7, .int (nI j)), (6, .int y40_6), (4, .int y40_4), (3, .int y40_3), (2, .int y40_2), (1, .int y40_1), (0, .ref (g 0))] (by decide) rfl dX11_layAll_93 ?_
                  refine j_iload C 0 rfl dX11_layAll_95 ?_
                  refine j_iconst C (nI 1) (by decide) dX11_layAll_97 ?_
                  refine j_icmp_ne C 113 (by decide) dX11_layAll_98 (fun c8 => ?_) (fun c8 => ?_)
                  · refine j_iload C 0 rfl dX11_layAll_113 ?_
                    refine j_iconst C (nI 2) (by decide) dX11_layAll_115 ?_
                    refine j_icmp_eq C 125 (by decide) dX11_layAll_116 (fun c9 => ?_) (fun c9 => ?_)
                    · refine j_bipush C (nI 10) (by decide) dX11_layAll_125 ?_
                      refine j_iload_n C 6 rfl dX11_layAll_127 ?_
                      refine j_imul C dX11_layAll_128 ?_
                      refine j_iload C 1 rfl dX11_layAll_129 ?_
                      refine j_iadd C dX11_layAll_131 ?_
                      refine j_top (fun v10 => ?_)
                      refine j_istore_n C [(3, .int v10), (5, .int r7), (9, .int ((nI 59) - (nI 48))), (8, .int (nI 59)), (7, .int (nI j)), (6, .int y40_6), (4, .int y40_4), (2, .int y40_2), (1, .int y40_1), (0, .ref (g 0))] rfl (by decide) rfl dX11_layAll_132 ?_
                      refine j_goto C 200 (by decide) dX11_layAll_133 ?_
                      refine j_iinc C (nI (j + 1)) [(7, .int (nI (j + 1))), (3, .int v10), (5, .int r7), (9, .int ((nI 59) - (nI 48))), (8, .int (nI 59)), (6, .int y40_6), (4, .int y40_4), (2, .int y40_2), (1, .int y40_1), (0, .ref (g 0))] 4 rfl (by rw [show Int32.ofInt 1 = nI 1 from by decide, nI_add]) (by decide) rfl dX11_layAll_200 ?_
                      refine j_goto C 40 (by decide) dX11_layAll_203 ?_
                      refine j_sub (lv' := [(7, .int (nI (j + 1))), (6, .int y40_6), (5, .int r7), (4, .int y40_4), (3, .int v10), (2, .int y40_2), (1, .int y40_1), (0, .ref (g 0))]) [0, 5, 2, 6, 1, 7, 8, 9] rfl ?_
                      exact ih40 (j + 1) y40_6 r7 y40_4 v10 y40_2 y40_1 z40_F13 f14 z40_F15 (by omega) hs (by omega)
                    · refine j_iload C 0 rfl dX11_layAll_119 ?_
                      refine j_iconst C (nI 3) (by decide) dX11_layAll_121 ?_
                      refine j_icmp_ne C 136 (by decide) dX11_layAll_122 (fun c11 => ?_) (fun c11 => ?_)
                      · refine j_iload C 0 rfl dX11_layAll_136 ?_
                        refine j_iconst C (nI 5) (by decide) dX11_layAll_138 ?_
                        refine j_icmp_ne C 149 (by decide) dX11_layAll_139 (fun c12 => ?_) (fun c12 => ?_)
                        · refine j_iload C 0 rfl dX11_layAll_149 ?_
                          refine j_bipush C (nI 6) (by decide) dX11_layAll_151 ?_
                          refine j_icmp_ne C 169 (by decide) dX11_layAll_153 (fun c13 => ?_) (fun c13 => ?_)
                          · refine j_iload C 0 rfl dX11_layAll_169 ?_
                            refine j_if_ne C 200 (by decide) dX11_layAll_171 (fun c14 => ?_) (fun c14 => ?_)
                            · refine j_iinc C (nI (j + 1)) [(7, .int (nI (j + 1))), (5, .int r7), (9, .int ((nI 59) - (nI 48))), (8, .int (nI 59)), (6, .int y40_6), (4, .int y40_4), (3, .int y40_3), (2, .int y40_2), (1, .int y40_1), (0, .ref (g 0))] 3 rfl (by rw [show Int32.ofInt 1 = nI 1 from by decide, nI_add]) (by decide) rfl dX11_layAll_200 ?_
                              refine j_goto C 40 (by decide) dX11_layAll_203 ?_
                              refine j_sub (lv' := [(7, .int (nI (j + 1))), (6, .int y40_6), (5, .int r7), (4, .int y40_4), (3, .int y40_3), (2, .int y40_2), (1, .int y40_1), (0, .ref (g 0))]) [0, 4, 1, 5, 6, 7, 8, 9] rfl ?_
                              exact ih40 (j + 1) y40_6 r7 y40_4 y40_3 y40_2 y40_1 z40_F13 f14 z40_F15 (by omega) hs (by omega)
                            · refine j_iload C 4 rfl dX11_layAll_174 ?_
                              refine j_if_eq C 194 (by decide) dX11_layAll_176 (fun c15 => ?_) (fun c15 => ?_)
                              · refine j_iconst C (nI 0) (by decide) dX11_layAll_194 ?_
                                refine j_istore C [(6, .int (nI 0)), (5, .int r7), (9, .int ((nI 59) - (nI 48))), (8, .int (nI 59)), (7, .int (nI j)), (4, .int y40_4), (3, .int y40_3), (2, .int y40_2), (1, .int y40_1), (0, .ref (g 0))] (by decide) rfl dX11_layAll_195 ?_
                                refine j_iinc C (y40_1 + (1)) [(1, .int (y40_1 + (1))), (6, .int (nI 0)), (5, .int r7), (9, .int ((nI 59) - (nI 48))), (8, .int (nI 59)), (7, .int (nI j)), (4, .int y40_4), (3, .int y40_3), (2, .int y40_2), (0, .ref (g 0))] 8 rfl (by rw [show Int32.ofInt (1) = (1) from by decide]) (by decide) rfl dX11_layAll_197 ?_
                                refine j_iinc C (nI (j + 1)) [(7, .int (nI (j + 1))), (1, .int (y40_1 + (1))), (6, .int (nI 0)), (5, .int r7), (9, .int ((nI 59) - (nI 48))), (8, .int (nI 59)), (4, .int y40_4), (3, .int y40_3), (2, .int y40_2), (0, .ref (g 0))] 5 rfl (by rw [show Int32.ofInt 1 = nI 1 from by decide, nI_add]) (by decide) rfl dX11_layAll_200 ?_
                                refine j_goto C 40 (by decide) dX11_layAll_203 ?_
                                refine j_sub (lv' := [(7, .int (nI (j + 1))), (6, .int (nI 0)), (5, .int r7), (4, .int y40_4), (3, .int y40_3), (2, .int y40_2), (1, .int (y40_1 + (1))), (0, .ref (g 0))]) [0, 2, 3, 6, 7, 8, 1, 9] rfl ?_
                                exact ih40 (j + 1) (nI 0) r7 y40_4 y40_3 y40_2 (y40_1 + (1)) z40_F13 f14 z40_F15 (by omega) hs (by omega)
                              · refine j_aload_n C 9 rfl dX11_layAll_179 ?_
                                refine j_iload_n C 7 rfl dX11_layAll_180 ?_
                                refine j_iload_n C 6 rfl dX11_layAll_181 ?_
                                refine j_iload C 5 rfl dX11_layAll_182 ?_
                                refine j_V1 C (n_lay g kk (sF (sF (sF σ 13 z40_F13) 14 f14) 15 z40_F15) k hk hk6 hI hs y40_2 y40_3 y40_4) kyX11_lay tb_1123 tb_1125 sp_23 0 rfl (eM_0 g kk _) rfl (Nat.le_of_ble_eq_true rfl) ⟨by decide, by decide⟩ dX11_layAll_184 rfl (fun vr ur hp => ?_)
                                obtain ⟨r20, rfl, w16, w17, w18, hu, g19⟩ := hp
                                replace hu := hu.symm
                                subst hu
                                refine j_if_eq C 194 (by decide) dX11_layAll_187 (fun c21 => ?_) (fun c21 => ?_)
                                · refine j_iconst C (nI 0) (by decide) dX11_layAll_194 ?_
                                  refine j_istore C [(6, .int (nI 0)), (5, .int r7), (9, .int ((nI 59) - (nI 48))), (8, .int (nI 59)), (7, .int (nI j)), (4, .int y40_4), (3, .int y40_3), (2, .int y40_2), (1, .int y40_1), (0, .ref (g 0))] (by decide) rfl dX11_layAll_195 ?_
                                  refine j_iinc C (y40_1 + (1)) [(1, .int (y40_1 + (1))), (6, .int (nI 0)), (5, .int r7), (9, .int ((nI 59) - (nI 48))), (8, .int (nI 59)), (7, .int (nI j)), (4, .int y40_4), (3, .int y40_3), (2, .int y40_2), (0, .ref (g 0))] 8 rfl (by rw [show Int32.ofInt (1) = (1) from by decide]) (by decide) rfl dX11_layAll_197 ?_
                                  refine j_iinc C (nI (j + 1)) [(7, .int (nI (j + 1))), (1, .int (y40_1 + (1))), (6, .int (nI 0)), (5, .int r7), (9, .int ((nI 59) - (nI 48))), (8, .int (nI 59)), (4, .int y40_4), (3, .int y40_3), (2, .int y40_2), (0, .ref (g 0))] 5 rfl (by rw [show Int32.ofInt 1 = nI 1 from by decide, nI_add]) (by decide) rfl dX11_layAll_200 ?_
                                  refine j_goto C 40 (by decide) dX11_layAll_203 ?_
                                  refine j_sub (lv' := [(7, .int (nI (j + 1))), (6, .int (nI 0)), (5, .int r7), (4, .int y40_4), (3, .int y40_3), (2, .int y40_2), (1, .int (y40_1 + (1))), (0, .ref (g 0))]) [0, 2, 3, 6, 7, 8, 1, 9] rfl ?_
                                  refine j_w (cM g kk (sF (sF (sF σ 13 w16) 14 w17) 15 w18)) (congrArg (cM g kk) (show sF (sF (sF (sF (sF (sF σ 13 z40_F13) 14 f14) 15 z40_F15) 13 w16) 14 w17) 15 w18 = sF (sF (sF σ 13 w16) 14 w17) 15 w18 from (Eq.trans (wrF (Eq.trans (wrF (Eq.trans (wrFc (by decide)) (wrF (Eq.trans (wrFc (by decide)) (wrF wrFs))))) (Eq.trans (wrFc (by decide)) (wrF wrFs)))) wrFs))) ?_
                                  exact ih40 (j + 1) (nI 0) r7 y40_4 y40_3 y40_2 (y40_1 + (1)) w16 w17 w18 (by omega) g19 (by omega)
                                · refine j_iconst C (nI 1) (by decide) dX11_layAll_190 ?_
                                  refine j_goto C 195 (by decide) dX11_layAll_191 ?_
                                  refine j_istore C [(6, .int (nI 1)), (5, .int r7), (9, .int ((nI 59) - (nI 48))), (8, .int (nI 59)), (7, .int (nI j)), (4, .int y40_4), (3, .int y40_3), (2, .int y40_2), (1, .int y40_1), (0, .ref (g 0))] (by decide) rfl dX11_layAll_195 ?_
                                  refine j_iinc C (y40_1 + (1)) [(1, .int (y40_1 + (1))), (6, .int (nI 1)), (5, .int r7), (9, .int ((nI 59) - (nI 48))), (8, .int (nI 59)), (7, .int (nI j)), (4, .int y40_4), (3, .int y40_3), (2, .int y40_2), (0, .ref (g 0))] 8 rfl (by rw [show Int32.ofInt (1) = (1) from by decide]) (by decide) rfl dX11_layAll_197 ?_
                                  refine j_iinc C (nI (j + 1)) [(7, .int (nI (j + 1))), (1, .int (y40_1 + (1))), (6, .int (nI 1)), (5, .int r7), (9, .int ((nI 59) - (nI 48))), (8, .int (nI 59)), (4, .int y40_4), (3, .int y40_3), (2, .int y40_2), (0, .ref (g 0))] 5 rfl (by rw [show Int32.ofInt 1 = nI 1 from by decide, nI_add]) (by decide) rfl dX11_layAll_200 ?_
                                  refine j_goto C 40 (by decide) dX11_layAll_203 ?_
                                  refine j_sub (lv' := [(7, .int (nI (j + 1))), (6, .int (nI 1)), (5, .int r7), (4, .int y40_4), (3, .int y40_3), (2, .int y40_2), (1, .int (y40_1 + (1))), (0, .ref (g 0))]) [0, 2, 3, 6, 7, 8, 1, 9] rfl ?_
                                  refine j_w (cM g kk (sF (sF (sF σ 13 w16) 14 w17) 15 w18)) (congrArg (cM g kk) (show sF (sF (sF (sF (sF (sF σ 13 z40_F13) 14 f14) 15 z40_F15) 13 w16) 14 w17) 15 w18 = sF (sF (sF σ 13 w16) 14 w17) 15 w18 from (Eq.trans (wrF (Eq.trans (wrF (Eq.trans (wrFc (by decide)) (wrF (Eq.trans (wrFc (by decide)) (wrF wrFs))))) (Eq.trans (wrFc (by decide)) (wrF wrFs)))) wrFs))) ?_
                                  exact ih40 (j + 1) (nI 1) r7 y40_4 y40_3 y40_2 (y40_1 + (1)) w16 w17 w18 (by omega) g19 (by omega)
                          · refine j_bipush C (nI 10) (by decide) dX11_layAll_156 ?_
                            refine j_iload C 5 rfl dX11_layAll_158 ?_
                            refine j_imul C dX11_layAll_160 ?_
                            refine j_iload C 1 rfl dX11_layAll_161 ?_
                            refine j_iadd C dX11_layAll_163 ?_
                            refine j_top (fun v22 => ?_)
                            refine j_istore C [(4, .int v22), (5, .int r7), (9, .int ((nI 59) - (nI 48))), (8, .int (nI 59)), (7, .int (nI j)), (6, .int y40_6), (3, .int y40_3), (2, .int y40_2), (1, .int y40_1), (0, .ref (g 0))] (by decide) rfl dX11_layAll_164 ?_
                            refine j_goto C 200 (by decide) dX11_layAll_166 ?_
                            refine j_iinc C (nI (j + 1)) [(7, .int (nI (j + 1))), (4, .int v22), (5, .int r7), (9, .int ((nI 59) - (nI 48))), (8, .int (nI 59)), (6, .int y40_6), (3, .int y40_3), (2, .int y40_2), (1, .int y40_1), (0, .ref (g 0))] 4 rfl (by rw [show Int32.ofInt 1 = nI 1 from by decide, nI_add]) (by decide) rfl dX11_layAll_200 ?_
                            refine j_goto C 40 (by decide) dX11_layAll_203 ?_
                            refine j_sub (lv' := [(7, .int (nI (j + 1))), (6, .int y40_6), (5, .int r7), (4, .int v22), (3, .int y40_3), (2, .int y40_2), (1, .int y40_1), (0, .ref (g 0))]) [0, 5, 2, 1, 6, 7, 8, 9] rfl ?_
                            exact ih40 (j + 1) y40_6 r7 v22 y40_3 y40_2 y40_1 z40_F13 f14 z40_F15 (by omega) hs (by omega)
                        · refine j_iload C 1 rfl dX11_layAll_142 ?_
                          refine j_istore C [(4, .int ((nI 59) - (nI 48))), (5, .int r7), (9, .int ((nI 59) - (nI 48))), (8, .int (nI 59)), (7, .int (nI j)), (6, .int y40_6), (3, .int y40_3), (2, .int y40_2), (1, .int y40_1), (0, .ref (g 0))] (by decide) rfl dX11_layAll_144 ?_
                          refine j_goto C 200 (by decide) dX11_layAll_146 ?_
                          refine j_iinc C (nI (j + 1)) [(7, .int (nI (j + 1))), (4, .int ((nI 59) - (nI 48))), (5, .int r7), (9, .int ((nI 59) - (nI 48))), (8, .int (nI 59)), (6, .int y40_6), (3, .int y40_3), (2, .int y40_2), (1, .int y40_1), (0, .ref (g 0))] 4 rfl (by rw [show Int32.ofInt 1 = nI 1 from by decide, nI_add]) (by decide) rfl dX11_layAll_200 ?_
                          refine j_goto C 40 (by decide) dX11_layAll_203 ?_
                          refine j_sub (lv' := [(7, .int (nI (j + 1))), (6, .int y40_6), (5, .int r7), (4, .int ((nI 59) - (nI 48))), (3, .int y40_3), (2, .int y40_2), (1, .int y40_1), (0, .ref (g 0))]) [0, 5, 2, 1, 6, 7, 8, 9] rfl ?_
                          exact ih40 (j + 1) y40_6 r7 ((nI 59) - (nI 48)) y40_3 y40_2 y40_1 z40_F13 f14 z40_F15 (by omega) hs (by omega)
                      · refine j_bipush C (nI 10) (by decide) dX11_layAll_125 ?_
                        refine j_iload_n C 6 rfl dX11_layAll_127 ?_
                        refine j_imul C dX11_layAll_128 ?_
                        refine j_iload C 1 rfl dX11_layAll_129 ?_
                        refine j_iadd C dX11_layAll_131 ?_
                        refine j_top (fun v23 => ?_)
                        refine j_istore_n C [(3, .int v23), (5, .int r7), (9, .int ((nI 59) - (nI 48))), (8, .int (nI 59)), (7, .int (nI j)), (6, .int y40_6), (4, .int y40_4), (2, .int y40_2), (1, .int y40_1), (0, .ref (g 0))] rfl (by decide) rfl dX11_layAll_132 ?_
                        refine j_goto C 200 (by decide) dX11_layAll_133 ?_
                        refine j_iinc C (nI (j + 1)) [(7, .int (nI (j + 1))), (3, .int v23), (5, .int r7), (9, .int ((nI 59) - (nI 48))), (8, .int (nI 59)), (6, .int y40_6), (4, .int y40_4), (2, .int y40_2), (1, .int y40_1), (0, .ref (g 0))] 4 rfl (by rw [show Int32.ofInt 1 = nI 1 from by decide, nI_add]) (by decide) rfl dX11_layAll_200 ?_
                        refine j_goto C 40 (by decide) dX11_layAll_203 ?_
                        refine j_sub (lv' := [(7, .int (nI (j + 1))), (6, .int y40_6), (5, .int r7), (4, .int y40_4), (3, .int v23), (2, .int y40_2), (1, .int y40_1), (0, .ref (g 0))]) [0, 5, 2, 6, 1, 7, 8, 9] rfl ?_
                        exact ih40 (j + 1) y40_6 r7 y40_4 v23 y40_2 y40_1 z40_F13 f14 z40_F15 (by omega) hs (by omega)
                  · refine j_iload C 2 rfl dX11_layAll_101 ?_
                    refine j_istore_n C [(2, .int (nI 59)), (5, .int r7), (9, .int ((nI 59) - (nI 48))), (8, .int (nI 59)), (7, .int (nI j)), (6, .int y40_6), (4, .int y40_4), (3, .int y40_3), (1, .int y40_1), (0, .ref (g 0))] rfl (by decide) rfl dX11_layAll_103 ?_
                    refine j_iconst C (nI 0) (by decide) dX11_layAll_104 ?_
                    refine j_istore_n C [(3, .int (nI 0)), (2, .int (nI 59)), (5, .int r7), (9, .int ((nI 59) - (nI 48))), (8, .int (nI 59)), (7, .int (nI j)), (6, .int y40_6), (4, .int y40_4), (1, .int y40_1), (0, .ref (g 0))] rfl (by decide) rfl dX11_layAll_105 ?_
                    refine j_bipush C ((-6)) (by decide) dX11_layAll_106 ?_
                    refine j_istore C [(4, .int (-6)), (3, .int (nI 0)), (2, .int (nI 59)), (5, .int r7), (9, .int ((nI 59) - (nI 48))), (8, .int (nI 59)), (7, .int (nI j)), (6, .int y40_6), (1, .int y40_1), (0, .ref (g 0))] (by decide) rfl dX11_layAll_108 ?_
                    refine j_goto C 200 (by decide) dX11_layAll_110 ?_
                    refine j_iinc C (nI (j + 1)) [(7, .int (nI (j + 1))), (4, .int (-6)), (3, .int (nI 0)), (2, .int (nI 59)), (5, .int r7), (9, .int ((nI 59) - (nI 48))), (8, .int (nI 59)), (6, .int y40_6), (1, .int y40_1), (0, .ref (g 0))] 6 rfl (by rw [show Int32.ofInt 1 = nI 1 from by decide, nI_add]) (by decide) rfl dX11_layAll_200 ?_
                    refine j_goto C 40 (by decide) dX11_layAll_203 ?_
                    refine j_sub (lv' := [(7, .int (nI (j + 1))), (6, .int y40_6), (5, .int r7), (4, .int (-6)), (3, .int (nI 0)), (2, .int (nI 59)), (1, .int y40_1), (0, .ref (g 0))]) [0, 7, 4, 1, 2, 3, 8, 9] rfl ?_
                    exact ih40 (j + 1) y40_6 r7 (-6) (nI 0) (nI 59) y40_1 z40_F13 f14 z40_F15 (by omega) hs (by omega)
                · refine j_aload_n C 7 rfl dX11_layAll_65 ?_
                  refine gM_0_14 C tb_887 dX11_layAll_66 ?_
                  refine j_iload C 0 rfl dX11_layAll_69 ?_
                  refine rM_9 C j rfl (by omega) ((σ.2.1 9) j) rfl dX11_layAll_71 ?_
                  refine j_goto C 77 (by decide) dX11_layAll_72 ?_
                  refine j_istore C [(8, .int ((σ.2.1 9) j)), (7, .int (nI j)), (6, .int y40_6), (5, .int y40_5), (4, .int y40_4), (3, .int y40_3), (2, .int y40_2), (1, .int y40_1), (0, .ref (g 0))] (by decide) rfl dX11_layAll_77 ?_
                  refine j_iload C 0 rfl dX11_layAll_79 ?_
                  refine j_bipush C (nI 48) (by decide) dX11_layAll_81 ?_
                  refine j_isub C dX11_layAll_83 ?_
                  refine j_istore C [(9, .int (((σ.2.1 9) j) - (nI 48))), (8, .int ((σ.2.1 9) j)), (7, .int (nI j)), (6, .int y40_6), (5, .int y40_5), (4, .int y40_4), (3, .int y40_3), (2, .int y40_2), (1, .int y40_1), (0, .ref (g 0))] (by decide) rfl dX11_layAll_84 ?_
                  refine j_iload C 4 rfl dX11_layAll_86 ?_
                  refine j_iload C 1 rfl dX11_layAll_88 ?_
                  refine j_S1 C (n_stepOf g kk (sF (sF (sF σ 13 z40_F13) 14 f14) 15 z40_F15) k hk hk6 hI  y40_5 ((σ.2.1 9) j)) kyX11_stepOf tb_1109 tb_1110 rfl (Nat.le_of_ble_eq_true rfl) ⟨by decide, by decide⟩ dX11_layAll_90 rfl (fun vr ur hp => ?_)
                  obtain ⟨r24, rfl, hu⟩ := hp
                  replace hu := hu.symm
                  subst hu
                  refine j_istore C [(5, .int r24), (9, .int (((σ.2.1 9) j) - (nI 48))), (8, .int ((σ.2.1 9) j)), (7, .int (nI j)), (6, .int y40_6), (4, .int y40_4), (3, .int y40_3), (2, .int y40_2), (1, .int y40_1), (0, .ref (g 0))] (by decide) rfl dX11_layAll_93 ?_
                  refine j_iload C 0 rfl dX11_layAll_95 ?_
                  refine j_iconst C (nI 1) (by decide) dX11_layAll_97 ?_
                  refine j_icmp_ne C 113 (by decide) dX11_layAll_98 (fun c25 => ?_) (fun c25 => ?_)
                  · refine j_iload C 0 rfl dX11_layAll_113 ?_
                    refine j_iconst C (nI 2) (by decide) dX11_layAll_115 ?_
                    refine j_icmp_eq C 125 (by decide) dX11_layAll_116 (fun c26 => ?_) (fun c26 => ?_)
                    · refine j_bipush C (nI 10) (by decide) dX11_layAll_125 ?_
                      refine j_iload_n C 6 rfl dX11_layAll_127 ?_
                      refine j_imul C dX11_layAll_128 ?_
                      refine j_iload C 1 rfl dX11_layAll_129 ?_
                      refine j_iadd C dX11_layAll_131 ?_
                      refine j_top (fun v27 => ?_)
                      refine j_istore_n C [(3, .int v27), (5, .int r24), (9, .int (((σ.2.1 9) j) - (nI 48))), (8, .int ((σ.2.1 9) j)), (7, .int (nI j)), (6, .int y40_6), (4, .int y40_4), (2, .int y40_2), (1, .int y40_1), (0, .ref (g 0))] rfl (by decide) rfl dX11_layAll_132 ?_
                      refine j_goto C 200 (by decide) dX11_layAll_133 ?_
                      refine j_iinc C (nI (j + 1)) [(7, .int (nI (j + 1))), (3, .int v27), (5, .int r24), (9, .int (((σ.2.1 9) j) - (nI 48))), (8, .int ((σ.2.1 9) j)), (6, .int y40_6), (4, .int y40_4), (2, .int y40_2), (1, .int y40_1), (0, .ref (g 0))] 4 rfl (by rw [show Int32.ofInt 1 = nI 1 from by decide, nI_add]) (by decide) rfl dX11_layAll_200 ?_
                      refine j_goto C 40 (by decide) dX11_layAll_203 ?_
                      refine j_sub (lv' := [(7, .int (nI (j + 1))), (6, .int y40_6), (5, .int r24), (4, .int y40_4), (3, .int v27), (2, .int y40_2), (1, .int y40_1), (0, .ref (g 0))]) [0, 5, 2, 6, 1, 7, 8, 9] rfl ?_
                      exact ih40 (j + 1) y40_6 r24 y40_4 v27 y40_2 y40_1 z40_F13 f14 z40_F15 (by omega) hs (by omega)
                    · refine j_iload C 0 rfl dX11_layAll_119 ?_
                      refine j_iconst C (nI 3) (by decide) dX11_layAll_121 ?_
                      refine j_icmp_ne C 136 (by decide) dX11_layAll_122 (fun c28 => ?_) (fun c28 => ?_)
                      · refine j_iload C 0 rfl dX11_layAll_136 ?_
                        refine j_iconst C (nI 5) (by decide) dX11_layAll_138 ?_
                        refine j_icmp_ne C 149 (by decide) dX11_layAll_139 (fun c29 => ?_) (fun c29 => ?_)
                        · refine j_iload C 0 rfl dX11_layAll_149 ?_
                          refine j_bipush C (nI 6) (by decide) dX11_layAll_151 ?_
                          refine j_icmp_ne C 169 (by decide) dX11_layAll_153 (fun c30 => ?_) (fun c30 => ?_)
                          · refine j_iload C 0 rfl dX11_layAll_169 ?_
                            refine j_if_ne C 200 (by decide) dX11_layAll_171 (fun c31 => ?_) (fun c31 => ?_)
                            · refine j_iinc C (nI (j + 1)) [(7, .int (nI (j + 1))), (5, .int r24), (9, .int (((σ.2.1 9) j) - (nI 48))), (8, .int ((σ.2.1 9) j)), (6, .int y40_6), (4, .int y40_4), (3, .int y40_3), (2, .int y40_2), (1, .int y40_1), (0, .ref (g 0))] 3 rfl (by rw [show Int32.ofInt 1 = nI 1 from by decide, nI_add]) (by decide) rfl dX11_layAll_200 ?_
                              refine j_goto C 40 (by decide) dX11_layAll_203 ?_
                              refine j_sub (lv' := [(7, .int (nI (j + 1))), (6, .int y40_6), (5, .int r24), (4, .int y40_4), (3, .int y40_3), (2, .int y40_2), (1, .int y40_1), (0, .ref (g 0))]) [0, 4, 1, 5, 6, 7, 8, 9] rfl ?_
                              exact ih40 (j + 1) y40_6 r24 y40_4 y40_3 y40_2 y40_1 z40_F13 f14 z40_F15 (by omega) hs (by omega)
                            · refine j_iload C 4 rfl dX11_layAll_174 ?_
                              refine j_if_eq C 194 (by decide) dX11_layAll_176 (fun c32 => ?_) (fun c32 => ?_)
                              · refine j_iconst C (nI 0) (by decide) dX11_layAll_194 ?_
                                refine j_istore C [(6, .int (nI 0)), (5, .int r24), (9, .int (((σ.2.1 9) j) - (nI 48))), (8, .int ((σ.2.1 9) j)), (7, .int (nI j)), (4, .int y40_4), (3, .int y40_3), (2, .int y40_2), (1, .int y40_1), (0, .ref (g 0))] (by decide) rfl dX11_layAll_195 ?_
                                refine j_iinc C (y40_1 + (1)) [(1, .int (y40_1 + (1))), (6, .int (nI 0)), (5, .int r24), (9, .int (((σ.2.1 9) j) - (nI 48))), (8, .int ((σ.2.1 9) j)), (7, .int (nI j)), (4, .int y40_4), (3, .int y40_3), (2, .int y40_2), (0, .ref (g 0))] 8 rfl (by rw [show Int32.ofInt (1) = (1) from by decide]) (by decide) rfl dX11_layAll_197 ?_
                                refine j_iinc C (nI (j + 1)) [(7, .int (nI (j + 1))), (1, .int (y40_1 + (1))), (6, .int (nI 0)), (5, .int r24), (9, .int (((σ.2.1 9) j) - (nI 48))), (8, .int ((σ.2.1 9) j)), (4, .int y40_4), (3, .int y40_3), (2, .int y40_2), (0, .ref (g 0))] 5 rfl (by rw [show Int32.ofInt 1 = nI 1 from by decide, nI_add]) (by decide) rfl dX11_layAll_200 ?_
                                refine j_goto C 40 (by decide) dX11_layAll_203 ?_
                                refine j_sub (lv' := [(7, .int (nI (j + 1))), (6, .int (nI 0)), (5, .int r24), (4, .int y40_4), (3, .int y40_3), (2, .int y40_2), (1, .int (y40_1 + (1))), (0, .ref (g 0))]) [0, 2, 3, 6, 7, 8, 1, 9] rfl ?_
                                exact ih40 (j + 1) (nI 0) r24 y40_4 y40_3 y40_2 (y40_1 + (1)) z40_F13 f14 z40_F15 (by omega) hs (by omega)
                              · refine j_aload_n C 9 rfl dX11_layAll_179 ?_
                                refine j_iload_n C 7 rfl dX11_layAll_180 ?_
                                refine j_iload_n C 6 rfl dX11_layAll_181 ?_
                                refine j_iload C 5 rfl dX11_layAll_182 ?_
                                refine j_V1 C (n_lay g kk (sF (sF (sF σ 13 z40_F13) 14 f14) 15 z40_F15) k hk hk6 hI hs y40_2 y40_3 y40_4) kyX11_lay tb_1123 tb_1125 sp_23 0 rfl (eM_0 g kk _) rfl (Nat.le_of_ble_eq_true rfl) ⟨by decide, by decide⟩ dX11_layAll_184 rfl (fun vr ur hp => ?_)
                                obtain ⟨r37, rfl, w33, w34, w35, hu, g36⟩ := hp
                                replace hu := hu.symm
                                subst hu
                                refine j_if_eq C 194 (by decide) dX11_layAll_187 (fun c38 => ?_) (fun c38 => ?_)
                                · refine j_iconst C (nI 0) (by decide) dX11_layAll_194 ?_
                                  refine j_istore C [(6, .int (nI 0)), (5, .int r24), (9, .int (((σ.2.1 9) j) - (nI 48))), (8, .int ((σ.2.1 9) j)), (7, .int (nI j)), (4, .int y40_4), (3, .int y40_3), (2, .int y40_2), (1, .int y40_1), (0, .ref (g 0))] (by decide) rfl dX11_layAll_195 ?_
                                  refine j_iinc C (y40_1 + (1)) [(1, .int (y40_1 + (1))), (6, .int (nI 0)), (5, .int r24), (9, .int (((σ.2.1 9) j) - (nI 48))), (8, .int ((σ.2.1 9) j)), (7, .int (nI j)), (4, .int y40_4), (3, .int y40_3), (2, .int y40_2), (0, .ref (g 0))] 8 rfl (by rw [show Int32.ofInt (1) = (1) from by decide]) (by decide) rfl dX11_layAll_197 ?_
                                  refine j_iinc C (nI (j + 1)) [(7, .int (nI (j + 1))), (1, .int (y40_1 + (1))), (6, .int (nI 0)), (5, .int r24), (9, .int (((σ.2.1 9) j) - (nI 48))), (8, .int ((σ.2.1 9) j)), (4, .int y40_4), (3, .int y40_3), (2, .int y40_2), (0, .ref (g 0))] 5 rfl (by rw [show Int32.ofInt 1 = nI 1 from by decide, nI_add]) (by decide) rfl dX11_layAll_200 ?_
                                  refine j_goto C 40 (by decide) dX11_layAll_203 ?_
                                  refine j_sub (lv' := [(7, .int (nI (j + 1))), (6, .int (nI 0)), (5, .int r24), (4, .int y40_4), (3, .int y40_3), (2, .int y40_2), (1, .int (y40_1 + (1))), (0, .ref (g 0))]) [0, 2, 3, 6, 7, 8, 1, 9] rfl ?_
                                  refine j_w (cM g kk (sF (sF (sF σ 13 w33) 14 w34) 15 w35)) (congrArg (cM g kk) (show sF (sF (sF (sF (sF (sF σ 13 z40_F13) 14 f14) 15 z40_F15) 13 w33) 14 w34) 15 w35 = sF (sF (sF σ 13 w33) 14 w34) 15 w35 from (Eq.trans (wrF (Eq.trans (wrF (Eq.trans (wrFc (by decide)) (wrF (Eq.trans (wrFc (by decide)) (wrF wrFs))))) (Eq.trans (wrFc (by decide)) (wrF wrFs)))) wrFs))) ?_
                                  exact ih40 (j + 1) (nI 0) r24 y40_4 y40_3 y40_2 (y40_1 + (1)) w33 w34 w35 (by omega) g36 (by omega)
                                · refine j_iconst C (nI 1) (by decide) dX11_layAll_190 ?_
                                  refine j_goto C 195 (by decide) dX11_layAll_191 ?_
                                  refine j_istore C [(6, .int (nI 1)), (5, .int r24), (9, .int (((σ.2.1 9) j) - (nI 48))), (8, .int ((σ.2.1 9) j)), (7, .int (nI j)), (4, .int y40_4), (3, .int y40_3), (2, .int y40_2), (1, .int y40_1), (0, .ref (g 0))] (by decide) rfl dX11_layAll_195 ?_
                                  refine j_iinc C (y40_1 + (1)) [(1, .int (y40_1 + (1))), (6, .int (nI 1)), (5, .int r24), (9, .int (((σ.2.1 9) j) - (nI 48))), (8, .int ((σ.2.1 9) j)), (7, .int (nI j)), (4, .int y40_4), (3, .int y40_3), (2, .int y40_2), (0, .ref (g 0))] 8 rfl (by rw [show Int32.ofInt (1) = (1) from by decide]) (by decide) rfl dX11_layAll_197 ?_
                                  refine j_iinc C (nI (j + 1)) [(7, .int (nI (j + 1))), (1, .int (y40_1 + (1))), (6, .int (nI 1)), (5, .int r24), (9, .int (((σ.2.1 9) j) - (nI 48))), (8, .int ((σ.2.1 9) j)), (4, .int y40_4), (3, .int y40_3), (2, .int y40_2), (0, .ref (g 0))] 5 rfl (by rw [show Int32.ofInt 1 = nI 1 from by decide, nI_add]) (by decide) rfl dX11_layAll_200 ?_
                                  refine j_goto C 40 (by decide) dX11_layAll_203 ?_
                                  refine j_sub (lv' := [(7, .int (nI (j + 1))), (6, .int (nI 1)), (5, .int r24), (4, .int y40_4), (3, .int y40_3), (2, .int y40_2), (1, .int (y40_1 + (1))), (0, .ref (g 0))]) [0, 2, 3, 6, 7, 8, 1, 9] rfl ?_
                                  refine j_w (cM g kk (sF (sF (sF σ 13 w33) 14 w34) 15 w35)) (congrArg (cM g kk) (show sF (sF (sF (sF (sF (sF σ 13 z40_F13) 14 f14) 15 z40_F15) 13 w33) 14 w34) 15 w35 = sF (sF (sF σ 13 w33) 14 w34) 15 w35 from (Eq.trans (wrF (Eq.trans (wrF (Eq.trans (wrFc (by decide)) (wrF (Eq.trans (wrFc (by decide)) (wrF wrFs))))) (Eq.trans (wrFc (by decide)) (wrF wrFs)))) wrFs))) ?_
                                  exact ih40 (j + 1) (nI 1) r24 y40_4 y40_3 y40_2 (y40_1 + (1)) w33 w34 w35 (by omega) g36 (by omega)
                          · refine j_bipush C (nI 10) (by decide) dX11_layAll_156 ?_
                            refine j_iload C 5 rfl dX11_layAll_158 ?_
                            refine j_imul C dX11_layAll_160 ?_
                            refine j_iload C 1 rfl dX11_layAll_161 ?_
                            refine j_iadd C dX11_layAll_163 ?_
                            refine j_top (fun v39 => ?_)
                            refine j_istore C [(4, .int v39), (5, .int r24), (9, .int (((σ.2.1 9) j) - (nI 48))), (8, .int ((σ.2.1 9) j)), (7, .int (nI j)), (6, .int y40_6), (3, .int y40_3), (2, .int y40_2), (1, .int y40_1), (0, .ref (g 0))] (by decide) rfl dX11_layAll_164 ?_
                            refine j_goto C 200 (by decide) dX11_layAll_166 ?_
                            refine j_iinc C (nI (j + 1)) [(7, .int (nI (j + 1))), (4, .int v39), (5, .int r24), (9, .int (((σ.2.1 9) j) - (nI 48))), (8, .int ((σ.2.1 9) j)), (6, .int y40_6), (3, .int y40_3), (2, .int y40_2), (1, .int y40_1), (0, .ref (g 0))] 4 rfl (by rw [show Int32.ofInt 1 = nI 1 from by decide, nI_add]) (by decide) rfl dX11_layAll_200 ?_
                            refine j_goto C 40 (by decide) dX11_layAll_203 ?_
                            refine j_sub (lv' := [(7, .int (nI (j + 1))), (6, .int y40_6), (5, .int r24), (4, .int v39), (3, .int y40_3), (2, .int y40_2), (1, .int y40_1), (0, .ref (g 0))]) [0, 5, 2, 1, 6, 7, 8, 9] rfl ?_
                            exact ih40 (j + 1) y40_6 r24 v39 y40_3 y40_2 y40_1 z40_F13 f14 z40_F15 (by omega) hs (by omega)
                        · refine j_iload C 1 rfl dX11_layAll_142 ?_
                          refine j_istore C [(4, .int (((σ.2.1 9) j) - (nI 48))), (5, .int r24), (9, .int (((σ.2.1 9) j) - (nI 48))), (8, .int ((σ.2.1 9) j)), (7, .int (nI j)), (6, .int y40_6), (3, .int y40_3), (2, .int y40_2), (1, .int y40_1), (0, .ref (g 0))] (by decide) rfl dX11_layAll_144 ?_
                          refine j_goto C 200 (by decide) dX11_layAll_146 ?_
                          refine j_iinc C (nI (j + 1)) [(7, .int (nI (j + 1))), (4, .int (((σ.2.1 9) j) - (nI 48))), (5, .int r24), (9, .int (((σ.2.1 9) j) - (nI 48))), (8, .int ((σ.2.1 9) j)), (6, .int y40_6), (3, .int y40_3), (2, .int y40_2), (1, .int y40_1), (0, .ref (g 0))] 4 rfl (by rw [show Int32.ofInt 1 = nI 1 from by decide, nI_add]) (by decide) rfl dX11_layAll_200 ?_
                          refine j_goto C 40 (by decide) dX11_layAll_203 ?_
                          refine j_sub (lv' := [(7, .int (nI (j + 1))), (6, .int y40_6), (5, .int r24), (4, .int (((σ.2.1 9) j) - (nI 48))), (3, .int y40_3), (2, .int y40_2), (1, .int y40_1), (0, .ref (g 0))]) [0, 5, 2, 1, 6, 7, 8, 9] rfl ?_
                          exact ih40 (j + 1) y40_6 r24 (((σ.2.1 9) j) - (nI 48)) y40_3 y40_2 y40_1 z40_F13 f14 z40_F15 (by omega) hs (by omega)
                      · refine j_bipush C (nI 10) (by decide) dX11_layAll_125 ?_
                        refine j_iload_n C 6 rfl dX11_layAll_127 ?_
                        refine j_imul C dX11_layAll_128 ?_
                        refine j_iload C 1 rfl dX11_layAll_129 ?_
                        refine j_iadd C dX11_layAll_131 ?_
                        refine j_top (fun v40 => ?_)
                        refine j_istore_n C [(3, .int v40), (5, .int r24), (9, .int (((σ.2.1 9) j) - (nI 48))), (8, .int ((σ.2.1 9) j)), (7, .int (nI j)), (6, .int y40_6), (4, .int y40_4), (2, .int y40_2), (1, .int y40_1), (0, .ref (g 0))] rfl (by decide) rfl dX11_layAll_132 ?_
                        refine j_goto C 200 (by decide) dX11_layAll_133 ?_
                        refine j_iinc C (nI (j + 1)) [(7, .int (nI (j + 1))), (3, .int v40), (5, .int r24), (9, .int (((σ.2.1 9) j) - (nI 48))), (8, .int ((σ.2.1 9) j)), (6, .int y40_6), (4, .int y40_4), (2, .int y40_2), (1, .int y40_1), (0, .ref (g 0))] 4 rfl (by rw [show Int32.ofInt 1 = nI 1 from by decide, nI_add]) (by decide) rfl dX11_layAll_200 ?_
                        refine j_goto C 40 (by decide) dX11_layAll_203 ?_
                        refine j_sub (lv' := [(7, .int (nI (j + 1))), (6, .int y40_6), (5, .int r24), (4, .int y40_4), (3, .int v40), (2, .int y40_2), (1, .int y40_1), (0, .ref (g 0))]) [0, 5, 2, 6, 1, 7, 8, 9] rfl ?_
                        exact ih40 (j + 1) y40_6 r24 y40_4 v40 y40_2 y40_1 z40_F13 f14 z40_F15 (by omega) hs (by omega)
                  · refine j_iload C 2 rfl dX11_layAll_101 ?_
                    refine j_istore_n C [(2, .int ((σ.2.1 9) j)), (5, .int r24), (9, .int (((σ.2.1 9) j) - (nI 48))), (8, .int ((σ.2.1 9) j)), (7, .int (nI j)), (6, .int y40_6), (4, .int y40_4), (3, .int y40_3), (1, .int y40_1), (0, .ref (g 0))] rfl (by decide) rfl dX11_layAll_103 ?_
                    refine j_iconst C (nI 0) (by decide) dX11_layAll_104 ?_
                    refine j_istore_n C [(3, .int (nI 0)), (2, .int ((σ.2.1 9) j)), (5, .int r24), (9, .int (((σ.2.1 9) j) - (nI 48))), (8, .int ((σ.2.1 9) j)), (7, .int (nI j)), (6, .int y40_6), (4, .int y40_4), (1, .int y40_1), (0, .ref (g 0))] rfl (by decide) rfl dX11_layAll_105 ?_
                    refine j_bipush C ((-6)) (by decide) dX11_layAll_106 ?_
                    refine j_istore C [(4, .int (-6)), (3, .int (nI 0)), (2, .int ((σ.2.1 9) j)), (5, .int r24), (9, .int (((σ.2.1 9) j) - (nI 48))), (8, .int ((σ.2.1 9) j)), (7, .int (nI j)), (6, .int y40_6), (1, .int y40_1), (0, .ref (g 0))] (by decide) rfl dX11_layAll_108 ?_
                    refine j_goto C 200 (by decide) dX11_layAll_110 ?_
                    refine j_iinc C (nI (j + 1)) [(7, .int (nI (j + 1))), (4, .int (-6)), (3, .int (nI 0)), (2, .int ((σ.2.1 9) j)), (5, .int r24), (9, .int (((σ.2.1 9) j) - (nI 48))), (8, .int ((σ.2.1 9) j)), (6, .int y40_6), (1, .int y40_1), (0, .ref (g 0))] 6 rfl (by rw [show Int32.ofInt 1 = nI 1 from by decide, nI_add]) (by decide) rfl dX11_layAll_200 ?_
                    refine j_goto C 40 (by decide) dX11_layAll_203 ?_
                    refine j_sub (lv' := [(7, .int (nI (j + 1))), (6, .int y40_6), (5, .int r24), (4, .int (-6)), (3, .int (nI 0)), (2, .int ((σ.2.1 9) j)), (1, .int y40_1), (0, .ref (g 0))]) [0, 7, 4, 1, 2, 3, 8, 9] rfl ?_
                    exact ih40 (j + 1) y40_6 r24 (-6) (nI 0) ((σ.2.1 9) j) y40_1 z40_F13 f14 z40_F15 (by omega) hs (by omega)
        refine j_w (cM g kk (sF (sF σ 13 z2_F13) 14 (σ.2.1 14))) (congrArg (cM g kk) (wrFi (S := (sF σ 13 z2_F13)) (c := 14) (v := σ.2.1 14) (gtFF (by decide) rfl))) ?_
        refine j_w (cM g kk (sF (sF (sF σ 13 z2_F13) 14 (σ.2.1 14)) 15 (σ.2.1 15))) (congrArg (cM g kk) (wrFi (S := (sF (sF σ 13 z2_F13) 14 (σ.2.1 14))) (c := 15) (v := σ.2.1 15) (gtFF (by decide) (gtFF (by decide) rfl)))) ?_
        exact L40 _ 0 (nI 1) (nI 0) (-6) (nI 0) (nI 0) (nI 0) z2_F13 (σ.2.1 14) (σ.2.1 15) (by omega) hS (Nat.lt_succ_self _)
      · refine j_aload_n C 1 rfl dX11_layAll_8 ?_
        refine gM_0_19 C tb_892 dX11_layAll_9 ?_
        refine j_iload_n C 0 rfl dX11_layAll_12 ?_
        refine j_iconst C (nI 0) (by decide) dX11_layAll_13 ?_
        refine tM_13 C i rfl (by omega) dX11_layAll_14 ?_
        refine j_iinc C (nI (i + 1)) [(1, .int (nI (i + 1))), (0, .ref (g 0))] 0 rfl (by rw [show Int32.ofInt 1 = nI 1 from by decide, nI_add]) (by decide) rfl dX11_layAll_15 ?_
        refine j_goto C 2 (by decide) dX11_layAll_18 ?_
        refine j_w (cM g kk (sF σ 13 (upd z2_F13 i (nI 0)))) (congrArg (cM g kk) (show sF (sF σ 13 z2_F13) 13 (upd z2_F13 i (nI 0)) = sF σ 13 (upd z2_F13 i (nI 0)) from wrFs)) ?_
        exact ih2 (i + 1) (upd z2_F13 i (nI 0)) (by omega) (by omega)
  refine j_w (cM g kk (sF σ 13 (σ.2.1 13))) (congrArg (cM g kk) (wrFi (S := σ) (c := 13) (v := σ.2.1 13) rfl)) ?_
  exact L2 _ 0 (σ.2.1 13) (by omega) (Nat.lt_succ_self _)
set_option maxRecDepth 100000 in
set_option maxHeartbeats 4000000 in
theorem n_note (g kk : Nat → Nat) (σ : St) (k : Nat) (hk : σ.1 3 = nI k) (hk6 : k ≤ 6) (hI : iM σ) (hS : al_ 28 27 (σ.2.1 14)) (x : Int32) : jM (S := St) yX11_note cX11_note 4 (some .int) { frames := 3, cells := 0, slots := 0, locals := 82 } kk (cM g kk σ) [.ref (g 0), .int x] (cM g kk) (rI (fun (r : Int32) (u : St) => ∃ (pF10 : Nat → Int32) (pF11 : Nat → Int32) (pF12 : Nat → Int32) (pF13 : Nat → Int32) (pF14 : Nat → Int32) (pF15 : Nat → Int32) (n2 : Nat), u = sI (sF (sF (sF (sF (sF (sF σ 10 pF10) 11 pF11) 12 pF12) 13 pF13) 14 pF14) 15 pF15) 15 (nI n2) ∧ (al_ 28 27 pF14) ∧ (al_ 168 27 pF11) ∧ (n2 ≤ 40))) := by
  refine j_entry [(0, .ref (g 0)), (1, .int x)] (by decide) (Nat.le_of_ble_eq_true rfl) rfl ?_
  intro X C E HI
  obtain ⟨n, hn, en⟩ := id hI.sg
  refine j_aload_n C 0 rfl dX11_note_0 ?_
  refine j_iload_n C 1 rfl dX11_note_1 ?_
  refine j_V1 C (m_isCan g kk σ k hk hk6 x) kyX11_isCan tb_1067 tb_1069 sp_21 0 rfl (eM_0 g kk _) rfl (Nat.le_of_ble_eq_true rfl) ⟨by decide, by decide⟩ dX11_note_2 rfl (fun vr ur hp => ?_)
  obtain ⟨r, rfl, rfl, hu⟩ := hp
  replace hu := hu.symm
  subst hu
  refine j_if_ne C 10 (by decide) dX11_note_5 (fun c1 => ?_) (fun c1 => ?_)
  · replace c1 := bI_t c1
    obtain ⟨xn, xn1, rfl⟩ := cB_nat (by omega) c1
    refine j_aload_n C 0 rfl dX11_note_10 ?_
    refine gM_0_15 C tb_888 (nI n) en dX11_note_11 ?_
    refine j_if_leN C 27 (by decide) (by omega) dX11_note_14 (fun c2 => ?_) (fun c2 => ?_)
    · refine j_aload_n C 0 rfl dX11_note_27 ?_
      refine j_V1 C (n_layAll g kk σ k hk hk6 hI hS ) kyX11_layAll tb_1119 tb_1121 sp_22 0 rfl (eM_0 g kk _) rfl (Nat.le_of_ble_eq_true rfl) ⟨by decide, by decide⟩ dX11_note_28 rfl (fun vr ur hp => ?_)
      obtain ⟨r7, rfl, w3, w4, w5, hu, g6⟩ := hp
      replace hu := hu.symm
      subst hu
      refine j_istore_n C [(2, .int r7), (0, .ref (g 0)), (1, .int (nI xn))] rfl (by decide) rfl dX11_note_31 ?_
      refine j_iload_n C 0 rfl dX11_note_32 ?_
      refine j_if_ge C 39 (by decide) dX11_note_33 (fun c8 => ?_) (fun c8 => ?_)
      · refine j_iconst C (nI 0) (by decide) dX11_note_39 ?_
        refine j_istore_n C [(3, .int (nI 0)), (2, .int r7), (0, .ref (g 0)), (1, .int (nI xn))] rfl (by decide) rfl dX11_note_40 ?_
        have L41 : ∀ (n41 : Nat) (d : Nat) (z41_F10 : Nat → Int32) (f11 : Nat → Int32) (z41_F12 : Nat → Int32) (i41_0 : d ≤ 28) (ha : al_ 168 27 f11) (hm41 : 28 - d < n41), J X 0 0 (cM g kk (sF (sF (sF (sF (sF (sF σ 10 z41_F10) 11 f11) 12 z41_F12) 13 w3) 14 w4) 15 w5)) [(3, .int (nI d)), (2, .int r7), (0, .ref (g 0)), (1, .int (nI xn))] 41 [] := by
          intro n41
          induction n41 with
          | zero => intro d z41_F10 f11 z41_F12 i41_0 ha hm; exact absurd hm (Nat.not_lt_zero _)
          | succ n41 ih41 =>
            intro d z41_F10 f11 z41_F12 i41_0 ha hm41
            refine j_iload_n C 0 rfl dX11_note_41 ?_
            refine j_bipush C (nI 28) (by decide) dX11_note_42 ?_
            refine j_icmp_geN C 101 (by decide) (by omega) (by omega) dX11_note_44 (fun c9 => ?_) (fun c9 => ?_)
            · refine j_aload_n C 2 rfl dX11_note_101 ?_
              refine j_iconst C (nI 0) (by decide) dX11_note_102 ?_
              refine pM_0_15 C tb_888 dX11_note_103 ?_
              refine j_iload_n C 1 rfl dX11_note_106 ?_
              exact j_iret C E (sI (sF (sF (sF (sF (sF (sF σ 10 z41_F10) 11 f11) 12 z41_F12) 13 w3) 14 w4) 15 w5) 15 (nI 0)) ⟨_, rfl, ⟨z41_F10, f11, z41_F12, w3, w4, w5, 0, rfl, g6, ha, (by omega)⟩⟩ rfl dX11_note_107
            · refine j_aload_n C 2 rfl dX11_note_47 ?_
              refine gM_0_16 C tb_889 dX11_note_48 ?_
              refine j_iload_n C 3 rfl dX11_note_51 ?_
              refine j_iload_n C 0 rfl dX11_note_52 ?_
              refine j_S01 C (m_at xn d) kyX11_at tb_1060 tb_1061 rfl (Nat.le_of_ble_eq_true rfl) ⟨by decide, by decide⟩ ⟨by decide, by decide⟩ dX11_note_53 rfl ?_
              refine j_aload_n C 2 rfl dX11_note_56 ?_
              refine gM_0_19 C tb_892 dX11_note_57 ?_
              refine j_iload_n C 0 rfl dX11_note_60 ?_
              refine rM_13 C d rfl (by omega) (w3 d) rfl dX11_note_61 ?_
              refine tM_10 C (28 * xn + d) rfl (by omega) dX11_note_62 ?_
              refine j_aload_n C 2 rfl dX11_note_63 ?_
              refine gM_0_17 C tb_890 dX11_note_64 ?_
              refine j_iload_n C 3 rfl dX11_note_67 ?_
              refine j_iload_n C 0 rfl dX11_note_68 ?_
              refine j_S01 C (m_at xn d) kyX11_at tb_1060 tb_1061 rfl (Nat.le_of_ble_eq_true rfl) ⟨by decide, by decide⟩ ⟨by decide, by decide⟩ dX11_note_69 rfl ?_
              refine j_aload_n C 2 rfl dX11_note_72 ?_
              refine gM_0_20 C tb_893 dX11_note_73 ?_
              refine j_iload_n C 0 rfl dX11_note_76 ?_
              obtain ⟨m10, hm10, em10⟩ := g6 d (by omega)
              refine rM_14 C d rfl (by omega) (nI m10) em10 dX11_note_77 ?_
              refine tM_11 C (28 * xn + d) rfl (by omega) dX11_note_78 ?_
              refine j_aload_n C 2 rfl dX11_note_79 ?_
              refine gM_0_18 C tb_891 dX11_note_80 ?_
              refine j_iload_n C 3 rfl dX11_note_83 ?_
              refine j_iload_n C 0 rfl dX11_note_84 ?_
              refine j_S01 C (m_at xn d) kyX11_at tb_1060 tb_1061 rfl (Nat.le_of_ble_eq_true rfl) ⟨by decide, by decide⟩ ⟨by decide, by decide⟩ dX11_note_85 rfl ?_
              refine j_aload_n C 2 rfl dX11_note_88 ?_
              refine gM_0_21 C tb_894 dX11_note_89 ?_
              refine j_iload_n C 0 rfl dX11_note_92 ?_
              refine rM_15 C d rfl (by omega) (w5 d) rfl dX11_note_93 ?_
              refine tM_12 C (28 * xn + d) rfl (by omega) dX11_note_94 ?_
              refine j_iinc C (nI (d + 1)) [(3, .int (nI (d + 1))), (2, .int r7), (0, .ref (g 0)), (1, .int (nI xn))] 0 rfl (by rw [show Int32.ofInt 1 = nI 1 from by decide, nI_add]) (by decide) rfl dX11_note_95 ?_
              refine j_goto C 41 (by decide) dX11_note_98 ?_
              refine j_w (cM g kk (sF (sF (sF (sF (sF (sF σ 10 (upd z41_F10 (28 * xn + d) (w3 d))) 11 (upd f11 (28 * xn + d) (nI m10))) 12 (upd z41_F12 (28 * xn + d) (w5 d))) 13 w3) 14 w4) 15 w5)) (congrArg (cM g kk) (show sF (sF (sF (sF (sF (sF (sF (sF (sF σ 10 z41_F10) 11 f11) 12 z41_F12) 13 w3) 14 w4) 15 w5) 10 (upd z41_F10 (28 * xn + d) (w3 d))) 11 (upd f11 (28 * xn + d) (nI m10))) 12 (upd z41_F12 (28 * xn + d) (w5 d)) = sF (sF (sF (sF (sF (sF σ 10 (upd z41_F10 (28 * xn + d) (w3 d))) 11 (upd f11 (28 * xn + d) (nI m10))) 12 (upd z41_F12 (28 * xn + d) (w5 d))) 13 w3) 14 w4) 15 w5 from (Eq.trans (wrF (Eq.trans (wrF (Eq.trans (wrFc (by decide)) (wrF (Eq.trans (wrFc (by decide)) (wrF (Eq.trans (wrFc (by decide)) (wrF (Eq.trans (wrFc (by decide)) (wrF (Eq.trans (wrFc (by decide)) (wrF wrFs))))))))))) (Eq.trans (wrFc (by decide)) (wrF (Eq.trans (wrFc (by decide)) (wrF (Eq.trans (wrFc (by decide)) (wrF (Eq.trans (wrFc (by decide)) (wrF wrFs)))))))))) (Eq.trans (wrFc (by decide)) (wrF (Eq.trans (wrFc (by decide)) (wrF (Eq.trans (wrFc (by decide)) (wrF wrFs))))))))) ?_
              exact ih41 (d + 1) (upd z41_F10 (28 * xn + d) (w3 d)) (upd f11 (28 * xn + d) (nI m10)) (upd z41_F12 (28 * xn + d) (w5 d)) (by omega) (al_upd ha ⟨_, by assumption, rfl⟩) (by omega)
        refine j_w (cM g kk (sF (sF (sF (sF σ 13 w3) 14 w4) 15 w5) 10 (σ.2.1 10))) (congrArg (cM g kk) (wrFi (S := (sF (sF (sF σ 13 w3) 14 w4) 15 w5)) (c := 10) (v := σ.2.1 10) (gtFF (by decide) (gtFF (by decide) (gtFF (by decide) rfl))))) ?_
        refine j_w (cM g kk (sF (sF (sF (sF (sF σ 13 w3) 14 w4) 15 w5) 10 (σ.2.1 10)) 11 (σ.2.1 11))) (congrArg (cM g kk) (wrFi (S := (sF (sF (sF (sF σ 13 w3) 14 w4) 15 w5) 10 (σ.2.1 10))) (c := 11) (v := σ.2.1 11) (gtFF (by decide) (gtFF (by decide) (gtFF (by decide) (gtFF (by decide) rfl)))))) ?_
        refine j_w (cM g kk (sF (sF (sF (sF (sF (sF σ 13 w3) 14 w4) 15 w5) 10 (σ.2.1 10)) 11 (σ.2.1 11)) 12 (σ.2.1 12))) (congrArg (cM g kk) (wrFi (S := (sF (sF (sF (sF (sF σ 13 w3) 14 w4) 15 w5) 10 (σ.2.1 10)) 11 (σ.2.1 11))) (c := 12) (v := σ.2.1 12) (gtFF (by decide) (gtFF (by decide) (gtFF (by decide) (gtFF (by decide) (gtFF (by decide) rfl))))))) ?_
        refine j_w (cM g kk (sF (sF (sF (sF (sF (sF σ 10 (σ.2.1 10)) 11 (σ.2.1 11)) 12 (σ.2.1 12)) 13 w3) 14 w4) 15 w5)) (congrArg (cM g kk) (show sF (sF (sF (sF (sF (sF σ 13 w3) 14 w4) 15 w5) 10 (σ.2.1 10)) 11 (σ.2.1 11)) 12 (σ.2.1 12) = sF (sF (sF (sF (sF (sF σ 10 (σ.2.1 10)) 11 (σ.2.1 11)) 12 (σ.2.1 12)) 13 w3) 14 w4) 15 w5 from (Eq.trans (wrF (Eq.trans (wrF (Eq.trans (wrFc (by decide)) (wrF (Eq.trans (wrFc (by decide)) (wrF (wrFc (by decide))))))) (Eq.trans (wrFc (by decide)) (wrF (Eq.trans (wrFc (by decide)) (wrF (wrFc (by decide)))))))) (Eq.trans (wrFc (by decide)) (wrF (Eq.trans (wrFc (by decide)) (wrF (wrFc (by decide))))))))) ?_
        exact L41 _ 0 (σ.2.1 10) (σ.2.1 11) (σ.2.1 12) (by omega) hI.fo (Nat.lt_succ_self _)
      · refine j_bipush C ((-5)) (by decide) dX11_note_36 ?_
        refine j_w (cM g kk (sI (sF (sF (sF σ 13 w3) 14 w4) 15 w5) 15 (nI n))) (congrArg (cM g kk) (sI_self (σ := (sF (sF (sF σ 13 w3) 14 w4) 15 w5)) (i := 15) (v := nI n) en).symm) ?_
        refine j_w (cM g kk (sF (sI (sF (sF (sF σ 13 w3) 14 w4) 15 w5) 15 (nI n)) 10 (σ.2.1 10))) (congrArg (cM g kk) (wrFi (S := (sI (sF (sF (sF σ 13 w3) 14 w4) 15 w5) 15 (nI n))) (c := 10) (v := σ.2.1 10) (gtFI (gtFF (by decide) (gtFF (by decide) (gtFF (by decide) rfl)))))) ?_
        refine j_w (cM g kk (sF (sF (sI (sF (sF (sF σ 13 w3) 14 w4) 15 w5) 15 (nI n)) 10 (σ.2.1 10)) 11 (σ.2.1 11))) (congrArg (cM g kk) (wrFi (S := (sF (sI (sF (sF (sF σ 13 w3) 14 w4) 15 w5) 15 (nI n)) 10 (σ.2.1 10))) (c := 11) (v := σ.2.1 11) (gtFF (by decide) (gtFI (gtFF (by decide) (gtFF (by decide) (gtFF (by decide) rfl))))))) ?_
        refine j_w (cM g kk (sF (sF (sF (sI (sF (sF (sF σ 13 w3) 14 w4) 15 w5) 15 (nI n)) 10 (σ.2.1 10)) 11 (σ.2.1 11)) 12 (σ.2.1 12))) (congrArg (cM g kk) (wrFi (S := (sF (sF (sI (sF (sF (sF σ 13 w3) 14 w4) 15 w5) 15 (nI n)) 10 (σ.2.1 10)) 11 (σ.2.1 11))) (c := 12) (v := σ.2.1 12) (gtFF (by decide) (gtFF (by decide) (gtFI (gtFF (by decide) (gtFF (by decide) (gtFF (by decide) rfl)))))))) ?_
        refine j_w (cM g kk (sI (sF (sF (sF (sF (sF (sF σ 10 (σ.2.1 10)) 11 (σ.2.1 11)) 12 (σ.2.1 12)) 13 w3) 14 w4) 15 w5) 15 (nI n))) (congrArg (cM g kk) (show sF (sF (sF (sI (sF (sF (sF σ 13 w3) 14 w4) 15 w5) 15 (nI n)) 10 (σ.2.1 10)) 11 (σ.2.1 11)) 12 (σ.2.1 12) = sI (sF (sF (sF (sF (sF (sF σ 10 (σ.2.1 10)) 11 (σ.2.1 11)) 12 (σ.2.1 12)) 13 w3) 14 w4) 15 w5) 15 (nI n) from (Eq.trans (wrF (Eq.trans (wrF (Eq.trans wrFI (wrI (Eq.trans (wrFc (by decide)) (wrF (Eq.trans (wrFc (by decide)) (wrF (wrFc (by decide))))))))) (Eq.trans wrFI (wrI (Eq.trans (wrFc (by decide)) (wrF (Eq.trans (wrFc (by decide)) (wrF (wrFc (by decide)))))))))) (Eq.trans wrFI (wrI (Eq.trans (wrFc (by decide)) (wrF (Eq.trans (wrFc (by decide)) (wrF (wrFc (by decide))))))))))) ?_
        exact j_iret C E (sI (sF (sF (sF (sF (sF (sF σ 10 (σ.2.1 10)) 11 (σ.2.1 11)) 12 (σ.2.1 12)) 13 w3) 14 w4) 15 w5) 15 (nI n)) ⟨_, rfl, ⟨(σ.2.1 10), (σ.2.1 11), (σ.2.1 12), w3, w4, w5, n, rfl, g6, hI.fo, (by omega)⟩⟩ rfl dX11_note_38
    · refine j_aload_n C 0 rfl dX11_note_17 ?_
      refine j_V1 C (n_fault g kk σ k hk hk6 hI  ) kyX11_fault tb_1118 tb_1106 tb_1107 0 rfl (eM_0 g kk _) rfl (Nat.le_of_ble_eq_true rfl) ⟨by decide, by decide⟩ dX11_note_18 rfl (fun vr ur hp => ?_)
      obtain ⟨r11, rfl, hu⟩ := hp
      replace hu := hu.symm
      subst hu
      refine j_if_lt C 27 (by decide) dX11_note_21 (fun c12 => ?_) (fun c12 => ?_)
      · refine j_aload_n C 0 rfl dX11_note_27 ?_
        refine j_V1 C (n_layAll g kk σ k hk hk6 hI hS ) kyX11_layAll tb_1119 tb_1121 sp_22 0 rfl (eM_0 g kk _) rfl (Nat.le_of_ble_eq_true rfl) ⟨by decide, by decide⟩ dX11_note_28 rfl (fun vr ur hp => ?_)
        obtain ⟨r17, rfl, w13, w14, w15, hu, g16⟩ := hp
        replace hu := hu.symm
        subst hu
        refine j_istore_n C [(2, .int r17), (0, .ref (g 0)), (1, .int (nI xn))] rfl (by decide) rfl dX11_note_31 ?_
        refine j_iload_n C 0 rfl dX11_note_32 ?_
        refine j_if_ge C 39 (by decide) dX11_note_33 (fun c18 => ?_) (fun c18 => ?_)
        · refine j_iconst C (nI 0) (by decide) dX11_note_39 ?_
          refine j_istore_n C [(3, .int (nI 0)), (2, .int r17), (0, .ref (g 0)), (1, .int (nI xn))] rfl (by decide) rfl dX11_note_40 ?_
          have L41 : ∀ (n41 : Nat) (d : Nat) (z41_F10 : Nat → Int32) (f11 : Nat → Int32) (z41_F12 : Nat → Int32) (i41_0 : d ≤ 28) (ha : al_ 168 27 f11) (hm41 : 28 - d < n41), J X 0 0 (cM g kk (sF (sF (sF (sF (sF (sF σ 10 z41_F10) 11 f11) 12 z41_F12) 13 w13) 14 w14) 15 w15)) [(3, .int (nI d)), (2, .int r17), (0, .ref (g 0)), (1, .int (nI xn))] 41 [] := by
            intro n41
            induction n41 with
            | zero => intro d z41_F10 f11 z41_F12 i41_0 ha hm; exact absurd hm (Nat.not_lt_zero _)
            | succ n41 ih41 =>
              intro d z41_F10 f11 z41_F12 i41_0 ha hm41
              refine j_iload_n C 0 rfl dX11_note_41 ?_
              refine j_bipush C (nI 28) (by decide) dX11_note_42 ?_
              refine j_icmp_geN C 101 (by decide) (by omega) (by omega) dX11_note_44 (fun c19 => ?_) (fun c19 => ?_)
              · refine j_aload_n C 2 rfl dX11_note_101 ?_
                refine j_iconst C (nI 0) (by decide) dX11_note_102 ?_
                refine pM_0_15 C tb_888 dX11_note_103 ?_
                refine j_iload_n C 1 rfl dX11_note_106 ?_
                exact j_iret C E (sI (sF (sF (sF (sF (sF (sF σ 10 z41_F10) 11 f11) 12 z41_F12) 13 w13) 14 w14) 15 w15) 15 (nI 0)) ⟨_, rfl, ⟨z41_F10, f11, z41_F12, w13, w14, w15, 0, rfl, g16, ha, (by omega)⟩⟩ rfl dX11_note_107
              · refine j_aload_n C 2 rfl dX11_note_47 ?_
                refine gM_0_16 C tb_889 dX11_note_48 ?_
                refine j_iload_n C 3 rfl dX11_note_51 ?_
                refine j_iload_n C 0 rfl dX11_note_52 ?_
                refine j_S01 C (m_at xn d) kyX11_at tb_1060 tb_1061 rfl (Nat.le_of_ble_eq_true rfl) ⟨by decide, by decide⟩ ⟨by decide, by decide⟩ dX11_note_53 rfl ?_
                refine j_aload_n C 2 rfl dX11_note_56 ?_
                refine gM_0_19 C tb_892 dX11_note_57 ?_
                refine j_iload_n C 0 rfl dX11_note_60 ?_
                refine rM_13 C d rfl (by omega) (w13 d) rfl dX11_note_61 ?_
                refine tM_10 C (28 * xn + d) rfl (by omega) dX11_note_62 ?_
                refine j_aload_n C 2 rfl dX11_note_63 ?_
                refine gM_0_17 C tb_890 dX11_note_64 ?_
                refine j_iload_n C 3 rfl dX11_note_67 ?_
                refine j_iload_n C 0 rfl dX11_note_68 ?_
                refine j_S01 C (m_at xn d) kyX11_at tb_1060 tb_1061 rfl (Nat.le_of_ble_eq_true rfl) ⟨by decide, by decide⟩ ⟨by decide, by decide⟩ dX11_note_69 rfl ?_
                refine j_aload_n C 2 rfl dX11_note_72 ?_
                refine gM_0_20 C tb_893 dX11_note_73 ?_
                refine j_iload_n C 0 rfl dX11_note_76 ?_
                obtain ⟨m20, hm20, em20⟩ := g16 d (by omega)
                refine rM_14 C d rfl (by omega) (nI m20) em20 dX11_note_77 ?_
                refine tM_11 C (28 * xn + d) rfl (by omega) dX11_note_78 ?_
                refine j_aload_n C 2 rfl dX11_note_79 ?_
                refine gM_0_18 C tb_891 dX11_note_80 ?_
                refine j_iload_n C 3 rfl dX11_note_83 ?_
                refine j_iload_n C 0 rfl dX11_note_84 ?_
                refine j_S01 C (m_at xn d) kyX11_at tb_1060 tb_1061 rfl (Nat.le_of_ble_eq_true rfl) ⟨by decide, by decide⟩ ⟨by decide, by decide⟩ dX11_note_85 rfl ?_
                refine j_aload_n C 2 rfl dX11_note_88 ?_
                refine gM_0_21 C tb_894 dX11_note_89 ?_
                refine j_iload_n C 0 rfl dX11_note_92 ?_
                refine rM_15 C d rfl (by omega) (w15 d) rfl dX11_note_93 ?_
                refine tM_12 C (28 * xn + d) rfl (by omega) dX11_note_94 ?_
                refine j_iinc C (nI (d + 1)) [(3, .int (nI (d + 1))), (2, .int r17), (0, .ref (g 0)), (1, .int (nI xn))] 0 rfl (by rw [show Int32.ofInt 1 = nI 1 from by decide, nI_add]) (by decide) rfl dX11_note_95 ?_
                refine j_goto C 41 (by decide) dX11_note_98 ?_
                refine j_w (cM g kk (sF (sF (sF (sF (sF (sF σ 10 (upd z41_F10 (28 * xn + d) (w13 d))) 11 (upd f11 (28 * xn + d) (nI m20))) 12 (upd z41_F12 (28 * xn + d) (w15 d))) 13 w13) 14 w14) 15 w15)) (congrArg (cM g kk) (show sF (sF (sF (sF (sF (sF (sF (sF (sF σ 10 z41_F10) 11 f11) 12 z41_F12) 13 w13) 14 w14) 15 w15) 10 (upd z41_F10 (28 * xn + d) (w13 d))) 11 (upd f11 (28 * xn + d) (nI m20))) 12 (upd z41_F12 (28 * xn + d) (w15 d)) = sF (sF (sF (sF (sF (sF σ 10 (upd z41_F10 (28 * xn + d) (w13 d))) 11 (upd f11 (28 * xn + d) (nI m20))) 12 (upd z41_F12 (28 * xn + d) (w15 d))) 13 w13) 14 w14) 15 w15 from (Eq.trans (wrF (Eq.trans (wrF (Eq.trans (wrFc (by decide)) (wrF (Eq.trans (wrFc (by decide)) (wrF (Eq.trans (wrFc (by decide)) (wrF (Eq.trans (wrFc (by decide)) (wrF (Eq.trans (wrFc (by decide)) (wrF wrFs))))))))))) (Eq.trans (wrFc (by decide)) (wrF (Eq.trans (wrFc (by decide)) (wrF (Eq.trans (wrFc (by decide)) (wrF (Eq.trans (wrFc (by decide)) (wrF wrFs)))))))))) (Eq.trans (wrFc (by decide)) (wrF (Eq.trans (wrFc (by decide)) (wrF (Eq.trans (wrFc (by decide)) (wrF wrFs))))))))) ?_
                exact ih41 (d + 1) (upd z41_F10 (28 * xn + d) (w13 d)) (upd f11 (28 * xn + d) (nI m20)) (upd z41_F12 (28 * xn + d) (w15 d)) (by omega) (al_upd ha ⟨_, by assumption, rfl⟩) (by omega)
          refine j_w (cM g kk (sF (sF (sF (sF σ 13 w13) 14 w14) 15 w15) 10 (σ.2.1 10))) (congrArg (cM g kk) (wrFi (S := (sF (sF (sF σ 13 w13) 14 w14) 15 w15)) (c := 10) (v := σ.2.1 10) (gtFF (by decide) (gtFF (by decide) (gtFF (by decide) rfl))))) ?_
          refine j_w (cM g kk (sF (sF (sF (sF (sF σ 13 w13) 14 w14) 15 w15) 10 (σ.2.1 10)) 11 (σ.2.1 11))) (congrArg (cM g kk) (wrFi (S := (sF (sF (sF (sF σ 13 w13) 14 w14) 15 w15) 10 (σ.2.1 10))) (c := 11) (v := σ.2.1 11) (gtFF (by decide) (gtFF (by decide) (gtFF (by decide) (gtFF (by decide) rfl)))))) ?_
          refine j_w (cM g kk (sF (sF (sF (sF (sF (sF σ 13 w13) 14 w14) 15 w15) 10 (σ.2.1 10)) 11 (σ.2.1 11)) 12 (σ.2.1 12))) (congrArg (cM g kk) (wrFi (S := (sF (sF (sF (sF (sF σ 13 w13) 14 w14) 15 w15) 10 (σ.2.1 10)) 11 (σ.2.1 11))) (c := 12) (v := σ.2.1 12) (gtFF (by decide) (gtFF (by decide) (gtFF (by decide) (gtFF (by decide) (gtFF (by decide) rfl))))))) ?_
          refine j_w (cM g kk (sF (sF (sF (sF (sF (sF σ 10 (σ.2.1 10)) 11 (σ.2.1 11)) 12 (σ.2.1 12)) 13 w13) 14 w14) 15 w15)) (congrArg (cM g kk) (show sF (sF (sF (sF (sF (sF σ 13 w13) 14 w14) 15 w15) 10 (σ.2.1 10)) 11 (σ.2.1 11)) 12 (σ.2.1 12) = sF (sF (sF (sF (sF (sF σ 10 (σ.2.1 10)) 11 (σ.2.1 11)) 12 (σ.2.1 12)) 13 w13) 14 w14) 15 w15 from (Eq.trans (wrF (Eq.trans (wrF (Eq.trans (wrFc (by decide)) (wrF (Eq.trans (wrFc (by decide)) (wrF (wrFc (by decide))))))) (Eq.trans (wrFc (by decide)) (wrF (Eq.trans (wrFc (by decide)) (wrF (wrFc (by decide)))))))) (Eq.trans (wrFc (by decide)) (wrF (Eq.trans (wrFc (by decide)) (wrF (wrFc (by decide))))))))) ?_
          exact L41 _ 0 (σ.2.1 10) (σ.2.1 11) (σ.2.1 12) (by omega) hI.fo (Nat.lt_succ_self _)
        · refine j_bipush C ((-5)) (by decide) dX11_note_36 ?_
          refine j_w (cM g kk (sI (sF (sF (sF σ 13 w13) 14 w14) 15 w15) 15 (nI n))) (congrArg (cM g kk) (sI_self (σ := (sF (sF (sF σ 13 w13) 14 w14) 15 w15)) (i := 15) (v := nI n) en).symm) ?_
          refine j_w (cM g kk (sF (sI (sF (sF (sF σ 13 w13) 14 w14) 15 w15) 15 (nI n)) 10 (σ.2.1 10))) (congrArg (cM g kk) (wrFi (S := (sI (sF (sF (sF σ 13 w13) 14 w14) 15 w15) 15 (nI n))) (c := 10) (v := σ.2.1 10) (gtFI (gtFF (by decide) (gtFF (by decide) (gtFF (by decide) rfl)))))) ?_
          refine j_w (cM g kk (sF (sF (sI (sF (sF (sF σ 13 w13) 14 w14) 15 w15) 15 (nI n)) 10 (σ.2.1 10)) 11 (σ.2.1 11))) (congrArg (cM g kk) (wrFi (S := (sF (sI (sF (sF (sF σ 13 w13) 14 w14) 15 w15) 15 (nI n)) 10 (σ.2.1 10))) (c := 11) (v := σ.2.1 11) (gtFF (by decide) (gtFI (gtFF (by decide) (gtFF (by decide) (gtFF (by decide) rfl))))))) ?_
          refine j_w (cM g kk (sF (sF (sF (sI (sF (sF (sF σ 13 w13) 14 w14) 15 w15) 15 (nI n)) 10 (σ.2.1 10)) 11 (σ.2.1 11)) 12 (σ.2.1 12))) (congrArg (cM g kk) (wrFi (S := (sF (sF (sI (sF (sF (sF σ 13 w13) 14 w14) 15 w15) 15 (nI n)) 10 (σ.2.1 10)) 11 (σ.2.1 11))) (c := 12) (v := σ.2.1 12) (gtFF (by decide) (gtFF (by decide) (gtFI (gtFF (by decide) (gtFF (by decide) (gtFF (by decide) rfl)))))))) ?_
          refine j_w (cM g kk (sI (sF (sF (sF (sF (sF (sF σ 10 (σ.2.1 10)) 11 (σ.2.1 11)) 12 (σ.2.1 12)) 13 w13) 14 w14) 15 w15) 15 (nI n))) (congrArg (cM g kk) (show sF (sF (sF (sI (sF (sF (sF σ 13 w13) 14 w14) 15 w15) 15 (nI n)) 10 (σ.2.1 10)) 11 (σ.2.1 11)) 12 (σ.2.1 12) = sI (sF (sF (sF (sF (sF (sF σ 10 (σ.2.1 10)) 11 (σ.2.1 11)) 12 (σ.2.1 12)) 13 w13) 14 w14) 15 w15) 15 (nI n) from (Eq.trans (wrF (Eq.trans (wrF (Eq.trans wrFI (wrI (Eq.trans (wrFc (by decide)) (wrF (Eq.trans (wrFc (by decide)) (wrF (wrFc (by decide))))))))) (Eq.trans wrFI (wrI (Eq.trans (wrFc (by decide)) (wrF (Eq.trans (wrFc (by decide)) (wrF (wrFc (by decide)))))))))) (Eq.trans wrFI (wrI (Eq.trans (wrFc (by decide)) (wrF (Eq.trans (wrFc (by decide)) (wrF (wrFc (by decide))))))))))) ?_
          exact j_iret C E (sI (sF (sF (sF (sF (sF (sF σ 10 (σ.2.1 10)) 11 (σ.2.1 11)) 12 (σ.2.1 12)) 13 w13) 14 w14) 15 w15) 15 (nI n)) ⟨_, rfl, ⟨(σ.2.1 10), (σ.2.1 11), (σ.2.1 12), w13, w14, w15, n, rfl, g16, hI.fo, (by omega)⟩⟩ rfl dX11_note_38
      · refine j_bipush C ((-5)) (by decide) dX11_note_24 ?_
        refine j_w (cM g kk (sI σ 15 (nI n))) (congrArg (cM g kk) (sI_self (σ := σ) (i := 15) (v := nI n) en).symm) ?_
        refine j_w (cM g kk (sF (sI σ 15 (nI n)) 10 (σ.2.1 10))) (congrArg (cM g kk) (wrFi (S := (sI σ 15 (nI n))) (c := 10) (v := σ.2.1 10) (gtFI rfl))) ?_
        refine j_w (cM g kk (sF (sF (sI σ 15 (nI n)) 10 (σ.2.1 10)) 11 (σ.2.1 11))) (congrArg (cM g kk) (wrFi (S := (sF (sI σ 15 (nI n)) 10 (σ.2.1 10))) (c := 11) (v := σ.2.1 11) (gtFF (by decide) (gtFI rfl)))) ?_
        refine j_w (cM g kk (sF (sF (sF (sI σ 15 (nI n)) 10 (σ.2.1 10)) 11 (σ.2.1 11)) 12 (σ.2.1 12))) (congrArg (cM g kk) (wrFi (S := (sF (sF (sI σ 15 (nI n)) 10 (σ.2.1 10)) 11 (σ.2.1 11))) (c := 12) (v := σ.2.1 12) (gtFF (by decide) (gtFF (by decide) (gtFI rfl))))) ?_
        refine j_w (cM g kk (sF (sF (sF (sF (sI σ 15 (nI n)) 10 (σ.2.1 10)) 11 (σ.2.1 11)) 12 (σ.2.1 12)) 13 (σ.2.1 13))) (congrArg (cM g kk) (wrFi (S := (sF (sF (sF (sI σ 15 (nI n)) 10 (σ.2.1 10)) 11 (σ.2.1 11)) 12 (σ.2.1 12))) (c := 13) (v := σ.2.1 13) (gtFF (by decide) (gtFF (by decide) (gtFF (by decide) (gtFI rfl)))))) ?_
        refine j_w (cM g kk (sF (sF (sF (sF (sF (sI σ 15 (nI n)) 10 (σ.2.1 10)) 11 (σ.2.1 11)) 12 (σ.2.1 12)) 13 (σ.2.1 13)) 14 (σ.2.1 14))) (congrArg (cM g kk) (wrFi (S := (sF (sF (sF (sF (sI σ 15 (nI n)) 10 (σ.2.1 10)) 11 (σ.2.1 11)) 12 (σ.2.1 12)) 13 (σ.2.1 13))) (c := 14) (v := σ.2.1 14) (gtFF (by decide) (gtFF (by decide) (gtFF (by decide) (gtFF (by decide) (gtFI rfl))))))) ?_
        refine j_w (cM g kk (sF (sF (sF (sF (sF (sF (sI σ 15 (nI n)) 10 (σ.2.1 10)) 11 (σ.2.1 11)) 12 (σ.2.1 12)) 13 (σ.2.1 13)) 14 (σ.2.1 14)) 15 (σ.2.1 15))) (congrArg (cM g kk) (wrFi (S := (sF (sF (sF (sF (sF (sI σ 15 (nI n)) 10 (σ.2.1 10)) 11 (σ.2.1 11)) 12 (σ.2.1 12)) 13 (σ.2.1 13)) 14 (σ.2.1 14))) (c := 15) (v := σ.2.1 15) (gtFF (by decide) (gtFF (by decide) (gtFF (by decide) (gtFF (by decide) (gtFF (by decide) (gtFI rfl)))))))) ?_
        refine j_w (cM g kk (sI (sF (sF (sF (sF (sF (sF σ 10 (σ.2.1 10)) 11 (σ.2.1 11)) 12 (σ.2.1 12)) 13 (σ.2.1 13)) 14 (σ.2.1 14)) 15 (σ.2.1 15)) 15 (nI n))) (congrArg (cM g kk) (show sF (sF (sF (sF (sF (sF (sI σ 15 (nI n)) 10 (σ.2.1 10)) 11 (σ.2.1 11)) 12 (σ.2.1 12)) 13 (σ.2.1 13)) 14 (σ.2.1 14)) 15 (σ.2.1 15) = sI (sF (sF (sF (sF (sF (sF σ 10 (σ.2.1 10)) 11 (σ.2.1 11)) 12 (σ.2.1 12)) 13 (σ.2.1 13)) 14 (σ.2.1 14)) 15 (σ.2.1 15)) 15 (nI n) from (Eq.trans (wrF (Eq.trans (wrF (Eq.trans (wrF (Eq.trans (wrF (Eq.trans (wrF wrFI) wrFI)) wrFI)) wrFI)) wrFI)) wrFI))) ?_
        exact j_iret C E (sI (sF (sF (sF (sF (sF (sF σ 10 (σ.2.1 10)) 11 (σ.2.1 11)) 12 (σ.2.1 12)) 13 (σ.2.1 13)) 14 (σ.2.1 14)) 15 (σ.2.1 15)) 15 (nI n)) ⟨_, rfl, ⟨(σ.2.1 10), (σ.2.1 11), (σ.2.1 12), (σ.2.1 13), (σ.2.1 14), (σ.2.1 15), n, rfl, hS, hI.fo, (by omega)⟩⟩ rfl dX11_note_26
  · replace c1 := bI_f c1
    refine j_iconst C ((-1)) (by decide) dX11_note_8 ?_
    refine j_w (cM g kk (sI σ 15 (nI n))) (congrArg (cM g kk) (sI_self (σ := σ) (i := 15) (v := nI n) en).symm) ?_
    refine j_w (cM g kk (sF (sI σ 15 (nI n)) 10 (σ.2.1 10))) (congrArg (cM g kk) (wrFi (S := (sI σ 15 (nI n))) (c := 10) (v := σ.2.1 10) (gtFI rfl))) ?_
    refine j_w (cM g kk (sF (sF (sI σ 15 (nI n)) 10 (σ.2.1 10)) 11 (σ.2.1 11))) (congrArg (cM g kk) (wrFi (S := (sF (sI σ 15 (nI n)) 10 (σ.2.1 10))) (c := 11) (v := σ.2.1 11) (gtFF (by decide) (gtFI rfl)))) ?_
    refine j_w (cM g kk (sF (sF (sF (sI σ 15 (nI n)) 10 (σ.2.1 10)) 11 (σ.2.1 11)) 12 (σ.2.1 12))) (congrArg (cM g kk) (wrFi (S := (sF (sF (sI σ 15 (nI n)) 10 (σ.2.1 10)) 11 (σ.2.1 11))) (c := 12) (v := σ.2.1 12) (gtFF (by decide) (gtFF (by decide) (gtFI rfl))))) ?_
    refine j_w (cM g kk (sF (sF (sF (sF (sI σ 15 (nI n)) 10 (σ.2.1 10)) 11 (σ.2.1 11)) 12 (σ.2.1 12)) 13 (σ.2.1 13))) (congrArg (cM g kk) (wrFi (S := (sF (sF (sF (sI σ 15 (nI n)) 10 (σ.2.1 10)) 11 (σ.2.1 11)) 12 (σ.2.1 12))) (c := 13) (v := σ.2.1 13) (gtFF (by decide) (gtFF (by decide) (gtFF (by decide) (gtFI rfl)))))) ?_
    refine j_w (cM g kk (sF (sF (sF (sF (sF (sI σ 15 (nI n)) 10 (σ.2.1 10)) 11 (σ.2.1 11)) 12 (σ.2.1 12)) 13 (σ.2.1 13)) 14 (σ.2.1 14))) (congrArg (cM g kk) (wrFi (S := (sF (sF (sF (sF (sI σ 15 (nI n)) 10 (σ.2.1 10)) 11 (σ.2.1 11)) 12 (σ.2.1 12)) 13 (σ.2.1 13))) (c := 14) (v := σ.2.1 14) (gtFF (by decide) (gtFF (by decide) (gtFF (by decide) (gtFF (by decide) (gtFI rfl))))))) ?_
    refine j_w (cM g kk (sF (sF (sF (sF (sF (sF (sI σ 15 (nI n)) 10 (σ.2.1 10)) 11 (σ.2.1 11)) 12 (σ.2.1 12)) 13 (σ.2.1 13)) 14 (σ.2.1 14)) 15 (σ.2.1 15))) (congrArg (cM g kk) (wrFi (S := (sF (sF (sF (sF (sF (sI σ 15 (nI n)) 10 (σ.2.1 10)) 11 (σ.2.1 11)) 12 (σ.2.1 12)) 13 (σ.2.1 13)) 14 (σ.2.1 14))) (c := 15) (v := σ.2.1 15) (gtFF (by decide) (gtFF (by decide) (gtFF (by decide) (gtFF (by decide) (gtFF (by decide) (gtFI rfl)))))))) ?_
    refine j_w (cM g kk (sI (sF (sF (sF (sF (sF (sF σ 10 (σ.2.1 10)) 11 (σ.2.1 11)) 12 (σ.2.1 12)) 13 (σ.2.1 13)) 14 (σ.2.1 14)) 15 (σ.2.1 15)) 15 (nI n))) (congrArg (cM g kk) (show sF (sF (sF (sF (sF (sF (sI σ 15 (nI n)) 10 (σ.2.1 10)) 11 (σ.2.1 11)) 12 (σ.2.1 12)) 13 (σ.2.1 13)) 14 (σ.2.1 14)) 15 (σ.2.1 15) = sI (sF (sF (sF (sF (sF (sF σ 10 (σ.2.1 10)) 11 (σ.2.1 11)) 12 (σ.2.1 12)) 13 (σ.2.1 13)) 14 (σ.2.1 14)) 15 (σ.2.1 15)) 15 (nI n) from (Eq.trans (wrF (Eq.trans (wrF (Eq.trans (wrF (Eq.trans (wrF (Eq.trans (wrF wrFI) wrFI)) wrFI)) wrFI)) wrFI)) wrFI))) ?_
    exact j_iret C E (sI (sF (sF (sF (sF (sF (sF σ 10 (σ.2.1 10)) 11 (σ.2.1 11)) 12 (σ.2.1 12)) 13 (σ.2.1 13)) 14 (σ.2.1 14)) 15 (σ.2.1 15)) 15 (nI n)) ⟨_, rfl, ⟨(σ.2.1 10), (σ.2.1 11), (σ.2.1 12), (σ.2.1 13), (σ.2.1 14), (σ.2.1 15), n, rfl, hS, hI.fo, (by omega)⟩⟩ rfl dX11_note_9
set_option maxRecDepth 100000 in
set_option maxHeartbeats 4000000 in
theorem n_fixed (g kk : Nat → Nat) (σ : St) (k : Nat) (hk : σ.1 3 = nI k) (hk6 : k ≤ 6) (hI : iM σ)  (c : Nat) (hc0 : c < 6) (d : Nat) (hd0 : d < 28) : jM (S := St) yX11_fixed cX11_fixed 5 (some .int) { frames := 1, cells := 0, slots := 0, locals := 21 } kk (cM g kk σ) [.ref (g 0), .int (nI c), .int (nI d)] (cM g kk) (rI (fun (r : Int32) (u : St) => u = σ)) := by
  refine j_entry [(0, .ref (g 0)), (1, .int (nI c)), (2, .int (nI d))] (by decide) (Nat.le_of_ble_eq_true rfl) rfl ?_
  intro X C E HI
  obtain ⟨n, hn, en⟩ := id hI.fc
  refine j_aload_n C 0 rfl dX11_fixed_0 ?_
  refine gM_0_5 C tb_878 dX11_fixed_1 ?_
  refine j_iload_n C 1 rfl dX11_fixed_4 ?_
  refine j_iload_n C 2 rfl dX11_fixed_5 ?_
  refine j_S01 C (m_at c d) kyX11_at tb_1060 tb_1061 rfl (Nat.le_of_ble_eq_true rfl) ⟨by decide, by decide⟩ ⟨by decide, by decide⟩ dX11_fixed_6 rfl ?_
  refine rM_5 C (28 * c + d) rfl (by omega) ((σ.2.1 5) (28 * c + d)) rfl dX11_fixed_9 ?_
  refine j_istore_n C [(3, .int ((σ.2.1 5) (28 * c + d))), (0, .ref (g 0)), (1, .int (nI c)), (2, .int (nI d))] rfl (by decide) rfl dX11_fixed_10 ?_
  refine j_iconst C (nI 0) (by decide) dX11_fixed_11 ?_
  refine j_istore C [(4, .int (nI 0)), (3, .int ((σ.2.1 5) (28 * c + d))), (0, .ref (g 0)), (1, .int (nI c)), (2, .int (nI d))] (by decide) rfl dX11_fixed_12 ?_
  have L14 : ∀ (n14 : Nat) (i : Nat) (y14_3 : Int32) (i14_0 : i ≤ n) (hm14 : n - i < n14), J X 0 0 (cM g kk σ) [(4, .int (nI i)), (3, .int y14_3), (0, .ref (g 0)), (1, .int (nI c)), (2, .int (nI d))] 14 [] := by
    intro n14
    induction n14 with
    | zero => intro i y14_3 i14_0 hm; exact absurd hm (Nat.not_lt_zero _)
    | succ n14 ih14 =>
      intro i y14_3 i14_0 hm14
      refine j_iload C 0 rfl dX11_fixed_14 ?_
      refine j_aload_n C 2 rfl dX11_fixed_16 ?_
      refine gM_0_9 C tb_882 (nI n) en dX11_fixed_17 ?_
      refine j_icmp_geN C 63 (by decide) (by omega) (by omega) dX11_fixed_20 (fun c1 => ?_) (fun c1 => ?_)
      · refine j_iload_n C 1 rfl dX11_fixed_63 ?_
        exact j_iret C E (σ) ⟨_, rfl, rfl⟩ rfl dX11_fixed_64
      · refine j_aload_n C 2 rfl dX11_fixed_23 ?_
        refine gM_0_6 C tb_879 dX11_fixed_24 ?_
        refine j_iload C 0 rfl dX11_fixed_27 ?_
        refine rM_6 C i rfl (by omega) ((σ.2.1 6) i) rfl dX11_fixed_29 ?_
        refine j_iload_n C 3 rfl dX11_fixed_30 ?_
        refine j_icmp_ne C 55 (by decide) dX11_fixed_31 (fun c2 => ?_) (fun c2 => ?_)
        · refine j_iload_n C 1 rfl dX11_fixed_55 ?_
          refine j_istore_n C [(3, .int y14_3), (4, .int (nI i)), (0, .ref (g 0)), (1, .int (nI c)), (2, .int (nI d))] rfl (by decide) rfl dX11_fixed_56 ?_
          refine j_iinc C (nI (i + 1)) [(4, .int (nI (i + 1))), (3, .int y14_3), (0, .ref (g 0)), (1, .int (nI c)), (2, .int (nI d))] 1 rfl (by rw [show Int32.ofInt 1 = nI 1 from by decide, nI_add]) (by decide) rfl dX11_fixed_57 ?_
          refine j_goto C 14 (by decide) dX11_fixed_60 ?_
          exact ih14 (i + 1) y14_3 (by omega) (by omega)
        · refine j_aload_n C 2 rfl dX11_fixed_34 ?_
          refine gM_0_7 C tb_880 dX11_fixed_35 ?_
          refine j_iload C 0 rfl dX11_fixed_38 ?_
          refine rM_7 C i rfl (by omega) ((σ.2.1 7) i) rfl dX11_fixed_40 ?_
          refine j_iload_n C 4 rfl dX11_fixed_41 ?_
          refine j_icmp_ne C 55 (by decide) dX11_fixed_42 (fun c3 => ?_) (fun c3 => ?_)
          · refine j_iload_n C 1 rfl dX11_fixed_55 ?_
            refine j_istore_n C [(3, .int y14_3), (4, .int (nI i)), (0, .ref (g 0)), (1, .int (nI c)), (2, .int (nI d))] rfl (by decide) rfl dX11_fixed_56 ?_
            refine j_iinc C (nI (i + 1)) [(4, .int (nI (i + 1))), (3, .int y14_3), (0, .ref (g 0)), (1, .int (nI c)), (2, .int (nI d))] 1 rfl (by rw [show Int32.ofInt 1 = nI 1 from by decide, nI_add]) (by decide) rfl dX11_fixed_57 ?_
            refine j_goto C 14 (by decide) dX11_fixed_60 ?_
            exact ih14 (i + 1) y14_3 (by omega) (by omega)
          · refine j_aload_n C 2 rfl dX11_fixed_45 ?_
            refine gM_0_8 C tb_881 dX11_fixed_46 ?_
            refine j_iload C 0 rfl dX11_fixed_49 ?_
            refine rM_8 C i rfl (by omega) ((σ.2.1 8) i) rfl dX11_fixed_51 ?_
            refine j_goto C 56 (by decide) dX11_fixed_52 ?_
            refine j_istore_n C [(3, .int ((σ.2.1 8) i)), (4, .int (nI i)), (0, .ref (g 0)), (1, .int (nI c)), (2, .int (nI d))] rfl (by decide) rfl dX11_fixed_56 ?_
            refine j_iinc C (nI (i + 1)) [(4, .int (nI (i + 1))), (3, .int ((σ.2.1 8) i)), (0, .ref (g 0)), (1, .int (nI c)), (2, .int (nI d))] 1 rfl (by rw [show Int32.ofInt 1 = nI 1 from by decide, nI_add]) (by decide) rfl dX11_fixed_57 ?_
            refine j_goto C 14 (by decide) dX11_fixed_60 ?_
            exact ih14 (i + 1) ((σ.2.1 8) i) (by omega) (by omega)
  exact L14 _ 0 ((σ.2.1 5) (28 * c + d)) (by omega) (Nat.lt_succ_self _)
set_option maxRecDepth 100000 in
set_option maxHeartbeats 4000000 in
theorem n_readOf (g kk : Nat → Nat) (σ : St) (k : Nat) (hk : σ.1 3 = nI k) (hk6 : k ≤ 6) (hI : iM σ)  (c : Nat) (hc0 : c < 6) (d : Nat) (hd0 : d < 28) : jM (S := St) yX11_readOf cX11_readOf 4 (some .int) { frames := 2, cells := 0, slots := 0, locals := 45 } kk (cM g kk σ) [.ref (g 0), .int (nI c), .int (nI d)] (cM g kk) (rI (fun (r : Int32) (u : St) => u = σ)) := by
  refine j_entry [(0, .ref (g 0)), (1, .int (nI c)), (2, .int (nI d))] (by decide) (Nat.le_of_ble_eq_true rfl) rfl ?_
  intro X C E HI
  refine j_aload_n C 0 rfl dX11_readOf_0 ?_
  refine gM_0_16 C tb_889 dX11_readOf_1 ?_
  refine j_iload_n C 1 rfl dX11_readOf_4 ?_
  refine j_iload_n C 2 rfl dX11_readOf_5 ?_
  refine j_S01 C (m_at c d) kyX11_at tb_1060 tb_1061 rfl (Nat.le_of_ble_eq_true rfl) ⟨by decide, by decide⟩ ⟨by decide, by decide⟩ dX11_readOf_6 rfl ?_
  refine rM_10 C (28 * c + d) rfl (by omega) ((σ.2.1 10) (28 * c + d)) rfl dX11_readOf_9 ?_
  refine j_istore_n C [(3, .int ((σ.2.1 10) (28 * c + d))), (0, .ref (g 0)), (1, .int (nI c)), (2, .int (nI d))] rfl (by decide) rfl dX11_readOf_10 ?_
  refine j_iload_n C 0 rfl dX11_readOf_11 ?_
  refine j_iconst C (nI 1) (by decide) dX11_readOf_12 ?_
  refine j_icmp_eq C 35 (by decide) dX11_readOf_13 (fun c1 => ?_) (fun c1 => ?_)
  · refine j_bipush C ((-6)) (by decide) dX11_readOf_35 ?_
    exact j_iret C E (σ) ⟨_, rfl, rfl⟩ rfl dX11_readOf_37
  · refine j_iload_n C 0 rfl dX11_readOf_16 ?_
    refine j_iconst C (nI 3) (by decide) dX11_readOf_17 ?_
    refine j_icmp_ne C 38 (by decide) dX11_readOf_18 (fun c2 => ?_) (fun c2 => ?_)
    · refine j_iload_n C 3 rfl dX11_readOf_38 ?_
      refine j_bipush C (nI 27) (by decide) dX11_readOf_39 ?_
      refine j_icmp_geN C 69 (by decide) (by omega) (by omega) dX11_readOf_41 (fun c3 => ?_) (fun c3 => ?_)
      · refine j_iload_n C 0 rfl dX11_readOf_69 ?_
        refine j_iconst C (nI 2) (by decide) dX11_readOf_70 ?_
        refine j_icmp_ne C 79 (by decide) dX11_readOf_71 (fun c4 => ?_) (fun c4 => ?_)
        · refine j_aload_n C 1 rfl dX11_readOf_79 ?_
          refine j_iload_n C 2 rfl dX11_readOf_80 ?_
          refine j_iload_n C 3 rfl dX11_readOf_81 ?_
          refine j_V1 C (n_fixed g kk σ k hk hk6 hI  c (by first | assumption | omega) d (by first | assumption | omega)) kyX11_fixed tb_1143 tb_1145 sp_27 0 rfl (eM_0 g kk _) rfl (Nat.le_of_ble_eq_true rfl) ⟨by decide, by decide⟩ dX11_readOf_82 rfl (fun vr ur hp => ?_)
          obtain ⟨r5, rfl, hu⟩ := hp
          replace hu := hu.symm
          subst hu
          exact j_iret C E (σ) ⟨_, rfl, rfl⟩ rfl dX11_readOf_85
        · refine j_bipush C ((-6)) (by decide) dX11_readOf_74 ?_
          refine j_goto C 85 (by decide) dX11_readOf_76 ?_
          exact j_iret C E (σ) ⟨_, rfl, rfl⟩ rfl dX11_readOf_85
      · refine j_aload_n C 1 rfl dX11_readOf_44 ?_
        refine gM_0_16 C tb_889 dX11_readOf_45 ?_
        refine j_iload_n C 2 rfl dX11_readOf_48 ?_
        refine j_iload_n C 3 rfl dX11_readOf_49 ?_
        refine j_iconst C (nI 1) (by decide) dX11_readOf_50 ?_
        refine j_iaddN C dX11_readOf_51 ?_
        refine j_S01 C (m_at c (d + 1)) kyX11_at tb_1060 tb_1061 rfl (Nat.le_of_ble_eq_true rfl) ⟨by decide, by decide⟩ ⟨by decide, by decide⟩ dX11_readOf_52 rfl ?_
        refine rM_10 C (28 * c + (d + 1)) rfl (by omega) ((σ.2.1 10) (28 * c + (d + 1))) rfl dX11_readOf_55 ?_
        refine j_iconst C (nI 2) (by decide) dX11_readOf_56 ?_
        refine j_icmp_ne C 69 (by decide) dX11_readOf_57 (fun c6 => ?_) (fun c6 => ?_)
        · refine j_iload_n C 0 rfl dX11_readOf_69 ?_
          refine j_iconst C (nI 2) (by decide) dX11_readOf_70 ?_
          refine j_icmp_ne C 79 (by decide) dX11_readOf_71 (fun c7 => ?_) (fun c7 => ?_)
          · refine j_aload_n C 1 rfl dX11_readOf_79 ?_
            refine j_iload_n C 2 rfl dX11_readOf_80 ?_
            refine j_iload_n C 3 rfl dX11_readOf_81 ?_
            refine j_V1 C (n_fixed g kk σ k hk hk6 hI  c (by first | assumption | omega) d (by first | assumption | omega)) kyX11_fixed tb_1143 tb_1145 sp_27 0 rfl (eM_0 g kk _) rfl (Nat.le_of_ble_eq_true rfl) ⟨by decide, by decide⟩ dX11_readOf_82 rfl (fun vr ur hp => ?_)
            obtain ⟨r8, rfl, hu⟩ := hp
            replace hu := hu.symm
            subst hu
            exact j_iret C E (σ) ⟨_, rfl, rfl⟩ rfl dX11_readOf_85
          · refine j_bipush C ((-6)) (by decide) dX11_readOf_74 ?_
            refine j_goto C 85 (by decide) dX11_readOf_76 ?_
            exact j_iret C E (σ) ⟨_, rfl, rfl⟩ rfl dX11_readOf_85
        · refine j_aload_n C 1 rfl dX11_readOf_60 ?_
          refine j_iload_n C 2 rfl dX11_readOf_61 ?_
          refine j_iload_n C 3 rfl dX11_readOf_62 ?_
          refine j_iconst C (nI 1) (by decide) dX11_readOf_63 ?_
          refine j_iaddN C dX11_readOf_64 ?_
          refine j_V1 C (n_fixed g kk σ k hk hk6 hI  c (by first | assumption | omega) (d + 1) (by first | assumption | omega)) kyX11_fixed tb_1143 tb_1145 sp_27 0 rfl (eM_0 g kk _) rfl (Nat.le_of_ble_eq_true rfl) ⟨by decide, by decide⟩ dX11_readOf_65 rfl (fun vr ur hp => ?_)
          obtain ⟨r9, rfl, hu⟩ := hp
          replace hu := hu.symm
          subst hu
          exact j_iret C E (σ) ⟨_, rfl, rfl⟩ rfl dX11_readOf_68
    · refine j_aload_n C 1 rfl dX11_readOf_21 ?_
      refine gM_0_18 C tb_891 dX11_readOf_22 ?_
      refine j_iload_n C 2 rfl dX11_readOf_25 ?_
      refine j_iload_n C 3 rfl dX11_readOf_26 ?_
      refine j_S01 C (m_at c d) kyX11_at tb_1060 tb_1061 rfl (Nat.le_of_ble_eq_true rfl) ⟨by decide, by decide⟩ ⟨by decide, by decide⟩ dX11_readOf_27 rfl ?_
      refine rM_12 C (28 * c + d) rfl (by omega) ((σ.2.1 12) (28 * c + d)) rfl dX11_readOf_30 ?_
      refine j_iload_n C 3 rfl dX11_readOf_31 ?_
      refine j_icmp_eq C 38 (by decide) dX11_readOf_32 (fun c10 => ?_) (fun c10 => ?_)
      · refine j_iload_n C 3 rfl dX11_readOf_38 ?_
        refine j_bipush C (nI 27) (by decide) dX11_readOf_39 ?_
        refine j_icmp_geN C 69 (by decide) (by omega) (by omega) dX11_readOf_41 (fun c11 => ?_) (fun c11 => ?_)
        · refine j_iload_n C 0 rfl dX11_readOf_69 ?_
          refine j_iconst C (nI 2) (by decide) dX11_readOf_70 ?_
          refine j_icmp_ne C 79 (by decide) dX11_readOf_71 (fun c12 => ?_) (fun c12 => ?_)
          · refine j_aload_n C 1 rfl dX11_readOf_79 ?_
            refine j_iload_n C 2 rfl dX11_readOf_80 ?_
            refine j_iload_n C 3 rfl dX11_readOf_81 ?_
            refine j_V1 C (n_fixed g kk σ k hk hk6 hI  c (by first | assumption | omega) d (by first | assumption | omega)) kyX11_fixed tb_1143 tb_1145 sp_27 0 rfl (eM_0 g kk _) rfl (Nat.le_of_ble_eq_true rfl) ⟨by decide, by decide⟩ dX11_readOf_82 rfl (fun vr ur hp => ?_)
            obtain ⟨r13, rfl, hu⟩ := hp
            replace hu := hu.symm
            subst hu
            exact j_iret C E (σ) ⟨_, rfl, rfl⟩ rfl dX11_readOf_85
          · refine j_bipush C ((-6)) (by decide) dX11_readOf_74 ?_
            refine j_goto C 85 (by decide) dX11_readOf_76 ?_
            exact j_iret C E (σ) ⟨_, rfl, rfl⟩ rfl dX11_readOf_85
        · refine j_aload_n C 1 rfl dX11_readOf_44 ?_
          refine gM_0_16 C tb_889 dX11_readOf_45 ?_
          refine j_iload_n C 2 rfl dX11_readOf_48 ?_
          refine j_iload_n C 3 rfl dX11_readOf_49 ?_
          refine j_iconst C (nI 1) (by decide) dX11_readOf_50 ?_
          refine j_iaddN C dX11_readOf_51 ?_
          refine j_S01 C (m_at c (d + 1)) kyX11_at tb_1060 tb_1061 rfl (Nat.le_of_ble_eq_true rfl) ⟨by decide, by decide⟩ ⟨by decide, by decide⟩ dX11_readOf_52 rfl ?_
          refine rM_10 C (28 * c + (d + 1)) rfl (by omega) ((σ.2.1 10) (28 * c + (d + 1))) rfl dX11_readOf_55 ?_
          refine j_iconst C (nI 2) (by decide) dX11_readOf_56 ?_
          refine j_icmp_ne C 69 (by decide) dX11_readOf_57 (fun c14 => ?_) (fun c14 => ?_)
          · refine j_iload_n C 0 rfl dX11_readOf_69 ?_
            refine j_iconst C (nI 2) (by decide) dX11_readOf_70 ?_
            refine j_icmp_ne C 79 (by decide) dX11_readOf_71 (fun c15 => ?_) (fun c15 => ?_)
            · refine j_aload_n C 1 rfl dX11_readOf_79 ?_
              refine j_iload_n C 2 rfl dX11_readOf_80 ?_
              refine j_iload_n C 3 rfl dX11_readOf_81 ?_
              refine j_V1 C (n_fixed g kk σ k hk hk6 hI  c (by first | assumption | omega) d (by first | assumption | omega)) kyX11_fixed tb_1143 tb_1145 sp_27 0 rfl (eM_0 g kk _) rfl (Nat.le_of_ble_eq_true rfl) ⟨by decide, by decide⟩ dX11_readOf_82 rfl (fun vr ur hp => ?_)
              obtain ⟨r16, rfl, hu⟩ := hp
              replace hu := hu.symm
              subst hu
              exact j_iret C E (σ) ⟨_, rfl, rfl⟩ rfl dX11_readOf_85
            · refine j_bipush C ((-6)) (by decide) dX11_readOf_74 ?_
              refine j_goto C 85 (by decide) dX11_readOf_76 ?_
              exact j_iret C E (σ) ⟨_, rfl, rfl⟩ rfl dX11_readOf_85
          · refine j_aload_n C 1 rfl dX11_readOf_60 ?_
            refine j_iload_n C 2 rfl dX11_readOf_61 ?_
            refine j_iload_n C 3 rfl dX11_readOf_62 ?_
            refine j_iconst C (nI 1) (by decide) dX11_readOf_63 ?_
            refine j_iaddN C dX11_readOf_64 ?_
            refine j_V1 C (n_fixed g kk σ k hk hk6 hI  c (by first | assumption | omega) (d + 1) (by first | assumption | omega)) kyX11_fixed tb_1143 tb_1145 sp_27 0 rfl (eM_0 g kk _) rfl (Nat.le_of_ble_eq_true rfl) ⟨by decide, by decide⟩ dX11_readOf_65 rfl (fun vr ur hp => ?_)
            obtain ⟨r17, rfl, hu⟩ := hp
            replace hu := hu.symm
            subst hu
            exact j_iret C E (σ) ⟨_, rfl, rfl⟩ rfl dX11_readOf_68
      · refine j_bipush C ((-6)) (by decide) dX11_readOf_35 ?_
        exact j_iret C E (σ) ⟨_, rfl, rfl⟩ rfl dX11_readOf_37
set_option maxRecDepth 100000 in
set_option maxHeartbeats 4000000 in
theorem n_caught (g kk : Nat → Nat) (σ : St) (k : Nat) (hk : σ.1 3 = nI k) (hk6 : k ≤ 6) (hI : iM σ)  (c : Nat) (hc0 : c < 6) (d : Nat) (hd0 : d < 28) : jM (S := St) yX11_caught cX11_caught 4 (some .int) { frames := 3, cells := 0, slots := 0, locals := 68 } kk (cM g kk σ) [.ref (g 0), .int (nI c), .int (nI d)] (cM g kk) (rI (fun (r : Int32) (u : St) => u = σ)) := by
  refine j_entry [(0, .ref (g 0)), (1, .int (nI c)), (2, .int (nI d))] (by decide) (Nat.le_of_ble_eq_true rfl) rfl ?_
  intro X C E HI
  refine j_aload_n C 0 rfl dX11_caught_0 ?_
  refine j_iload_n C 1 rfl dX11_caught_1 ?_
  refine j_iload_n C 2 rfl dX11_caught_2 ?_
  refine j_V1 C (n_readOf g kk σ k hk hk6 hI  c (by first | assumption | omega) d (by first | assumption | omega)) kyX11_readOf tb_1139 tb_1141 sp_26 0 rfl (eM_0 g kk _) rfl (Nat.le_of_ble_eq_true rfl) ⟨by decide, by decide⟩ dX11_caught_3 rfl (fun vr ur hp => ?_)
  obtain ⟨r1, rfl, hu⟩ := hp
  replace hu := hu.symm
  subst hu
  refine j_istore_n C [(3, .int r1), (0, .ref (g 0)), (1, .int (nI c)), (2, .int (nI d))] rfl (by decide) rfl dX11_caught_6 ?_
  refine j_iload_n C 0 rfl dX11_caught_7 ?_
  refine j_if_ge C 16 (by decide) dX11_caught_8 (fun c2 => ?_) (fun c2 => ?_)
  · refine j_iload_n C 0 rfl dX11_caught_16 ?_
    refine j_bipush C (nI 10) (by decide) dX11_caught_17 ?_
    refine j_imul C dX11_caught_19 ?_
    refine j_bipush C (nI 10) (by decide) dX11_caught_20 ?_
    refine j_aload_n C 1 rfl dX11_caught_22 ?_
    refine gM_0_2 C tb_875 dX11_caught_23 ?_
    refine j_iconst C (nI 3) (by decide) dX11_caught_26 ?_
    refine j_iload_n C 2 rfl dX11_caught_27 ?_
    refine j_imulN C dX11_caught_28 ?_
    refine j_aload_n C 1 rfl dX11_caught_29 ?_
    refine gM_0_4 C tb_877 dX11_caught_30 ?_
    refine j_iload_n C 3 rfl dX11_caught_33 ?_
    obtain ⟨m3, hm3, em3⟩ := hI.wind d (by omega)
    refine rM_4 C d rfl (by omega) (nI m3) em3 dX11_caught_34 ?_
    refine j_iaddN C dX11_caught_35 ?_
    obtain ⟨m4, hm4, em4⟩ := hI.miss ((3 * c) + m3) (by omega)
    refine rM_3 C ((3 * c) + m3) rfl (by omega) (nI m4) em4 dX11_caught_36 ?_
    refine j_isubN C (by omega) dX11_caught_37 ?_
    refine j_idiv C (by first | decide | assumption | exact nI_ne0 (by omega) (by omega) | exact i64ne (by assumption) | exact i64ne (nI_ne0 (by omega) (by omega))) dX11_caught_38 ?_
    refine j_top (fun v5 => ?_)
    exact j_iret C E (σ) ⟨_, rfl, rfl⟩ rfl dX11_caught_39
  · refine j_bipush C ((-6)) (by decide) dX11_caught_11 ?_
    refine j_goto C 39 (by decide) dX11_caught_13 ?_
    exact j_iret C E (σ) ⟨_, rfl, rfl⟩ rfl dX11_caught_39
set_option maxRecDepth 100000 in
set_option maxHeartbeats 4000000 in
theorem n_areNear (g kk : Nat → Nat) (σ : St) (k : Nat) (hk : σ.1 3 = nI k) (hk6 : k ≤ 6) (hI : iM σ)  (c : Nat) (hc0 : c < 6) (d : Nat) (hd0 : d < 6) : jM (S := St) yX11_areNear cX11_areNear 3 (some .boolean) { frames := 1, cells := 0, slots := 0, locals := 21 } kk (cM g kk σ) [.ref (g 0), .int (nI c), .int (nI d)] (cM g kk) (rI (fun (r : Int32) (u : St) => u = σ)) := by
  refine j_entry [(0, .ref (g 0)), (1, .int (nI c)), (2, .int (nI d))] (by decide) (Nat.le_of_ble_eq_true rfl) rfl ?_
  intro X C E HI
  refine j_iload_n C 1 rfl dX11_areNear_0 ?_
  refine j_iload_n C 2 rfl dX11_areNear_1 ?_
  refine j_icmp_eqN C 47 (by decide) (by omega) (by omega) dX11_areNear_2 (fun c1 => ?_) (fun c1 => ?_)
  · refine j_iconst C (nI 0) (by decide) dX11_areNear_47 ?_
    exact j_zret C E (by first | rfl | decide) (σ) ⟨_, rfl, rfl⟩ rfl dX11_areNear_48
  · refine j_aload_n C 0 rfl dX11_areNear_5 ?_
    refine gM_0_0 C tb_873 dX11_areNear_6 ?_
    refine j_iload_n C 1 rfl dX11_areNear_9 ?_
    refine rM_1 C c rfl (by omega) ((σ.2.1 1) c) rfl dX11_areNear_10 ?_
    refine j_aload_n C 0 rfl dX11_areNear_11 ?_
    refine gM_0_0 C tb_873 dX11_areNear_12 ?_
    refine j_iload_n C 2 rfl dX11_areNear_15 ?_
    refine rM_1 C d rfl (by omega) ((σ.2.1 1) d) rfl dX11_areNear_16 ?_
    refine j_S01 C (m_off ((σ.2.1 1) c) ((σ.2.1 1) d)) kyX11_off tb_1155 tb_1156 rfl (Nat.le_of_ble_eq_true rfl) ⟨by decide, by decide⟩ ⟨by decide, by decide⟩ dX11_areNear_17 rfl ?_
    refine j_top (fun v2 => ?_)
    refine j_aload_n C 0 rfl dX11_areNear_20 ?_
    refine gM_0_1 C tb_874 dX11_areNear_21 ?_
    refine j_iload_n C 1 rfl dX11_areNear_24 ?_
    refine rM_2 C c rfl (by omega) ((σ.2.1 2) c) rfl dX11_areNear_25 ?_
    refine j_aload_n C 0 rfl dX11_areNear_26 ?_
    refine gM_0_1 C tb_874 dX11_areNear_27 ?_
    refine j_iload_n C 2 rfl dX11_areNear_30 ?_
    refine rM_2 C d rfl (by omega) ((σ.2.1 2) d) rfl dX11_areNear_31 ?_
    refine j_S01 C (m_off ((σ.2.1 2) c) ((σ.2.1 2) d)) kyX11_off tb_1155 tb_1156 rfl (Nat.le_of_ble_eq_true rfl) ⟨by decide, by decide⟩ ⟨by decide, by decide⟩ dX11_areNear_32 rfl ?_
    refine j_top (fun v3 => ?_)
    refine j_iadd C dX11_areNear_35 ?_
    refine j_aload_n C 0 rfl dX11_areNear_36 ?_
    refine gM_0_10 C tb_883 (σ.1 10) rfl dX11_areNear_37 ?_
    refine j_icmp_gt C 47 (by decide) dX11_areNear_40 (fun c4 => ?_) (fun c4 => ?_)
    · refine j_iconst C (nI 0) (by decide) dX11_areNear_47 ?_
      exact j_zret C E (by first | rfl | decide) (σ) ⟨_, rfl, rfl⟩ rfl dX11_areNear_48
    · refine j_iconst C (nI 1) (by decide) dX11_areNear_43 ?_
      refine j_goto C 48 (by decide) dX11_areNear_44 ?_
      exact j_zret C E (by first | rfl | decide) (σ) ⟨_, rfl, rfl⟩ rfl dX11_areNear_48
set_option maxRecDepth 100000 in
set_option maxHeartbeats 4000000 in
theorem n_expectOf (g kk : Nat → Nat) (σ : St) (k : Nat) (hk : σ.1 3 = nI k) (hk6 : k ≤ 6) (hI : iM σ)  (c : Nat) (hc0 : c < 6) (d : Nat) (hd0 : d < 28) : jM (S := St) yX11_expectOf cX11_expectOf 7 (some .int) { frames := 2, cells := 0, slots := 0, locals := 43 } kk (cM g kk σ) [.ref (g 0), .int (nI c), .int (nI d)] (cM g kk) (rI (fun (r : Int32) (u : St) => u = σ)) := by
  refine j_entry [(0, .ref (g 0)), (1, .int (nI c)), (2, .int (nI d))] (by decide) (Nat.le_of_ble_eq_true rfl) rfl ?_
  intro X C E HI
  refine j_iconst C (nI 0) (by decide) dX11_expectOf_0 ?_
  refine j_istore_n C [(3, .int (nI 0)), (0, .ref (g 0)), (1, .int (nI c)), (2, .int (nI d))] rfl (by decide) rfl dX11_expectOf_1 ?_
  refine j_iconst C (nI 0) (by decide) dX11_expectOf_2 ?_
  refine j_istore C [(4, .int (nI 0)), (3, .int (nI 0)), (0, .ref (g 0)), (1, .int (nI c)), (2, .int (nI d))] (by decide) rfl dX11_expectOf_3 ?_
  refine j_iconst C (nI 0) (by decide) dX11_expectOf_5 ?_
  refine j_istore C [(5, .int (nI 0)), (4, .int (nI 0)), (3, .int (nI 0)), (0, .ref (g 0)), (1, .int (nI c)), (2, .int (nI d))] (by decide) rfl dX11_expectOf_6 ?_
  have L8 : ∀ (n8 : Nat) (e : Nat) (y8_4 : Int32) (y8_3 : Int32) (i8_0 : e ≤ k) (hm8 : k - e < n8), J X 0 0 (cM g kk σ) [(5, .int (nI e)), (4, .int y8_4), (3, .int y8_3), (0, .ref (g 0)), (1, .int (nI c)), (2, .int (nI d))] 8 [] := by
    intro n8
    induction n8 with
    | zero => intro e y8_4 y8_3 i8_0 hm; exact absurd hm (Nat.not_lt_zero _)
    | succ n8 ih8 =>
      intro e y8_4 y8_3 i8_0 hm8
      refine j_iload C 0 rfl dX11_expectOf_8 ?_
      refine j_aload_n C 3 rfl dX11_expectOf_10 ?_
      refine gM_0_3 C tb_876 (nI k) hk dX11_expectOf_11 ?_
      refine j_icmp_geN C 59 (by decide) (by omega) (by omega) dX11_expectOf_14 (fun c1 => ?_) (fun c1 => ?_)
      · refine j_iload C 1 rfl dX11_expectOf_59 ?_
        refine j_if_ne C 69 (by decide) dX11_expectOf_61 (fun c2 => ?_) (fun c2 => ?_)
        · refine j_iload_n C 2 rfl dX11_expectOf_69 ?_
          refine j_iload C 1 rfl dX11_expectOf_70 ?_
          refine j_idiv C (by first | decide | assumption | exact nI_ne0 (by omega) (by omega) | exact i64ne (by assumption) | exact i64ne (nI_ne0 (by omega) (by omega))) dX11_expectOf_72 ?_
          exact j_iret C E (σ) ⟨_, rfl, rfl⟩ rfl dX11_expectOf_73
        · refine j_bipush C ((-6)) (by decide) dX11_expectOf_64 ?_
          refine j_goto C 73 (by decide) dX11_expectOf_66 ?_
          exact j_iret C E (σ) ⟨_, rfl, rfl⟩ rfl dX11_expectOf_73
      · refine j_aload_n C 3 rfl dX11_expectOf_17 ?_
        refine gM_0_22 C tb_895 dX11_expectOf_18 ?_
        refine j_iload C 0 rfl dX11_expectOf_21 ?_
        refine j_iload_n C 5 rfl dX11_expectOf_23 ?_
        refine j_S01 C (m_at e d) kyX11_at tb_1060 tb_1061 rfl (Nat.le_of_ble_eq_true rfl) ⟨by decide, by decide⟩ ⟨by decide, by decide⟩ dX11_expectOf_24 rfl ?_
        refine rM_16 C (28 * e + d) rfl (by omega) ((σ.2.1 16) (28 * e + d)) rfl dX11_expectOf_27 ?_
        refine j_istore C [(6, .int ((σ.2.1 16) (28 * e + d))), (5, .int (nI e)), (4, .int y8_4), (3, .int y8_3), (0, .ref (g 0)), (1, .int (nI c)), (2, .int (nI d))] (by decide) rfl dX11_expectOf_28 ?_
        refine j_aload_n C 4 rfl dX11_expectOf_30 ?_
        refine j_iload_n C 5 rfl dX11_expectOf_31 ?_
        refine j_iload C 1 rfl dX11_expectOf_32 ?_
        refine j_V1 C (n_areNear g kk σ k hk hk6 hI  c (by first | assumption | omega) e (by first | assumption | omega)) kyX11_areNear tb_1151 tb_1153 sp_29 0 rfl (eM_0 g kk _) rfl (Nat.le_of_ble_eq_true rfl) ⟨by decide, by decide⟩ dX11_expectOf_34 rfl (fun vr ur hp => ?_)
        obtain ⟨r3, rfl, hu⟩ := hp
        replace hu := hu.symm
        subst hu
        refine j_if_eq C 53 (by decide) dX11_expectOf_37 (fun c4 => ?_) (fun c4 => ?_)
        · refine j_iinc C (nI (e + 1)) [(5, .int (nI (e + 1))), (6, .int ((σ.2.1 16) (28 * e + d))), (4, .int y8_4), (3, .int y8_3), (0, .ref (g 0)), (1, .int (nI c)), (2, .int (nI d))] 1 rfl (by rw [show Int32.ofInt 1 = nI 1 from by decide, nI_add]) (by decide) rfl dX11_expectOf_53 ?_
          refine j_goto C 8 (by decide) dX11_expectOf_56 ?_
          refine j_sub (lv' := [(5, .int (nI (e + 1))), (4, .int y8_4), (3, .int y8_3), (0, .ref (g 0)), (1, .int (nI c)), (2, .int (nI d))]) [0, 2, 3, 4, 5, 6] rfl ?_
          exact ih8 (e + 1) y8_4 y8_3 (by omega) (by omega)
        · refine j_iload C 0 rfl dX11_expectOf_40 ?_
          refine j_if_lt C 53 (by decide) dX11_expectOf_42 (fun c5 => ?_) (fun c5 => ?_)
          · refine j_iinc C (nI (e + 1)) [(5, .int (nI (e + 1))), (6, .int ((σ.2.1 16) (28 * e + d))), (4, .int y8_4), (3, .int y8_3), (0, .ref (g 0)), (1, .int (nI c)), (2, .int (nI d))] 1 rfl (by rw [show Int32.ofInt 1 = nI 1 from by decide, nI_add]) (by decide) rfl dX11_expectOf_53 ?_
            refine j_goto C 8 (by decide) dX11_expectOf_56 ?_
            refine j_sub (lv' := [(5, .int (nI (e + 1))), (4, .int y8_4), (3, .int y8_3), (0, .ref (g 0)), (1, .int (nI c)), (2, .int (nI d))]) [0, 2, 3, 4, 5, 6] rfl ?_
            exact ih8 (e + 1) y8_4 y8_3 (by omega) (by omega)
          · refine j_iload_n C 3 rfl dX11_expectOf_45 ?_
            refine j_iload C 0 rfl dX11_expectOf_46 ?_
            refine j_iadd C dX11_expectOf_48 ?_
            refine j_top (fun v6 => ?_)
            refine j_istore_n C [(3, .int v6), (6, .int ((σ.2.1 16) (28 * e + d))), (5, .int (nI e)), (4, .int y8_4), (0, .ref (g 0)), (1, .int (nI c)), (2, .int (nI d))] rfl (by decide) rfl dX11_expectOf_49 ?_
            refine j_iinc C (y8_4 + (1)) [(4, .int (y8_4 + (1))), (3, .int v6), (6, .int ((σ.2.1 16) (28 * e + d))), (5, .int (nI e)), (0, .ref (g 0)), (1, .int (nI c)), (2, .int (nI d))] 3 rfl (by rw [show Int32.ofInt (1) = (1) from by decide]) (by decide) rfl dX11_expectOf_50 ?_
            refine j_iinc C (nI (e + 1)) [(5, .int (nI (e + 1))), (4, .int (y8_4 + (1))), (3, .int v6), (6, .int ((σ.2.1 16) (28 * e + d))), (0, .ref (g 0)), (1, .int (nI c)), (2, .int (nI d))] 3 rfl (by rw [show Int32.ofInt 1 = nI 1 from by decide, nI_add]) (by decide) rfl dX11_expectOf_53 ?_
            refine j_goto C 8 (by decide) dX11_expectOf_56 ?_
            refine j_sub (lv' := [(5, .int (nI (e + 1))), (4, .int (y8_4 + (1))), (3, .int v6), (0, .ref (g 0)), (1, .int (nI c)), (2, .int (nI d))]) [0, 1, 2, 4, 5, 6] rfl ?_
            exact ih8 (e + 1) (y8_4 + (1)) v6 (by omega) (by omega)
  exact L8 _ 0 (nI 0) (nI 0) (by omega) (Nat.lt_succ_self _)
set_option maxRecDepth 100000 in
set_option maxHeartbeats 4000000 in
theorem n_part (g kk : Nat → Nat) (σ : St) (k : Nat) (hk : σ.1 3 = nI k) (hk6 : k ≤ 6) (hI : iM σ)  (c : Nat) (hc0 : c < 6) (a : Nat) (ha0 : a < 28) (b : Nat) (hb0 : b < 28) : jM (S := St) yX11_part cX11_part 9 none { frames := 4, cells := 0, slots := 0, locals := 91 } kk (cM g kk σ) [.ref (g 0), .int (nI c), .int (nI a), .int (nI b)] (cM g kk) (rV (fun u : St => ∃ (pF18 : Nat → Int32), u = sF σ 18 pF18)) := by
  refine j_entry [(0, .ref (g 0)), (1, .int (nI c)), (2, .int (nI a)), (3, .int (nI b))] (by decide) (Nat.le_of_ble_eq_true rfl) rfl ?_
  intro X C E HI
  refine j_aload_n C 0 rfl dX11_part_0 ?_
  refine j_iload_n C 1 rfl dX11_part_1 ?_
  refine j_iload_n C 3 rfl dX11_part_2 ?_
  refine j_V1 C (n_caught g kk σ k hk hk6 hI  c (by first | assumption | omega) b (by first | assumption | omega)) kyX11_caught tb_1135 tb_1137 sp_25 0 rfl (eM_0 g kk _) rfl (Nat.le_of_ble_eq_true rfl) ⟨by decide, by decide⟩ dX11_part_3 rfl (fun vr ur hp => ?_)
  obtain ⟨r1, rfl, hu⟩ := hp
  replace hu := hu.symm
  subst hu
  refine j_istore C [(4, .int r1), (0, .ref (g 0)), (1, .int (nI c)), (2, .int (nI a)), (3, .int (nI b))] (by decide) rfl dX11_part_6 ?_
  refine j_iconst C (nI 0) (by decide) dX11_part_8 ?_
  refine j_istore C [(5, .int (nI 0)), (4, .int r1), (0, .ref (g 0)), (1, .int (nI c)), (2, .int (nI a)), (3, .int (nI b))] (by decide) rfl dX11_part_9 ?_
  refine j_iload_n C 4 rfl dX11_part_11 ?_
  refine j_istore C [(6, .int (nI a)), (5, .int (nI 0)), (4, .int r1), (0, .ref (g 0)), (1, .int (nI c)), (2, .int (nI a)), (3, .int (nI b))] (by decide) rfl dX11_part_12 ?_
  have L14 : ∀ (n14 : Nat) (i : Nat) (y14_5 : Int32) (i14_0 : i ≤ 28) (hm14 : 28 - i < n14), J X 0 0 (cM g kk σ) [(6, .int (nI i)), (5, .int y14_5), (4, .int r1), (0, .ref (g 0)), (1, .int (nI c)), (2, .int (nI a)), (3, .int (nI b))] 14 [] := by
    intro n14
    induction n14 with
    | zero => intro i y14_5 i14_0 hm; exact absurd hm (Nat.not_lt_zero _)
    | succ n14 ih14 =>
      intro i y14_5 i14_0 hm14
      refine j_iload C 0 rfl dX11_part_14 ?_
      refine j_iload_n C 6 rfl dX11_part_16 ?_
      refine j_icmp_gtN C 45 (by decide) (by omega) (by omega) dX11_part_17 (fun c2 => ?_) (fun c2 => ?_)
      · refine j_iload C 2 rfl dX11_part_45 ?_
        refine j_istore C [(6, .int r1), (5, .int y14_5), (4, .int r1), (0, .ref (g 0)), (1, .int (nI c)), (2, .int (nI a)), (3, .int (nI b))] (by decide) rfl dX11_part_47 ?_
        refine j_iload_n C 5 rfl dX11_part_49 ?_
        refine j_istore C [(7, .int (nI a)), (6, .int r1), (5, .int y14_5), (4, .int r1), (0, .ref (g 0)), (1, .int (nI c)), (2, .int (nI a)), (3, .int (nI b))] (by decide) rfl dX11_part_50 ?_
        have L52 : ∀ (n52 : Nat) (j : Nat) (y52_6 : Int32) (z52_F18 : Nat → Int32) (i52_0 : j ≤ 28) (hm52 : 28 - j < n52), J X 0 0 (cM g kk (sF σ 18 z52_F18)) [(7, .int (nI j)), (6, .int y52_6), (5, .int y14_5), (4, .int r1), (0, .ref (g 0)), (1, .int (nI c)), (2, .int (nI a)), (3, .int (nI b))] 52 [] := by
          intro n52
          induction n52 with
          | zero => intro j y52_6 z52_F18 i52_0 hm; exact absurd hm (Nat.not_lt_zero _)
          | succ n52 ih52 =>
            intro j y52_6 z52_F18 i52_0 hm52
            refine j_iload C 0 rfl dX11_part_52 ?_
            refine j_iload_n C 7 rfl dX11_part_54 ?_
            refine j_icmp_geN C 132 (by decide) (by omega) (by omega) dX11_part_55 (fun c3 => ?_) (fun c3 => ?_)
            · refine j_aload_n C 4 rfl dX11_part_132 ?_
              refine gM_0_24 C tb_897 dX11_part_133 ?_
              refine j_iload_n C 5 rfl dX11_part_136 ?_
              refine j_iload_n C 7 rfl dX11_part_137 ?_
              refine j_S01 C (m_at c b) kyX11_at tb_1060 tb_1061 rfl (Nat.le_of_ble_eq_true rfl) ⟨by decide, by decide⟩ ⟨by decide, by decide⟩ dX11_part_138 rfl ?_
              refine j_iload C 3 rfl dX11_part_141 ?_
              refine j_if_ge C 151 (by decide) dX11_part_143 (fun c4 => ?_) (fun c4 => ?_)
              · refine j_iload C 1 rfl dX11_part_151 ?_
                refine tM_18 C (28 * c + b) rfl (by omega) dX11_part_153 ?_
                refine j_w (cM g kk (sF σ 18 (upd z52_F18 (28 * c + b) y52_6))) (congrArg (cM g kk) (show sF (sF σ 18 z52_F18) 18 (upd z52_F18 (28 * c + b) y52_6) = sF σ 18 (upd z52_F18 (28 * c + b) y52_6) from wrFs)) ?_
                exact j_vret C E (sF σ 18 (upd z52_F18 (28 * c + b) y52_6)) ⟨rfl, ⟨(upd z52_F18 (28 * c + b) y52_6), rfl⟩⟩ rfl dX11_part_154
              · refine j_bipush C ((-6)) (by decide) dX11_part_146 ?_
                refine j_goto C 153 (by decide) dX11_part_148 ?_
                refine tM_18 C (28 * c + b) rfl (by omega) dX11_part_153 ?_
                refine j_w (cM g kk (sF σ 18 (upd z52_F18 (28 * c + b) (-6)))) (congrArg (cM g kk) (show sF (sF σ 18 z52_F18) 18 (upd z52_F18 (28 * c + b) (-6)) = sF σ 18 (upd z52_F18 (28 * c + b) (-6)) from wrFs)) ?_
                exact j_vret C E (sF σ 18 (upd z52_F18 (28 * c + b) (-6))) ⟨rfl, ⟨(upd z52_F18 (28 * c + b) (-6)), rfl⟩⟩ rfl dX11_part_154
            · refine j_iload C 3 rfl dX11_part_58 ?_
              refine j_if_ge C 68 (by decide) dX11_part_60 (fun c5 => ?_) (fun c5 => ?_)
              · refine j_iload C 2 rfl dX11_part_68 ?_
                refine j_if_ne C 77 (by decide) dX11_part_70 (fun c6 => ?_) (fun c6 => ?_)
                · refine j_iload C 3 rfl dX11_part_77 ?_
                  refine j_i2l C dX11_part_79 ?_
                  refine j_aload_n C 4 rfl dX11_part_80 ?_
                  refine gM_0_23 C tb_896 dX11_part_81 ?_
                  refine j_iload_n C 5 rfl dX11_part_84 ?_
                  refine j_iload C 0 rfl dX11_part_85 ?_
                  refine j_S01 C (m_at c j) kyX11_at tb_1060 tb_1061 rfl (Nat.le_of_ble_eq_true rfl) ⟨by decide, by decide⟩ ⟨by decide, by decide⟩ dX11_part_87 rfl ?_
                  refine rM_17 C (28 * c + j) rfl (by omega) ((σ.2.1 17) (28 * c + j)) rfl dX11_part_90 ?_
                  refine j_S01 C (m_atLeast ((σ.2.1 17) (28 * c + j))) kyX11_atLeast tb_1162 tb_1163 rfl (Nat.le_of_ble_eq_true rfl) ⟨by decide, by decide⟩ ⟨by decide, by decide⟩ dX11_part_91 rfl ?_
                  refine j_top (fun v7 => ?_)
                  refine j_i2l C dX11_part_94 ?_
                  refine j_lmul C dX11_part_95 ?_
                  refine j_iload C 2 rfl dX11_part_96 ?_
                  refine j_i2l C dX11_part_98 ?_
                  refine j_ldiv C (by first | decide | assumption | exact nI_ne0 (by omega) (by omega) | exact i64ne (by assumption) | exact i64ne (nI_ne0 (by omega) (by omega))) dX11_part_99 ?_
                  refine j_topL (fun v8 => ?_)
                  refine j_l2i C dX11_part_100 ?_
                  refine j_istore C [(8, .int v8.toInt32), (7, .int (nI j)), (6, .int y52_6), (5, .int y14_5), (4, .int r1), (0, .ref (g 0)), (1, .int (nI c)), (2, .int (nI a)), (3, .int (nI b))] (by decide) rfl dX11_part_101 ?_
                  refine j_aload_n C 5 rfl dX11_part_103 ?_
                  refine gM_0_24 C tb_897 dX11_part_104 ?_
                  refine j_iload_n C 6 rfl dX11_part_107 ?_
                  refine j_iload C 1 rfl dX11_part_108 ?_
                  refine j_S01 C (m_at c j) kyX11_at tb_1060 tb_1061 rfl (Nat.le_of_ble_eq_true rfl) ⟨by decide, by decide⟩ ⟨by decide, by decide⟩ dX11_part_110 rfl ?_
                  refine j_iload C 0 rfl dX11_part_113 ?_
                  refine tM_18 C (28 * c + j) rfl (by omega) dX11_part_115 ?_
                  refine j_iload C 2 rfl dX11_part_116 ?_
                  refine j_iload C 0 rfl dX11_part_118 ?_
                  refine j_S01 C (m_atLeast v8.toInt32) kyX11_atLeast tb_1162 tb_1163 rfl (Nat.le_of_ble_eq_true rfl) ⟨by decide, by decide⟩ ⟨by decide, by decide⟩ dX11_part_120 rfl ?_
                  refine j_top (fun v9 => ?_)
                  refine j_isub C dX11_part_123 ?_
                  refine j_istore C [(6, .int (y52_6 - v9)), (8, .int v8.toInt32), (7, .int (nI j)), (5, .int y14_5), (4, .int r1), (0, .ref (g 0)), (1, .int (nI c)), (2, .int (nI a)), (3, .int (nI b))] (by decide) rfl dX11_part_124 ?_
                  refine j_iinc C (nI (j + 1)) [(7, .int (nI (j + 1))), (6, .int (y52_6 - v9)), (8, .int v8.toInt32), (5, .int y14_5), (4, .int r1), (0, .ref (g 0)), (1, .int (nI c)), (2, .int (nI a)), (3, .int (nI b))] 2 rfl (by rw [show Int32.ofInt 1 = nI 1 from by decide, nI_add]) (by decide) rfl dX11_part_126 ?_
                  refine j_goto C 52 (by decide) dX11_part_129 ?_
                  refine j_sub (lv' := [(7, .int (nI (j + 1))), (6, .int (y52_6 - v9)), (5, .int y14_5), (4, .int r1), (0, .ref (g 0)), (1, .int (nI c)), (2, .int (nI a)), (3, .int (nI b))]) [0, 1, 3, 4, 5, 6, 7, 8] rfl ?_
                  refine j_w (cM g kk (sF σ 18 (upd z52_F18 (28 * c + j) v8.toInt32))) (congrArg (cM g kk) (show sF (sF σ 18 z52_F18) 18 (upd z52_F18 (28 * c + j) v8.toInt32) = sF σ 18 (upd z52_F18 (28 * c + j) v8.toInt32) from wrFs)) ?_
                  exact ih52 (j + 1) (y52_6 - v9) (upd z52_F18 (28 * c + j) v8.toInt32) (by omega) (by omega)
                · refine j_iconst C (nI 0) (by decide) dX11_part_73 ?_
                  refine j_goto C 101 (by decide) dX11_part_74 ?_
                  refine j_istore C [(8, .int (nI 0)), (7, .int (nI j)), (6, .int y52_6), (5, .int y14_5), (4, .int r1), (0, .ref (g 0)), (1, .int (nI c)), (2, .int (nI a)), (3, .int (nI b))] (by decide) rfl dX11_part_101 ?_
                  refine j_aload_n C 5 rfl dX11_part_103 ?_
                  refine gM_0_24 C tb_897 dX11_part_104 ?_
                  refine j_iload_n C 6 rfl dX11_part_107 ?_
                  refine j_iload C 1 rfl dX11_part_108 ?_
                  refine j_S01 C (m_at c j) kyX11_at tb_1060 tb_1061 rfl (Nat.le_of_ble_eq_true rfl) ⟨by decide, by decide⟩ ⟨by decide, by decide⟩ dX11_part_110 rfl ?_
                  refine j_iload C 0 rfl dX11_part_113 ?_
                  refine tM_18 C (28 * c + j) rfl (by omega) dX11_part_115 ?_
                  refine j_iload C 2 rfl dX11_part_116 ?_
                  refine j_iload C 0 rfl dX11_part_118 ?_
                  refine j_S01 C (m_atLeast (nI 0)) kyX11_atLeast tb_1162 tb_1163 rfl (Nat.le_of_ble_eq_true rfl) ⟨by decide, by decide⟩ ⟨by decide, by decide⟩ dX11_part_120 rfl ?_
                  refine j_top (fun v10 => ?_)
                  refine j_isub C dX11_part_123 ?_
                  refine j_istore C [(6, .int (y52_6 - v10)), (8, .int (nI 0)), (7, .int (nI j)), (5, .int y14_5), (4, .int r1), (0, .ref (g 0)), (1, .int (nI c)), (2, .int (nI a)), (3, .int (nI b))] (by decide) rfl dX11_part_124 ?_
                  refine j_iinc C (nI (j + 1)) [(7, .int (nI (j + 1))), (6, .int (y52_6 - v10)), (8, .int (nI 0)), (5, .int y14_5), (4, .int r1), (0, .ref (g 0)), (1, .int (nI c)), (2, .int (nI a)), (3, .int (nI b))] 2 rfl (by rw [show Int32.ofInt 1 = nI 1 from by decide, nI_add]) (by decide) rfl dX11_part_126 ?_
                  refine j_goto C 52 (by decide) dX11_part_129 ?_
                  refine j_sub (lv' := [(7, .int (nI (j + 1))), (6, .int (y52_6 - v10)), (5, .int y14_5), (4, .int r1), (0, .ref (g 0)), (1, .int (nI c)), (2, .int (nI a)), (3, .int (nI b))]) [0, 1, 3, 4, 5, 6, 7, 8] rfl ?_
                  refine j_w (cM g kk (sF σ 18 (upd z52_F18 (28 * c + j) (nI 0)))) (congrArg (cM g kk) (show sF (sF σ 18 z52_F18) 18 (upd z52_F18 (28 * c + j) (nI 0)) = sF σ 18 (upd z52_F18 (28 * c + j) (nI 0)) from wrFs)) ?_
                  exact ih52 (j + 1) (y52_6 - v10) (upd z52_F18 (28 * c + j) (nI 0)) (by omega) (by omega)
              · refine j_bipush C ((-6)) (by decide) dX11_part_63 ?_
                refine j_goto C 101 (by decide) dX11_part_65 ?_
                refine j_istore C [(8, .int (-6)), (7, .int (nI j)), (6, .int y52_6), (5, .int y14_5), (4, .int r1), (0, .ref (g 0)), (1, .int (nI c)), (2, .int (nI a)), (3, .int (nI b))] (by decide) rfl dX11_part_101 ?_
                refine j_aload_n C 5 rfl dX11_part_103 ?_
                refine gM_0_24 C tb_897 dX11_part_104 ?_
                refine j_iload_n C 6 rfl dX11_part_107 ?_
                refine j_iload C 1 rfl dX11_part_108 ?_
                refine j_S01 C (m_at c j) kyX11_at tb_1060 tb_1061 rfl (Nat.le_of_ble_eq_true rfl) ⟨by decide, by decide⟩ ⟨by decide, by decide⟩ dX11_part_110 rfl ?_
                refine j_iload C 0 rfl dX11_part_113 ?_
                refine tM_18 C (28 * c + j) rfl (by omega) dX11_part_115 ?_
                refine j_iload C 2 rfl dX11_part_116 ?_
                refine j_iload C 0 rfl dX11_part_118 ?_
                refine j_S01 C (m_atLeast (-6)) kyX11_atLeast tb_1162 tb_1163 rfl (Nat.le_of_ble_eq_true rfl) ⟨by decide, by decide⟩ ⟨by decide, by decide⟩ dX11_part_120 rfl ?_
                refine j_isub C dX11_part_123 ?_
                refine j_top (fun v11 => ?_)
                refine j_istore C [(6, .int v11), (8, .int (-6)), (7, .int (nI j)), (5, .int y14_5), (4, .int r1), (0, .ref (g 0)), (1, .int (nI c)), (2, .int (nI a)), (3, .int (nI b))] (by decide) rfl dX11_part_124 ?_
                refine j_iinc C (nI (j + 1)) [(7, .int (nI (j + 1))), (6, .int v11), (8, .int (-6)), (5, .int y14_5), (4, .int r1), (0, .ref (g 0)), (1, .int (nI c)), (2, .int (nI a)), (3, .int (nI b))] 2 rfl (by rw [show Int32.ofInt 1 = nI 1 from by decide, nI_add]) (by decide) rfl dX11_part_126 ?_
                refine j_goto C 52 (by decide) dX11_part_129 ?_
                refine j_sub (lv' := [(7, .int (nI (j + 1))), (6, .int v11), (5, .int y14_5), (4, .int r1), (0, .ref (g 0)), (1, .int (nI c)), (2, .int (nI a)), (3, .int (nI b))]) [0, 1, 3, 4, 5, 6, 7, 8] rfl ?_
                refine j_w (cM g kk (sF σ 18 (upd z52_F18 (28 * c + j) (-6)))) (congrArg (cM g kk) (show sF (sF σ 18 z52_F18) 18 (upd z52_F18 (28 * c + j) (-6)) = sF σ 18 (upd z52_F18 (28 * c + j) (-6)) from wrFs)) ?_
                exact ih52 (j + 1) v11 (upd z52_F18 (28 * c + j) (-6)) (by omega) (by omega)
        refine j_w (cM g kk (sF σ 18 (σ.2.1 18))) (congrArg (cM g kk) (wrFi (S := σ) (c := 18) (v := σ.2.1 18) rfl)) ?_
        exact L52 _ a r1 (σ.2.1 18) (by omega) (Nat.lt_succ_self _)
      · refine j_iload C 1 rfl dX11_part_20 ?_
        refine j_aload_n C 3 rfl dX11_part_22 ?_
        refine gM_0_23 C tb_896 dX11_part_23 ?_
        refine j_iload_n C 4 rfl dX11_part_26 ?_
        refine j_iload C 0 rfl dX11_part_27 ?_
        refine j_S01 C (m_at c i) kyX11_at tb_1060 tb_1061 rfl (Nat.le_of_ble_eq_true rfl) ⟨by decide, by decide⟩ ⟨by decide, by decide⟩ dX11_part_29 rfl ?_
        refine rM_17 C (28 * c + i) rfl (by omega) ((σ.2.1 17) (28 * c + i)) rfl dX11_part_32 ?_
        refine j_S01 C (m_atLeast ((σ.2.1 17) (28 * c + i))) kyX11_atLeast tb_1162 tb_1163 rfl (Nat.le_of_ble_eq_true rfl) ⟨by decide, by decide⟩ ⟨by decide, by decide⟩ dX11_part_33 rfl ?_
        refine j_top (fun v12 => ?_)
        refine j_iadd C dX11_part_36 ?_
        refine j_istore C [(5, .int (y14_5 + v12)), (6, .int (nI i)), (4, .int r1), (0, .ref (g 0)), (1, .int (nI c)), (2, .int (nI a)), (3, .int (nI b))] (by decide) rfl dX11_part_37 ?_
        refine j_iinc C (nI (i + 1)) [(6, .int (nI (i + 1))), (5, .int (y14_5 + v12)), (4, .int r1), (0, .ref (g 0)), (1, .int (nI c)), (2, .int (nI a)), (3, .int (nI b))] 1 rfl (by rw [show Int32.ofInt 1 = nI 1 from by decide, nI_add]) (by decide) rfl dX11_part_39 ?_
        refine j_goto C 14 (by decide) dX11_part_42 ?_
        exact ih14 (i + 1) (y14_5 + v12) (by omega) (by omega)
  exact L14 _ a (nI 0) (by omega) (Nat.lt_succ_self _)
set_option maxRecDepth 100000 in
set_option maxHeartbeats 4000000 in
theorem n_findAll (g kk : Nat → Nat) (σ : St) (k : Nat) (hk : σ.1 3 = nI k) (hk6 : k ≤ 6) (hI : iM σ)   : jM (S := St) yX11_findAll cX11_findAll 3 none { frames := 5, cells := 0, slots := 0, locals := 119 } kk (cM g kk σ) [.ref (g 0)] (cM g kk) (rV (fun u : St => ∃ (pF16 : Nat → Int32) (pF17 : Nat → Int32) (pF18 : Nat → Int32), u = sF (sF (sF σ 16 pF16) 17 pF17) 18 pF18)) := by
  refine j_entry [(0, .ref (g 0))] (by decide) (Nat.le_of_ble_eq_true rfl) rfl ?_
  intro X C E HI
  refine j_iconst C (nI 0) (by decide) dX11_findAll_0 ?_
  refine j_istore_n C [(1, .int (nI 0)), (0, .ref (g 0))] rfl (by decide) rfl dX11_findAll_1 ?_
  have L2 : ∀ (n2 : Nat) (a : Nat) (z2_F16 : Nat → Int32) (i2_0 : a ≤ k) (hm2 : k - a < n2), J X 0 0 (cM g kk (sF σ 16 z2_F16)) [(1, .int (nI a)), (0, .ref (g 0))] 2 [] := by
    intro n2
    induction n2 with
    | zero => intro a z2_F16 i2_0 hm; exact absurd hm (Nat.not_lt_zero _)
    | succ n2 ih2 =>
      intro a z2_F16 i2_0 hm2
      refine j_iload_n C 0 rfl dX11_findAll_2 ?_
      refine j_aload_n C 1 rfl dX11_findAll_3 ?_
      refine gM_0_3 C tb_876 (nI k) hk dX11_findAll_4 ?_
      refine j_icmp_geN C 65 (by decide) (by omega) (by omega) dX11_findAll_7 (fun c1 => ?_) (fun c1 => ?_)
      · refine j_iconst C (nI 0) (by decide) dX11_findAll_65 ?_
        refine j_istore_n C [(1, .int (nI 0)), (0, .ref (g 0))] rfl (by decide) rfl dX11_findAll_66 ?_
        have L67 : ∀ (n67 : Nat) (c : Nat) (z67_F17 : Nat → Int32) (z67_F18 : Nat → Int32) (i67_0 : c ≤ k) (hm67 : k - c < n67), J X 0 0 (cM g kk (sF (sF (sF σ 16 z2_F16) 17 z67_F17) 18 z67_F18)) [(1, .int (nI c)), (0, .ref (g 0))] 67 [] := by
          intro n67
          induction n67 with
          | zero => intro c z67_F17 z67_F18 i67_0 hm; exact absurd hm (Nat.not_lt_zero _)
          | succ n67 ih67 =>
            intro c z67_F17 z67_F18 i67_0 hm67
            refine j_iload_n C 0 rfl dX11_findAll_67 ?_
            refine j_aload_n C 1 rfl dX11_findAll_68 ?_
            refine gM_0_3 C tb_876 (nI k) hk dX11_findAll_69 ?_
            refine j_icmp_geN C 189 (by decide) (by omega) (by omega) dX11_findAll_72 (fun c2 => ?_) (fun c2 => ?_)
            · exact j_vret C E (sF (sF (sF σ 16 z2_F16) 17 z67_F17) 18 z67_F18) ⟨rfl, ⟨z2_F16, z67_F17, z67_F18, rfl⟩⟩ rfl dX11_findAll_189
            · refine j_iconst C (nI 0) (by decide) dX11_findAll_75 ?_
              refine j_istore_n C [(2, .int (nI 0)), (1, .int (nI c)), (0, .ref (g 0))] rfl (by decide) rfl dX11_findAll_76 ?_
              have L77 : ∀ (n77 : Nat) (d : Nat) (z77_F17 : Nat → Int32) (z77_F18 : Nat → Int32) (i77_0 : d ≤ 28) (hm77 : 28 - d < n77), J X 0 0 (cM g kk (sF (sF (sF σ 16 z2_F16) 17 z77_F17) 18 z77_F18)) [(2, .int (nI d)), (1, .int (nI c)), (0, .ref (g 0))] 77 [] := by
                intro n77
                induction n77 with
                | zero => intro d z77_F17 z77_F18 i77_0 hm; exact absurd hm (Nat.not_lt_zero _)
                | succ n77 ih77 =>
                  intro d z77_F17 z77_F18 i77_0 hm77
                  refine j_iload_n C 0 rfl dX11_findAll_77 ?_
                  refine j_bipush C (nI 28) (by decide) dX11_findAll_78 ?_
                  refine j_icmp_geN C 125 (by decide) (by omega) (by omega) dX11_findAll_80 (fun c3 => ?_) (fun c3 => ?_)
                  · refine j_iconst C (nI 0) (by decide) dX11_findAll_125 ?_
                    refine j_istore_n C [(2, .int (nI 0)), (1, .int (nI c)), (0, .ref (g 0))] rfl (by decide) rfl dX11_findAll_126 ?_
                    have L127 : ∀ (n127 : Nat) (e : Nat) (z127_F18 : Nat → Int32) (i127_0 : e ≤ 28) (hm127 : 28 - e < n127), J X 0 0 (cM g kk (sF (sF (sF σ 16 z2_F16) 17 z77_F17) 18 z127_F18)) [(2, .int (nI e)), (1, .int (nI c)), (0, .ref (g 0))] 127 [] := by
                      intro n127
                      induction n127 with
                      | zero => intro e z127_F18 i127_0 hm; exact absurd hm (Nat.not_lt_zero _)
                      | succ n127 ih127 =>
                        intro e z127_F18 i127_0 hm127
                        refine j_iload_n C 0 rfl dX11_findAll_127 ?_
                        refine j_bipush C (nI 28) (by decide) dX11_findAll_128 ?_
                        refine j_icmp_geN C 183 (by decide) (by omega) (by omega) dX11_findAll_130 (fun c4 => ?_) (fun c4 => ?_)
                        · refine j_iinc C (nI (c + 1)) [(1, .int (nI (c + 1))), (2, .int (nI e)), (0, .ref (g 0))] 1 rfl (by rw [show Int32.ofInt 1 = nI 1 from by decide, nI_add]) (by decide) rfl dX11_findAll_183 ?_
                          refine j_goto C 67 (by decide) dX11_findAll_186 ?_
                          refine j_sub (lv' := [(1, .int (nI (c + 1))), (0, .ref (g 0))]) [0, 2] rfl ?_
                          exact ih67 (c + 1) z77_F17 z127_F18 (by omega) (by omega)
                        · refine j_aload_n C 2 rfl dX11_findAll_133 ?_
                          refine gM_0_16 C tb_889 dX11_findAll_134 ?_
                          refine j_iload_n C 1 rfl dX11_findAll_137 ?_
                          refine j_iload_n C 0 rfl dX11_findAll_138 ?_
                          refine j_S01 C (m_at c e) kyX11_at tb_1060 tb_1061 rfl (Nat.le_of_ble_eq_true rfl) ⟨by decide, by decide⟩ ⟨by decide, by decide⟩ dX11_findAll_139 rfl ?_
                          refine rM_10 C (28 * c + e) rfl (by omega) ((σ.2.1 10) (28 * c + e)) rfl dX11_findAll_142 ?_
                          refine j_iconst C (nI 3) (by decide) dX11_findAll_143 ?_
                          refine j_icmp_ne C 177 (by decide) dX11_findAll_144 (fun c5 => ?_) (fun c5 => ?_)
                          · refine j_iinc C (nI (e + 1)) [(2, .int (nI (e + 1))), (1, .int (nI c)), (0, .ref (g 0))] 0 rfl (by rw [show Int32.ofInt 1 = nI 1 from by decide, nI_add]) (by decide) rfl dX11_findAll_177 ?_
                            refine j_goto C 127 (by decide) dX11_findAll_180 ?_
                            exact ih127 (e + 1) z127_F18 (by omega) (by omega)
                          · refine j_aload_n C 2 rfl dX11_findAll_147 ?_
                            refine gM_0_18 C tb_891 dX11_findAll_148 ?_
                            refine j_iload_n C 1 rfl dX11_findAll_151 ?_
                            refine j_iload_n C 0 rfl dX11_findAll_152 ?_
                            refine j_S01 C (m_at c e) kyX11_at tb_1060 tb_1061 rfl (Nat.le_of_ble_eq_true rfl) ⟨by decide, by decide⟩ ⟨by decide, by decide⟩ dX11_findAll_153 rfl ?_
                            refine rM_12 C (28 * c + e) rfl (by omega) ((σ.2.1 12) (28 * c + e)) rfl dX11_findAll_156 ?_
                            refine j_iload_n C 0 rfl dX11_findAll_157 ?_
                            refine j_icmp_ne C 177 (by decide) dX11_findAll_158 (fun c6 => ?_) (fun c6 => ?_)
                            · refine j_iinc C (nI (e + 1)) [(2, .int (nI (e + 1))), (1, .int (nI c)), (0, .ref (g 0))] 0 rfl (by rw [show Int32.ofInt 1 = nI 1 from by decide, nI_add]) (by decide) rfl dX11_findAll_177 ?_
                              refine j_goto C 127 (by decide) dX11_findAll_180 ?_
                              exact ih127 (e + 1) z127_F18 (by omega) (by omega)
                            · refine j_aload_n C 2 rfl dX11_findAll_161 ?_
                              refine j_iload_n C 1 rfl dX11_findAll_162 ?_
                              refine j_aload_n C 2 rfl dX11_findAll_163 ?_
                              refine gM_0_17 C tb_890 dX11_findAll_164 ?_
                              refine j_iload_n C 1 rfl dX11_findAll_167 ?_
                              refine j_iload_n C 0 rfl dX11_findAll_168 ?_
                              refine j_S01 C (m_at c e) kyX11_at tb_1060 tb_1061 rfl (Nat.le_of_ble_eq_true rfl) ⟨by decide, by decide⟩ ⟨by decide, by decide⟩ dX11_findAll_169 rfl ?_
                              obtain ⟨m7, hm7, em7⟩ := hI.fo (28 * c + e) (by omega)
                              refine rM_11 C (28 * c + e) rfl (by omega) (nI m7) em7 dX11_findAll_172 ?_
                              refine j_iload_n C 0 rfl dX11_findAll_173 ?_
                              refine j_V1 C (n_part g kk (sF (sF (sF σ 16 z2_F16) 17 z77_F17) 18 z127_F18) k hk hk6 hI  c (by first | assumption | omega) m7 (by first | assumption | omega) e (by first | assumption | omega)) kyX11_part tb_1158 tb_1160 sp_30 0 rfl (eM_0 g kk _) rfl (Nat.le_of_ble_eq_true rfl) ⟨by decide, by decide⟩ dX11_findAll_174 rfl (fun vr ur hp => ?_)
                              obtain ⟨rfl, w8, hu⟩ := hp
                              replace hu := hu.symm
                              subst hu
                              refine j_iinc C (nI (e + 1)) [(2, .int (nI (e + 1))), (1, .int (nI c)), (0, .ref (g 0))] 0 rfl (by rw [show Int32.ofInt 1 = nI 1 from by decide, nI_add]) (by decide) rfl dX11_findAll_177 ?_
                              refine j_goto C 127 (by decide) dX11_findAll_180 ?_
                              refine j_w (cM g kk (sF (sF (sF σ 16 z2_F16) 17 z77_F17) 18 w8)) (congrArg (cM g kk) (show sF (sF (sF (sF σ 16 z2_F16) 17 z77_F17) 18 z127_F18) 18 w8 = sF (sF (sF σ 16 z2_F16) 17 z77_F17) 18 w8 from wrFs)) ?_
                              exact ih127 (e + 1) w8 (by omega) (by omega)
                    exact L127 _ 0 z77_F18 (by omega) (Nat.lt_succ_self _)
                  · refine j_aload_n C 2 rfl dX11_findAll_83 ?_
                    refine gM_0_23 C tb_896 dX11_findAll_84 ?_
                    refine j_iload_n C 1 rfl dX11_findAll_87 ?_
                    refine j_iload_n C 0 rfl dX11_findAll_88 ?_
                    refine j_S01 C (m_at c d) kyX11_at tb_1060 tb_1061 rfl (Nat.le_of_ble_eq_true rfl) ⟨by decide, by decide⟩ ⟨by decide, by decide⟩ dX11_findAll_89 rfl ?_
                    refine j_aload_n C 2 rfl dX11_findAll_92 ?_
                    refine j_iload_n C 1 rfl dX11_findAll_93 ?_
                    refine j_iload_n C 0 rfl dX11_findAll_94 ?_
                    refine j_V1 C (n_expectOf g kk (sF (sF (sF σ 16 z2_F16) 17 z77_F17) 18 z77_F18) k hk hk6 hI  c (by first | assumption | omega) d (by first | assumption | omega)) kyX11_expectOf tb_1147 tb_1149 sp_28 0 rfl (eM_0 g kk _) rfl (Nat.le_of_ble_eq_true rfl) ⟨by decide, by decide⟩ dX11_findAll_95 rfl (fun vr ur hp => ?_)
                    obtain ⟨r9, rfl, hu⟩ := hp
                    replace hu := hu.symm
                    subst hu
                    refine tM_17 C (28 * c + d) rfl (by omega) dX11_findAll_98 ?_
                    refine j_aload_n C 2 rfl dX11_findAll_99 ?_
                    refine gM_0_24 C tb_897 dX11_findAll_100 ?_
                    refine j_iload_n C 1 rfl dX11_findAll_103 ?_
                    refine j_iload_n C 0 rfl dX11_findAll_104 ?_
                    refine j_S01 C (m_at c d) kyX11_at tb_1060 tb_1061 rfl (Nat.le_of_ble_eq_true rfl) ⟨by decide, by decide⟩ ⟨by decide, by decide⟩ dX11_findAll_105 rfl ?_
                    refine j_aload_n C 2 rfl dX11_findAll_108 ?_
                    refine gM_0_22 C tb_895 dX11_findAll_109 ?_
                    refine j_iload_n C 1 rfl dX11_findAll_112 ?_
                    refine j_iload_n C 0 rfl dX11_findAll_113 ?_
                    refine j_S01 C (m_at c d) kyX11_at tb_1060 tb_1061 rfl (Nat.le_of_ble_eq_true rfl) ⟨by decide, by decide⟩ ⟨by decide, by decide⟩ dX11_findAll_114 rfl ?_
                    refine rM_16 C (28 * c + d) rfl (by omega) (z2_F16 (28 * c + d)) rfl dX11_findAll_117 ?_
                    refine tM_18 C (28 * c + d) rfl (by omega) dX11_findAll_118 ?_
                    refine j_iinc C (nI (d + 1)) [(2, .int (nI (d + 1))), (1, .int (nI c)), (0, .ref (g 0))] 0 rfl (by rw [show Int32.ofInt 1 = nI 1 from by decide, nI_add]) (by decide) rfl dX11_findAll_119 ?_
                    refine j_goto C 77 (by decide) dX11_findAll_122 ?_
                    refine j_w (cM g kk (sF (sF (sF σ 16 z2_F16) 17 (upd z77_F17 (28 * c + d) r9)) 18 (upd z77_F18 (28 * c + d) (z2_F16 (28 * c + d))))) (congrArg (cM g kk) (show sF (sF (sF (sF (sF σ 16 z2_F16) 17 z77_F17) 18 z77_F18) 17 (upd z77_F17 (28 * c + d) r9)) 18 (upd z77_F18 (28 * c + d) (z2_F16 (28 * c + d))) = sF (sF (sF σ 16 z2_F16) 17 (upd z77_F17 (28 * c + d) r9)) 18 (upd z77_F18 (28 * c + d) (z2_F16 (28 * c + d))) from (Eq.trans (wrF (Eq.trans (wrFc (by decide)) (wrF wrFs))) wrFs))) ?_
                    exact ih77 (d + 1) (upd z77_F17 (28 * c + d) r9) (upd z77_F18 (28 * c + d) (z2_F16 (28 * c + d))) (by omega) (by omega)
              exact L77 _ 0 z67_F17 z67_F18 (by omega) (Nat.lt_succ_self _)
        refine j_w (cM g kk (sF (sF σ 16 z2_F16) 17 (σ.2.1 17))) (congrArg (cM g kk) (wrFi (S := (sF σ 16 z2_F16)) (c := 17) (v := σ.2.1 17) (gtFF (by decide) rfl))) ?_
        refine j_w (cM g kk (sF (sF (sF σ 16 z2_F16) 17 (σ.2.1 17)) 18 (σ.2.1 18))) (congrArg (cM g kk) (wrFi (S := (sF (sF σ 16 z2_F16) 17 (σ.2.1 17))) (c := 18) (v := σ.2.1 18) (gtFF (by decide) (gtFF (by decide) rfl)))) ?_
        exact L67 _ 0 (σ.2.1 17) (σ.2.1 18) (by omega) (Nat.lt_succ_self _)
      · refine j_iconst C (nI 0) (by decide) dX11_findAll_10 ?_
        refine j_istore_n C [(2, .int (nI 0)), (1, .int (nI a)), (0, .ref (g 0))] rfl (by decide) rfl dX11_findAll_11 ?_
        have L12 : ∀ (n12 : Nat) (b : Nat) (z12_F16 : Nat → Int32) (i12_0 : b ≤ 28) (hm12 : 28 - b < n12), J X 0 0 (cM g kk (sF σ 16 z12_F16)) [(2, .int (nI b)), (1, .int (nI a)), (0, .ref (g 0))] 12 [] := by
          intro n12
          induction n12 with
          | zero => intro b z12_F16 i12_0 hm; exact absurd hm (Nat.not_lt_zero _)
          | succ n12 ih12 =>
            intro b z12_F16 i12_0 hm12
            refine j_iload_n C 0 rfl dX11_findAll_12 ?_
            refine j_bipush C (nI 28) (by decide) dX11_findAll_13 ?_
            refine j_icmp_geN C 59 (by decide) (by omega) (by omega) dX11_findAll_15 (fun c10 => ?_) (fun c10 => ?_)
            · refine j_iinc C (nI (a + 1)) [(1, .int (nI (a + 1))), (2, .int (nI b)), (0, .ref (g 0))] 1 rfl (by rw [show Int32.ofInt 1 = nI 1 from by decide, nI_add]) (by decide) rfl dX11_findAll_59 ?_
              refine j_goto C 2 (by decide) dX11_findAll_62 ?_
              refine j_sub (lv' := [(1, .int (nI (a + 1))), (0, .ref (g 0))]) [0, 2] rfl ?_
              exact ih2 (a + 1) z12_F16 (by omega) (by omega)
            · refine j_aload_n C 2 rfl dX11_findAll_18 ?_
              refine gM_0_22 C tb_895 dX11_findAll_19 ?_
              refine j_iload_n C 1 rfl dX11_findAll_22 ?_
              refine j_iload_n C 0 rfl dX11_findAll_23 ?_
              refine j_S01 C (m_at a b) kyX11_at tb_1060 tb_1061 rfl (Nat.le_of_ble_eq_true rfl) ⟨by decide, by decide⟩ ⟨by decide, by decide⟩ dX11_findAll_24 rfl ?_
              refine j_aload_n C 2 rfl dX11_findAll_27 ?_
              refine gM_0_16 C tb_889 dX11_findAll_28 ?_
              refine j_iload_n C 1 rfl dX11_findAll_31 ?_
              refine j_iload_n C 0 rfl dX11_findAll_32 ?_
              refine j_S01 C (m_at a b) kyX11_at tb_1060 tb_1061 rfl (Nat.le_of_ble_eq_true rfl) ⟨by decide, by decide⟩ ⟨by decide, by decide⟩ dX11_findAll_33 rfl ?_
              refine rM_10 C (28 * a + b) rfl (by omega) ((σ.2.1 10) (28 * a + b)) rfl dX11_findAll_36 ?_
              refine j_iconst C (nI 3) (by decide) dX11_findAll_37 ?_
              refine j_icmp_ne C 46 (by decide) dX11_findAll_38 (fun c11 => ?_) (fun c11 => ?_)
              · refine j_aload_n C 2 rfl dX11_findAll_46 ?_
                refine j_iload_n C 1 rfl dX11_findAll_47 ?_
                refine j_iload_n C 0 rfl dX11_findAll_48 ?_
                refine j_V1 C (n_caught g kk (sF σ 16 z12_F16) k hk hk6 hI  a (by first | assumption | omega) b (by first | assumption | omega)) kyX11_caught tb_1135 tb_1137 sp_25 0 rfl (eM_0 g kk _) rfl (Nat.le_of_ble_eq_true rfl) ⟨by decide, by decide⟩ dX11_findAll_49 rfl (fun vr ur hp => ?_)
                obtain ⟨r12, rfl, hu⟩ := hp
                replace hu := hu.symm
                subst hu
                refine tM_16 C (28 * a + b) rfl (by omega) dX11_findAll_52 ?_
                refine j_iinc C (nI (b + 1)) [(2, .int (nI (b + 1))), (1, .int (nI a)), (0, .ref (g 0))] 0 rfl (by rw [show Int32.ofInt 1 = nI 1 from by decide, nI_add]) (by decide) rfl dX11_findAll_53 ?_
                refine j_goto C 12 (by decide) dX11_findAll_56 ?_
                refine j_w (cM g kk (sF σ 16 (upd z12_F16 (28 * a + b) r12))) (congrArg (cM g kk) (show sF (sF σ 16 z12_F16) 16 (upd z12_F16 (28 * a + b) r12) = sF σ 16 (upd z12_F16 (28 * a + b) r12) from wrFs)) ?_
                exact ih12 (b + 1) (upd z12_F16 (28 * a + b) r12) (by omega) (by omega)
              · refine j_bipush C ((-6)) (by decide) dX11_findAll_41 ?_
                refine j_goto C 52 (by decide) dX11_findAll_43 ?_
                refine tM_16 C (28 * a + b) rfl (by omega) dX11_findAll_52 ?_
                refine j_iinc C (nI (b + 1)) [(2, .int (nI (b + 1))), (1, .int (nI a)), (0, .ref (g 0))] 0 rfl (by rw [show Int32.ofInt 1 = nI 1 from by decide, nI_add]) (by decide) rfl dX11_findAll_53 ?_
                refine j_goto C 12 (by decide) dX11_findAll_56 ?_
                refine j_w (cM g kk (sF σ 16 (upd z12_F16 (28 * a + b) (-6)))) (congrArg (cM g kk) (show sF (sF σ 16 z12_F16) 16 (upd z12_F16 (28 * a + b) (-6)) = sF σ 16 (upd z12_F16 (28 * a + b) (-6)) from wrFs)) ?_
                exact ih12 (b + 1) (upd z12_F16 (28 * a + b) (-6)) (by omega) (by omega)
        exact L12 _ 0 z2_F16 (by omega) (Nat.lt_succ_self _)
  refine j_w (cM g kk (sF σ 16 (σ.2.1 16))) (congrArg (cM g kk) (wrFi (S := σ) (c := 16) (v := σ.2.1 16) rfl)) ?_
  exact L2 _ 0 (σ.2.1 16) (by omega) (Nat.lt_succ_self _)
set_option maxRecDepth 100000 in
set_option maxHeartbeats 4000000 in
theorem n_of (g kk : Nat → Nat) (σ : St) (k : Nat) (hk : σ.1 3 = nI k) (hk6 : k ≤ 6) (hI : iM σ)  (x : Int32) (y : Int32) (z : Int32) : jM (S := St) yX11_of cX11_of 4 (some .int) { frames := 6, cells := 0, slots := 0, locals := 141 } kk (cM g kk σ) [.ref (g 0), .int x, .int y, .int z] (cM g kk) (rI (fun (r : Int32) (u : St) => ∃ (pF16 : Nat → Int32) (pF17 : Nat → Int32) (pF18 : Nat → Int32), u = sF (sF (sF σ 16 pF16) 17 pF17) 18 pF18)) := by
  refine j_entry [(0, .ref (g 0)), (1, .int x), (2, .int y), (3, .int z)] (by decide) (Nat.le_of_ble_eq_true rfl) rfl ?_
  intro X C E HI
  refine j_aload_n C 0 rfl dX11_of_0 ?_
  refine j_iload_n C 1 rfl dX11_of_1 ?_
  refine j_V1 C (m_isCan g kk σ k hk hk6 x) kyX11_isCan tb_1067 tb_1069 sp_21 0 rfl (eM_0 g kk _) rfl (Nat.le_of_ble_eq_true rfl) ⟨by decide, by decide⟩ dX11_of_2 rfl (fun vr ur hp => ?_)
  obtain ⟨r, rfl, rfl, hu⟩ := hp
  replace hu := hu.symm
  subst hu
  refine j_if_eq C 15 (by decide) dX11_of_5 (fun c1 => ?_) (fun c1 => ?_)
  · replace c1 := bI_f c1
    refine j_iconst C ((-1)) (by decide) dX11_of_15 ?_
    refine j_w (cM g kk (sF σ 16 (σ.2.1 16))) (congrArg (cM g kk) (wrFi (S := σ) (c := 16) (v := σ.2.1 16) rfl)) ?_
    refine j_w (cM g kk (sF (sF σ 16 (σ.2.1 16)) 17 (σ.2.1 17))) (congrArg (cM g kk) (wrFi (S := (sF σ 16 (σ.2.1 16))) (c := 17) (v := σ.2.1 17) (gtFF (by decide) rfl))) ?_
    refine j_w (cM g kk (sF (sF (sF σ 16 (σ.2.1 16)) 17 (σ.2.1 17)) 18 (σ.2.1 18))) (congrArg (cM g kk) (wrFi (S := (sF (sF σ 16 (σ.2.1 16)) 17 (σ.2.1 17))) (c := 18) (v := σ.2.1 18) (gtFF (by decide) (gtFF (by decide) rfl)))) ?_
    exact j_iret C E (sF (sF (sF σ 16 (σ.2.1 16)) 17 (σ.2.1 17)) 18 (σ.2.1 18)) ⟨_, rfl, ⟨(σ.2.1 16), (σ.2.1 17), (σ.2.1 18), rfl⟩⟩ rfl dX11_of_16
  · replace c1 := bI_t c1
    obtain ⟨xn, xn1, rfl⟩ := cB_nat (by omega) c1
    refine j_iload_n C 2 rfl dX11_of_8 ?_
    refine j_S01 C (m_isDay y) kyX11_isDay tb_1077 tb_1078 rfl (Nat.le_of_ble_eq_true rfl) ⟨by decide, by decide⟩ ⟨by decide, by decide⟩ dX11_of_9 rfl ?_
    refine j_if_ne C 17 (by decide) dX11_of_12 (fun c2 => ?_) (fun c2 => ?_)
    · replace c2 := bI_t c2
      obtain ⟨yn, yn1, yn2, rfl⟩ := wB_nat (by decide) (by decide) c2
      refine j_aload_n C 0 rfl dX11_of_17 ?_
      refine j_V1 C (n_findAll g kk σ k hk hk6 hI  ) kyX11_findAll tb_1131 tb_1133 sp_24 0 rfl (eM_0 g kk _) rfl (Nat.le_of_ble_eq_true rfl) ⟨by decide, by decide⟩ dX11_of_18 rfl (fun vr ur hp => ?_)
      obtain ⟨rfl, w3, w4, w5, hu⟩ := hp
      replace hu := hu.symm
      subst hu
      refine j_iload_n C 3 rfl dX11_of_21 ?_
      by_cases q6 : z = nI 0
      · rw [q6]
        refine j_tabIn C 60 (by decide) (by decide) rfl (by decide) dX11_of_22 ?_
        refine j_aload_n C 0 rfl dX11_of_60 ?_
        refine gM_0_5 C tb_878 dX11_of_61 ?_
        refine j_iload_n C 1 rfl dX11_of_64 ?_
        refine j_iload_n C 2 rfl dX11_of_65 ?_
        refine j_S01 C (m_at xn yn) kyX11_at tb_1060 tb_1061 rfl (Nat.le_of_ble_eq_true rfl) ⟨by decide, by decide⟩ ⟨by decide, by decide⟩ dX11_of_66 rfl ?_
        refine rM_5 C (28 * xn + yn) rfl (by omega) ((σ.2.1 5) (28 * xn + yn)) rfl dX11_of_69 ?_
        exact j_iret C E (sF (sF (sF σ 16 w3) 17 w4) 18 w5) ⟨_, rfl, ⟨w3, w4, w5, rfl⟩⟩ rfl dX11_of_70
      · by_cases q7 : z = nI 1
        · rw [q7]
          refine j_tabIn C 71 (by decide) (by decide) rfl (by decide) dX11_of_22 ?_
          refine j_aload_n C 0 rfl dX11_of_71 ?_
          refine j_iload_n C 1 rfl dX11_of_72 ?_
          refine j_iload_n C 2 rfl dX11_of_73 ?_
          refine j_V1 C (n_fixed g kk (sF (sF (sF σ 16 w3) 17 w4) 18 w5) k hk hk6 hI  xn (by first | assumption | omega) yn (by first | assumption | omega)) kyX11_fixed tb_1143 tb_1145 sp_27 0 rfl (eM_0 g kk _) rfl (Nat.le_of_ble_eq_true rfl) ⟨by decide, by decide⟩ dX11_of_74 rfl (fun vr ur hp => ?_)
          obtain ⟨r8, rfl, hu⟩ := hp
          replace hu := hu.symm
          subst hu
          exact j_iret C E (sF (sF (sF σ 16 w3) 17 w4) 18 w5) ⟨_, rfl, ⟨w3, w4, w5, rfl⟩⟩ rfl dX11_of_77
        · by_cases q9 : z = nI 2
          · rw [q9]
            refine j_tabIn C 78 (by decide) (by decide) rfl (by decide) dX11_of_22 ?_
            refine j_aload_n C 0 rfl dX11_of_78 ?_
            refine j_iload_n C 1 rfl dX11_of_79 ?_
            refine j_iload_n C 2 rfl dX11_of_80 ?_
            refine j_V1 C (n_readOf g kk (sF (sF (sF σ 16 w3) 17 w4) 18 w5) k hk hk6 hI  xn (by first | assumption | omega) yn (by first | assumption | omega)) kyX11_readOf tb_1139 tb_1141 sp_26 0 rfl (eM_0 g kk _) rfl (Nat.le_of_ble_eq_true rfl) ⟨by decide, by decide⟩ dX11_of_81 rfl (fun vr ur hp => ?_)
            obtain ⟨r10, rfl, hu⟩ := hp
            replace hu := hu.symm
            subst hu
            exact j_iret C E (sF (sF (sF σ 16 w3) 17 w4) 18 w5) ⟨_, rfl, ⟨w3, w4, w5, rfl⟩⟩ rfl dX11_of_84
          · by_cases q11 : z = nI 3
            · rw [q11]
              refine j_tabIn C 85 (by decide) (by decide) rfl (by decide) dX11_of_22 ?_
              refine j_aload_n C 0 rfl dX11_of_85 ?_
              refine gM_0_22 C tb_895 dX11_of_86 ?_
              refine j_iload_n C 1 rfl dX11_of_89 ?_
              refine j_iload_n C 2 rfl dX11_of_90 ?_
              refine j_S01 C (m_at xn yn) kyX11_at tb_1060 tb_1061 rfl (Nat.le_of_ble_eq_true rfl) ⟨by decide, by decide⟩ ⟨by decide, by decide⟩ dX11_of_91 rfl ?_
              refine rM_16 C (28 * xn + yn) rfl (by omega) (w3 (28 * xn + yn)) rfl dX11_of_94 ?_
              exact j_iret C E (sF (sF (sF σ 16 w3) 17 w4) 18 w5) ⟨_, rfl, ⟨w3, w4, w5, rfl⟩⟩ rfl dX11_of_95
            · by_cases q12 : z = nI 4
              · rw [q12]
                refine j_tabIn C 96 (by decide) (by decide) rfl (by decide) dX11_of_22 ?_
                refine j_aload_n C 0 rfl dX11_of_96 ?_
                refine gM_0_23 C tb_896 dX11_of_97 ?_
                refine j_iload_n C 1 rfl dX11_of_100 ?_
                refine j_iload_n C 2 rfl dX11_of_101 ?_
                refine j_S01 C (m_at xn yn) kyX11_at tb_1060 tb_1061 rfl (Nat.le_of_ble_eq_true rfl) ⟨by decide, by decide⟩ ⟨by decide, by decide⟩ dX11_of_102 rfl ?_
                refine rM_17 C (28 * xn + yn) rfl (by omega) (w4 (28 * xn + yn)) rfl dX11_of_105 ?_
                exact j_iret C E (sF (sF (sF σ 16 w3) 17 w4) 18 w5) ⟨_, rfl, ⟨w3, w4, w5, rfl⟩⟩ rfl dX11_of_106
              · by_cases q13 : z = nI 5
                · rw [q13]
                  refine j_tabIn C 107 (by decide) (by decide) rfl (by decide) dX11_of_22 ?_
                  refine j_aload_n C 0 rfl dX11_of_107 ?_
                  refine gM_0_24 C tb_897 dX11_of_108 ?_
                  refine j_iload_n C 1 rfl dX11_of_111 ?_
                  refine j_iload_n C 2 rfl dX11_of_112 ?_
                  refine j_S01 C (m_at xn yn) kyX11_at tb_1060 tb_1061 rfl (Nat.le_of_ble_eq_true rfl) ⟨by decide, by decide⟩ ⟨by decide, by decide⟩ dX11_of_113 rfl ?_
                  refine rM_18 C (28 * xn + yn) rfl (by omega) (w5 (28 * xn + yn)) rfl dX11_of_116 ?_
                  exact j_iret C E (sF (sF (sF σ 16 w3) 17 w4) 18 w5) ⟨_, rfl, ⟨w3, w4, w5, rfl⟩⟩ rfl dX11_of_117
                · refine j_tabOut C 118 (swOut 5 (by decide) (fun j hj => by rcases (show j = 0 ∨ j = 1 ∨ j = 2 ∨ j = 3 ∨ j = 4 ∨ j = 5 by omega) with rfl | rfl | rfl | rfl | rfl | rfl <;> assumption)) (by decide) dX11_of_22 ?_
                  refine j_bipush C ((-2)) (by decide) dX11_of_118 ?_
                  exact j_iret C E (sF (sF (sF σ 16 w3) 17 w4) 18 w5) ⟨_, rfl, ⟨w3, w4, w5, rfl⟩⟩ rfl dX11_of_120
    · replace c2 := bI_f c2
      refine j_iconst C ((-1)) (by decide) dX11_of_15 ?_
      refine j_w (cM g kk (sF σ 16 (σ.2.1 16))) (congrArg (cM g kk) (wrFi (S := σ) (c := 16) (v := σ.2.1 16) rfl)) ?_
      refine j_w (cM g kk (sF (sF σ 16 (σ.2.1 16)) 17 (σ.2.1 17))) (congrArg (cM g kk) (wrFi (S := (sF σ 16 (σ.2.1 16))) (c := 17) (v := σ.2.1 17) (gtFF (by decide) rfl))) ?_
      refine j_w (cM g kk (sF (sF (sF σ 16 (σ.2.1 16)) 17 (σ.2.1 17)) 18 (σ.2.1 18))) (congrArg (cM g kk) (wrFi (S := (sF (sF σ 16 (σ.2.1 16)) 17 (σ.2.1 17))) (c := 18) (v := σ.2.1 18) (gtFF (by decide) (gtFF (by decide) rfl)))) ?_
      exact j_iret C E (sF (sF (sF σ 16 (σ.2.1 16)) 17 (σ.2.1 17)) 18 (σ.2.1 18)) ⟨_, rfl, ⟨(σ.2.1 16), (σ.2.1 17), (σ.2.1 18), rfl⟩⟩ rfl dX11_of_16
set_option maxRecDepth 100000 in
set_option maxHeartbeats 4000000 in
theorem n_putMend (g kk : Nat → Nat) (σ : St) (k : Nat) (hk : σ.1 3 = nI k) (hk6 : k ≤ 6) (hI : iM σ) (hM : mM (σ.2.1 21) (σ.2.1 22) (σ.2.1 23)) (n : Nat) (hn0 : n < 38) (x : Nat) (y : Nat) (z : Nat) (hz0 : ((x = 0 ∧ y ≤ 5 ∧ z = 0) ∨ (x = 1 ∧ 1 ≤ y ∧ y ≤ z ∧ z ≤ 6) ∨ (x = 2 ∧ y < z ∧ z ≤ 6))) : jM (S := St) yX11_putMend cX11_putMend 5 (some .int) { frames := 0, cells := 0, slots := 0, locals := 0 } kk (cM g kk σ) [.ref (g 0), .int (nI n), .int (nI x), .int (nI y), .int (nI z)] (cM g kk) (rI (fun (r : Int32) (u : St) => ∃ (pF21 : Nat → Int32) (pF22 : Nat → Int32) (pF23 : Nat → Int32), u = sF (sF (sF σ 21 pF21) 22 pF22) 23 pF23 ∧ (mM pF21 pF22 pF23) ∧ (r = nI (n + 1)))) := by
  refine j_entry [(0, .ref (g 0)), (1, .int (nI n)), (2, .int (nI x)), (3, .int (nI y)), (4, .int (nI z))] (by decide) (Nat.le_of_ble_eq_true rfl) rfl ?_
  intro X C E HI
  refine j_aload_n C 0 rfl dX11_putMend_0 ?_
  refine gM_0_27 C tb_900 dX11_putMend_1 ?_
  refine j_iload_n C 1 rfl dX11_putMend_4 ?_
  refine j_iload_n C 2 rfl dX11_putMend_5 ?_
  refine tM_21 C n rfl (by omega) dX11_putMend_6 ?_
  refine j_aload_n C 0 rfl dX11_putMend_7 ?_
  refine gM_0_28 C tb_901 dX11_putMend_8 ?_
  refine j_iload_n C 1 rfl dX11_putMend_11 ?_
  refine j_iload_n C 3 rfl dX11_putMend_12 ?_
  refine tM_22 C n rfl (by omega) dX11_putMend_13 ?_
  refine j_aload_n C 0 rfl dX11_putMend_14 ?_
  refine gM_0_29 C tb_902 dX11_putMend_15 ?_
  refine j_iload_n C 1 rfl dX11_putMend_18 ?_
  refine j_iload C 4 rfl dX11_putMend_19 ?_
  refine tM_23 C n rfl (by omega) dX11_putMend_21 ?_
  refine j_iload_n C 1 rfl dX11_putMend_22 ?_
  refine j_iconst C (nI 1) (by decide) dX11_putMend_23 ?_
  refine j_iaddN C dX11_putMend_24 ?_
  exact j_iret C E (sF (sF (sF σ 21 (upd (σ.2.1 21) n (nI x))) 22 (upd (σ.2.1 22) n (nI y))) 23 (upd (σ.2.1 23) n (nI z))) ⟨_, rfl, ⟨(upd (σ.2.1 21) n (nI x)), (upd (σ.2.1 22) n (nI y)), (upd (σ.2.1 23) n (nI z)), rfl, (mM_upd hM ⟨x, y, z, hz0, rfl, rfl, rfl⟩), rfl⟩⟩ rfl dX11_putMend_25
set_option maxRecDepth 100000 in
set_option maxHeartbeats 4000000 in
theorem n_findMends (g kk : Nat → Nat) (σ : St) (k : Nat) (hk : σ.1 3 = nI k) (hk6 : k ≤ 6) (hI : iM σ) (hM : mM (σ.2.1 21) (σ.2.1 22) (σ.2.1 23))  : jM (S := St) yX11_findMends cX11_findMends 4 none { frames := 1, cells := 0, slots := 0, locals := 24 } kk (cM g kk σ) [.ref (g 0)] (cM g kk) (rV (fun u : St => ∃ (pF21 : Nat → Int32) (pF22 : Nat → Int32) (pF23 : Nat → Int32), u = sF (sF (sF σ 21 pF21) 22 pF22) 23 pF23 ∧ (mM pF21 pF22 pF23))) := by
  refine j_entry [(0, .ref (g 0))] (by decide) (Nat.le_of_ble_eq_true rfl) rfl ?_
  intro X C E HI
  refine j_iconst C (nI 0) (by decide) dX11_findMends_0 ?_
  refine j_istore_n C [(1, .int (nI 0)), (0, .ref (g 0))] rfl (by decide) rfl dX11_findMends_1 ?_
  refine j_iconst C (nI 0) (by decide) dX11_findMends_2 ?_
  refine j_istore_n C [(2, .int (nI 0)), (1, .int (nI 0)), (0, .ref (g 0))] rfl (by decide) rfl dX11_findMends_3 ?_
  have L4 : ∀ (n4 : Nat) (i : Nat) (n : Nat) (fa4 : Nat → Int32) (fb4 : Nat → Int32) (fc4 : Nat → Int32) (i4_0 : i ≤ 6) (i4_1 : n = i) (hmm4 : mM fa4 fb4 fc4) (hm4 : 6 - i < n4), J X 0 0 (cM g kk (sF (sF (sF σ 21 fa4) 22 fb4) 23 fc4)) [(2, .int (nI i)), (1, .int (nI n)), (0, .ref (g 0))] 4 [] := by
    intro n4
    induction n4 with
    | zero => intro i n fa4 fb4 fc4 i4_0 i4_1 hmm4 hm; exact absurd hm (Nat.not_lt_zero _)
    | succ n4 ih4 =>
      intro i n fa4 fb4 fc4 i4_0 i4_1 hmm4 hm4
      refine j_iload_n C 0 rfl dX11_findMends_4 ?_
      refine j_bipush C (nI 6) (by decide) dX11_findMends_5 ?_
      refine j_icmp_geN C 25 (by decide) (by omega) (by omega) dX11_findMends_7 (fun c1 => ?_) (fun c1 => ?_)
      · refine j_iconst C (nI 1) (by decide) dX11_findMends_25 ?_
        refine j_istore_n C [(2, .int (nI 1)), (1, .int (nI n)), (0, .ref (g 0))] rfl (by decide) rfl dX11_findMends_26 ?_
        have L27 : ∀ (n27 : Nat) (i : Nat) (n : Nat) (fa27 : Nat → Int32) (fb27 : Nat → Int32) (fc27 : Nat → Int32) (hT : Tp i n) (hmm27 : mM fa27 fb27 fc27) (hm27 : 7 - i < n27), J X 0 0 (cM g kk (sF (sF (sF σ 21 fa27) 22 fb27) 23 fc27)) [(2, .int (nI i)), (1, .int (nI n)), (0, .ref (g 0))] 27 [] := by
          intro n27
          induction n27 with
          | zero => intro i n fa27 fb27 fc27 hT hmm27 hm; exact absurd hm (Nat.not_lt_zero _)
          | succ n27 ih27 =>
            intro i n fa27 fb27 fc27 hT hmm27 hm27
            have hTl := Tp_le hT
            refine j_iload_n C 0 rfl dX11_findMends_27 ?_
            refine j_bipush C (nI 7) (by decide) dX11_findMends_28 ?_
            refine j_icmp_geN C 62 (by decide) (by omega) (by omega) dX11_findMends_30 (fun c2 => ?_) (fun c2 => ?_)
            · refine j_iconst C (nI 0) (by decide) dX11_findMends_62 ?_
              refine j_istore_n C [(2, .int (nI 0)), (1, .int (nI n)), (0, .ref (g 0))] rfl (by decide) rfl dX11_findMends_63 ?_
              have L64 : ∀ (n64 : Nat) (a : Nat) (q : Nat) (fa64 : Nat → Int32) (fb64 : Nat → Int32) (fc64 : Nat → Int32) (i64_0 : a ≤ 6) (i64_1 : q ≤ 27 + 2 * a) (hmm64 : mM fa64 fb64 fc64) (hm64 : 6 - a < n64), J X 0 0 (cM g kk (sF (sF (sF σ 21 fa64) 22 fb64) 23 fc64)) [(2, .int (nI a)), (1, .int (nI q)), (0, .ref (g 0))] 64 [] := by
                intro n64
                induction n64 with
                | zero => intro a q fa64 fb64 fc64 i64_0 i64_1 hmm64 hm; exact absurd hm (Nat.not_lt_zero _)
                | succ n64 ih64 =>
                  intro a q fa64 fb64 fc64 i64_0 i64_1 hmm64 hm64
                  refine j_iload_n C 0 rfl dX11_findMends_64 ?_
                  refine j_bipush C (nI 6) (by decide) dX11_findMends_65 ?_
                  refine j_icmp_geN C 108 (by decide) (by omega) (by omega) dX11_findMends_67 (fun c3 => ?_) (fun c3 => ?_)
                  · exact j_vret C E (sF (sF (sF σ 21 fa64) 22 fb64) 23 fc64) ⟨rfl, ⟨fa64, fb64, fc64, rfl, hmm64⟩⟩ rfl dX11_findMends_108
                  · refine j_iload_n C 0 rfl dX11_findMends_70 ?_
                    refine j_iconst C (nI 1) (by decide) dX11_findMends_71 ?_
                    refine j_iaddN C dX11_findMends_72 ?_
                    refine j_istore_n C [(3, .int (nI (a + 1))), (2, .int (nI a)), (1, .int (nI q)), (0, .ref (g 0))] rfl (by decide) rfl dX11_findMends_73 ?_
                    have L74 : ∀ (n74 : Nat) (b : Nat) (q2 : Nat) (fa74 : Nat → Int32) (fb74 : Nat → Int32) (fc74 : Nat → Int32) (i74_0 : a < b) (i74_1 : b ≤ 7) (i74_2 : b ≤ a + 3) (i74_3 : q2 + a + 1 ≤ q + b) (hmm74 : mM fa74 fb74 fc74) (hm74 : 7 - b < n74), J X 0 0 (cM g kk (sF (sF (sF σ 21 fa74) 22 fb74) 23 fc74)) [(3, .int (nI b)), (2, .int (nI a)), (1, .int (nI q2)), (0, .ref (g 0))] 74 [] := by
                      intro n74
                      induction n74 with
                      | zero => intro b q2 fa74 fb74 fc74 i74_0 i74_1 i74_2 i74_3 hmm74 hm; exact absurd hm (Nat.not_lt_zero _)
                      | succ n74 ih74 =>
                        intro b q2 fa74 fb74 fc74 i74_0 i74_1 i74_2 i74_3 hmm74 hm74
                        refine j_iload_n C 0 rfl dX11_findMends_74 ?_
                        refine j_bipush C (nI 7) (by decide) dX11_findMends_75 ?_
                        refine j_icmp_geN C 102 (by decide) (by omega) (by omega) dX11_findMends_77 (fun c4 => ?_) (fun c4 => ?_)
                        · refine j_iinc C (nI (a + 1)) [(2, .int (nI (a + 1))), (3, .int (nI b)), (1, .int (nI q2)), (0, .ref (g 0))] 1 rfl (by rw [show Int32.ofInt 1 = nI 1 from by decide, nI_add]) (by decide) rfl dX11_findMends_102 ?_
                          refine j_goto C 64 (by decide) dX11_findMends_105 ?_
                          refine j_sub (lv' := [(2, .int (nI (a + 1))), (1, .int (nI q2)), (0, .ref (g 0))]) [0, 2, 3] rfl ?_
                          exact ih64 (a + 1) q2 fa74 fb74 fc74 (by omega) (by omega) hmm74 (by omega)
                        · refine j_iload_n C 0 rfl dX11_findMends_80 ?_
                          refine j_iload_n C 1 rfl dX11_findMends_81 ?_
                          refine j_iconst C (nI 3) (by decide) dX11_findMends_82 ?_
                          refine j_iaddN C dX11_findMends_83 ?_
                          refine j_icmp_geN C 102 (by decide) (by omega) (by omega) dX11_findMends_84 (fun c5 => ?_) (fun c5 => ?_)
                          · refine j_iinc C (nI (a + 1)) [(2, .int (nI (a + 1))), (3, .int (nI b)), (1, .int (nI q2)), (0, .ref (g 0))] 1 rfl (by rw [show Int32.ofInt 1 = nI 1 from by decide, nI_add]) (by decide) rfl dX11_findMends_102 ?_
                            refine j_goto C 64 (by decide) dX11_findMends_105 ?_
                            refine j_sub (lv' := [(2, .int (nI (a + 1))), (1, .int (nI q2)), (0, .ref (g 0))]) [0, 2, 3] rfl ?_
                            exact ih64 (a + 1) q2 fa74 fb74 fc74 (by omega) (by omega) hmm74 (by omega)
                          · refine j_aload_n C 3 rfl dX11_findMends_87 ?_
                            refine j_iload_n C 2 rfl dX11_findMends_88 ?_
                            refine j_iconst C (nI 2) (by decide) dX11_findMends_89 ?_
                            refine j_iload_n C 1 rfl dX11_findMends_90 ?_
                            refine j_iload_n C 0 rfl dX11_findMends_91 ?_
                            refine j_V1 C (n_putMend g kk (sF (sF (sF σ 21 fa74) 22 fb74) 23 fc74) k hk hk6 hI hmm74 q2 (by first | assumption | omega) 2 a b (Or.inr (Or.inr ⟨rfl, by omega, by omega⟩))) kyX11_putMend tb_1189 tb_1191 sp_34 0 rfl (eM_0 g kk _) rfl (Nat.le_of_ble_eq_true rfl) ⟨by decide, by decide⟩ dX11_findMends_92 rfl (fun vr ur hp => ?_)
                            obtain ⟨r11, rfl, w6, w7, w8, hu, g9, g10⟩ := hp
                            replace hu := hu.symm
                            subst hu
                            have r11e := g10
                            subst r11e
                            refine j_istore_n C [(1, .int (nI (q2 + 1))), (3, .int (nI b)), (2, .int (nI a)), (0, .ref (g 0))] rfl (by decide) rfl dX11_findMends_95 ?_
                            refine j_iinc C (nI (b + 1)) [(3, .int (nI (b + 1))), (1, .int (nI (q2 + 1))), (2, .int (nI a)), (0, .ref (g 0))] 1 rfl (by rw [show Int32.ofInt 1 = nI 1 from by decide, nI_add]) (by decide) rfl dX11_findMends_96 ?_
                            refine j_goto C 74 (by decide) dX11_findMends_99 ?_
                            refine j_sub (lv' := [(3, .int (nI (b + 1))), (2, .int (nI a)), (1, .int (nI (q2 + 1))), (0, .ref (g 0))]) [0, 2, 1, 3] rfl ?_
                            refine j_w (cM g kk (sF (sF (sF σ 21 w6) 22 w7) 23 w8)) (congrArg (cM g kk) (show sF (sF (sF (sF (sF (sF σ 21 fa74) 22 fb74) 23 fc74) 21 w6) 22 w7) 23 w8 = sF (sF (sF σ 21 w6) 22 w7) 23 w8 from (Eq.trans (wrF (Eq.trans (wrF (Eq.trans (wrFc (by decide)) (wrF (Eq.trans (wrFc (by decide)) (wrF wrFs))))) (Eq.trans (wrFc (by decide)) (wrF wrFs)))) wrFs))) ?_
                            exact ih74 (b + 1) (q2 + 1) w6 w7 w8 (by omega) (by omega) (by omega) (by omega) g9 (by omega)
                    exact L74 _ (a + 1) q fa64 fb64 fc64 (by omega) (by omega) (by omega) (by omega) hmm64 (Nat.lt_succ_self _)
              exact L64 _ 0 n fa27 fb27 fc27 (by omega) (by omega) hmm27 (Nat.lt_succ_self _)
            · refine j_iload_n C 0 rfl dX11_findMends_33 ?_
              refine j_istore_n C [(3, .int (nI i)), (2, .int (nI i)), (1, .int (nI n)), (0, .ref (g 0))] rfl (by decide) rfl dX11_findMends_34 ?_
              have L35 : ∀ (n35 : Nat) (j : Nat) (n2 : Nat) (fa35 : Nat → Int32) (fb35 : Nat → Int32) (fc35 : Nat → Int32) (i35_0 : i ≤ j) (i35_1 : j ≤ 7) (i35_2 : n2 = n + (j - i)) (hmm35 : mM fa35 fb35 fc35) (hm35 : 7 - j < n35), J X 0 0 (cM g kk (sF (sF (sF σ 21 fa35) 22 fb35) 23 fc35)) [(3, .int (nI j)), (2, .int (nI i)), (1, .int (nI n2)), (0, .ref (g 0))] 35 [] := by
                intro n35
                induction n35 with
                | zero => intro j n2 fa35 fb35 fc35 i35_0 i35_1 i35_2 hmm35 hm; exact absurd hm (Nat.not_lt_zero _)
                | succ n35 ih35 =>
                  intro j n2 fa35 fb35 fc35 i35_0 i35_1 i35_2 hmm35 hm35
                  refine j_iload_n C 0 rfl dX11_findMends_35 ?_
                  refine j_bipush C (nI 7) (by decide) dX11_findMends_36 ?_
                  refine j_icmp_geN C 56 (by decide) (by omega) (by omega) dX11_findMends_38 (fun c12 => ?_) (fun c12 => ?_)
                  · refine j_iinc C (nI (i + 1)) [(2, .int (nI (i + 1))), (3, .int (nI j)), (1, .int (nI n2)), (0, .ref (g 0))] 1 rfl (by rw [show Int32.ofInt 1 = nI 1 from by decide, nI_add]) (by decide) rfl dX11_findMends_56 ?_
                    refine j_goto C 27 (by decide) dX11_findMends_59 ?_
                    refine j_sub (lv' := [(2, .int (nI (i + 1))), (1, .int (nI n2)), (0, .ref (g 0))]) [0, 2, 3] rfl ?_
                    exact ih27 (i + 1) n2 fa35 fb35 fc35 (Tp_s hT (by omega) (by omega)) hmm35 (by omega)
                  · refine j_aload_n C 3 rfl dX11_findMends_41 ?_
                    refine j_iload_n C 2 rfl dX11_findMends_42 ?_
                    refine j_iconst C (nI 1) (by decide) dX11_findMends_43 ?_
                    refine j_iload_n C 1 rfl dX11_findMends_44 ?_
                    refine j_iload_n C 0 rfl dX11_findMends_45 ?_
                    refine j_V1 C (n_putMend g kk (sF (sF (sF σ 21 fa35) 22 fb35) 23 fc35) k hk hk6 hI hmm35 n2 (by first | assumption | omega) 1 i j (Or.inr (Or.inl ⟨rfl, by omega, by omega, by omega⟩))) kyX11_putMend tb_1189 tb_1191 sp_34 0 rfl (eM_0 g kk _) rfl (Nat.le_of_ble_eq_true rfl) ⟨by decide, by decide⟩ dX11_findMends_46 rfl (fun vr ur hp => ?_)
                    obtain ⟨r18, rfl, w13, w14, w15, hu, g16, g17⟩ := hp
                    replace hu := hu.symm
                    subst hu
                    have r18e := g17
                    subst r18e
                    refine j_istore_n C [(1, .int (nI (n2 + 1))), (3, .int (nI j)), (2, .int (nI i)), (0, .ref (g 0))] rfl (by decide) rfl dX11_findMends_49 ?_
                    refine j_iinc C (nI (j + 1)) [(3, .int (nI (j + 1))), (1, .int (nI (n2 + 1))), (2, .int (nI i)), (0, .ref (g 0))] 1 rfl (by rw [show Int32.ofInt 1 = nI 1 from by decide, nI_add]) (by decide) rfl dX11_findMends_50 ?_
                    refine j_goto C 35 (by decide) dX11_findMends_53 ?_
                    refine j_sub (lv' := [(3, .int (nI (j + 1))), (2, .int (nI i)), (1, .int (nI (n2 + 1))), (0, .ref (g 0))]) [0, 2, 1, 3] rfl ?_
                    refine j_w (cM g kk (sF (sF (sF σ 21 w13) 22 w14) 23 w15)) (congrArg (cM g kk) (show sF (sF (sF (sF (sF (sF σ 21 fa35) 22 fb35) 23 fc35) 21 w13) 22 w14) 23 w15 = sF (sF (sF σ 21 w13) 22 w14) 23 w15 from (Eq.trans (wrF (Eq.trans (wrF (Eq.trans (wrFc (by decide)) (wrF (Eq.trans (wrFc (by decide)) (wrF wrFs))))) (Eq.trans (wrFc (by decide)) (wrF wrFs)))) wrFs))) ?_
                    exact ih35 (j + 1) (n2 + 1) w13 w14 w15 (by omega) (by omega) (by omega) g16 (by omega)
              exact L35 _ i n fa27 fb27 fc27 (by omega) (by omega) (by omega) hmm27 (Nat.lt_succ_self _)
        exact L27 _ 1 n fa4 fb4 fc4 (show Tp 1 n from by rw [show n = 6 by omega]; exact Tp_1) hmm4 (Nat.lt_succ_self _)
      · refine j_aload_n C 2 rfl dX11_findMends_10 ?_
        refine j_iload_n C 1 rfl dX11_findMends_11 ?_
        refine j_iconst C (nI 0) (by decide) dX11_findMends_12 ?_
        refine j_iload_n C 0 rfl dX11_findMends_13 ?_
        refine j_iconst C (nI 0) (by decide) dX11_findMends_14 ?_
        refine j_V1 C (n_putMend g kk (sF (sF (sF σ 21 fa4) 22 fb4) 23 fc4) k hk hk6 hI hmm4 n (by first | assumption | omega) 0 i 0 (Or.inl ⟨rfl, by omega, rfl⟩)) kyX11_putMend tb_1189 tb_1191 sp_34 0 rfl (eM_0 g kk _) rfl (Nat.le_of_ble_eq_true rfl) ⟨by decide, by decide⟩ dX11_findMends_15 rfl (fun vr ur hp => ?_)
        obtain ⟨r24, rfl, w19, w20, w21, hu, g22, g23⟩ := hp
        replace hu := hu.symm
        subst hu
        have r24e := g23
        subst r24e
        refine j_istore_n C [(1, .int (nI (n + 1))), (2, .int (nI i)), (0, .ref (g 0))] rfl (by decide) rfl dX11_findMends_18 ?_
        refine j_iinc C (nI (i + 1)) [(2, .int (nI (i + 1))), (1, .int (nI (n + 1))), (0, .ref (g 0))] 1 rfl (by rw [show Int32.ofInt 1 = nI 1 from by decide, nI_add]) (by decide) rfl dX11_findMends_19 ?_
        refine j_goto C 4 (by decide) dX11_findMends_22 ?_
        refine j_w (cM g kk (sF (sF (sF σ 21 w19) 22 w20) 23 w21)) (congrArg (cM g kk) (show sF (sF (sF (sF (sF (sF σ 21 fa4) 22 fb4) 23 fc4) 21 w19) 22 w20) 23 w21 = sF (sF (sF σ 21 w19) 22 w20) 23 w21 from (Eq.trans (wrF (Eq.trans (wrF (Eq.trans (wrFc (by decide)) (wrF (Eq.trans (wrFc (by decide)) (wrF wrFs))))) (Eq.trans (wrFc (by decide)) (wrF wrFs)))) wrFs))) ?_
        exact ih4 (i + 1) (n + 1) w19 w20 w21 (by omega) (by omega) g22 (by omega)
  refine j_w (cM g kk (sF σ 21 (σ.2.1 21))) (congrArg (cM g kk) (wrFi (S := σ) (c := 21) (v := σ.2.1 21) rfl)) ?_
  refine j_w (cM g kk (sF (sF σ 21 (σ.2.1 21)) 22 (σ.2.1 22))) (congrArg (cM g kk) (wrFi (S := (sF σ 21 (σ.2.1 21))) (c := 22) (v := σ.2.1 22) (gtFF (by decide) rfl))) ?_
  refine j_w (cM g kk (sF (sF (sF σ 21 (σ.2.1 21)) 22 (σ.2.1 22)) 23 (σ.2.1 23))) (congrArg (cM g kk) (wrFi (S := (sF (sF σ 21 (σ.2.1 21)) 22 (σ.2.1 22))) (c := 23) (v := σ.2.1 23) (gtFF (by decide) (gtFF (by decide) rfl)))) ?_
  exact L4 _ 0 0 (σ.2.1 21) (σ.2.1 22) (σ.2.1 23) (by omega) (by omega) hM (Nat.lt_succ_self _)
set_option maxRecDepth 100000 in
set_option maxHeartbeats 4000000 in
theorem n_mend (g kk : Nat → Nat) (σ : St) (k : Nat) (hk : σ.1 3 = nI k) (hk6 : k ≤ 6) (hI : iM σ) (hM : mM (σ.2.1 21) (σ.2.1 22) (σ.2.1 23)) (w : Nat) (hw0 : w ≤ 1) (q : Nat) (hq0 : q < 38) : jM (S := St) yX11_mend cX11_mend 11 (some .boolean) { frames := 0, cells := 0, slots := 0, locals := 0 } kk (cM g kk σ) [.ref (g 0), .int (nI w), .int (nI q)] (cM g kk) (rI (fun (r : Int32) (u : St) => ∃ (pF19 : Nat → Int32), u = sF σ 19 pF19)) := by
  refine j_entry [(0, .ref (g 0)), (1, .int (nI w)), (2, .int (nI q))] (by decide) (Nat.le_of_ble_eq_true rfl) rfl ?_
  intro X C E HI
  refine j_bipush C (nI 7) (by decide) dX11_mend_0 ?_
  refine j_iload_n C 1 rfl dX11_mend_2 ?_
  refine j_imulN C dX11_mend_3 ?_
  refine j_istore_n C [(3, .int (nI (7 * w))), (0, .ref (g 0)), (1, .int (nI w)), (2, .int (nI q))] rfl (by decide) rfl dX11_mend_4 ?_
  refine j_bipush C (nI 7) (by decide) dX11_mend_5 ?_
  refine j_iload_n C 2 rfl dX11_mend_7 ?_
  refine j_imulN C dX11_mend_8 ?_
  refine j_bipush C (nI 7) (by decide) dX11_mend_9 ?_
  refine j_iaddN C dX11_mend_11 ?_
  refine j_istore C [(4, .int (nI ((7 * w) + 7))), (3, .int (nI (7 * w))), (0, .ref (g 0)), (1, .int (nI w)), (2, .int (nI q))] (by decide) rfl dX11_mend_12 ?_
  refine j_iconst C (nI 0) (by decide) dX11_mend_14 ?_
  refine j_istore C [(5, .int (nI 0)), (4, .int (nI ((7 * w) + 7))), (3, .int (nI (7 * w))), (0, .ref (g 0)), (1, .int (nI w)), (2, .int (nI q))] (by decide) rfl dX11_mend_15 ?_
  have L17 : ∀ (n17 : Nat) (i : Nat) (z17_F19 : Nat → Int32) (i17_0 : i ≤ 7) (hm17 : 7 - i < n17), J X 0 0 (cM g kk (sF σ 19 z17_F19)) [(5, .int (nI i)), (4, .int (nI ((7 * w) + 7))), (3, .int (nI (7 * w))), (0, .ref (g 0)), (1, .int (nI w)), (2, .int (nI q))] 17 [] := by
    intro n17
    induction n17 with
    | zero => intro i z17_F19 i17_0 hm; exact absurd hm (Nat.not_lt_zero _)
    | succ n17 ih17 =>
      intro i z17_F19 i17_0 hm17
      refine j_iload C 0 rfl dX11_mend_17 ?_
      refine j_bipush C (nI 7) (by decide) dX11_mend_19 ?_
      refine j_icmp_geN C 49 (by decide) (by omega) (by omega) dX11_mend_21 (fun c1 => ?_) (fun c1 => ?_)
      · obtain ⟨x0, y0, z0, hxyz, e1, e2, e3⟩ := hM q hq0
        refine j_aload_n C 3 rfl dX11_mend_49 ?_
        refine gM_0_28 C tb_901 dX11_mend_50 ?_
        refine j_iload_n C 5 rfl dX11_mend_53 ?_
        refine rM_22 C q rfl (by omega) (nI y0) e2 dX11_mend_54 ?_
        refine j_istore C [(5, .int (nI y0)), (4, .int (nI ((7 * w) + 7))), (3, .int (nI (7 * w))), (0, .ref (g 0)), (1, .int (nI w)), (2, .int (nI q))] (by decide) rfl dX11_mend_55 ?_
        refine j_aload_n C 3 rfl dX11_mend_57 ?_
        refine gM_0_29 C tb_902 dX11_mend_58 ?_
        refine j_iload_n C 5 rfl dX11_mend_61 ?_
        refine rM_23 C q rfl (by omega) (nI z0) e3 dX11_mend_62 ?_
        refine j_istore C [(6, .int (nI z0)), (5, .int (nI y0)), (4, .int (nI ((7 * w) + 7))), (3, .int (nI (7 * w))), (0, .ref (g 0)), (1, .int (nI w)), (2, .int (nI q))] (by decide) rfl dX11_mend_63 ?_
        refine j_aload_n C 4 rfl dX11_mend_65 ?_
        refine gM_0_27 C tb_900 dX11_mend_66 ?_
        refine j_iload_n C 6 rfl dX11_mend_69 ?_
        refine rM_21 C q rfl (by omega) (nI x0) e1 dX11_mend_70 ?_
        refine j_if_neN C 118 (by decide) (by omega) dX11_mend_71 (fun c2 => ?_) (fun c2 => ?_)
        · refine j_aload_n C 4 rfl dX11_mend_118 ?_
          refine gM_0_27 C tb_900 dX11_mend_119 ?_
          refine j_iload_n C 6 rfl dX11_mend_122 ?_
          refine rM_21 C q rfl (by omega) (nI x0) e1 dX11_mend_123 ?_
          refine j_iconst C (nI 1) (by decide) dX11_mend_124 ?_
          refine j_icmp_neN C 179 (by decide) (by omega) (by omega) dX11_mend_125 (fun c3 => ?_) (fun c3 => ?_)
          · refine j_aload_n C 4 rfl dX11_mend_179 ?_
            refine gM_0_26 C tb_899 dX11_mend_180 ?_
            refine j_iload C 0 rfl dX11_mend_183 ?_
            refine rM_20 C z0 rfl (by omega) ((σ.2.1 20) z0) rfl dX11_mend_185 ?_
            refine j_istore C [(7, .int ((σ.2.1 20) z0)), (6, .int (nI z0)), (5, .int (nI y0)), (4, .int (nI ((7 * w) + 7))), (3, .int (nI (7 * w))), (0, .ref (g 0)), (1, .int (nI w)), (2, .int (nI q))] (by decide) rfl dX11_mend_186 ?_
            refine j_iload C 2 rfl dX11_mend_188 ?_
            refine j_istore C [(8, .int (nI y0)), (7, .int ((σ.2.1 20) z0)), (6, .int (nI z0)), (5, .int (nI y0)), (4, .int (nI ((7 * w) + 7))), (3, .int (nI (7 * w))), (0, .ref (g 0)), (1, .int (nI w)), (2, .int (nI q))] (by decide) rfl dX11_mend_190 ?_
            have L192 : ∀ (n192 : Nat) (a : Nat) (y192_7 : Int32) (i192_0 : a ≤ 7) (hm192 : 7 - a < n192), J X 0 0 (cM g kk (sF σ 19 z17_F19)) [(8, .int (nI a)), (7, .int y192_7), (6, .int (nI z0)), (5, .int (nI y0)), (4, .int (nI ((7 * w) + 7))), (3, .int (nI (7 * w))), (0, .ref (g 0)), (1, .int (nI w)), (2, .int (nI q))] 192 [] := by
              intro n192
              induction n192 with
              | zero => intro a y192_7 i192_0 hm; exact absurd hm (Nat.not_lt_zero _)
              | succ n192 ih192 =>
                intro a y192_7 i192_0 hm192
                refine j_iload C 0 rfl dX11_mend_192 ?_
                refine j_iload C 2 rfl dX11_mend_194 ?_
                refine j_icmp_geN C 231 (by decide) (by omega) (by omega) dX11_mend_196 (fun c4 => ?_) (fun c4 => ?_)
                · refine j_aload_n C 6 rfl dX11_mend_231 ?_
                  refine gM_0_25 C tb_898 dX11_mend_232 ?_
                  refine j_iload_n C 5 rfl dX11_mend_235 ?_
                  refine j_iload C 2 rfl dX11_mend_236 ?_
                  refine j_iaddN C dX11_mend_238 ?_
                  refine rM_19 C ((7 * w) + z0) rfl (by omega) (z17_F19 ((7 * w) + z0)) rfl dX11_mend_239 ?_
                  refine j_istore C [(8, .int (z17_F19 ((7 * w) + z0))), (7, .int y192_7), (6, .int (nI z0)), (5, .int (nI y0)), (4, .int (nI ((7 * w) + 7))), (3, .int (nI (7 * w))), (0, .ref (g 0)), (1, .int (nI w)), (2, .int (nI q))] (by decide) rfl dX11_mend_240 ?_
                  refine j_iload C 0 rfl dX11_mend_242 ?_
                  refine j_istore C [(9, .int (z17_F19 ((7 * w) + z0))), (8, .int (z17_F19 ((7 * w) + z0))), (7, .int y192_7), (6, .int (nI z0)), (5, .int (nI y0)), (4, .int (nI ((7 * w) + 7))), (3, .int (nI (7 * w))), (0, .ref (g 0)), (1, .int (nI w)), (2, .int (nI q))] (by decide) rfl dX11_mend_244 ?_
                  refine j_iload C 4 rfl dX11_mend_246 ?_
                  refine j_istore C [(10, .int (nI y0)), (9, .int (z17_F19 ((7 * w) + z0))), (8, .int (z17_F19 ((7 * w) + z0))), (7, .int y192_7), (6, .int (nI z0)), (5, .int (nI y0)), (4, .int (nI ((7 * w) + 7))), (3, .int (nI (7 * w))), (0, .ref (g 0)), (1, .int (nI w)), (2, .int (nI q))] (by decide) rfl dX11_mend_248 ?_
                  have L250 : ∀ (n250 : Nat) (b : Nat) (y250_9 : Int32) (z250_F19 : Nat → Int32) (i250_0 : b ≤ 7) (hm250 : 7 - b < n250), J X 0 0 (cM g kk (sF σ 19 z250_F19)) [(10, .int (nI b)), (9, .int y250_9), (8, .int (z17_F19 ((7 * w) + z0))), (7, .int y192_7), (6, .int (nI z0)), (5, .int (nI y0)), (4, .int (nI ((7 * w) + 7))), (3, .int (nI (7 * w))), (0, .ref (g 0)), (1, .int (nI w)), (2, .int (nI q))] 250 [] := by
                    intro n250
                    induction n250 with
                    | zero => intro b y250_9 z250_F19 i250_0 hm; exact absurd hm (Nat.not_lt_zero _)
                    | succ n250 ih250 =>
                      intro b y250_9 z250_F19 i250_0 hm250
                      refine j_iload C 0 rfl dX11_mend_250 ?_
                      refine j_iload C 4 rfl dX11_mend_252 ?_
                      refine j_icmp_geN C 314 (by decide) (by omega) (by omega) dX11_mend_254 (fun c5 => ?_) (fun c5 => ?_)
                      · refine j_aload_n C 8 rfl dX11_mend_314 ?_
                        refine gM_0_25 C tb_898 dX11_mend_315 ?_
                        refine j_iload C 6 rfl dX11_mend_318 ?_
                        refine j_iload C 4 rfl dX11_mend_320 ?_
                        refine j_iaddN C dX11_mend_322 ?_
                        refine j_iload C 1 rfl dX11_mend_323 ?_
                        refine tM_19 C (((7 * w) + 7) + z0) rfl (by omega) dX11_mend_325 ?_
                        refine j_iconst C (nI 1) (by decide) dX11_mend_326 ?_
                        refine j_w (cM g kk (sF σ 19 (upd z250_F19 (((7 * w) + 7) + z0) y250_9))) (congrArg (cM g kk) (show sF (sF σ 19 z250_F19) 19 (upd z250_F19 (((7 * w) + 7) + z0) y250_9) = sF σ 19 (upd z250_F19 (((7 * w) + 7) + z0) y250_9) from wrFs)) ?_
                        exact j_zret C E (by first | rfl | decide) (sF σ 19 (upd z250_F19 (((7 * w) + 7) + z0) y250_9)) ⟨_, rfl, ⟨(upd z250_F19 (((7 * w) + 7) + z0) y250_9), rfl⟩⟩ rfl dX11_mend_327
                      · refine j_aload_n C 8 rfl dX11_mend_257 ?_
                        refine gM_0_25 C tb_898 dX11_mend_258 ?_
                        refine j_iload C 6 rfl dX11_mend_261 ?_
                        refine j_iload C 0 rfl dX11_mend_263 ?_
                        refine j_iaddN C dX11_mend_265 ?_
                        refine j_iload C 3 rfl dX11_mend_266 ?_
                        refine j_if_ne C 275 (by decide) dX11_mend_268 (fun c6 => ?_) (fun c6 => ?_)
                        · refine j_iload C 2 rfl dX11_mend_275 ?_
                          refine j_i2l C dX11_mend_277 ?_
                          refine j_topL (fun v7 => ?_)
                          refine j_aload_n C 8 rfl dX11_mend_278 ?_
                          refine gM_0_26 C tb_899 dX11_mend_279 ?_
                          refine j_iload C 0 rfl dX11_mend_282 ?_
                          refine rM_20 C b rfl (by omega) ((σ.2.1 20) b) rfl dX11_mend_284 ?_
                          refine j_i2l C dX11_mend_285 ?_
                          refine j_lmul C dX11_mend_286 ?_
                          refine j_iload C 3 rfl dX11_mend_287 ?_
                          refine j_i2l C dX11_mend_289 ?_
                          refine j_ldiv C (by first | decide | assumption | exact nI_ne0 (by omega) (by omega) | exact i64ne (by assumption) | exact i64ne (nI_ne0 (by omega) (by omega))) dX11_mend_290 ?_
                          refine j_topL (fun v8 => ?_)
                          refine j_l2i C dX11_mend_291 ?_
                          refine tM_19 C (((7 * w) + 7) + b) rfl (by omega) dX11_mend_292 ?_
                          refine j_iload C 1 rfl dX11_mend_293 ?_
                          refine j_aload_n C 8 rfl dX11_mend_295 ?_
                          refine gM_0_25 C tb_898 dX11_mend_296 ?_
                          refine j_iload C 6 rfl dX11_mend_299 ?_
                          refine j_iload C 0 rfl dX11_mend_301 ?_
                          refine j_iaddN C dX11_mend_303 ?_
                          refine rM_19 C (((7 * w) + 7) + b) rfl (by omega) ((upd z250_F19 (((7 * w) + 7) + b) v8.toInt32) (((7 * w) + 7) + b)) rfl dX11_mend_304 ?_
                          refine j_top (fun v9 => ?_)
                          refine j_isub C dX11_mend_305 ?_
                          refine j_istore C [(9, .int (y250_9 - v9)), (10, .int (nI b)), (8, .int (z17_F19 ((7 * w) + z0))), (7, .int y192_7), (6, .int (nI z0)), (5, .int (nI y0)), (4, .int (nI ((7 * w) + 7))), (3, .int (nI (7 * w))), (0, .ref (g 0)), (1, .int (nI w)), (2, .int (nI q))] (by decide) rfl dX11_mend_306 ?_
                          refine j_iinc C (nI (b + 1)) [(10, .int (nI (b + 1))), (9, .int (y250_9 - v9)), (8, .int (z17_F19 ((7 * w) + z0))), (7, .int y192_7), (6, .int (nI z0)), (5, .int (nI y0)), (4, .int (nI ((7 * w) + 7))), (3, .int (nI (7 * w))), (0, .ref (g 0)), (1, .int (nI w)), (2, .int (nI q))] 1 rfl (by rw [show Int32.ofInt 1 = nI 1 from by decide, nI_add]) (by decide) rfl dX11_mend_308 ?_
                          refine j_goto C 250 (by decide) dX11_mend_311 ?_
                          refine j_w (cM g kk (sF σ 19 (upd z250_F19 (((7 * w) + 7) + b) v8.toInt32))) (congrArg (cM g kk) (show sF (sF σ 19 z250_F19) 19 (upd z250_F19 (((7 * w) + 7) + b) v8.toInt32) = sF σ 19 (upd z250_F19 (((7 * w) + 7) + b) v8.toInt32) from wrFs)) ?_
                          exact ih250 (b + 1) (y250_9 - v9) (upd z250_F19 (((7 * w) + 7) + b) v8.toInt32) (by omega) (by omega)
                        · refine j_iconst C (nI 0) (by decide) dX11_mend_271 ?_
                          refine j_goto C 292 (by decide) dX11_mend_272 ?_
                          refine tM_19 C (((7 * w) + 7) + b) rfl (by omega) dX11_mend_292 ?_
                          refine j_iload C 1 rfl dX11_mend_293 ?_
                          refine j_aload_n C 8 rfl dX11_mend_295 ?_
                          refine gM_0_25 C tb_898 dX11_mend_296 ?_
                          refine j_iload C 6 rfl dX11_mend_299 ?_
                          refine j_iload C 0 rfl dX11_mend_301 ?_
                          refine j_iaddN C dX11_mend_303 ?_
                          refine rM_19 C (((7 * w) + 7) + b) rfl (by omega) ((upd z250_F19 (((7 * w) + 7) + b) (nI 0)) (((7 * w) + 7) + b)) rfl dX11_mend_304 ?_
                          refine j_top (fun v10 => ?_)
                          refine j_isub C dX11_mend_305 ?_
                          refine j_istore C [(9, .int (y250_9 - v10)), (10, .int (nI b)), (8, .int (z17_F19 ((7 * w) + z0))), (7, .int y192_7), (6, .int (nI z0)), (5, .int (nI y0)), (4, .int (nI ((7 * w) + 7))), (3, .int (nI (7 * w))), (0, .ref (g 0)), (1, .int (nI w)), (2, .int (nI q))] (by decide) rfl dX11_mend_306 ?_
                          refine j_iinc C (nI (b + 1)) [(10, .int (nI (b + 1))), (9, .int (y250_9 - v10)), (8, .int (z17_F19 ((7 * w) + z0))), (7, .int y192_7), (6, .int (nI z0)), (5, .int (nI y0)), (4, .int (nI ((7 * w) + 7))), (3, .int (nI (7 * w))), (0, .ref (g 0)), (1, .int (nI w)), (2, .int (nI q))] 1 rfl (by rw [show Int32.ofInt 1 = nI 1 from by decide, nI_add]) (by decide) rfl dX11_mend_308 ?_
                          refine j_goto C 250 (by decide) dX11_mend_311 ?_
                          refine j_w (cM g kk (sF σ 19 (upd z250_F19 (((7 * w) + 7) + b) (nI 0)))) (congrArg (cM g kk) (show sF (sF σ 19 z250_F19) 19 (upd z250_F19 (((7 * w) + 7) + b) (nI 0)) = sF σ 19 (upd z250_F19 (((7 * w) + 7) + b) (nI 0)) from wrFs)) ?_
                          exact ih250 (b + 1) (y250_9 - v10) (upd z250_F19 (((7 * w) + 7) + b) (nI 0)) (by omega) (by omega)
                  exact L250 _ y0 (z17_F19 ((7 * w) + z0)) z17_F19 (by omega) (Nat.lt_succ_self _)
                · refine j_aload_n C 6 rfl dX11_mend_199 ?_
                  refine gM_0_25 C tb_898 dX11_mend_200 ?_
                  refine j_iload_n C 5 rfl dX11_mend_203 ?_
                  refine j_iload C 0 rfl dX11_mend_204 ?_
                  refine j_iaddN C dX11_mend_206 ?_
                  refine rM_19 C ((7 * w) + a) rfl (by omega) (z17_F19 ((7 * w) + a)) rfl dX11_mend_207 ?_
                  refine j_if_eq C 213 (by decide) dX11_mend_208 (fun c11 => ?_) (fun c11 => ?_)
                  · refine j_iload C 1 rfl dX11_mend_213 ?_
                    refine j_aload_n C 6 rfl dX11_mend_215 ?_
                    refine gM_0_26 C tb_899 dX11_mend_216 ?_
                    refine j_iload C 0 rfl dX11_mend_219 ?_
                    refine rM_20 C a rfl (by omega) ((σ.2.1 20) a) rfl dX11_mend_221 ?_
                    refine j_iadd C dX11_mend_222 ?_
                    refine j_istore C [(7, .int (y192_7 + ((σ.2.1 20) a))), (8, .int (nI a)), (6, .int (nI z0)), (5, .int (nI y0)), (4, .int (nI ((7 * w) + 7))), (3, .int (nI (7 * w))), (0, .ref (g 0)), (1, .int (nI w)), (2, .int (nI q))] (by decide) rfl dX11_mend_223 ?_
                    refine j_iinc C (nI (a + 1)) [(8, .int (nI (a + 1))), (7, .int (y192_7 + ((σ.2.1 20) a))), (6, .int (nI z0)), (5, .int (nI y0)), (4, .int (nI ((7 * w) + 7))), (3, .int (nI (7 * w))), (0, .ref (g 0)), (1, .int (nI w)), (2, .int (nI q))] 1 rfl (by rw [show Int32.ofInt 1 = nI 1 from by decide, nI_add]) (by decide) rfl dX11_mend_225 ?_
                    refine j_goto C 192 (by decide) dX11_mend_228 ?_
                    exact ih192 (a + 1) (y192_7 + ((σ.2.1 20) a)) (by omega) (by omega)
                  · refine j_iconst C (nI 0) (by decide) dX11_mend_211 ?_
                    exact j_zret C E (by first | rfl | decide) (sF σ 19 z17_F19) ⟨_, rfl, ⟨z17_F19, rfl⟩⟩ rfl dX11_mend_212
            exact L192 _ y0 ((σ.2.1 20) z0) (by omega) (Nat.lt_succ_self _)
          · refine j_iload C 1 rfl dX11_mend_128 ?_
            refine j_istore C [(7, .int (nI y0)), (6, .int (nI z0)), (5, .int (nI y0)), (4, .int (nI ((7 * w) + 7))), (3, .int (nI (7 * w))), (0, .ref (g 0)), (1, .int (nI w)), (2, .int (nI q))] (by decide) rfl dX11_mend_130 ?_
            have L132 : ∀ (n132 : Nat) (j : Nat) (z132_F19 : Nat → Int32) (i132_0 : j ≤ 7) (i132_1 : 1 ≤ j) (hm132 : 7 - j < n132), J X 0 0 (cM g kk (sF σ 19 z132_F19)) [(7, .int (nI j)), (6, .int (nI z0)), (5, .int (nI y0)), (4, .int (nI ((7 * w) + 7))), (3, .int (nI (7 * w))), (0, .ref (g 0)), (1, .int (nI w)), (2, .int (nI q))] 132 [] := by
              intro n132
              induction n132 with
              | zero => intro j z132_F19 i132_0 i132_1 hm; exact absurd hm (Nat.not_lt_zero _)
              | succ n132 ih132 =>
                intro j z132_F19 i132_0 i132_1 hm132
                refine j_iload C 0 rfl dX11_mend_132 ?_
                refine j_iload C 1 rfl dX11_mend_134 ?_
                refine j_icmp_gtN C 166 (by decide) (by omega) (by omega) dX11_mend_136 (fun c12 => ?_) (fun c12 => ?_)
                · refine j_aload_n C 5 rfl dX11_mend_166 ?_
                  refine gM_0_25 C tb_898 dX11_mend_167 ?_
                  refine j_iload C 3 rfl dX11_mend_170 ?_
                  refine j_iload C 1 rfl dX11_mend_172 ?_
                  refine j_iaddN C dX11_mend_174 ?_
                  refine j_iconst C (nI 0) (by decide) dX11_mend_175 ?_
                  refine tM_19 C (((7 * w) + 7) + z0) rfl (by omega) dX11_mend_176 ?_
                  refine j_iconst C (nI 1) (by decide) dX11_mend_177 ?_
                  refine j_w (cM g kk (sF σ 19 (upd z132_F19 (((7 * w) + 7) + z0) (nI 0)))) (congrArg (cM g kk) (show sF (sF σ 19 z132_F19) 19 (upd z132_F19 (((7 * w) + 7) + z0) (nI 0)) = sF σ 19 (upd z132_F19 (((7 * w) + 7) + z0) (nI 0)) from wrFs)) ?_
                  exact j_zret C E (by first | rfl | decide) (sF σ 19 (upd z132_F19 (((7 * w) + 7) + z0) (nI 0))) ⟨_, rfl, ⟨(upd z132_F19 (((7 * w) + 7) + z0) (nI 0)), rfl⟩⟩ rfl dX11_mend_178
                · refine j_aload_n C 5 rfl dX11_mend_139 ?_
                  refine gM_0_25 C tb_898 dX11_mend_140 ?_
                  refine j_iload C 3 rfl dX11_mend_143 ?_
                  refine j_iload C 0 rfl dX11_mend_145 ?_
                  refine j_iaddN C dX11_mend_147 ?_
                  refine j_iconst C (nI 1) (by decide) dX11_mend_148 ?_
                  refine j_isubN C (by omega) dX11_mend_149 ?_
                  refine j_aload_n C 5 rfl dX11_mend_150 ?_
                  refine gM_0_25 C tb_898 dX11_mend_151 ?_
                  refine j_iload_n C 4 rfl dX11_mend_154 ?_
                  refine j_iload C 0 rfl dX11_mend_155 ?_
                  refine j_iaddN C dX11_mend_157 ?_
                  refine rM_19 C ((7 * w) + j) rfl (by omega) (z132_F19 ((7 * w) + j)) rfl dX11_mend_158 ?_
                  refine tM_19 C ((((7 * w) + 7) + j) - 1) rfl (by omega) dX11_mend_159 ?_
                  refine j_iinc C (nI (j + 1)) [(7, .int (nI (j + 1))), (6, .int (nI z0)), (5, .int (nI y0)), (4, .int (nI ((7 * w) + 7))), (3, .int (nI (7 * w))), (0, .ref (g 0)), (1, .int (nI w)), (2, .int (nI q))] 0 rfl (by rw [show Int32.ofInt 1 = nI 1 from by decide, nI_add]) (by decide) rfl dX11_mend_160 ?_
                  refine j_goto C 132 (by decide) dX11_mend_163 ?_
                  refine j_w (cM g kk (sF σ 19 (upd z132_F19 ((((7 * w) + 7) + j) - 1) (z132_F19 ((7 * w) + j))))) (congrArg (cM g kk) (show sF (sF σ 19 z132_F19) 19 (upd z132_F19 ((((7 * w) + 7) + j) - 1) (z132_F19 ((7 * w) + j))) = sF σ 19 (upd z132_F19 ((((7 * w) + 7) + j) - 1) (z132_F19 ((7 * w) + j))) from wrFs)) ?_
                  exact ih132 (j + 1) (upd z132_F19 ((((7 * w) + 7) + j) - 1) (z132_F19 ((7 * w) + j))) (by omega) (by omega) (by omega)
            exact L132 _ y0 z17_F19 (by omega) (by omega) (Nat.lt_succ_self _)
        · refine j_aload_n C 4 rfl dX11_mend_74 ?_
          refine gM_0_25 C tb_898 dX11_mend_75 ?_
          refine j_iload C 2 rfl dX11_mend_78 ?_
          refine j_iload C 1 rfl dX11_mend_80 ?_
          refine j_iaddN C dX11_mend_82 ?_
          refine j_aload_n C 4 rfl dX11_mend_83 ?_
          refine gM_0_25 C tb_898 dX11_mend_84 ?_
          refine j_iload_n C 3 rfl dX11_mend_87 ?_
          refine j_iload C 1 rfl dX11_mend_88 ?_
          refine j_iaddN C dX11_mend_90 ?_
          refine j_iconst C (nI 1) (by decide) dX11_mend_91 ?_
          refine j_iaddN C dX11_mend_92 ?_
          refine rM_19 C (((7 * w) + y0) + 1) rfl (by omega) (z17_F19 (((7 * w) + y0) + 1)) rfl dX11_mend_93 ?_
          refine tM_19 C (((7 * w) + 7) + y0) rfl (by omega) dX11_mend_94 ?_
          refine j_aload_n C 4 rfl dX11_mend_95 ?_
          refine gM_0_25 C tb_898 dX11_mend_96 ?_
          refine j_iload C 2 rfl dX11_mend_99 ?_
          refine j_iload C 1 rfl dX11_mend_101 ?_
          refine j_iaddN C dX11_mend_103 ?_
          refine j_iconst C (nI 1) (by decide) dX11_mend_104 ?_
          refine j_iaddN C dX11_mend_105 ?_
          refine j_aload_n C 4 rfl dX11_mend_106 ?_
          refine gM_0_25 C tb_898 dX11_mend_107 ?_
          refine j_iload_n C 3 rfl dX11_mend_110 ?_
          refine j_iload C 1 rfl dX11_mend_111 ?_
          refine j_iaddN C dX11_mend_113 ?_
          refine rM_19 C ((7 * w) + y0) rfl (by omega) ((upd z17_F19 (((7 * w) + 7) + y0) (z17_F19 (((7 * w) + y0) + 1))) ((7 * w) + y0)) rfl dX11_mend_114 ?_
          refine j_top (fun v13 => ?_)
          refine tM_19 C ((((7 * w) + 7) + y0) + 1) rfl (by omega) dX11_mend_115 ?_
          refine j_iconst C (nI 1) (by decide) dX11_mend_116 ?_
          refine j_w (cM g kk (sF σ 19 (upd (upd z17_F19 (((7 * w) + 7) + y0) (z17_F19 (((7 * w) + y0) + 1))) ((((7 * w) + 7) + y0) + 1) v13))) (congrArg (cM g kk) (show sF (sF (sF σ 19 z17_F19) 19 (upd z17_F19 (((7 * w) + 7) + y0) (z17_F19 (((7 * w) + y0) + 1)))) 19 (upd (upd z17_F19 (((7 * w) + 7) + y0) (z17_F19 (((7 * w) + y0) + 1))) ((((7 * w) + 7) + y0) + 1) v13) = sF σ 19 (upd (upd z17_F19 (((7 * w) + 7) + y0) (z17_F19 (((7 * w) + y0) + 1))) ((((7 * w) + 7) + y0) + 1) v13) from (Eq.trans (wrF wrFs) wrFs))) ?_
          exact j_zret C E (by first | rfl | decide) (sF σ 19 (upd (upd z17_F19 (((7 * w) + 7) + y0) (z17_F19 (((7 * w) + y0) + 1))) ((((7 * w) + 7) + y0) + 1) v13)) ⟨_, rfl, ⟨(upd (upd z17_F19 (((7 * w) + 7) + y0) (z17_F19 (((7 * w) + y0) + 1))) ((((7 * w) + 7) + y0) + 1) v13), rfl⟩⟩ rfl dX11_mend_117
      · refine j_aload_n C 3 rfl dX11_mend_24 ?_
        refine gM_0_25 C tb_898 dX11_mend_25 ?_
        refine j_iload C 1 rfl dX11_mend_28 ?_
        refine j_iload C 0 rfl dX11_mend_30 ?_
        refine j_iaddN C dX11_mend_32 ?_
        refine j_aload_n C 3 rfl dX11_mend_33 ?_
        refine gM_0_25 C tb_898 dX11_mend_34 ?_
        refine j_iload_n C 2 rfl dX11_mend_37 ?_
        refine j_iload C 0 rfl dX11_mend_38 ?_
        refine j_iaddN C dX11_mend_40 ?_
        refine rM_19 C ((7 * w) + i) rfl (by omega) (z17_F19 ((7 * w) + i)) rfl dX11_mend_41 ?_
        refine tM_19 C (((7 * w) + 7) + i) rfl (by omega) dX11_mend_42 ?_
        refine j_iinc C (nI (i + 1)) [(5, .int (nI (i + 1))), (4, .int (nI ((7 * w) + 7))), (3, .int (nI (7 * w))), (0, .ref (g 0)), (1, .int (nI w)), (2, .int (nI q))] 0 rfl (by rw [show Int32.ofInt 1 = nI 1 from by decide, nI_add]) (by decide) rfl dX11_mend_43 ?_
        refine j_goto C 17 (by decide) dX11_mend_46 ?_
        refine j_w (cM g kk (sF σ 19 (upd z17_F19 (((7 * w) + 7) + i) (z17_F19 ((7 * w) + i))))) (congrArg (cM g kk) (show sF (sF σ 19 z17_F19) 19 (upd z17_F19 (((7 * w) + 7) + i) (z17_F19 ((7 * w) + i))) = sF σ 19 (upd z17_F19 (((7 * w) + 7) + i) (z17_F19 ((7 * w) + i))) from wrFs)) ?_
        exact ih17 (i + 1) (upd z17_F19 (((7 * w) + 7) + i) (z17_F19 ((7 * w) + i))) (by omega) (by omega)
  refine j_w (cM g kk (sF σ 19 (σ.2.1 19))) (congrArg (cM g kk) (wrFi (S := σ) (c := 19) (v := σ.2.1 19) rfl)) ?_
  exact L17 _ 0 (σ.2.1 19) (by omega) (Nat.lt_succ_self _)
set_option maxRecDepth 100000 in
set_option maxHeartbeats 4000000 in
theorem n_misfit (g kk : Nat → Nat) (σ : St) (k : Nat) (hk : σ.1 3 = nI k) (hk6 : k ≤ 6) (hI : iM σ)  (w : Nat) (hw0 : w ≤ 2) : jM (S := St) yX11_misfit cX11_misfit 4 (some .int) { frames := 1, cells := 0, slots := 0, locals := 21 } kk (cM g kk σ) [.ref (g 0), .int (nI w)] (cM g kk) (rI (fun (r : Int32) (u : St) => u = σ)) := by
  refine j_entry [(0, .ref (g 0)), (1, .int (nI w))] (by decide) (Nat.le_of_ble_eq_true rfl) rfl ?_
  intro X C E HI
  refine j_iconst C (nI 0) (by decide) dX11_misfit_0 ?_
  refine j_istore_n C [(2, .int (nI 0)), (0, .ref (g 0)), (1, .int (nI w))] rfl (by decide) rfl dX11_misfit_1 ?_
  refine j_iconst C (nI 0) (by decide) dX11_misfit_2 ?_
  refine j_istore_n C [(3, .int (nI 0)), (2, .int (nI 0)), (0, .ref (g 0)), (1, .int (nI w))] rfl (by decide) rfl dX11_misfit_3 ?_
  have L4 : ∀ (n4 : Nat) (i : Nat) (y4_2 : Int32) (i4_0 : i ≤ 7) (hm4 : 7 - i < n4), J X 0 0 (cM g kk σ) [(3, .int (nI i)), (2, .int y4_2), (0, .ref (g 0)), (1, .int (nI w))] 4 [] := by
    intro n4
    induction n4 with
    | zero => intro i y4_2 i4_0 hm; exact absurd hm (Nat.not_lt_zero _)
    | succ n4 ih4 =>
      intro i y4_2 i4_0 hm4
      refine j_iload_n C 0 rfl dX11_misfit_4 ?_
      refine j_bipush C (nI 7) (by decide) dX11_misfit_5 ?_
      refine j_icmp_geN C 39 (by decide) (by omega) (by omega) dX11_misfit_7 (fun c1 => ?_) (fun c1 => ?_)
      · refine j_iload_n C 1 rfl dX11_misfit_39 ?_
        exact j_iret C E (σ) ⟨_, rfl, rfl⟩ rfl dX11_misfit_40
      · refine j_iload_n C 1 rfl dX11_misfit_10 ?_
        refine j_aload_n C 2 rfl dX11_misfit_11 ?_
        refine gM_0_25 C tb_898 dX11_misfit_12 ?_
        refine j_bipush C (nI 7) (by decide) dX11_misfit_15 ?_
        refine j_iload_n C 3 rfl dX11_misfit_17 ?_
        refine j_imulN C dX11_misfit_18 ?_
        refine j_iload_n C 0 rfl dX11_misfit_19 ?_
        refine j_iaddN C dX11_misfit_20 ?_
        refine rM_19 C ((7 * w) + i) rfl (by omega) ((σ.2.1 19) ((7 * w) + i)) rfl dX11_misfit_21 ?_
        refine j_aload_n C 2 rfl dX11_misfit_22 ?_
        refine gM_0_26 C tb_899 dX11_misfit_23 ?_
        refine j_iload_n C 0 rfl dX11_misfit_26 ?_
        refine rM_20 C i rfl (by omega) ((σ.2.1 20) i) rfl dX11_misfit_27 ?_
        refine j_S01 C (m_off ((σ.2.1 19) ((7 * w) + i)) ((σ.2.1 20) i)) kyX11_off tb_1155 tb_1156 rfl (Nat.le_of_ble_eq_true rfl) ⟨by decide, by decide⟩ ⟨by decide, by decide⟩ dX11_misfit_28 rfl ?_
        refine j_top (fun v2 => ?_)
        refine j_iadd C dX11_misfit_31 ?_
        refine j_istore_n C [(2, .int (y4_2 + v2)), (3, .int (nI i)), (0, .ref (g 0)), (1, .int (nI w))] rfl (by decide) rfl dX11_misfit_32 ?_
        refine j_iinc C (nI (i + 1)) [(3, .int (nI (i + 1))), (2, .int (y4_2 + v2)), (0, .ref (g 0)), (1, .int (nI w))] 1 rfl (by rw [show Int32.ofInt 1 = nI 1 from by decide, nI_add]) (by decide) rfl dX11_misfit_33 ?_
        refine j_goto C 4 (by decide) dX11_misfit_36 ?_
        exact ih4 (i + 1) (y4_2 + v2) (by omega) (by omega)
  exact L4 _ 0 (nI 0) (by omega) (Nat.lt_succ_self _)
set_option maxRecDepth 100000 in
set_option maxHeartbeats 4000000 in
theorem n_findWeek (g kk : Nat → Nat) (σ : St) (k : Nat) (hk : σ.1 3 = nI k) (hk6 : k ≤ 6) (hI : iM σ) (hM : mM (σ.2.1 21) (σ.2.1 22) (σ.2.1 23)) (c : Nat) (hc0 : c < 6) (d : Nat) (hd0 : d ≤ 21) : jM (S := St) yX11_findWeek cX11_findWeek 5 none { frames := 6, cells := 0, slots := 0, locals := 141 } kk (cM g kk σ) [.ref (g 0), .int (nI c), .int (nI d)] (cM g kk) (rV (fun u : St => ∃ (pF16 : Nat → Int32) (pF17 : Nat → Int32) (pF18 : Nat → Int32) (pF19 : Nat → Int32) (pF20 : Nat → Int32) (pF21 : Nat → Int32) (pF22 : Nat → Int32) (pF23 : Nat → Int32) (pI30 : Int32) (pI31 : Int32) (pI32 : Int32) (pI33 : Int32), u = sI (sI (sI (sI (sF (sF (sF (sF (sF (sF (sF (sF σ 16 pF16) 17 pF17) 18 pF18) 19 pF19) 20 pF20) 21 pF21) 22 pF22) 23 pF23) 30 pI30) 31 pI31) 32 pI32) 33 pI33 ∧ (mM pF21 pF22 pF23) ∧ ((pI32 = -6 ∨ le_ 37 pI32) ∧ (pI33 = -6 ∨ le_ 37 pI33)))) := by
  refine j_entry [(0, .ref (g 0)), (1, .int (nI c)), (2, .int (nI d))] (by decide) (Nat.le_of_ble_eq_true rfl) rfl ?_
  intro X C E HI
  refine j_aload_n C 0 rfl dX11_findWeek_0 ?_
  refine j_V1 C (n_findAll g kk σ k hk hk6 hI  ) kyX11_findAll tb_1131 tb_1133 sp_24 0 rfl (eM_0 g kk _) rfl (Nat.le_of_ble_eq_true rfl) ⟨by decide, by decide⟩ dX11_findWeek_1 rfl (fun vr ur hp => ?_)
  obtain ⟨rfl, w1, w2, w3, hu⟩ := hp
  replace hu := hu.symm
  subst hu
  refine j_aload_n C 0 rfl dX11_findWeek_4 ?_
  refine j_V1 C (n_findMends g kk (sF (sF (sF σ 16 w1) 17 w2) 18 w3) k hk hk6 hI hM ) kyX11_findMends tb_1185 tb_1187 sp_33 0 rfl (eM_0 g kk _) rfl (Nat.le_of_ble_eq_true rfl) ⟨by decide, by decide⟩ dX11_findWeek_5 rfl (fun vr ur hp => ?_)
  obtain ⟨rfl, w4, w5, w6, hu, g7⟩ := hp
  replace hu := hu.symm
  subst hu
  refine j_iconst C (nI 0) (by decide) dX11_findWeek_8 ?_
  refine j_istore_n C [(3, .int (nI 0)), (0, .ref (g 0)), (1, .int (nI c)), (2, .int (nI d))] rfl (by decide) rfl dX11_findWeek_9 ?_
  have L10 : ∀ (n10 : Nat) (i : Nat) (z10_F19 : Nat → Int32) (z10_F20 : Nat → Int32) (i10_0 : i ≤ 7) (hm10 : 7 - i < n10), J X 0 0 (cM g kk (sF (sF (sF (sF (sF (sF (sF (sF σ 16 w1) 17 w2) 18 w3) 19 z10_F19) 20 z10_F20) 21 w4) 22 w5) 23 w6)) [(3, .int (nI i)), (0, .ref (g 0)), (1, .int (nI c)), (2, .int (nI d))] 10 [] := by
    intro n10
    induction n10 with
    | zero => intro i z10_F19 z10_F20 i10_0 hm; exact absurd hm (Nat.not_lt_zero _)
    | succ n10 ih10 =>
      intro i z10_F19 z10_F20 i10_0 hm10
      refine j_iload_n C 0 rfl dX11_findWeek_10 ?_
      refine j_bipush C (nI 7) (by decide) dX11_findWeek_11 ?_
      refine j_icmp_geN C 64 (by decide) (by omega) (by omega) dX11_findWeek_13 (fun c8 => ?_) (fun c8 => ?_)
      · refine j_aload_n C 1 rfl dX11_findWeek_64 ?_
        refine j_aload_n C 1 rfl dX11_findWeek_65 ?_
        refine j_iconst C (nI 0) (by decide) dX11_findWeek_66 ?_
        refine j_V1 C (n_misfit g kk (sF (sF (sF (sF (sF (sF (sF (sF σ 16 w1) 17 w2) 18 w3) 19 z10_F19) 20 z10_F20) 21 w4) 22 w5) 23 w6) k hk hk6 hI  0 (by first | assumption | omega)) kyX11_misfit tb_1193 tb_1195 sp_35 0 rfl (eM_0 g kk _) rfl (Nat.le_of_ble_eq_true rfl) ⟨by decide, by decide⟩ dX11_findWeek_67 rfl (fun vr ur hp => ?_)
        obtain ⟨r9, rfl, hu⟩ := hp
        replace hu := hu.symm
        subst hu
        refine pM_0_30 C tb_903 dX11_findWeek_70 ?_
        refine j_aload_n C 1 rfl dX11_findWeek_73 ?_
        refine j_iconst C (nI 0) (by decide) dX11_findWeek_74 ?_
        refine pM_0_31 C tb_904 dX11_findWeek_75 ?_
        refine j_aload_n C 1 rfl dX11_findWeek_78 ?_
        refine j_bipush C ((-6)) (by decide) dX11_findWeek_79 ?_
        refine pM_0_32 C tb_905 dX11_findWeek_81 ?_
        refine j_aload_n C 1 rfl dX11_findWeek_84 ?_
        refine j_bipush C ((-6)) (by decide) dX11_findWeek_85 ?_
        refine pM_0_33 C tb_906 dX11_findWeek_87 ?_
        refine j_iconst C (nI 0) (by decide) dX11_findWeek_90 ?_
        refine j_istore_n C [(3, .int (nI 0)), (0, .ref (g 0)), (1, .int (nI c)), (2, .int (nI d))] rfl (by decide) rfl dX11_findWeek_91 ?_
        have L92 : ∀ (n92 : Nat) (a : Nat) (z92_F19 : Nat → Int32) (z92_I30 : Int32) (z92_I31 : Int32) (bf : Int32) (i92_0 : a ≤ 38) (hb1 : bf = -6 ∨ le_ 37 bf) (hm92 : 38 - a < n92), J X 0 0 (cM g kk (sI (sI (sI (sI (sF (sF (sF (sF (sF (sF (sF (sF σ 16 w1) 17 w2) 18 w3) 19 z92_F19) 20 z10_F20) 21 w4) 22 w5) 23 w6) 30 z92_I30) 31 z92_I31) 32 bf) 33 (-6))) [(3, .int (nI a)), (0, .ref (g 0)), (1, .int (nI c)), (2, .int (nI d))] 92 [] := by
          intro n92
          induction n92 with
          | zero => intro a z92_F19 z92_I30 z92_I31 bf i92_0 hb1 hm; exact absurd hm (Nat.not_lt_zero _)
          | succ n92 ih92 =>
            intro a z92_F19 z92_I30 z92_I31 bf i92_0 hb1 hm92
            refine j_iload_n C 0 rfl dX11_findWeek_92 ?_
            refine j_bipush C (nI 38) (by decide) dX11_findWeek_93 ?_
            refine j_icmp_geN C 154 (by decide) (by omega) (by omega) dX11_findWeek_95 (fun c10 => ?_) (fun c10 => ?_)
            · refine j_iconst C (nI 0) (by decide) dX11_findWeek_154 ?_
              refine j_istore_n C [(3, .int (nI 0)), (0, .ref (g 0)), (1, .int (nI c)), (2, .int (nI d))] rfl (by decide) rfl dX11_findWeek_155 ?_
              have L156 : ∀ (n156 : Nat) (b : Nat) (z156_F19 : Nat → Int32) (z156_I30 : Int32) (z156_I31 : Int32) (bf2 : Int32) (bs2 : Int32) (i156_0 : b ≤ 38) (hb2 : bf2 = -6 ∨ le_ 37 bf2) (hb3 : bs2 = -6 ∨ le_ 37 bs2) (hm156 : 38 - b < n156), J X 0 0 (cM g kk (sI (sI (sI (sI (sF (sF (sF (sF (sF (sF (sF (sF σ 16 w1) 17 w2) 18 w3) 19 z156_F19) 20 z10_F20) 21 w4) 22 w5) 23 w6) 30 z156_I30) 31 z156_I31) 32 bf2) 33 bs2)) [(3, .int (nI b)), (0, .ref (g 0)), (1, .int (nI c)), (2, .int (nI d))] 156 [] := by
                intro n156
                induction n156 with
                | zero => intro b z156_F19 z156_I30 z156_I31 bf2 bs2 i156_0 hb2 hb3 hm; exact absurd hm (Nat.not_lt_zero _)
                | succ n156 ih156 =>
                  intro b z156_F19 z156_I30 z156_I31 bf2 bs2 i156_0 hb2 hb3 hm156
                  refine j_iload_n C 0 rfl dX11_findWeek_156 ?_
                  refine j_bipush C (nI 38) (by decide) dX11_findWeek_157 ?_
                  refine j_icmp_geN C 254 (by decide) (by omega) (by omega) dX11_findWeek_159 (fun c11 => ?_) (fun c11 => ?_)
                  · exact j_vret C E (sI (sI (sI (sI (sF (sF (sF (sF (sF (sF (sF (sF σ 16 w1) 17 w2) 18 w3) 19 z156_F19) 20 z10_F20) 21 w4) 22 w5) 23 w6) 30 z156_I30) 31 z156_I31) 32 bf2) 33 bs2) ⟨rfl, ⟨w1, w2, w3, z156_F19, z10_F20, w4, w5, w6, z156_I30, z156_I31, bf2, bs2, rfl, g7, ⟨by first | assumption | exact Or.inl rfl | exact Or.inr ⟨_, by omega, rfl⟩, by first | assumption | exact Or.inl rfl | exact Or.inr ⟨_, by omega, rfl⟩⟩⟩⟩ rfl dX11_findWeek_254
                  · refine j_aload_n C 1 rfl dX11_findWeek_162 ?_
                    refine j_iconst C (nI 0) (by decide) dX11_findWeek_163 ?_
                    refine j_iload_n C 0 rfl dX11_findWeek_164 ?_
                    refine j_V1 C (n_mend g kk (sI (sI (sI (sI (sF (sF (sF (sF (sF (sF (sF (sF σ 16 w1) 17 w2) 18 w3) 19 z156_F19) 20 z10_F20) 21 w4) 22 w5) 23 w6) 30 z156_I30) 31 z156_I31) 32 bf2) 33 bs2) k hk hk6 hI g7 0 (by first | assumption | omega) b (by first | assumption | omega)) kyX11_mend tb_1197 tb_1199 sp_36 0 rfl (eM_0 g kk _) rfl (Nat.le_of_ble_eq_true rfl) ⟨by decide, by decide⟩ dX11_findWeek_165 rfl (fun vr ur hp => ?_)
                    obtain ⟨r13, rfl, w12, hu⟩ := hp
                    replace hu := hu.symm
                    subst hu
                    refine j_if_eq C 248 (by decide) dX11_findWeek_168 (fun c14 => ?_) (fun c14 => ?_)
                    · refine j_iinc C (nI (b + 1)) [(3, .int (nI (b + 1))), (0, .ref (g 0)), (1, .int (nI c)), (2, .int (nI d))] 0 rfl (by rw [show Int32.ofInt 1 = nI 1 from by decide, nI_add]) (by decide) rfl dX11_findWeek_248 ?_
                      refine j_goto C 156 (by decide) dX11_findWeek_251 ?_
                      refine j_w (cM g kk (sI (sI (sI (sI (sF (sF (sF (sF (sF (sF (sF (sF σ 16 w1) 17 w2) 18 w3) 19 w12) 20 z10_F20) 21 w4) 22 w5) 23 w6) 30 z156_I30) 31 z156_I31) 32 bf2) 33 bs2)) (congrArg (cM g kk) (show sF (sI (sI (sI (sI (sF (sF (sF (sF (sF (sF (sF (sF σ 16 w1) 17 w2) 18 w3) 19 z156_F19) 20 z10_F20) 21 w4) 22 w5) 23 w6) 30 z156_I30) 31 z156_I31) 32 bf2) 33 bs2) 19 w12 = sI (sI (sI (sI (sF (sF (sF (sF (sF (sF (sF (sF σ 16 w1) 17 w2) 18 w3) 19 w12) 20 z10_F20) 21 w4) 22 w5) 23 w6) 30 z156_I30) 31 z156_I31) 32 bf2) 33 bs2 from (Eq.trans wrFI (wrI (Eq.trans wrFI (wrI (Eq.trans wrFI (wrI (Eq.trans wrFI (wrI (Eq.trans (wrFc (by decide)) (wrF (Eq.trans (wrFc (by decide)) (wrF (Eq.trans (wrFc (by decide)) (wrF (Eq.trans (wrFc (by decide)) (wrF wrFs)))))))))))))))))) ?_
                      exact ih156 (b + 1) w12 z156_I30 z156_I31 bf2 bs2 (by omega) (by first | assumption | exact Or.inr ⟨_, by omega, rfl⟩) (by first | exact Or.inl rfl | assumption) (by omega)
                    · refine j_iconst C (nI 0) (by decide) dX11_findWeek_171 ?_
                      refine j_istore C [(4, .int (nI 0)), (3, .int (nI b)), (0, .ref (g 0)), (1, .int (nI c)), (2, .int (nI d))] (by decide) rfl dX11_findWeek_172 ?_
                      have L174 : ∀ (n174 : Nat) (e : Nat) (z174_F19 : Nat → Int32) (z174_I30 : Int32) (z174_I31 : Int32) (bf3 : Int32) (bs3 : Int32) (i174_0 : e ≤ 38) (hb4 : bf3 = -6 ∨ le_ 37 bf3) (hb5 : bs3 = -6 ∨ le_ 37 bs3) (hm174 : 38 - e < n174), J X 0 0 (cM g kk (sI (sI (sI (sI (sF (sF (sF (sF (sF (sF (sF (sF σ 16 w1) 17 w2) 18 w3) 19 z174_F19) 20 z10_F20) 21 w4) 22 w5) 23 w6) 30 z174_I30) 31 z174_I31) 32 bf3) 33 bs3)) [(4, .int (nI e)), (3, .int (nI b)), (0, .ref (g 0)), (1, .int (nI c)), (2, .int (nI d))] 174 [] := by
                        intro n174
                        induction n174 with
                        | zero => intro e z174_F19 z174_I30 z174_I31 bf3 bs3 i174_0 hb4 hb5 hm; exact absurd hm (Nat.not_lt_zero _)
                        | succ n174 ih174 =>
                          intro e z174_F19 z174_I30 z174_I31 bf3 bs3 i174_0 hb4 hb5 hm174
                          refine j_iload C 0 rfl dX11_findWeek_174 ?_
                          refine j_bipush C (nI 38) (by decide) dX11_findWeek_176 ?_
                          refine j_icmp_geN C 248 (by decide) (by omega) (by omega) dX11_findWeek_178 (fun c15 => ?_) (fun c15 => ?_)
                          · refine j_iinc C (nI (b + 1)) [(3, .int (nI (b + 1))), (4, .int (nI e)), (0, .ref (g 0)), (1, .int (nI c)), (2, .int (nI d))] 1 rfl (by rw [show Int32.ofInt 1 = nI 1 from by decide, nI_add]) (by decide) rfl dX11_findWeek_248 ?_
                            refine j_goto C 156 (by decide) dX11_findWeek_251 ?_
                            refine j_sub (lv' := [(3, .int (nI (b + 1))), (0, .ref (g 0)), (1, .int (nI c)), (2, .int (nI d))]) [0, 2, 3, 4] rfl ?_
                            exact ih156 (b + 1) z174_F19 z174_I30 z174_I31 bf3 bs3 (by omega) (by first | assumption | exact Or.inr ⟨_, by omega, rfl⟩) (by first | exact Or.inl rfl | assumption) (by omega)
                          · refine j_aload_n C 2 rfl dX11_findWeek_181 ?_
                            refine j_iconst C (nI 1) (by decide) dX11_findWeek_182 ?_
                            refine j_iload C 0 rfl dX11_findWeek_183 ?_
                            refine j_V1 C (n_mend g kk (sI (sI (sI (sI (sF (sF (sF (sF (sF (sF (sF (sF σ 16 w1) 17 w2) 18 w3) 19 z174_F19) 20 z10_F20) 21 w4) 22 w5) 23 w6) 30 z174_I30) 31 z174_I31) 32 bf3) 33 bs3) k hk hk6 hI g7 1 (by first | assumption | omega) e (by first | assumption | omega)) kyX11_mend tb_1197 tb_1199 sp_36 0 rfl (eM_0 g kk _) rfl (Nat.le_of_ble_eq_true rfl) ⟨by decide, by decide⟩ dX11_findWeek_185 rfl (fun vr ur hp => ?_)
                            obtain ⟨r17, rfl, w16, hu⟩ := hp
                            replace hu := hu.symm
                            subst hu
                            refine j_if_eq C 242 (by decide) dX11_findWeek_188 (fun c18 => ?_) (fun c18 => ?_)
                            · refine j_iinc C (nI (e + 1)) [(4, .int (nI (e + 1))), (3, .int (nI b)), (0, .ref (g 0)), (1, .int (nI c)), (2, .int (nI d))] 0 rfl (by rw [show Int32.ofInt 1 = nI 1 from by decide, nI_add]) (by decide) rfl dX11_findWeek_242 ?_
                              refine j_goto C 174 (by decide) dX11_findWeek_245 ?_
                              refine j_w (cM g kk (sI (sI (sI (sI (sF (sF (sF (sF (sF (sF (sF (sF σ 16 w1) 17 w2) 18 w3) 19 w16) 20 z10_F20) 21 w4) 22 w5) 23 w6) 30 z174_I30) 31 z174_I31) 32 bf3) 33 bs3)) (congrArg (cM g kk) (show sF (sI (sI (sI (sI (sF (sF (sF (sF (sF (sF (sF (sF σ 16 w1) 17 w2) 18 w3) 19 z174_F19) 20 z10_F20) 21 w4) 22 w5) 23 w6) 30 z174_I30) 31 z174_I31) 32 bf3) 33 bs3) 19 w16 = sI (sI (sI (sI (sF (sF (sF (sF (sF (sF (sF (sF σ 16 w1) 17 w2) 18 w3) 19 w16) 20 z10_F20) 21 w4) 22 w5) 23 w6) 30 z174_I30) 31 z174_I31) 32 bf3) 33 bs3 from (Eq.trans wrFI (wrI (Eq.trans wrFI (wrI (Eq.trans wrFI (wrI (Eq.trans wrFI (wrI (Eq.trans (wrFc (by decide)) (wrF (Eq.trans (wrFc (by decide)) (wrF (Eq.trans (wrFc (by decide)) (wrF (Eq.trans (wrFc (by decide)) (wrF wrFs)))))))))))))))))) ?_
                              exact ih174 (e + 1) w16 z174_I30 z174_I31 bf3 bs3 (by omega) (by first | assumption | exact Or.inr ⟨_, by omega, rfl⟩) (by first | assumption | exact Or.inr ⟨_, by omega, rfl⟩) (by omega)
                            · refine j_aload_n C 2 rfl dX11_findWeek_191 ?_
                              refine j_iconst C (nI 2) (by decide) dX11_findWeek_192 ?_
                              refine j_V1 C (n_misfit g kk (sF (sI (sI (sI (sI (sF (sF (sF (sF (sF (sF (sF (sF σ 16 w1) 17 w2) 18 w3) 19 z174_F19) 20 z10_F20) 21 w4) 22 w5) 23 w6) 30 z174_I30) 31 z174_I31) 32 bf3) 33 bs3) 19 w16) k hk hk6 hI  2 (by first | assumption | omega)) kyX11_misfit tb_1193 tb_1195 sp_35 0 rfl (eM_0 g kk _) rfl (Nat.le_of_ble_eq_true rfl) ⟨by decide, by decide⟩ dX11_findWeek_193 rfl (fun vr ur hp => ?_)
                              obtain ⟨r19, rfl, hu⟩ := hp
                              replace hu := hu.symm
                              subst hu
                              refine j_iconst C (nI 2) (by decide) dX11_findWeek_196 ?_
                              refine j_aload_n C 2 rfl dX11_findWeek_197 ?_
                              refine gM_0_11 C tb_884 (σ.1 11) rfl dX11_findWeek_198 ?_
                              refine j_imul C dX11_findWeek_201 ?_
                              refine j_iadd C dX11_findWeek_202 ?_
                              refine j_aload_n C 2 rfl dX11_findWeek_203 ?_
                              refine gM_0_30 C tb_903 (z174_I30) rfl dX11_findWeek_204 ?_
                              refine j_icmp_ge C 242 (by decide) dX11_findWeek_207 (fun c20 => ?_) (fun c20 => ?_)
                              · refine j_iinc C (nI (e + 1)) [(4, .int (nI (e + 1))), (3, .int (nI b)), (0, .ref (g 0)), (1, .int (nI c)), (2, .int (nI d))] 0 rfl (by rw [show Int32.ofInt 1 = nI 1 from by decide, nI_add]) (by decide) rfl dX11_findWeek_242 ?_
                                refine j_goto C 174 (by decide) dX11_findWeek_245 ?_
                                refine j_w (cM g kk (sI (sI (sI (sI (sF (sF (sF (sF (sF (sF (sF (sF σ 16 w1) 17 w2) 18 w3) 19 w16) 20 z10_F20) 21 w4) 22 w5) 23 w6) 30 z174_I30) 31 z174_I31) 32 bf3) 33 bs3)) (congrArg (cM g kk) (show sF (sI (sI (sI (sI (sF (sF (sF (sF (sF (sF (sF (sF σ 16 w1) 17 w2) 18 w3) 19 z174_F19) 20 z10_F20) 21 w4) 22 w5) 23 w6) 30 z174_I30) 31 z174_I31) 32 bf3) 33 bs3) 19 w16 = sI (sI (sI (sI (sF (sF (sF (sF (sF (sF (sF (sF σ 16 w1) 17 w2) 18 w3) 19 w16) 20 z10_F20) 21 w4) 22 w5) 23 w6) 30 z174_I30) 31 z174_I31) 32 bf3) 33 bs3 from (Eq.trans wrFI (wrI (Eq.trans wrFI (wrI (Eq.trans wrFI (wrI (Eq.trans wrFI (wrI (Eq.trans (wrFc (by decide)) (wrF (Eq.trans (wrFc (by decide)) (wrF (Eq.trans (wrFc (by decide)) (wrF (Eq.trans (wrFc (by decide)) (wrF wrFs)))))))))))))))))) ?_
                                exact ih174 (e + 1) w16 z174_I30 z174_I31 bf3 bs3 (by omega) (by first | assumption | exact Or.inr ⟨_, by omega, rfl⟩) (by first | assumption | exact Or.inr ⟨_, by omega, rfl⟩) (by omega)
                              · refine j_aload_n C 2 rfl dX11_findWeek_210 ?_
                                refine j_aload_n C 2 rfl dX11_findWeek_211 ?_
                                refine j_iconst C (nI 2) (by decide) dX11_findWeek_212 ?_
                                refine j_V1 C (n_misfit g kk (sF (sI (sI (sI (sI (sF (sF (sF (sF (sF (sF (sF (sF σ 16 w1) 17 w2) 18 w3) 19 z174_F19) 20 z10_F20) 21 w4) 22 w5) 23 w6) 30 z174_I30) 31 z174_I31) 32 bf3) 33 bs3) 19 w16) k hk hk6 hI  2 (by first | assumption | omega)) kyX11_misfit tb_1193 tb_1195 sp_35 0 rfl (eM_0 g kk _) rfl (Nat.le_of_ble_eq_true rfl) ⟨by decide, by decide⟩ dX11_findWeek_213 rfl (fun vr ur hp => ?_)
                                obtain ⟨r21, rfl, hu⟩ := hp
                                replace hu := hu.symm
                                subst hu
                                refine j_iconst C (nI 2) (by decide) dX11_findWeek_216 ?_
                                refine j_aload_n C 2 rfl dX11_findWeek_217 ?_
                                refine gM_0_11 C tb_884 (σ.1 11) rfl dX11_findWeek_218 ?_
                                refine j_imul C dX11_findWeek_221 ?_
                                refine j_iadd C dX11_findWeek_222 ?_
                                refine pM_0_30 C tb_903 dX11_findWeek_223 ?_
                                refine j_aload_n C 2 rfl dX11_findWeek_226 ?_
                                refine j_iconst C (nI 2) (by decide) dX11_findWeek_227 ?_
                                refine pM_0_31 C tb_904 dX11_findWeek_228 ?_
                                refine j_aload_n C 2 rfl dX11_findWeek_231 ?_
                                refine j_iload_n C 1 rfl dX11_findWeek_232 ?_
                                refine pM_0_32 C tb_905 dX11_findWeek_233 ?_
                                refine j_aload_n C 2 rfl dX11_findWeek_236 ?_
                                refine j_iload C 0 rfl dX11_findWeek_237 ?_
                                refine pM_0_33 C tb_906 dX11_findWeek_239 ?_
                                refine j_iinc C (nI (e + 1)) [(4, .int (nI (e + 1))), (3, .int (nI b)), (0, .ref (g 0)), (1, .int (nI c)), (2, .int (nI d))] 0 rfl (by rw [show Int32.ofInt 1 = nI 1 from by decide, nI_add]) (by decide) rfl dX11_findWeek_242 ?_
                                refine j_goto C 174 (by decide) dX11_findWeek_245 ?_
                                refine j_w (cM g kk (sI (sI (sI (sI (sF (sF (sF (sF (sF (sF (sF (sF σ 16 w1) 17 w2) 18 w3) 19 w16) 20 z10_F20) 21 w4) 22 w5) 23 w6) 30 (r21 + ((nI 2) * (σ.1 11)))) 31 (nI 2)) 32 (nI b)) 33 (nI e))) (congrArg (cM g kk) (show sI (sI (sI (sI (sF (sI (sI (sI (sI (sF (sF (sF (sF (sF (sF (sF (sF σ 16 w1) 17 w2) 18 w3) 19 z174_F19) 20 z10_F20) 21 w4) 22 w5) 23 w6) 30 z174_I30) 31 z174_I31) 32 bf3) 33 bs3) 19 w16) 30 (r21 + ((nI 2) * (σ.1 11)))) 31 (nI 2)) 32 (nI b)) 33 (nI e) = sI (sI (sI (sI (sF (sF (sF (sF (sF (sF (sF (sF σ 16 w1) 17 w2) 18 w3) 19 w16) 20 z10_F20) 21 w4) 22 w5) 23 w6) 30 (r21 + ((nI 2) * (σ.1 11)))) 31 (nI 2)) 32 (nI b)) 33 (nI e) from (Eq.trans (wrI (Eq.trans (wrI (Eq.trans (wrI (Eq.trans (wrI (Eq.trans wrFI (wrI (Eq.trans wrFI (wrI (Eq.trans wrFI (wrI (Eq.trans wrFI (wrI (Eq.trans (wrFc (by decide)) (wrF (Eq.trans (wrFc (by decide)) (wrF (Eq.trans (wrFc (by decide)) (wrF (Eq.trans (wrFc (by decide)) (wrF wrFs))))))))))))))))) (Eq.trans (wrIc (by decide)) (wrI (Eq.trans (wrIc (by decide)) (wrI (Eq.trans (wrIc (by decide)) (wrI wrIs)))))))) (Eq.trans (wrIc (by decide)) (wrI (Eq.trans (wrIc (by decide)) (wrI wrIs)))))) (Eq.trans (wrIc (by decide)) (wrI wrIs)))) wrIs))) ?_
                                exact ih174 (e + 1) w16 (r21 + ((nI 2) * (σ.1 11))) (nI 2) (nI b) (nI e) (by omega) (by first | assumption | exact Or.inr ⟨_, by omega, rfl⟩) (by first | assumption | exact Or.inr ⟨_, by omega, rfl⟩) (by omega)
                      refine j_w (cM g kk (sI (sI (sI (sI (sF (sF (sF (sF (sF (sF (sF (sF σ 16 w1) 17 w2) 18 w3) 19 w12) 20 z10_F20) 21 w4) 22 w5) 23 w6) 30 z156_I30) 31 z156_I31) 32 bf2) 33 bs2)) (congrArg (cM g kk) (show sF (sI (sI (sI (sI (sF (sF (sF (sF (sF (sF (sF (sF σ 16 w1) 17 w2) 18 w3) 19 z156_F19) 20 z10_F20) 21 w4) 22 w5) 23 w6) 30 z156_I30) 31 z156_I31) 32 bf2) 33 bs2) 19 w12 = sI (sI (sI (sI (sF (sF (sF (sF (sF (sF (sF (sF σ 16 w1) 17 w2) 18 w3) 19 w12) 20 z10_F20) 21 w4) 22 w5) 23 w6) 30 z156_I30) 31 z156_I31) 32 bf2) 33 bs2 from (Eq.trans wrFI (wrI (Eq.trans wrFI (wrI (Eq.trans wrFI (wrI (Eq.trans wrFI (wrI (Eq.trans (wrFc (by decide)) (wrF (Eq.trans (wrFc (by decide)) (wrF (Eq.trans (wrFc (by decide)) (wrF (Eq.trans (wrFc (by decide)) (wrF wrFs)))))))))))))))))) ?_
                      exact L174 _ 0 w12 z156_I30 z156_I31 bf2 bs2 (by omega) (by first | assumption | exact Or.inr ⟨_, by omega, rfl⟩) (by first | assumption | exact Or.inr ⟨_, by omega, rfl⟩) (Nat.lt_succ_self _)
              exact L156 _ 0 z92_F19 z92_I30 z92_I31 bf (-6) (by omega) (by first | assumption | exact Or.inr ⟨_, by omega, rfl⟩) (by first | exact Or.inl rfl | assumption) (Nat.lt_succ_self _)
            · refine j_aload_n C 1 rfl dX11_findWeek_98 ?_
              refine j_iconst C (nI 0) (by decide) dX11_findWeek_99 ?_
              refine j_iload_n C 0 rfl dX11_findWeek_100 ?_
              refine j_V1 C (n_mend g kk (sI (sI (sI (sI (sF (sF (sF (sF (sF (sF (sF (sF σ 16 w1) 17 w2) 18 w3) 19 z92_F19) 20 z10_F20) 21 w4) 22 w5) 23 w6) 30 z92_I30) 31 z92_I31) 32 bf) 33 (-6)) k hk hk6 hI g7 0 (by first | assumption | omega) a (by first | assumption | omega)) kyX11_mend tb_1197 tb_1199 sp_36 0 rfl (eM_0 g kk _) rfl (Nat.le_of_ble_eq_true rfl) ⟨by decide, by decide⟩ dX11_findWeek_101 rfl (fun vr ur hp => ?_)
              obtain ⟨r23, rfl, w22, hu⟩ := hp
              replace hu := hu.symm
              subst hu
              refine j_if_eq C 148 (by decide) dX11_findWeek_104 (fun c24 => ?_) (fun c24 => ?_)
              · refine j_iinc C (nI (a + 1)) [(3, .int (nI (a + 1))), (0, .ref (g 0)), (1, .int (nI c)), (2, .int (nI d))] 0 rfl (by rw [show Int32.ofInt 1 = nI 1 from by decide, nI_add]) (by decide) rfl dX11_findWeek_148 ?_
                refine j_goto C 92 (by decide) dX11_findWeek_151 ?_
                refine j_w (cM g kk (sI (sI (sI (sI (sF (sF (sF (sF (sF (sF (sF (sF σ 16 w1) 17 w2) 18 w3) 19 w22) 20 z10_F20) 21 w4) 22 w5) 23 w6) 30 z92_I30) 31 z92_I31) 32 bf) 33 (-6))) (congrArg (cM g kk) (show sF (sI (sI (sI (sI (sF (sF (sF (sF (sF (sF (sF (sF σ 16 w1) 17 w2) 18 w3) 19 z92_F19) 20 z10_F20) 21 w4) 22 w5) 23 w6) 30 z92_I30) 31 z92_I31) 32 bf) 33 (-6)) 19 w22 = sI (sI (sI (sI (sF (sF (sF (sF (sF (sF (sF (sF σ 16 w1) 17 w2) 18 w3) 19 w22) 20 z10_F20) 21 w4) 22 w5) 23 w6) 30 z92_I30) 31 z92_I31) 32 bf) 33 (-6) from (Eq.trans wrFI (wrI (Eq.trans wrFI (wrI (Eq.trans wrFI (wrI (Eq.trans wrFI (wrI (Eq.trans (wrFc (by decide)) (wrF (Eq.trans (wrFc (by decide)) (wrF (Eq.trans (wrFc (by decide)) (wrF (Eq.trans (wrFc (by decide)) (wrF wrFs)))))))))))))))))) ?_
                exact ih92 (a + 1) w22 z92_I30 z92_I31 bf (by omega) (by first | assumption | exact Or.inr ⟨_, by omega, rfl⟩) (by omega)
              · refine j_aload_n C 1 rfl dX11_findWeek_107 ?_
                refine j_iconst C (nI 1) (by decide) dX11_findWeek_108 ?_
                refine j_V1 C (n_misfit g kk (sF (sI (sI (sI (sI (sF (sF (sF (sF (sF (sF (sF (sF σ 16 w1) 17 w2) 18 w3) 19 z92_F19) 20 z10_F20) 21 w4) 22 w5) 23 w6) 30 z92_I30) 31 z92_I31) 32 bf) 33 (-6)) 19 w22) k hk hk6 hI  1 (by first | assumption | omega)) kyX11_misfit tb_1193 tb_1195 sp_35 0 rfl (eM_0 g kk _) rfl (Nat.le_of_ble_eq_true rfl) ⟨by decide, by decide⟩ dX11_findWeek_109 rfl (fun vr ur hp => ?_)
                obtain ⟨r25, rfl, hu⟩ := hp
                replace hu := hu.symm
                subst hu
                refine j_aload_n C 1 rfl dX11_findWeek_112 ?_
                refine gM_0_11 C tb_884 (σ.1 11) rfl dX11_findWeek_113 ?_
                refine j_iadd C dX11_findWeek_116 ?_
                refine j_aload_n C 1 rfl dX11_findWeek_117 ?_
                refine gM_0_30 C tb_903 (z92_I30) rfl dX11_findWeek_118 ?_
                refine j_icmp_ge C 148 (by decide) dX11_findWeek_121 (fun c26 => ?_) (fun c26 => ?_)
                · refine j_iinc C (nI (a + 1)) [(3, .int (nI (a + 1))), (0, .ref (g 0)), (1, .int (nI c)), (2, .int (nI d))] 0 rfl (by rw [show Int32.ofInt 1 = nI 1 from by decide, nI_add]) (by decide) rfl dX11_findWeek_148 ?_
                  refine j_goto C 92 (by decide) dX11_findWeek_151 ?_
                  refine j_w (cM g kk (sI (sI (sI (sI (sF (sF (sF (sF (sF (sF (sF (sF σ 16 w1) 17 w2) 18 w3) 19 w22) 20 z10_F20) 21 w4) 22 w5) 23 w6) 30 z92_I30) 31 z92_I31) 32 bf) 33 (-6))) (congrArg (cM g kk) (show sF (sI (sI (sI (sI (sF (sF (sF (sF (sF (sF (sF (sF σ 16 w1) 17 w2) 18 w3) 19 z92_F19) 20 z10_F20) 21 w4) 22 w5) 23 w6) 30 z92_I30) 31 z92_I31) 32 bf) 33 (-6)) 19 w22 = sI (sI (sI (sI (sF (sF (sF (sF (sF (sF (sF (sF σ 16 w1) 17 w2) 18 w3) 19 w22) 20 z10_F20) 21 w4) 22 w5) 23 w6) 30 z92_I30) 31 z92_I31) 32 bf) 33 (-6) from (Eq.trans wrFI (wrI (Eq.trans wrFI (wrI (Eq.trans wrFI (wrI (Eq.trans wrFI (wrI (Eq.trans (wrFc (by decide)) (wrF (Eq.trans (wrFc (by decide)) (wrF (Eq.trans (wrFc (by decide)) (wrF (Eq.trans (wrFc (by decide)) (wrF wrFs)))))))))))))))))) ?_
                  exact ih92 (a + 1) w22 z92_I30 z92_I31 bf (by omega) (by first | assumption | exact Or.inr ⟨_, by omega, rfl⟩) (by omega)
                · refine j_aload_n C 1 rfl dX11_findWeek_124 ?_
                  refine j_aload_n C 1 rfl dX11_findWeek_125 ?_
                  refine j_iconst C (nI 1) (by decide) dX11_findWeek_126 ?_
                  refine j_V1 C (n_misfit g kk (sF (sI (sI (sI (sI (sF (sF (sF (sF (sF (sF (sF (sF σ 16 w1) 17 w2) 18 w3) 19 z92_F19) 20 z10_F20) 21 w4) 22 w5) 23 w6) 30 z92_I30) 31 z92_I31) 32 bf) 33 (-6)) 19 w22) k hk hk6 hI  1 (by first | assumption | omega)) kyX11_misfit tb_1193 tb_1195 sp_35 0 rfl (eM_0 g kk _) rfl (Nat.le_of_ble_eq_true rfl) ⟨by decide, by decide⟩ dX11_findWeek_127 rfl (fun vr ur hp => ?_)
                  obtain ⟨r27, rfl, hu⟩ := hp
                  replace hu := hu.symm
                  subst hu
                  refine j_aload_n C 1 rfl dX11_findWeek_130 ?_
                  refine gM_0_11 C tb_884 (σ.1 11) rfl dX11_findWeek_131 ?_
                  refine j_iadd C dX11_findWeek_134 ?_
                  refine pM_0_30 C tb_903 dX11_findWeek_135 ?_
                  refine j_aload_n C 1 rfl dX11_findWeek_138 ?_
                  refine j_iconst C (nI 1) (by decide) dX11_findWeek_139 ?_
                  refine pM_0_31 C tb_904 dX11_findWeek_140 ?_
                  refine j_aload_n C 1 rfl dX11_findWeek_143 ?_
                  refine j_iload_n C 0 rfl dX11_findWeek_144 ?_
                  refine pM_0_32 C tb_905 dX11_findWeek_145 ?_
                  refine j_iinc C (nI (a + 1)) [(3, .int (nI (a + 1))), (0, .ref (g 0)), (1, .int (nI c)), (2, .int (nI d))] 0 rfl (by rw [show Int32.ofInt 1 = nI 1 from by decide, nI_add]) (by decide) rfl dX11_findWeek_148 ?_
                  refine j_goto C 92 (by decide) dX11_findWeek_151 ?_
                  refine j_w (cM g kk (sI (sI (sI (sI (sF (sF (sF (sF (sF (sF (sF (sF σ 16 w1) 17 w2) 18 w3) 19 w22) 20 z10_F20) 21 w4) 22 w5) 23 w6) 30 (r27 + (σ.1 11))) 31 (nI 1)) 32 (nI a)) 33 (-6))) (congrArg (cM g kk) (show sI (sI (sI (sF (sI (sI (sI (sI (sF (sF (sF (sF (sF (sF (sF (sF σ 16 w1) 17 w2) 18 w3) 19 z92_F19) 20 z10_F20) 21 w4) 22 w5) 23 w6) 30 z92_I30) 31 z92_I31) 32 bf) 33 (-6)) 19 w22) 30 (r27 + (σ.1 11))) 31 (nI 1)) 32 (nI a) = sI (sI (sI (sI (sF (sF (sF (sF (sF (sF (sF (sF σ 16 w1) 17 w2) 18 w3) 19 w22) 20 z10_F20) 21 w4) 22 w5) 23 w6) 30 (r27 + (σ.1 11))) 31 (nI 1)) 32 (nI a)) 33 (-6) from (Eq.trans (wrI (Eq.trans (wrI (Eq.trans (wrI (Eq.trans wrFI (wrI (Eq.trans wrFI (wrI (Eq.trans wrFI (wrI (Eq.trans wrFI (wrI (Eq.trans (wrFc (by decide)) (wrF (Eq.trans (wrFc (by decide)) (wrF (Eq.trans (wrFc (by decide)) (wrF (Eq.trans (wrFc (by decide)) (wrF wrFs))))))))))))))))) (Eq.trans (wrIc (by decide)) (wrI (Eq.trans (wrIc (by decide)) (wrI (Eq.trans (wrIc (by decide)) (wrI wrIs)))))))) (Eq.trans (wrIc (by decide)) (wrI (Eq.trans (wrIc (by decide)) (wrI wrIs)))))) (Eq.trans (wrIc (by decide)) (wrI wrIs))))) ?_
                  exact ih92 (a + 1) w22 (r27 + (σ.1 11)) (nI 1) (nI a) (by omega) (by first | assumption | exact Or.inr ⟨_, by omega, rfl⟩) (by omega)
        exact L92 _ 0 z10_F19 r9 (nI 0) (-6) (by omega) (Or.inl rfl) (Nat.lt_succ_self _)
      · refine j_aload_n C 1 rfl dX11_findWeek_16 ?_
        refine gM_0_25 C tb_898 dX11_findWeek_17 ?_
        refine j_iload_n C 0 rfl dX11_findWeek_20 ?_
        refine j_aload_n C 1 rfl dX11_findWeek_21 ?_
        refine gM_0_24 C tb_897 dX11_findWeek_22 ?_
        refine j_iload_n C 2 rfl dX11_findWeek_25 ?_
        refine j_iload_n C 3 rfl dX11_findWeek_26 ?_
        refine j_iload_n C 0 rfl dX11_findWeek_27 ?_
        refine j_iaddN C dX11_findWeek_28 ?_
        refine j_S01 C (m_at c (d + i)) kyX11_at tb_1060 tb_1061 rfl (Nat.le_of_ble_eq_true rfl) ⟨by decide, by decide⟩ ⟨by decide, by decide⟩ dX11_findWeek_29 rfl ?_
        refine rM_18 C (28 * c + (d + i)) rfl (by omega) (w3 (28 * c + (d + i))) rfl dX11_findWeek_32 ?_
        refine j_S01 C (m_atLeast (w3 (28 * c + (d + i)))) kyX11_atLeast tb_1162 tb_1163 rfl (Nat.le_of_ble_eq_true rfl) ⟨by decide, by decide⟩ ⟨by decide, by decide⟩ dX11_findWeek_33 rfl ?_
        refine j_top (fun v28 => ?_)
        refine tM_19 C i rfl (by omega) dX11_findWeek_36 ?_
        refine j_aload_n C 1 rfl dX11_findWeek_37 ?_
        refine gM_0_26 C tb_899 dX11_findWeek_38 ?_
        refine j_iload_n C 0 rfl dX11_findWeek_41 ?_
        refine j_aload_n C 1 rfl dX11_findWeek_42 ?_
        refine gM_0_23 C tb_896 dX11_findWeek_43 ?_
        refine j_iload_n C 2 rfl dX11_findWeek_46 ?_
        refine j_iload_n C 3 rfl dX11_findWeek_47 ?_
        refine j_iload_n C 0 rfl dX11_findWeek_48 ?_
        refine j_iaddN C dX11_findWeek_49 ?_
        refine j_S01 C (m_at c (d + i)) kyX11_at tb_1060 tb_1061 rfl (Nat.le_of_ble_eq_true rfl) ⟨by decide, by decide⟩ ⟨by decide, by decide⟩ dX11_findWeek_50 rfl ?_
        refine rM_17 C (28 * c + (d + i)) rfl (by omega) (w2 (28 * c + (d + i))) rfl dX11_findWeek_53 ?_
        refine j_S01 C (m_atLeast (w2 (28 * c + (d + i)))) kyX11_atLeast tb_1162 tb_1163 rfl (Nat.le_of_ble_eq_true rfl) ⟨by decide, by decide⟩ ⟨by decide, by decide⟩ dX11_findWeek_54 rfl ?_
        refine j_top (fun v29 => ?_)
        refine tM_20 C i rfl (by omega) dX11_findWeek_57 ?_
        refine j_iinc C (nI (i + 1)) [(3, .int (nI (i + 1))), (0, .ref (g 0)), (1, .int (nI c)), (2, .int (nI d))] 0 rfl (by rw [show Int32.ofInt 1 = nI 1 from by decide, nI_add]) (by decide) rfl dX11_findWeek_58 ?_
        refine j_goto C 10 (by decide) dX11_findWeek_61 ?_
        refine j_w (cM g kk (sF (sF (sF (sF (sF (sF (sF (sF σ 16 w1) 17 w2) 18 w3) 19 (upd z10_F19 i v28)) 20 (upd z10_F20 i v29)) 21 w4) 22 w5) 23 w6)) (congrArg (cM g kk) (show sF (sF (sF (sF (sF (sF (sF (sF (sF (sF σ 16 w1) 17 w2) 18 w3) 19 z10_F19) 20 z10_F20) 21 w4) 22 w5) 23 w6) 19 (upd z10_F19 i v28)) 20 (upd z10_F20 i v29) = sF (sF (sF (sF (sF (sF (sF (sF σ 16 w1) 17 w2) 18 w3) 19 (upd z10_F19 i v28)) 20 (upd z10_F20 i v29)) 21 w4) 22 w5) 23 w6 from (Eq.trans (wrF (Eq.trans (wrFc (by decide)) (wrF (Eq.trans (wrFc (by decide)) (wrF (Eq.trans (wrFc (by decide)) (wrF (Eq.trans (wrFc (by decide)) (wrF wrFs))))))))) (Eq.trans (wrFc (by decide)) (wrF (Eq.trans (wrFc (by decide)) (wrF (Eq.trans (wrFc (by decide)) (wrF wrFs))))))))) ?_
        exact ih10 (i + 1) (upd z10_F19 i v28) (upd z10_F20 i v29) (by omega) (by omega)
  refine j_w (cM g kk (sF (sF (sF (sF (sF (sF (sF σ 16 w1) 17 w2) 18 w3) 21 w4) 22 w5) 23 w6) 19 (σ.2.1 19))) (congrArg (cM g kk) (wrFi (S := (sF (sF (sF (sF (sF (sF σ 16 w1) 17 w2) 18 w3) 21 w4) 22 w5) 23 w6)) (c := 19) (v := σ.2.1 19) (gtFF (by decide) (gtFF (by decide) (gtFF (by decide) (gtFF (by decide) (gtFF (by decide) (gtFF (by decide) rfl)))))))) ?_
  refine j_w (cM g kk (sF (sF (sF (sF (sF (sF (sF (sF σ 16 w1) 17 w2) 18 w3) 21 w4) 22 w5) 23 w6) 19 (σ.2.1 19)) 20 (σ.2.1 20))) (congrArg (cM g kk) (wrFi (S := (sF (sF (sF (sF (sF (sF (sF σ 16 w1) 17 w2) 18 w3) 21 w4) 22 w5) 23 w6) 19 (σ.2.1 19))) (c := 20) (v := σ.2.1 20) (gtFF (by decide) (gtFF (by decide) (gtFF (by decide) (gtFF (by decide) (gtFF (by decide) (gtFF (by decide) (gtFF (by decide) rfl))))))))) ?_
  refine j_w (cM g kk (sF (sF (sF (sF (sF (sF (sF (sF σ 16 w1) 17 w2) 18 w3) 19 (σ.2.1 19)) 20 (σ.2.1 20)) 21 w4) 22 w5) 23 w6)) (congrArg (cM g kk) (show sF (sF (sF (sF (sF (sF (sF (sF σ 16 w1) 17 w2) 18 w3) 21 w4) 22 w5) 23 w6) 19 (σ.2.1 19)) 20 (σ.2.1 20) = sF (sF (sF (sF (sF (sF (sF (sF σ 16 w1) 17 w2) 18 w3) 19 (σ.2.1 19)) 20 (σ.2.1 20)) 21 w4) 22 w5) 23 w6 from (Eq.trans (wrF (Eq.trans (wrFc (by decide)) (wrF (Eq.trans (wrFc (by decide)) (wrF (wrFc (by decide))))))) (Eq.trans (wrFc (by decide)) (wrF (Eq.trans (wrFc (by decide)) (wrF (wrFc (by decide))))))))) ?_
  exact L10 _ 0 (σ.2.1 19) (σ.2.1 20) (by omega) (Nat.lt_succ_self _)
