set_option maxRecDepth 100000 in
set_option maxHeartbeats 4000000 in
theorem d_isDigit (g kk : Nat → Nat) (σ : St) (k : Nat) (hk : σ.1 16 = nI k) (hk6 : k ≤ 6) (hI : iX σ)  (v : Int32) : jM (S := St) yX5_isDigit cX5_isDigit 1 (some .boolean) { frames := 0, cells := 0, slots := 0, locals := 0 } kk (cX g kk σ) [.int v] (cX g kk) (rI (fun (r : Int32) (u : St) => u = σ)) := by
  refine j_entry [(0, .int v)] (by decide) (Nat.le_of_ble_eq_true rfl) rfl ?_
  intro X C E HI
  refine j_iload_n C 0 rfl dX5_isDigit_0 ?_
  refine j_bipush C (nI 48) (by decide) dX5_isDigit_1 ?_
  refine j_icmp_lt C 16 (by decide) dX5_isDigit_3 (fun c1 => ?_) (fun c1 => ?_)
  · refine j_iconst C (nI 0) (by decide) dX5_isDigit_16 ?_
    exact j_zret C E (by first | rfl | decide) (σ) ⟨_, rfl, rfl⟩ rfl dX5_isDigit_17
  · refine j_iload_n C 0 rfl dX5_isDigit_6 ?_
    refine j_bipush C (nI 57) (by decide) dX5_isDigit_7 ?_
    refine j_icmp_gt C 16 (by decide) dX5_isDigit_9 (fun c2 => ?_) (fun c2 => ?_)
    · refine j_iconst C (nI 0) (by decide) dX5_isDigit_16 ?_
      exact j_zret C E (by first | rfl | decide) (σ) ⟨_, rfl, rfl⟩ rfl dX5_isDigit_17
    · refine j_iconst C (nI 1) (by decide) dX5_isDigit_12 ?_
      refine j_goto C 17 (by decide) dX5_isDigit_13 ?_
      exact j_zret C E (by first | rfl | decide) (σ) ⟨_, rfl, rfl⟩ rfl dX5_isDigit_17
set_option maxRecDepth 100000 in
set_option maxHeartbeats 4000000 in
theorem d_behind (g kk : Nat → Nat) (σ : St) (k : Nat) (hk : σ.1 16 = nI k) (hk6 : k ≤ 6) (hI : iX σ)  (v : Int32) : jM (S := St) yX5_behind cX5_behind 1 (some .int) { frames := 0, cells := 0, slots := 0, locals := 0 } kk (cX g kk σ) [.int v] (cX g kk) (rI (fun (r : Int32) (u : St) => u = σ)) := by
  refine j_entry [(0, .int v)] (by decide) (Nat.le_of_ble_eq_true rfl) rfl ?_
  intro X C E HI
  refine j_iload_n C 0 rfl dX5_behind_0 ?_
  refine j_bipush C (nI 59) (by decide) dX5_behind_1 ?_
  refine j_icmp_ne C 10 (by decide) dX5_behind_3 (fun c1 => ?_) (fun c1 => ?_)
  · refine j_bipush C (nI 7) (by decide) dX5_behind_10 ?_
    exact j_iret C E (σ) ⟨_, rfl, rfl⟩ rfl dX5_behind_12
  · refine j_iconst C (nI 0) (by decide) dX5_behind_6 ?_
    refine j_goto C 12 (by decide) dX5_behind_7 ?_
    exact j_iret C E (σ) ⟨_, rfl, rfl⟩ rfl dX5_behind_12
set_option maxRecDepth 100000 in
set_option maxHeartbeats 4000000 in
theorem d_next (g kk : Nat → Nat) (σ : St) (k : Nat) (hk : σ.1 16 = nI k) (hk6 : k ≤ 6) (hI : iX σ)  (a : Int32) (v : Int32) : jM (S := St) yX5_next cX5_next 3 (some .int) { frames := 1, cells := 0, slots := 0, locals := 20 } kk (cX g kk σ) [.int a, .int v] (cX g kk) (rI (fun (r : Int32) (u : St) => u = σ)) := by
  refine j_entry [(0, .int a), (1, .int v)] (by decide) (Nat.le_of_ble_eq_true rfl) rfl ?_
  intro X C E HI
  refine j_iload_n C 1 rfl dX5_next_0 ?_
  refine j_S1 C (d_isDigit g kk σ k hk hk6 hI  v) kyX5_isDigit tb_535 tb_536 rfl (Nat.le_of_ble_eq_true rfl) ⟨by decide, by decide⟩ dX5_next_1 rfl (fun vr ur hp => ?_)
  obtain ⟨r1, rfl, hu⟩ := hp
  replace hu := hu.symm
  subst hu
  refine j_istore_n C [(2, .int r1), (0, .int a), (1, .int v)] rfl (by decide) rfl dX5_next_4 ?_
  refine j_iload_n C 1 rfl dX5_next_5 ?_
  by_cases q2 : a = nI 0
  · rw [q2]
    refine j_tabIn C 44 (by decide) (by decide) rfl (by decide) dX5_next_6 ?_
    refine j_iload_n C 2 rfl dX5_next_44 ?_
    refine j_bipush C (nI 120) (by decide) dX5_next_45 ?_
    refine j_icmp_eq C 62 (by decide) dX5_next_47 (fun c3 => ?_) (fun c3 => ?_)
    · refine j_iconst C (nI 1) (by decide) dX5_next_62 ?_
      refine j_goto C 68 (by decide) dX5_next_63 ?_
      exact j_iret C E (σ) ⟨_, rfl, rfl⟩ rfl dX5_next_68
    · refine j_iload_n C 2 rfl dX5_next_50 ?_
      refine j_bipush C (nI 108) (by decide) dX5_next_51 ?_
      refine j_icmp_eq C 62 (by decide) dX5_next_53 (fun c4 => ?_) (fun c4 => ?_)
      · refine j_iconst C (nI 1) (by decide) dX5_next_62 ?_
        refine j_goto C 68 (by decide) dX5_next_63 ?_
        exact j_iret C E (σ) ⟨_, rfl, rfl⟩ rfl dX5_next_68
      · refine j_iload_n C 2 rfl dX5_next_56 ?_
        refine j_bipush C (nI 115) (by decide) dX5_next_57 ?_
        refine j_icmp_ne C 66 (by decide) dX5_next_59 (fun c5 => ?_) (fun c5 => ?_)
        · refine j_bipush C (nI 7) (by decide) dX5_next_66 ?_
          exact j_iret C E (σ) ⟨_, rfl, rfl⟩ rfl dX5_next_68
        · refine j_iconst C (nI 1) (by decide) dX5_next_62 ?_
          refine j_goto C 68 (by decide) dX5_next_63 ?_
          exact j_iret C E (σ) ⟨_, rfl, rfl⟩ rfl dX5_next_68
  · by_cases q6 : a = nI 1
    · rw [q6]
      refine j_tabIn C 69 (by decide) (by decide) rfl (by decide) dX5_next_6 ?_
      refine j_iload_n C 0 rfl dX5_next_69 ?_
      refine j_if_eq C 77 (by decide) dX5_next_70 (fun c7 => ?_) (fun c7 => ?_)
      · refine j_bipush C (nI 7) (by decide) dX5_next_77 ?_
        exact j_iret C E (σ) ⟨_, rfl, rfl⟩ rfl dX5_next_79
      · refine j_iconst C (nI 2) (by decide) dX5_next_73 ?_
        refine j_goto C 79 (by decide) dX5_next_74 ?_
        exact j_iret C E (σ) ⟨_, rfl, rfl⟩ rfl dX5_next_79
    · by_cases q8 : a = nI 2
      · rw [q8]
        refine j_tabIn C 80 (by decide) (by decide) rfl (by decide) dX5_next_6 ?_
        refine j_iload_n C 0 rfl dX5_next_80 ?_
        refine j_if_eq C 88 (by decide) dX5_next_81 (fun c9 => ?_) (fun c9 => ?_)
        · refine j_iload_n C 2 rfl dX5_next_88 ?_
          refine j_bipush C (nI 45) (by decide) dX5_next_89 ?_
          refine j_icmp_ne C 98 (by decide) dX5_next_91 (fun c10 => ?_) (fun c10 => ?_)
          · refine j_iload_n C 2 rfl dX5_next_98 ?_
            refine j_S1 C (d_behind g kk σ k hk hk6 hI  v) kyX5_behind tb_538 tb_539 rfl (Nat.le_of_ble_eq_true rfl) ⟨by decide, by decide⟩ dX5_next_99 rfl (fun vr ur hp => ?_)
            obtain ⟨r11, rfl, hu⟩ := hp
            replace hu := hu.symm
            subst hu
            exact j_iret C E (σ) ⟨_, rfl, rfl⟩ rfl dX5_next_102
          · refine j_iconst C (nI 4) (by decide) dX5_next_94 ?_
            refine j_goto C 102 (by decide) dX5_next_95 ?_
            exact j_iret C E (σ) ⟨_, rfl, rfl⟩ rfl dX5_next_102
        · refine j_iconst C (nI 3) (by decide) dX5_next_84 ?_
          refine j_goto C 102 (by decide) dX5_next_85 ?_
          exact j_iret C E (σ) ⟨_, rfl, rfl⟩ rfl dX5_next_102
      · by_cases q12 : a = nI 3
        · rw [q12]
          refine j_tabIn C 103 (by decide) (by decide) rfl (by decide) dX5_next_6 ?_
          refine j_iload_n C 2 rfl dX5_next_103 ?_
          refine j_bipush C (nI 45) (by decide) dX5_next_104 ?_
          refine j_icmp_ne C 113 (by decide) dX5_next_106 (fun c13 => ?_) (fun c13 => ?_)
          · refine j_iload_n C 2 rfl dX5_next_113 ?_
            refine j_S1 C (d_behind g kk σ k hk hk6 hI  v) kyX5_behind tb_538 tb_539 rfl (Nat.le_of_ble_eq_true rfl) ⟨by decide, by decide⟩ dX5_next_114 rfl (fun vr ur hp => ?_)
            obtain ⟨r14, rfl, hu⟩ := hp
            replace hu := hu.symm
            subst hu
            exact j_iret C E (σ) ⟨_, rfl, rfl⟩ rfl dX5_next_117
          · refine j_iconst C (nI 4) (by decide) dX5_next_109 ?_
            refine j_goto C 117 (by decide) dX5_next_110 ?_
            exact j_iret C E (σ) ⟨_, rfl, rfl⟩ rfl dX5_next_117
        · by_cases q15 : a = nI 4
          · rw [q15]
            refine j_tabIn C 118 (by decide) (by decide) rfl (by decide) dX5_next_6 ?_
            refine j_iload_n C 0 rfl dX5_next_118 ?_
            refine j_if_eq C 126 (by decide) dX5_next_119 (fun c16 => ?_) (fun c16 => ?_)
            · refine j_bipush C (nI 7) (by decide) dX5_next_126 ?_
              exact j_iret C E (σ) ⟨_, rfl, rfl⟩ rfl dX5_next_128
            · refine j_iconst C (nI 5) (by decide) dX5_next_122 ?_
              refine j_goto C 128 (by decide) dX5_next_123 ?_
              exact j_iret C E (σ) ⟨_, rfl, rfl⟩ rfl dX5_next_128
          · by_cases q17 : a = nI 5
            · rw [q17]
              refine j_tabIn C 129 (by decide) (by decide) rfl (by decide) dX5_next_6 ?_
              refine j_iload_n C 0 rfl dX5_next_129 ?_
              refine j_if_eq C 138 (by decide) dX5_next_130 (fun c18 => ?_) (fun c18 => ?_)
              · refine j_iload_n C 2 rfl dX5_next_138 ?_
                refine j_S1 C (d_behind g kk σ k hk hk6 hI  v) kyX5_behind tb_538 tb_539 rfl (Nat.le_of_ble_eq_true rfl) ⟨by decide, by decide⟩ dX5_next_139 rfl (fun vr ur hp => ?_)
                obtain ⟨r19, rfl, hu⟩ := hp
                replace hu := hu.symm
                subst hu
                exact j_iret C E (σ) ⟨_, rfl, rfl⟩ rfl dX5_next_142
              · refine j_bipush C (nI 6) (by decide) dX5_next_133 ?_
                refine j_goto C 142 (by decide) dX5_next_135 ?_
                exact j_iret C E (σ) ⟨_, rfl, rfl⟩ rfl dX5_next_142
            · refine j_tabOut C 143 (swOut 5 (by decide) (fun j hj => by rcases (show j = 0 ∨ j = 1 ∨ j = 2 ∨ j = 3 ∨ j = 4 ∨ j = 5 by omega) with rfl | rfl | rfl | rfl | rfl | rfl <;> assumption)) (by decide) dX5_next_6 ?_
              refine j_iload_n C 2 rfl dX5_next_143 ?_
              refine j_S1 C (d_behind g kk σ k hk hk6 hI  v) kyX5_behind tb_538 tb_539 rfl (Nat.le_of_ble_eq_true rfl) ⟨by decide, by decide⟩ dX5_next_144 rfl (fun vr ur hp => ?_)
              obtain ⟨r20, rfl, hu⟩ := hp
              replace hu := hu.symm
              subst hu
              exact j_iret C E (σ) ⟨_, rfl, rfl⟩ rfl dX5_next_147
set_option maxRecDepth 100000 in
set_option maxHeartbeats 4000000 in
theorem d_faultPlace (g kk : Nat → Nat) (σ : St) (k : Nat) (hk : σ.1 16 = nI k) (hk6 : k ≤ 6) (hI : iX σ)   : jM (S := St) yX5_faultPlace cX5_faultPlace 3 (some .int) { frames := 2, cells := 0, slots := 0, locals := 42 } kk (cX g kk σ) [.ref (g 22)] (cX g kk) (rI (fun (r : Int32) (u : St) => u = σ)) := by
  refine j_entry [(0, .ref (g 22))] (by decide) (Nat.le_of_ble_eq_true rfl) rfl ?_
  intro X C E HI
  obtain ⟨n, hn, en⟩ := id hI.sg
  refine j_iconst C (nI 0) (by decide) dX5_faultPlace_0 ?_
  refine j_istore_n C [(1, .int (nI 0)), (0, .ref (g 22))] rfl (by decide) rfl dX5_faultPlace_1 ?_
  refine j_iconst C (nI 0) (by decide) dX5_faultPlace_2 ?_
  refine j_istore_n C [(2, .int (nI 0)), (1, .int (nI 0)), (0, .ref (g 22))] rfl (by decide) rfl dX5_faultPlace_3 ?_
  have L4 : ∀ (n4 : Nat) (i : Nat) (y4_1 : Int32) (i4_0 : i ≤ n) (hm4 : n - i < n4), J X 0 0 (cX g kk σ) [(2, .int (nI i)), (1, .int y4_1), (0, .ref (g 22))] 4 [] := by
    intro n4
    induction n4 with
    | zero => intro i y4_1 i4_0 hm; exact absurd hm (Nat.not_lt_zero _)
    | succ n4 ih4 =>
      intro i y4_1 i4_0 hm4
      refine j_iload_n C 0 rfl dX5_faultPlace_4 ?_
      refine j_aload_n C 2 rfl dX5_faultPlace_5 ?_
      refine gX_22_0 C tb_168 (nI n) en dX5_faultPlace_6 ?_
      refine j_icmp_geN C 37 (by decide) (by omega) (by omega) dX5_faultPlace_9 (fun c1 => ?_) (fun c1 => ?_)
      · refine j_iload_n C 1 rfl dX5_faultPlace_37 ?_
        refine j_if_eq C 55 (by decide) dX5_faultPlace_38 (fun c2 => ?_) (fun c2 => ?_)
        · refine j_iconst C (nI 0) (by decide) dX5_faultPlace_55 ?_
          refine j_istore_n C [(2, .int (nI 0)), (1, .int y4_1), (0, .ref (g 22))] rfl (by decide) rfl dX5_faultPlace_56 ?_
          refine j_iload_n C 0 rfl dX5_faultPlace_57 ?_
          refine j_if_eqN C 65 (by decide) (by omega) dX5_faultPlace_58 (fun c3 => ?_) (fun c3 => ?_)
          · refine j_aload_n C 2 rfl dX5_faultPlace_65 ?_
            refine gX_22_0 C tb_168 (nI n) en dX5_faultPlace_66 ?_
            exact j_iret C E (σ) ⟨_, rfl, rfl⟩ rfl dX5_faultPlace_69
          · exact absurd c3 (by decide)
        · refine j_iload_n C 1 rfl dX5_faultPlace_41 ?_
          refine j_iconst C (nI 1) (by decide) dX5_faultPlace_42 ?_
          refine j_icmp_eq C 55 (by decide) dX5_faultPlace_43 (fun c4 => ?_) (fun c4 => ?_)
          · refine j_iconst C (nI 0) (by decide) dX5_faultPlace_55 ?_
            refine j_istore_n C [(2, .int (nI 0)), (1, .int y4_1), (0, .ref (g 22))] rfl (by decide) rfl dX5_faultPlace_56 ?_
            refine j_iload_n C 0 rfl dX5_faultPlace_57 ?_
            refine j_if_eqN C 65 (by decide) (by omega) dX5_faultPlace_58 (fun c5 => ?_) (fun c5 => ?_)
            · refine j_aload_n C 2 rfl dX5_faultPlace_65 ?_
              refine gX_22_0 C tb_168 (nI n) en dX5_faultPlace_66 ?_
              exact j_iret C E (σ) ⟨_, rfl, rfl⟩ rfl dX5_faultPlace_69
            · exact absurd c5 (by decide)
          · refine j_iload_n C 1 rfl dX5_faultPlace_46 ?_
            refine j_iconst C (nI 4) (by decide) dX5_faultPlace_47 ?_
            refine j_icmp_eq C 55 (by decide) dX5_faultPlace_48 (fun c6 => ?_) (fun c6 => ?_)
            · refine j_iconst C (nI 0) (by decide) dX5_faultPlace_55 ?_
              refine j_istore_n C [(2, .int (nI 0)), (1, .int y4_1), (0, .ref (g 22))] rfl (by decide) rfl dX5_faultPlace_56 ?_
              refine j_iload_n C 0 rfl dX5_faultPlace_57 ?_
              refine j_if_eqN C 65 (by decide) (by omega) dX5_faultPlace_58 (fun c7 => ?_) (fun c7 => ?_)
              · refine j_aload_n C 2 rfl dX5_faultPlace_65 ?_
                refine gX_22_0 C tb_168 (nI n) en dX5_faultPlace_66 ?_
                exact j_iret C E (σ) ⟨_, rfl, rfl⟩ rfl dX5_faultPlace_69
              · exact absurd c7 (by decide)
            · refine j_iconst C (nI 1) (by decide) dX5_faultPlace_51 ?_
              refine j_goto C 56 (by decide) dX5_faultPlace_52 ?_
              refine j_istore_n C [(2, .int (nI 1)), (1, .int y4_1), (0, .ref (g 22))] rfl (by decide) rfl dX5_faultPlace_56 ?_
              refine j_iload_n C 0 rfl dX5_faultPlace_57 ?_
              refine j_if_eqN C 65 (by decide) (by omega) dX5_faultPlace_58 (fun c8 => ?_) (fun c8 => ?_)
              · exact absurd c8 (by decide)
              · refine j_iconst C ((-1)) (by decide) dX5_faultPlace_61 ?_
                refine j_goto C 69 (by decide) dX5_faultPlace_62 ?_
                exact j_iret C E (σ) ⟨_, rfl, rfl⟩ rfl dX5_faultPlace_69
      · refine j_iload_n C 1 rfl dX5_faultPlace_12 ?_
        refine j_aload_n C 2 rfl dX5_faultPlace_13 ?_
        refine gX_22_2 C tb_172 dX5_faultPlace_14 ?_
        refine j_iload_n C 0 rfl dX5_faultPlace_17 ?_
        refine rX_23 C i rfl (by omega) ((σ.2.1 23) i) rfl dX5_faultPlace_18 ?_
        refine j_S1 C (d_next g kk σ k hk hk6 hI  y4_1 ((σ.2.1 23) i)) kyX5_next tb_532 tb_533 rfl (Nat.le_of_ble_eq_true rfl) ⟨by decide, by decide⟩ dX5_faultPlace_19 rfl (fun vr ur hp => ?_)
        obtain ⟨r9, rfl, hu⟩ := hp
        replace hu := hu.symm
        subst hu
        refine j_istore_n C [(1, .int r9), (2, .int (nI i)), (0, .ref (g 22))] rfl (by decide) rfl dX5_faultPlace_22 ?_
        refine j_iload_n C 0 rfl dX5_faultPlace_23 ?_
        refine j_bipush C (nI 7) (by decide) dX5_faultPlace_24 ?_
        refine j_icmp_ne C 31 (by decide) dX5_faultPlace_26 (fun c10 => ?_) (fun c10 => ?_)
        · refine j_iinc C (nI (i + 1)) [(2, .int (nI (i + 1))), (1, .int r9), (0, .ref (g 22))] 1 rfl (by rw [show Int32.ofInt 1 = nI 1 from by decide, nI_add]) (by decide) rfl dX5_faultPlace_31 ?_
          refine j_goto C 4 (by decide) dX5_faultPlace_34 ?_
          exact ih4 (i + 1) r9 (by omega) (by omega)
        · refine j_iload_n C 1 rfl dX5_faultPlace_29 ?_
          exact j_iret C E (σ) ⟨_, rfl, rfl⟩ rfl dX5_faultPlace_30
  exact L4 _ 0 (nI 0) (by omega) (Nat.lt_succ_self _)
set_option maxRecDepth 100000 in
set_option maxHeartbeats 4000000 in
theorem d_takeItem (g kk : Nat → Nat) (σ : St) (k : Nat) (hk : σ.1 16 = nI k) (hk6 : k ≤ 6) (hI : iX σ) (hS : al_ 28 27 (σ.2.1 25)) (a : Int32) (b : Int32) (c : Int32) : jM (S := St) yX5_takeItem cX5_takeItem 9 (some .boolean) { frames := 0, cells := 0, slots := 0, locals := 0 } kk (cX g kk σ) [.ref (g 22), .int a, .int b, .int c] (cX g kk) (rI (fun (r : Int32) (u : St) => ∃ (pF24 : Nat → Int32) (pF25 : Nat → Int32) (pF26 : Nat → Int32) (pI353 : Int32), u = sI (sF (sF (sF σ 24 pF24) 25 pF25) 26 pF26) 353 pI353 ∧ (al_ 28 27 pF25))) := by
  refine j_entry [(0, .ref (g 22)), (1, .int a), (2, .int b), (3, .int c)] (by decide) (Nat.le_of_ble_eq_true rfl) rfl ?_
  intro X C E HI
  have K56 : ∀ (y56_5 : Int32) (y56_6 : Int32) , J X 0 0 (cX g kk σ) [(0, .ref (g 22)), (1, .int a), (2, .int b), (3, .int c), (5, .int y56_5), (6, .int y56_6)] 56 [] := by
    intro y56_5 y56_6
    refine j_iload C 5 rfl dX5_takeItem_56 ?_
    refine j_if_lt C 79 (by decide) dX5_takeItem_58 (fun c1 => ?_) (fun c1 => ?_)
    · refine j_iconst C (nI 0) (by decide) dX5_takeItem_79 ?_
      refine j_w (cX g kk (sF σ 24 (σ.2.1 24))) (congrArg (cX g kk) (wrFi (S := σ) (c := 24) (v := σ.2.1 24) rfl)) ?_
      refine j_w (cX g kk (sF (sF σ 24 (σ.2.1 24)) 25 (σ.2.1 25))) (congrArg (cX g kk) (wrFi (S := (sF σ 24 (σ.2.1 24))) (c := 25) (v := σ.2.1 25) (gtFF (by decide) rfl))) ?_
      refine j_w (cX g kk (sF (sF (sF σ 24 (σ.2.1 24)) 25 (σ.2.1 25)) 26 (σ.2.1 26))) (congrArg (cX g kk) (wrFi (S := (sF (sF σ 24 (σ.2.1 24)) 25 (σ.2.1 25))) (c := 26) (v := σ.2.1 26) (gtFF (by decide) (gtFF (by decide) rfl)))) ?_
      refine j_w (cX g kk (sI (sF (sF (sF σ 24 (σ.2.1 24)) 25 (σ.2.1 25)) 26 (σ.2.1 26)) 353 (σ.1 353))) (congrArg (cX g kk) (wrIi (S := (sF (sF (sF σ 24 (σ.2.1 24)) 25 (σ.2.1 25)) 26 (σ.2.1 26))) (c := 353) (v := σ.1 353) (gtIF (gtIF (gtIF rfl))))) ?_
      exact j_zret C E (by first | rfl | decide) (sI (sF (sF (sF σ 24 (σ.2.1 24)) 25 (σ.2.1 25)) 26 (σ.2.1 26)) 353 (σ.1 353)) ⟨_, rfl, ⟨(σ.2.1 24), (σ.2.1 25), (σ.2.1 26), (σ.1 353), rfl, hS⟩⟩ rfl dX5_takeItem_80
    · obtain ⟨ff, hff, rfl⟩ := nI_of c1
      refine j_iload C 4 rfl dX5_takeItem_61 ?_
      refine j_bipush C (nI 28) (by decide) dX5_takeItem_63 ?_
      refine j_icmp_ge C 79 (by decide) dX5_takeItem_65 (fun c2 => ?_) (fun c2 => ?_)
      · refine j_iconst C (nI 0) (by decide) dX5_takeItem_79 ?_
        refine j_w (cX g kk (sF σ 24 (σ.2.1 24))) (congrArg (cX g kk) (wrFi (S := σ) (c := 24) (v := σ.2.1 24) rfl)) ?_
        refine j_w (cX g kk (sF (sF σ 24 (σ.2.1 24)) 25 (σ.2.1 25))) (congrArg (cX g kk) (wrFi (S := (sF σ 24 (σ.2.1 24))) (c := 25) (v := σ.2.1 25) (gtFF (by decide) rfl))) ?_
        refine j_w (cX g kk (sF (sF (sF σ 24 (σ.2.1 24)) 25 (σ.2.1 25)) 26 (σ.2.1 26))) (congrArg (cX g kk) (wrFi (S := (sF (sF σ 24 (σ.2.1 24)) 25 (σ.2.1 25))) (c := 26) (v := σ.2.1 26) (gtFF (by decide) (gtFF (by decide) rfl)))) ?_
        refine j_w (cX g kk (sI (sF (sF (sF σ 24 (σ.2.1 24)) 25 (σ.2.1 25)) 26 (σ.2.1 26)) 353 (σ.1 353))) (congrArg (cX g kk) (wrIi (S := (sF (sF (sF σ 24 (σ.2.1 24)) 25 (σ.2.1 25)) 26 (σ.2.1 26))) (c := 353) (v := σ.1 353) (gtIF (gtIF (gtIF rfl))))) ?_
        exact j_zret C E (by first | rfl | decide) (sI (sF (sF (sF σ 24 (σ.2.1 24)) 25 (σ.2.1 25)) 26 (σ.2.1 26)) 353 (σ.1 353)) ⟨_, rfl, ⟨(σ.2.1 24), (σ.2.1 25), (σ.2.1 26), (σ.1 353), rfl, hS⟩⟩ rfl dX5_takeItem_80
      · have K81 : J X 0 0 (cX g kk σ) [(0, .ref (g 22)), (1, .int a), (2, .int b), (3, .int c), (5, .int y56_5), (6, .int (nI ff))] 81 [] := by
          have K104 : ∀ (y104_7 : Int32) , J X 0 0 (cX g kk σ) [(0, .ref (g 22)), (1, .int a), (2, .int b), (3, .int c), (5, .int y56_5), (6, .int (nI ff)), (7, .int y104_7)] 104 [] := by
            intro y104_7
            refine j_iload C 5 rfl dX5_takeItem_104 ?_
            refine j_istore C [(8, .int (nI ff)), (0, .ref (g 22)), (1, .int a), (2, .int b), (3, .int c), (5, .int y56_5), (6, .int (nI ff)), (7, .int y104_7)] (by decide) rfl dX5_takeItem_106 ?_
            have L108 : ∀ (n108 : Nat) (d : Nat) (z108_F24 : Nat → Int32) (f25 : Nat → Int32) (z108_F26 : Nat → Int32) (i108_0 : d < 2 ^ 31) (i108_1 : ff ≤ d) (hs : al_ 28 27 f25) (hm108 : 28 - d < n108), J X 0 0 (cX g kk (sF (sF (sF σ 24 z108_F24) 25 f25) 26 z108_F26)) [(8, .int (nI d)), (0, .ref (g 22)), (1, .int a), (2, .int b), (3, .int c), (5, .int y56_5), (6, .int (nI ff)), (7, .int y104_7)] 108 [] := by
              intro n108
              induction n108 with
              | zero => intro d z108_F24 f25 z108_F26 i108_0 i108_1 hs hm; exact absurd hm (Nat.not_lt_zero _)
              | succ n108 ih108 =>
                intro d z108_F24 f25 z108_F26 i108_0 i108_1 hs hm108
                refine j_iload C 0 rfl dX5_takeItem_108 ?_
                refine j_iload C 5 rfl dX5_takeItem_110 ?_
                refine j_icmp_gt C 160 (by decide) dX5_takeItem_112 (fun c3 => ?_) (fun c3 => ?_)
                · refine j_aload_n C 1 rfl dX5_takeItem_160 ?_
                  refine j_dup C rfl dX5_takeItem_161 ?_
                  refine gX_22_1 C tb_170 (σ.1 353) rfl dX5_takeItem_162 ?_
                  refine j_iconst C (nI 1) (by decide) dX5_takeItem_165 ?_
                  refine j_iadd C dX5_takeItem_166 ?_
                  refine pX_22_1 C tb_170 dX5_takeItem_167 ?_
                  refine j_iconst C (nI 1) (by decide) dX5_takeItem_170 ?_
                  exact j_zret C E (by first | rfl | decide) (sI (sF (sF (sF σ 24 z108_F24) 25 f25) 26 z108_F26) 353 ((σ.1 353) + (nI 1))) ⟨_, rfl, ⟨z108_F24, f25, z108_F26, ((σ.1 353) + (nI 1)), rfl, hs⟩⟩ rfl dX5_takeItem_171
                · have hd28 := ltB 28 (by decide) (by omega) c3 c2
                  refine j_aload_n C 1 rfl dX5_takeItem_115 ?_
                  refine gX_22_3 C tb_173 dX5_takeItem_116 ?_
                  refine j_iload C 0 rfl dX5_takeItem_119 ?_
                  refine rX_24 C d rfl (by omega) (z108_F24 d) rfl dX5_takeItem_121 ?_
                  refine j_if_eq C 127 (by decide) dX5_takeItem_122 (fun c4 => ?_) (fun c4 => ?_)
                  · refine j_aload_n C 1 rfl dX5_takeItem_127 ?_
                    refine gX_22_3 C tb_173 dX5_takeItem_128 ?_
                    refine j_iload C 0 rfl dX5_takeItem_131 ?_
                    refine j_iload C 7 rfl dX5_takeItem_133 ?_
                    refine tX_24 C d rfl (by omega) dX5_takeItem_135 ?_
                    refine j_aload_n C 1 rfl dX5_takeItem_136 ?_
                    refine gX_22_4 C tb_175 dX5_takeItem_137 ?_
                    refine j_iload C 0 rfl dX5_takeItem_140 ?_
                    refine j_iload C 6 rfl dX5_takeItem_142 ?_
                    refine tX_25 C d rfl (by omega) dX5_takeItem_144 ?_
                    refine j_aload_n C 1 rfl dX5_takeItem_145 ?_
                    refine gX_22_5 C tb_177 dX5_takeItem_146 ?_
                    refine j_iload C 0 rfl dX5_takeItem_149 ?_
                    refine j_iload C 5 rfl dX5_takeItem_151 ?_
                    refine tX_26 C d rfl (by omega) dX5_takeItem_153 ?_
                    refine j_iinc C (nI (d + 1)) [(8, .int (nI (d + 1))), (0, .ref (g 22)), (1, .int a), (2, .int b), (3, .int c), (5, .int y56_5), (6, .int (nI ff)), (7, .int y104_7)] 0 rfl (by rw [show Int32.ofInt 1 = nI 1 from by decide, nI_add]) (by decide) rfl dX5_takeItem_154 ?_
                    refine j_goto C 108 (by decide) dX5_takeItem_157 ?_
                    refine j_w (cX g kk (sF (sF (sF σ 24 (upd z108_F24 d y104_7)) 25 (upd f25 d (nI ff))) 26 (upd z108_F26 d y56_5))) (congrArg (cX g kk) (show sF (sF (sF (sF (sF (sF σ 24 z108_F24) 25 f25) 26 z108_F26) 24 (upd z108_F24 d y104_7)) 25 (upd f25 d (nI ff))) 26 (upd z108_F26 d y56_5) = sF (sF (sF σ 24 (upd z108_F24 d y104_7)) 25 (upd f25 d (nI ff))) 26 (upd z108_F26 d y56_5) from (Eq.trans (wrF (Eq.trans (wrF (Eq.trans (wrFc (by decide)) (wrF (Eq.trans (wrFc (by decide)) (wrF wrFs))))) (Eq.trans (wrFc (by decide)) (wrF wrFs)))) wrFs))) ?_
                    exact ih108 (d + 1) (upd z108_F24 d y104_7) (upd f25 d (nI ff)) (upd z108_F26 d y56_5) (by omega) (by omega) (al_upd hs ⟨_, by omega, rfl⟩) (by omega)
                  · refine j_iconst C (nI 0) (by decide) dX5_takeItem_125 ?_
                    refine j_w (cX g kk (sI (sF (sF (sF σ 24 z108_F24) 25 f25) 26 z108_F26) 353 (σ.1 353))) (congrArg (cX g kk) (wrIi (S := (sF (sF (sF σ 24 z108_F24) 25 f25) 26 z108_F26)) (c := 353) (v := σ.1 353) (gtIF (gtIF (gtIF rfl))))) ?_
                    exact j_zret C E (by first | rfl | decide) (sI (sF (sF (sF σ 24 z108_F24) 25 f25) 26 z108_F26) 353 (σ.1 353)) ⟨_, rfl, ⟨z108_F24, f25, z108_F26, (σ.1 353), rfl, hs⟩⟩ rfl dX5_takeItem_126
            refine j_w (cX g kk (sF σ 24 (σ.2.1 24))) (congrArg (cX g kk) (wrFi (S := σ) (c := 24) (v := σ.2.1 24) rfl)) ?_
            refine j_w (cX g kk (sF (sF σ 24 (σ.2.1 24)) 25 (σ.2.1 25))) (congrArg (cX g kk) (wrFi (S := (sF σ 24 (σ.2.1 24))) (c := 25) (v := σ.2.1 25) (gtFF (by decide) rfl))) ?_
            refine j_w (cX g kk (sF (sF (sF σ 24 (σ.2.1 24)) 25 (σ.2.1 25)) 26 (σ.2.1 26))) (congrArg (cX g kk) (wrFi (S := (sF (sF σ 24 (σ.2.1 24)) 25 (σ.2.1 25))) (c := 26) (v := σ.2.1 26) (gtFF (by decide) (gtFF (by decide) rfl)))) ?_
            exact L108 _ ff (σ.2.1 24) (σ.2.1 25) (σ.2.1 26) (by omega) (by omega) hS (Nat.lt_succ_self _)
          refine j_iload_n C 1 rfl dX5_takeItem_81 ?_
          refine j_bipush C (nI 120) (by decide) dX5_takeItem_82 ?_
          refine j_icmp_ne C 91 (by decide) dX5_takeItem_84 (fun c5 => ?_) (fun c5 => ?_)
          · refine j_iload_n C 1 rfl dX5_takeItem_91 ?_
            refine j_bipush C (nI 108) (by decide) dX5_takeItem_92 ?_
            refine j_icmp_ne C 101 (by decide) dX5_takeItem_94 (fun c6 => ?_) (fun c6 => ?_)
            · refine j_iconst C (nI 3) (by decide) dX5_takeItem_101 ?_
              refine j_istore C [(7, .int (nI 3)), (0, .ref (g 22)), (1, .int a), (2, .int b), (3, .int c), (5, .int y56_5), (6, .int (nI ff))] (by decide) rfl dX5_takeItem_102 ?_
              refine j_sub (lv' := [(0, .ref (g 22)), (1, .int a), (2, .int b), (3, .int c), (5, .int y56_5), (6, .int (nI ff)), (7, .int (nI 3))]) [1, 2, 3, 4, 5, 6, 0] rfl ?_
              exact K104 (nI 3)
            · refine j_iconst C (nI 2) (by decide) dX5_takeItem_97 ?_
              refine j_goto C 102 (by decide) dX5_takeItem_98 ?_
              refine j_istore C [(7, .int (nI 2)), (0, .ref (g 22)), (1, .int a), (2, .int b), (3, .int c), (5, .int y56_5), (6, .int (nI ff))] (by decide) rfl dX5_takeItem_102 ?_
              refine j_sub (lv' := [(0, .ref (g 22)), (1, .int a), (2, .int b), (3, .int c), (5, .int y56_5), (6, .int (nI ff)), (7, .int (nI 2))]) [1, 2, 3, 4, 5, 6, 0] rfl ?_
              exact K104 (nI 2)
          · refine j_iconst C (nI 1) (by decide) dX5_takeItem_87 ?_
            refine j_goto C 102 (by decide) dX5_takeItem_88 ?_
            refine j_istore C [(7, .int (nI 1)), (0, .ref (g 22)), (1, .int a), (2, .int b), (3, .int c), (5, .int y56_5), (6, .int (nI ff))] (by decide) rfl dX5_takeItem_102 ?_
            refine j_sub (lv' := [(0, .ref (g 22)), (1, .int a), (2, .int b), (3, .int c), (5, .int y56_5), (6, .int (nI ff)), (7, .int (nI 1))]) [1, 2, 3, 4, 5, 6, 0] rfl ?_
            exact K104 (nI 1)
        refine j_iload_n C 1 rfl dX5_takeItem_68 ?_
        refine j_bipush C (nI 108) (by decide) dX5_takeItem_69 ?_
        refine j_icmp_ne C 81 (by decide) dX5_takeItem_71 (fun c7 => ?_) (fun c7 => ?_)
        · exact K81 
        · refine j_iload C 5 rfl dX5_takeItem_74 ?_
          refine j_if_neN C 81 (by decide) (by omega) dX5_takeItem_76 (fun c8 => ?_) (fun c8 => ?_)
          · exact K81 
          · refine j_iconst C (nI 0) (by decide) dX5_takeItem_79 ?_
            refine j_w (cX g kk (sF σ 24 (σ.2.1 24))) (congrArg (cX g kk) (wrFi (S := σ) (c := 24) (v := σ.2.1 24) rfl)) ?_
            refine j_w (cX g kk (sF (sF σ 24 (σ.2.1 24)) 25 (σ.2.1 25))) (congrArg (cX g kk) (wrFi (S := (sF σ 24 (σ.2.1 24))) (c := 25) (v := σ.2.1 25) (gtFF (by decide) rfl))) ?_
            refine j_w (cX g kk (sF (sF (sF σ 24 (σ.2.1 24)) 25 (σ.2.1 25)) 26 (σ.2.1 26))) (congrArg (cX g kk) (wrFi (S := (sF (sF σ 24 (σ.2.1 24)) 25 (σ.2.1 25))) (c := 26) (v := σ.2.1 26) (gtFF (by decide) (gtFF (by decide) rfl)))) ?_
            refine j_w (cX g kk (sI (sF (sF (sF σ 24 (σ.2.1 24)) 25 (σ.2.1 25)) 26 (σ.2.1 26)) 353 (σ.1 353))) (congrArg (cX g kk) (wrIi (S := (sF (sF (sF σ 24 (σ.2.1 24)) 25 (σ.2.1 25)) 26 (σ.2.1 26))) (c := 353) (v := σ.1 353) (gtIF (gtIF (gtIF rfl))))) ?_
            exact j_zret C E (by first | rfl | decide) (sI (sF (sF (sF σ 24 (σ.2.1 24)) 25 (σ.2.1 25)) 26 (σ.2.1 26)) 353 (σ.1 353)) ⟨_, rfl, ⟨(σ.2.1 24), (σ.2.1 25), (σ.2.1 26), (σ.1 353), rfl, hS⟩⟩ rfl dX5_takeItem_80
  refine j_iload_n C 3 rfl dX5_takeItem_0 ?_
  refine j_iconst C ((-1)) (by decide) dX5_takeItem_1 ?_
  refine j_icmp_ne C 9 (by decide) dX5_takeItem_2 (fun c9 => ?_) (fun c9 => ?_)
  · refine j_iconst C (nI 0) (by decide) dX5_takeItem_9 ?_
    refine j_istore C [(4, .int (nI 0)), (0, .ref (g 22)), (1, .int a), (2, .int b), (3, .int c)] (by decide) rfl dX5_takeItem_10 ?_
    refine j_iload C 0 rfl dX5_takeItem_12 ?_
    refine j_if_neN C 24 (by decide) (by omega) dX5_takeItem_14 (fun c10 => ?_) (fun c10 => ?_)
    · exact absurd c10 (by decide)
    · refine j_iload_n C 4 rfl dX5_takeItem_17 ?_
      refine j_iload_n C 3 rfl dX5_takeItem_18 ?_
      refine j_icmp_gt C 24 (by decide) dX5_takeItem_19 (fun c11 => ?_) (fun c11 => ?_)
      · refine j_iload C 0 rfl dX5_takeItem_24 ?_
        refine j_if_eqN C 33 (by decide) (by omega) dX5_takeItem_26 (fun c12 => ?_) (fun c12 => ?_)
        · refine j_iload_n C 4 rfl dX5_takeItem_33 ?_
          refine j_istore C [(5, .int c), (4, .int (nI 0)), (0, .ref (g 22)), (1, .int a), (2, .int b), (3, .int c)] (by decide) rfl dX5_takeItem_34 ?_
          refine j_iload C 1 rfl dX5_takeItem_36 ?_
          refine j_if_eqN C 53 (by decide) (by omega) dX5_takeItem_38 (fun c13 => ?_) (fun c13 => ?_)
          · refine j_iload_n C 4 rfl dX5_takeItem_53 ?_
            refine j_istore C [(6, .int b), (5, .int c), (4, .int (nI 0)), (0, .ref (g 22)), (1, .int a), (2, .int b), (3, .int c)] (by decide) rfl dX5_takeItem_54 ?_
            refine j_sub (lv' := [(0, .ref (g 22)), (1, .int a), (2, .int b), (3, .int c), (5, .int c), (6, .int b)]) [3, 4, 5, 6, 1, 0] rfl ?_
            exact K56 c b
          · exact absurd c13 (by decide)
        · exact absurd c12 (by decide)
      · refine j_iconst C (nI 0) (by decide) dX5_takeItem_22 ?_
        refine j_w (cX g kk (sF σ 24 (σ.2.1 24))) (congrArg (cX g kk) (wrFi (S := σ) (c := 24) (v := σ.2.1 24) rfl)) ?_
        refine j_w (cX g kk (sF (sF σ 24 (σ.2.1 24)) 25 (σ.2.1 25))) (congrArg (cX g kk) (wrFi (S := (sF σ 24 (σ.2.1 24))) (c := 25) (v := σ.2.1 25) (gtFF (by decide) rfl))) ?_
        refine j_w (cX g kk (sF (sF (sF σ 24 (σ.2.1 24)) 25 (σ.2.1 25)) 26 (σ.2.1 26))) (congrArg (cX g kk) (wrFi (S := (sF (sF σ 24 (σ.2.1 24)) 25 (σ.2.1 25))) (c := 26) (v := σ.2.1 26) (gtFF (by decide) (gtFF (by decide) rfl)))) ?_
        refine j_w (cX g kk (sI (sF (sF (sF σ 24 (σ.2.1 24)) 25 (σ.2.1 25)) 26 (σ.2.1 26)) 353 (σ.1 353))) (congrArg (cX g kk) (wrIi (S := (sF (sF (sF σ 24 (σ.2.1 24)) 25 (σ.2.1 25)) 26 (σ.2.1 26))) (c := 353) (v := σ.1 353) (gtIF (gtIF (gtIF rfl))))) ?_
        exact j_zret C E (by first | rfl | decide) (sI (sF (sF (sF σ 24 (σ.2.1 24)) 25 (σ.2.1 25)) 26 (σ.2.1 26)) 353 (σ.1 353)) ⟨_, rfl, ⟨(σ.2.1 24), (σ.2.1 25), (σ.2.1 26), (σ.1 353), rfl, hS⟩⟩ rfl dX5_takeItem_23
  · refine j_iconst C (nI 1) (by decide) dX5_takeItem_5 ?_
    refine j_goto C 10 (by decide) dX5_takeItem_6 ?_
    refine j_istore C [(4, .int (nI 1)), (0, .ref (g 22)), (1, .int a), (2, .int b), (3, .int c)] (by decide) rfl dX5_takeItem_10 ?_
    refine j_iload C 0 rfl dX5_takeItem_12 ?_
    refine j_if_neN C 24 (by decide) (by omega) dX5_takeItem_14 (fun c14 => ?_) (fun c14 => ?_)
    · refine j_iload C 0 rfl dX5_takeItem_24 ?_
      refine j_if_eqN C 33 (by decide) (by omega) dX5_takeItem_26 (fun c15 => ?_) (fun c15 => ?_)
      · exact absurd c15 (by decide)
      · refine j_iload_n C 3 rfl dX5_takeItem_29 ?_
        refine j_goto C 34 (by decide) dX5_takeItem_30 ?_
        refine j_istore C [(5, .int b), (4, .int (nI 1)), (0, .ref (g 22)), (1, .int a), (2, .int b), (3, .int c)] (by decide) rfl dX5_takeItem_34 ?_
        refine j_iload C 1 rfl dX5_takeItem_36 ?_
        refine j_if_eqN C 53 (by decide) (by omega) dX5_takeItem_38 (fun c16 => ?_) (fun c16 => ?_)
        · exact absurd c16 (by decide)
        · refine j_iload_n C 3 rfl dX5_takeItem_41 ?_
          refine j_bipush C (nI 115) (by decide) dX5_takeItem_42 ?_
          refine j_icmp_ne C 53 (by decide) dX5_takeItem_44 (fun c17 => ?_) (fun c17 => ?_)
          · refine j_iload_n C 4 rfl dX5_takeItem_53 ?_
            refine j_istore C [(6, .int b), (5, .int b), (4, .int (nI 1)), (0, .ref (g 22)), (1, .int a), (2, .int b), (3, .int c)] (by decide) rfl dX5_takeItem_54 ?_
            refine j_sub (lv' := [(0, .ref (g 22)), (1, .int a), (2, .int b), (3, .int c), (5, .int b), (6, .int b)]) [3, 4, 5, 6, 1, 0] rfl ?_
            exact K56 b b
          · refine j_iload_n C 4 rfl dX5_takeItem_47 ?_
            refine j_iconst C (nI 1) (by decide) dX5_takeItem_48 ?_
            refine j_isub C dX5_takeItem_49 ?_
            refine j_goto C 54 (by decide) dX5_takeItem_50 ?_
            refine j_istore C [(6, .int (b - (nI 1))), (5, .int b), (4, .int (nI 1)), (0, .ref (g 22)), (1, .int a), (2, .int b), (3, .int c)] (by decide) rfl dX5_takeItem_54 ?_
            refine j_sub (lv' := [(0, .ref (g 22)), (1, .int a), (2, .int b), (3, .int c), (5, .int b), (6, .int (b - (nI 1)))]) [3, 4, 5, 6, 1, 0] rfl ?_
            exact K56 b (b - (nI 1))
    · exact absurd c14 (by decide)
set_option maxRecDepth 100000 in
set_option maxHeartbeats 4000000 in
theorem d_readItems (g kk : Nat → Nat) (σ : St) (k : Nat) (hk : σ.1 16 = nI k) (hk6 : k ≤ 6) (hI : iX σ) (hS : al_ 28 27 (σ.2.1 25))  : jM (S := St) yX5_readItems cX5_readItems 6 (some .boolean) { frames := 1, cells := 0, slots := 0, locals := 28 } kk (cX g kk σ) [.ref (g 22)] (cX g kk) (rI (fun (r : Int32) (u : St) => ∃ (pF24 : Nat → Int32) (pF25 : Nat → Int32) (pF26 : Nat → Int32) (pI353 : Int32), u = sI (sF (sF (sF σ 24 pF24) 25 pF25) 26 pF26) 353 pI353 ∧ (al_ 28 27 pF25))) := by
  refine j_entry [(0, .ref (g 22))] (by decide) (Nat.le_of_ble_eq_true rfl) rfl ?_
  intro X C E HI
  obtain ⟨n, hn, en⟩ := id hI.sg
  refine j_aload_n C 0 rfl dX5_readItems_0 ?_
  refine gX_22_3 C tb_173 dX5_readItems_1 ?_
  refine j_iconst C (nI 0) (by decide) dX5_readItems_4 ?_
  refine fl_24 C tb_549 (Nat.le_of_ble_eq_true rfl) ⟨by decide, by decide⟩ ⟨by decide, by decide⟩ dX5_readItems_5 ?_
  refine j_aload_n C 0 rfl dX5_readItems_8 ?_
  refine j_iconst C (nI 0) (by decide) dX5_readItems_9 ?_
  refine pX_22_1 C tb_170 dX5_readItems_10 ?_
  refine j_iconst C (nI 0) (by decide) dX5_readItems_13 ?_
  refine j_istore_n C [(1, .int (nI 0)), (0, .ref (g 22))] rfl (by decide) rfl dX5_readItems_14 ?_
  refine j_iconst C (nI 0) (by decide) dX5_readItems_15 ?_
  refine j_istore_n C [(2, .int (nI 0)), (1, .int (nI 0)), (0, .ref (g 22))] rfl (by decide) rfl dX5_readItems_16 ?_
  refine j_iconst C ((-1)) (by decide) dX5_readItems_17 ?_
  refine j_istore_n C [(3, .int (-1)), (2, .int (nI 0)), (1, .int (nI 0)), (0, .ref (g 22))] rfl (by decide) rfl dX5_readItems_18 ?_
  refine j_iconst C (nI 0) (by decide) dX5_readItems_19 ?_
  refine j_istore C [(4, .int (nI 0)), (3, .int (-1)), (2, .int (nI 0)), (1, .int (nI 0)), (0, .ref (g 22))] (by decide) rfl dX5_readItems_20 ?_
  have L22 : ∀ (n22 : Nat) (i : Nat) (y22_3 : Int32) (y22_2 : Int32) (y22_1 : Int32) (z22_F24 : Nat → Int32) (f25 : Nat → Int32) (z22_F26 : Nat → Int32) (z22_I353 : Int32) (i22_0 : i ≤ n) (hs : al_ 28 27 f25) (hm22 : n - i < n22), J X 0 0 (cX g kk (sI (sF (sF (sF σ 24 z22_F24) 25 f25) 26 z22_F26) 353 z22_I353)) [(4, .int (nI i)), (3, .int y22_3), (2, .int y22_2), (1, .int y22_1), (0, .ref (g 22))] 22 [] := by
    intro n22
    induction n22 with
    | zero => intro i y22_3 y22_2 y22_1 z22_F24 f25 z22_F26 z22_I353 i22_0 hs hm; exact absurd hm (Nat.not_lt_zero _)
    | succ n22 ih22 =>
      intro i y22_3 y22_2 y22_1 z22_F24 f25 z22_F26 z22_I353 i22_0 hs hm22
      refine j_iload C 0 rfl dX5_readItems_22 ?_
      refine j_aload_n C 4 rfl dX5_readItems_24 ?_
      refine gX_22_0 C tb_168 (nI n) en dX5_readItems_25 ?_
      refine j_icmp_geN C 125 (by decide) (by omega) (by omega) dX5_readItems_28 (fun c1 => ?_) (fun c1 => ?_)
      · refine j_aload_n C 4 rfl dX5_readItems_125 ?_
        refine gX_22_0 C tb_168 (nI n) en dX5_readItems_126 ?_
        refine j_if_eqN C 142 (by decide) (by omega) dX5_readItems_129 (fun c2 => ?_) (fun c2 => ?_)
        · refine j_iconst C (nI 1) (by decide) dX5_readItems_142 ?_
          refine j_goto C 147 (by decide) dX5_readItems_143 ?_
          exact j_zret C E (by first | rfl | decide) (sI (sF (sF (sF σ 24 z22_F24) 25 f25) 26 z22_F26) 353 z22_I353) ⟨_, rfl, ⟨z22_F24, f25, z22_F26, z22_I353, rfl, hs⟩⟩ rfl dX5_readItems_147
        · refine j_aload_n C 4 rfl dX5_readItems_132 ?_
          refine j_iload_n C 3 rfl dX5_readItems_133 ?_
          refine j_iload_n C 2 rfl dX5_readItems_134 ?_
          refine j_iload_n C 1 rfl dX5_readItems_135 ?_
          refine j_V1 C (d_takeItem g kk (sI (sF (sF (sF σ 24 z22_F24) 25 f25) 26 z22_F26) 353 z22_I353) k hk hk6 hI hs y22_1 y22_2 y22_3) kyX5_takeItem tb_550 tb_552 sp_1 22 rfl (eX_22 g kk _) rfl (Nat.le_of_ble_eq_true rfl) ⟨by decide, by decide⟩ dX5_readItems_136 rfl (fun vr ur hp => ?_)
          obtain ⟨r8, rfl, w3, w4, w5, w6, hu, g7⟩ := hp
          replace hu := hu.symm
          subst hu
          refine j_if_eq C 146 (by decide) dX5_readItems_139 (fun c9 => ?_) (fun c9 => ?_)
          · refine j_iconst C (nI 0) (by decide) dX5_readItems_146 ?_
            refine j_w (cX g kk (sI (sF (sF (sF σ 24 w3) 25 w4) 26 w5) 353 w6)) (congrArg (cX g kk) (show sI (sF (sF (sF (sI (sF (sF (sF σ 24 z22_F24) 25 f25) 26 z22_F26) 353 z22_I353) 24 w3) 25 w4) 26 w5) 353 w6 = sI (sF (sF (sF σ 24 w3) 25 w4) 26 w5) 353 w6 from (Eq.trans (wrI (Eq.trans (wrF (Eq.trans (wrF (Eq.trans wrFI (wrI (Eq.trans (wrFc (by decide)) (wrF (Eq.trans (wrFc (by decide)) (wrF wrFs))))))) (Eq.trans wrFI (wrI (Eq.trans (wrFc (by decide)) (wrF wrFs)))))) (Eq.trans wrFI (wrI wrFs)))) wrIs))) ?_
            exact j_zret C E (by first | rfl | decide) (sI (sF (sF (sF σ 24 w3) 25 w4) 26 w5) 353 w6) ⟨_, rfl, ⟨w3, w4, w5, w6, rfl, g7⟩⟩ rfl dX5_readItems_147
          · refine j_iconst C (nI 1) (by decide) dX5_readItems_142 ?_
            refine j_goto C 147 (by decide) dX5_readItems_143 ?_
            refine j_w (cX g kk (sI (sF (sF (sF σ 24 w3) 25 w4) 26 w5) 353 w6)) (congrArg (cX g kk) (show sI (sF (sF (sF (sI (sF (sF (sF σ 24 z22_F24) 25 f25) 26 z22_F26) 353 z22_I353) 24 w3) 25 w4) 26 w5) 353 w6 = sI (sF (sF (sF σ 24 w3) 25 w4) 26 w5) 353 w6 from (Eq.trans (wrI (Eq.trans (wrF (Eq.trans (wrF (Eq.trans wrFI (wrI (Eq.trans (wrFc (by decide)) (wrF (Eq.trans (wrFc (by decide)) (wrF wrFs))))))) (Eq.trans wrFI (wrI (Eq.trans (wrFc (by decide)) (wrF wrFs)))))) (Eq.trans wrFI (wrI wrFs)))) wrIs))) ?_
            exact j_zret C E (by first | rfl | decide) (sI (sF (sF (sF σ 24 w3) 25 w4) 26 w5) 353 w6) ⟨_, rfl, ⟨w3, w4, w5, w6, rfl, g7⟩⟩ rfl dX5_readItems_147
      · refine j_aload_n C 4 rfl dX5_readItems_31 ?_
        refine gX_22_2 C tb_172 dX5_readItems_32 ?_
        refine j_iload C 0 rfl dX5_readItems_35 ?_
        refine rX_23 C i rfl (by omega) ((σ.2.1 23) i) rfl dX5_readItems_37 ?_
        refine j_istore C [(5, .int ((σ.2.1 23) i)), (4, .int (nI i)), (3, .int y22_3), (2, .int y22_2), (1, .int y22_1), (0, .ref (g 22))] (by decide) rfl dX5_readItems_38 ?_
        refine j_iload C 0 rfl dX5_readItems_40 ?_
        refine j_bipush C (nI 59) (by decide) dX5_readItems_42 ?_
        refine j_icmp_ne C 59 (by decide) dX5_readItems_44 (fun c10 => ?_) (fun c10 => ?_)
        · refine j_iload C 0 rfl dX5_readItems_59 ?_
          refine j_bipush C (nI 45) (by decide) dX5_readItems_61 ?_
          refine j_icmp_ne C 71 (by decide) dX5_readItems_63 (fun c11 => ?_) (fun c11 => ?_)
          · refine j_iload C 0 rfl dX5_readItems_71 ?_
            refine j_S1 C (d_isDigit g kk (sI (sF (sF (sF σ 24 z22_F24) 25 f25) 26 z22_F26) 353 z22_I353) k hk hk6 hI  ((σ.2.1 23) i)) kyX5_isDigit tb_535 tb_536 rfl (Nat.le_of_ble_eq_true rfl) ⟨by decide, by decide⟩ dX5_readItems_73 rfl (fun vr ur hp => ?_)
            obtain ⟨r12, rfl, hu⟩ := hp
            replace hu := hu.symm
            subst hu
            refine j_if_ne C 89 (by decide) dX5_readItems_76 (fun c13 => ?_) (fun c13 => ?_)
            · refine j_iload_n C 2 rfl dX5_readItems_89 ?_
              refine j_iconst C ((-1)) (by decide) dX5_readItems_90 ?_
              refine j_icmp_ne C 108 (by decide) dX5_readItems_91 (fun c14 => ?_) (fun c14 => ?_)
              · refine j_iload_n C 2 rfl dX5_readItems_108 ?_
                refine j_bipush C (nI 10) (by decide) dX5_readItems_109 ?_
                refine j_imul C dX5_readItems_111 ?_
                refine j_iload C 0 rfl dX5_readItems_112 ?_
                refine j_iadd C dX5_readItems_114 ?_
                refine j_top (fun v15 => ?_)
                refine j_bipush C (nI 48) (by decide) dX5_readItems_115 ?_
                refine j_isub C dX5_readItems_117 ?_
                refine j_istore_n C [(3, .int (v15 - (nI 48))), (5, .int ((σ.2.1 23) i)), (4, .int (nI i)), (2, .int y22_2), (1, .int y22_1), (0, .ref (g 22))] rfl (by decide) rfl dX5_readItems_118 ?_
                refine j_iinc C (nI (i + 1)) [(4, .int (nI (i + 1))), (3, .int (v15 - (nI 48))), (5, .int ((σ.2.1 23) i)), (2, .int y22_2), (1, .int y22_1), (0, .ref (g 22))] 2 rfl (by rw [show Int32.ofInt 1 = nI 1 from by decide, nI_add]) (by decide) rfl dX5_readItems_119 ?_
                refine j_goto C 22 (by decide) dX5_readItems_122 ?_
                refine j_sub (lv' := [(4, .int (nI (i + 1))), (3, .int (v15 - (nI 48))), (2, .int y22_2), (1, .int y22_1), (0, .ref (g 22))]) [0, 1, 3, 4, 5] rfl ?_
                exact ih22 (i + 1) (v15 - (nI 48)) y22_2 y22_1 z22_F24 f25 z22_F26 z22_I353 (by omega) hs (by omega)
              · refine j_iload_n C 3 rfl dX5_readItems_94 ?_
                refine j_bipush C (nI 10) (by decide) dX5_readItems_95 ?_
                refine j_imul C dX5_readItems_97 ?_
                refine j_iload C 0 rfl dX5_readItems_98 ?_
                refine j_iadd C dX5_readItems_100 ?_
                refine j_top (fun v16 => ?_)
                refine j_bipush C (nI 48) (by decide) dX5_readItems_101 ?_
                refine j_isub C dX5_readItems_103 ?_
                refine j_istore_n C [(2, .int (v16 - (nI 48))), (5, .int ((σ.2.1 23) i)), (4, .int (nI i)), (3, .int y22_3), (1, .int y22_1), (0, .ref (g 22))] rfl (by decide) rfl dX5_readItems_104 ?_
                refine j_goto C 119 (by decide) dX5_readItems_105 ?_
                refine j_iinc C (nI (i + 1)) [(4, .int (nI (i + 1))), (2, .int (v16 - (nI 48))), (5, .int ((σ.2.1 23) i)), (3, .int y22_3), (1, .int y22_1), (0, .ref (g 22))] 2 rfl (by rw [show Int32.ofInt 1 = nI 1 from by decide, nI_add]) (by decide) rfl dX5_readItems_119 ?_
                refine j_goto C 22 (by decide) dX5_readItems_122 ?_
                refine j_sub (lv' := [(4, .int (nI (i + 1))), (3, .int y22_3), (2, .int (v16 - (nI 48))), (1, .int y22_1), (0, .ref (g 22))]) [0, 3, 1, 4, 5] rfl ?_
                exact ih22 (i + 1) y22_3 (v16 - (nI 48)) y22_1 z22_F24 f25 z22_F26 z22_I353 (by omega) hs (by omega)
            · refine j_iload C 0 rfl dX5_readItems_79 ?_
              refine j_istore_n C [(1, .int ((σ.2.1 23) i)), (5, .int ((σ.2.1 23) i)), (4, .int (nI i)), (3, .int y22_3), (2, .int y22_2), (0, .ref (g 22))] rfl (by decide) rfl dX5_readItems_81 ?_
              refine j_iconst C (nI 0) (by decide) dX5_readItems_82 ?_
              refine j_istore_n C [(2, .int (nI 0)), (1, .int ((σ.2.1 23) i)), (5, .int ((σ.2.1 23) i)), (4, .int (nI i)), (3, .int y22_3), (0, .ref (g 22))] rfl (by decide) rfl dX5_readItems_83 ?_
              refine j_iconst C ((-1)) (by decide) dX5_readItems_84 ?_
              refine j_istore_n C [(3, .int (-1)), (2, .int (nI 0)), (1, .int ((σ.2.1 23) i)), (5, .int ((σ.2.1 23) i)), (4, .int (nI i)), (0, .ref (g 22))] rfl (by decide) rfl dX5_readItems_85 ?_
              refine j_goto C 119 (by decide) dX5_readItems_86 ?_
              refine j_iinc C (nI (i + 1)) [(4, .int (nI (i + 1))), (3, .int (-1)), (2, .int (nI 0)), (1, .int ((σ.2.1 23) i)), (5, .int ((σ.2.1 23) i)), (0, .ref (g 22))] 4 rfl (by rw [show Int32.ofInt 1 = nI 1 from by decide, nI_add]) (by decide) rfl dX5_readItems_119 ?_
              refine j_goto C 22 (by decide) dX5_readItems_122 ?_
              refine j_sub (lv' := [(4, .int (nI (i + 1))), (3, .int (-1)), (2, .int (nI 0)), (1, .int ((σ.2.1 23) i)), (0, .ref (g 22))]) [0, 1, 2, 3, 5] rfl ?_
              exact ih22 (i + 1) (-1) (nI 0) ((σ.2.1 23) i) z22_F24 f25 z22_F26 z22_I353 (by omega) hs (by omega)
          · refine j_iconst C (nI 0) (by decide) dX5_readItems_66 ?_
            refine j_istore_n C [(3, .int (nI 0)), (5, .int ((σ.2.1 23) i)), (4, .int (nI i)), (2, .int y22_2), (1, .int y22_1), (0, .ref (g 22))] rfl (by decide) rfl dX5_readItems_67 ?_
            refine j_goto C 119 (by decide) dX5_readItems_68 ?_
            refine j_iinc C (nI (i + 1)) [(4, .int (nI (i + 1))), (3, .int (nI 0)), (5, .int ((σ.2.1 23) i)), (2, .int y22_2), (1, .int y22_1), (0, .ref (g 22))] 2 rfl (by rw [show Int32.ofInt 1 = nI 1 from by decide, nI_add]) (by decide) rfl dX5_readItems_119 ?_
            refine j_goto C 22 (by decide) dX5_readItems_122 ?_
            refine j_sub (lv' := [(4, .int (nI (i + 1))), (3, .int (nI 0)), (2, .int y22_2), (1, .int y22_1), (0, .ref (g 22))]) [0, 1, 3, 4, 5] rfl ?_
            exact ih22 (i + 1) (nI 0) y22_2 y22_1 z22_F24 f25 z22_F26 z22_I353 (by omega) hs (by omega)
        · refine j_aload_n C 5 rfl dX5_readItems_47 ?_
          refine j_iload_n C 4 rfl dX5_readItems_48 ?_
          refine j_iload_n C 3 rfl dX5_readItems_49 ?_
          refine j_iload_n C 2 rfl dX5_readItems_50 ?_
          refine j_V1 C (d_takeItem g kk (sI (sF (sF (sF σ 24 z22_F24) 25 f25) 26 z22_F26) 353 z22_I353) k hk hk6 hI hs y22_1 y22_2 y22_3) kyX5_takeItem tb_550 tb_552 sp_1 22 rfl (eX_22 g kk _) rfl (Nat.le_of_ble_eq_true rfl) ⟨by decide, by decide⟩ dX5_readItems_51 rfl (fun vr ur hp => ?_)
          obtain ⟨r22, rfl, w17, w18, w19, w20, hu, g21⟩ := hp
          replace hu := hu.symm
          subst hu
          refine j_if_ne C 119 (by decide) dX5_readItems_54 (fun c23 => ?_) (fun c23 => ?_)
          · refine j_iinc C (nI (i + 1)) [(4, .int (nI (i + 1))), (5, .int ((σ.2.1 23) i)), (3, .int y22_3), (2, .int y22_2), (1, .int y22_1), (0, .ref (g 22))] 1 rfl (by rw [show Int32.ofInt 1 = nI 1 from by decide, nI_add]) (by decide) rfl dX5_readItems_119 ?_
            refine j_goto C 22 (by decide) dX5_readItems_122 ?_
            refine j_sub (lv' := [(4, .int (nI (i + 1))), (3, .int y22_3), (2, .int y22_2), (1, .int y22_1), (0, .ref (g 22))]) [0, 2, 3, 4, 5] rfl ?_
            refine j_w (cX g kk (sI (sF (sF (sF σ 24 w17) 25 w18) 26 w19) 353 w20)) (congrArg (cX g kk) (show sI (sF (sF (sF (sI (sF (sF (sF σ 24 z22_F24) 25 f25) 26 z22_F26) 353 z22_I353) 24 w17) 25 w18) 26 w19) 353 w20 = sI (sF (sF (sF σ 24 w17) 25 w18) 26 w19) 353 w20 from (Eq.trans (wrI (Eq.trans (wrF (Eq.trans (wrF (Eq.trans wrFI (wrI (Eq.trans (wrFc (by decide)) (wrF (Eq.trans (wrFc (by decide)) (wrF wrFs))))))) (Eq.trans wrFI (wrI (Eq.trans (wrFc (by decide)) (wrF wrFs)))))) (Eq.trans wrFI (wrI wrFs)))) wrIs))) ?_
            exact ih22 (i + 1) y22_3 y22_2 y22_1 w17 w18 w19 w20 (by omega) g21 (by omega)
          · refine j_iconst C (nI 0) (by decide) dX5_readItems_57 ?_
            refine j_w (cX g kk (sI (sF (sF (sF σ 24 w17) 25 w18) 26 w19) 353 w20)) (congrArg (cX g kk) (show sI (sF (sF (sF (sI (sF (sF (sF σ 24 z22_F24) 25 f25) 26 z22_F26) 353 z22_I353) 24 w17) 25 w18) 26 w19) 353 w20 = sI (sF (sF (sF σ 24 w17) 25 w18) 26 w19) 353 w20 from (Eq.trans (wrI (Eq.trans (wrF (Eq.trans (wrF (Eq.trans wrFI (wrI (Eq.trans (wrFc (by decide)) (wrF (Eq.trans (wrFc (by decide)) (wrF wrFs))))))) (Eq.trans wrFI (wrI (Eq.trans (wrFc (by decide)) (wrF wrFs)))))) (Eq.trans wrFI (wrI wrFs)))) wrIs))) ?_
            exact j_zret C E (by first | rfl | decide) (sI (sF (sF (sF σ 24 w17) 25 w18) 26 w19) 353 w20) ⟨_, rfl, ⟨w17, w18, w19, w20, rfl, g21⟩⟩ rfl dX5_readItems_58
  refine j_w (cX g kk (sF (sI (sF σ 24 (fillF (σ.2.1 24) (nI 0) 28)) 353 (nI 0)) 25 (σ.2.1 25))) (congrArg (cX g kk) (wrFi (S := (sI (sF σ 24 (fillF (σ.2.1 24) (nI 0) 28)) 353 (nI 0))) (c := 25) (v := σ.2.1 25) (gtFI (gtFF (by decide) rfl)))) ?_
  refine j_w (cX g kk (sF (sF (sI (sF σ 24 (fillF (σ.2.1 24) (nI 0) 28)) 353 (nI 0)) 25 (σ.2.1 25)) 26 (σ.2.1 26))) (congrArg (cX g kk) (wrFi (S := (sF (sI (sF σ 24 (fillF (σ.2.1 24) (nI 0) 28)) 353 (nI 0)) 25 (σ.2.1 25))) (c := 26) (v := σ.2.1 26) (gtFF (by decide) (gtFI (gtFF (by decide) rfl))))) ?_
  refine j_w (cX g kk (sI (sF (sF (sF σ 24 (fillF (σ.2.1 24) (nI 0) 28)) 25 (σ.2.1 25)) 26 (σ.2.1 26)) 353 (nI 0))) (congrArg (cX g kk) (show sF (sF (sI (sF σ 24 (fillF (σ.2.1 24) (nI 0) 28)) 353 (nI 0)) 25 (σ.2.1 25)) 26 (σ.2.1 26) = sI (sF (sF (sF σ 24 (fillF (σ.2.1 24) (nI 0) 28)) 25 (σ.2.1 25)) 26 (σ.2.1 26)) 353 (nI 0) from (Eq.trans (wrF wrFI) wrFI))) ?_
  exact L22 _ 0 (-1) (nI 0) (nI 0) (fillF (σ.2.1 24) (nI 0) 28) (σ.2.1 25) (σ.2.1 26) (nI 0) (by omega) hS (Nat.lt_succ_self _)
set_option maxRecDepth 100000 in
set_option maxHeartbeats 4000000 in
theorem d_takeNotes (g kk : Nat → Nat) (σ : St) (k : Nat) (hk : σ.1 16 = nI k) (hk6 : k ≤ 6) (hI : iX σ)  (c : Nat) (hc0 : c < 6) : jM (S := St) yX2_takeNotes cX2_takeNotes 4 none { frames := 1, cells := 0, slots := 0, locals := 60 } kk (cX g kk σ) [.ref (g 1), .int (nI c), .ref (g 22)] (cX g kk) (rV (fun u : St => ∃ (pF7 : Nat → Int32) (pF8 : Nat → Int32) (pF9 : Nat → Int32), u = sF (sF (sF σ 7 pF7) 8 pF8) 9 pF9 ∧ (pF7 = va_cpy (σ.2.1 24) (σ.2.1 7) 0 (c * 28) 28) ∧ (pF8 = va_cpy (σ.2.1 25) (σ.2.1 8) 0 (c * 28) 28) ∧ (pF9 = va_cpy (σ.2.1 26) (σ.2.1 9) 0 (c * 28) 28))) := by
  refine j_entry [(0, .ref (g 1)), (1, .int (nI c)), (2, .ref (g 22))] (by decide) (Nat.le_of_ble_eq_true rfl) rfl ?_
  intro X C E HI
  refine j_iload_n C 1 rfl dX2_takeNotes_0 ?_
  refine j_bipush C (nI 28) (by decide) dX2_takeNotes_1 ?_
  refine j_imulN C dX2_takeNotes_3 ?_
  refine j_istore_n C [(3, .int (nI (c * 28))), (0, .ref (g 1)), (1, .int (nI c)), (2, .ref (g 22))] rfl (by decide) rfl dX2_takeNotes_4 ?_
  refine j_aload_n C 3 rfl dX2_takeNotes_5 ?_
  refine gX_22_3 C tb_174 dX2_takeNotes_6 ?_
  refine j_iconst C (nI 0) (by decide) dX2_takeNotes_9 ?_
  refine j_aload_n C 1 rfl dX2_takeNotes_10 ?_
  refine gX_1_6 C tb_120 dX2_takeNotes_11 ?_
  refine j_iload_n C 0 rfl dX2_takeNotes_14 ?_
  refine j_bipush C (nI 28) (by decide) dX2_takeNotes_15 ?_
  refine j_copy C tb_94 tb_96 tb_95 tb_6 24 7 rfl rfl 0 (c * 28) 28 rfl rfl rfl (by omega) (by omega) (by decide) (by decide) (by decide) (Nat.le_of_ble_eq_true rfl) (w' := (cX g kk (sF σ 7 (va_cpy (σ.2.1 24) (σ.2.1 7) 0 (c * 28) 28)))) rfl dX2_takeNotes_17 ?_
  refine j_aload_n C 3 rfl dX2_takeNotes_20 ?_
  refine gX_22_4 C tb_176 dX2_takeNotes_21 ?_
  refine j_iconst C (nI 0) (by decide) dX2_takeNotes_24 ?_
  refine j_aload_n C 1 rfl dX2_takeNotes_25 ?_
  refine gX_1_7 C tb_122 dX2_takeNotes_26 ?_
  refine j_iload_n C 0 rfl dX2_takeNotes_29 ?_
  refine j_bipush C (nI 28) (by decide) dX2_takeNotes_30 ?_
  refine j_copy C tb_94 tb_96 tb_95 tb_6 25 8 rfl rfl 0 (c * 28) 28 rfl rfl rfl (by omega) (by omega) (by decide) (by decide) (by decide) (Nat.le_of_ble_eq_true rfl) (w' := (cX g kk (sF (sF σ 7 (va_cpy (σ.2.1 24) (σ.2.1 7) 0 (c * 28) 28)) 8 (va_cpy (σ.2.1 25) (σ.2.1 8) 0 (c * 28) 28)))) rfl dX2_takeNotes_32 ?_
  refine j_aload_n C 3 rfl dX2_takeNotes_35 ?_
  refine gX_22_5 C tb_178 dX2_takeNotes_36 ?_
  refine j_iconst C (nI 0) (by decide) dX2_takeNotes_39 ?_
  refine j_aload_n C 1 rfl dX2_takeNotes_40 ?_
  refine gX_1_8 C tb_124 dX2_takeNotes_41 ?_
  refine j_iload_n C 0 rfl dX2_takeNotes_44 ?_
  refine j_bipush C (nI 28) (by decide) dX2_takeNotes_45 ?_
  refine j_copy C tb_94 tb_96 tb_95 tb_6 26 9 rfl rfl 0 (c * 28) 28 rfl rfl rfl (by omega) (by omega) (by decide) (by decide) (by decide) (Nat.le_of_ble_eq_true rfl) (w' := (cX g kk (sF (sF (sF σ 7 (va_cpy (σ.2.1 24) (σ.2.1 7) 0 (c * 28) 28)) 8 (va_cpy (σ.2.1 25) (σ.2.1 8) 0 (c * 28) 28)) 9 (va_cpy (σ.2.1 26) (σ.2.1 9) 0 (c * 28) 28)))) rfl dX2_takeNotes_47 ?_
  exact j_vret C E (sF (sF (sF σ 7 (va_cpy (σ.2.1 24) (σ.2.1 7) 0 (c * 28) 28)) 8 (va_cpy (σ.2.1 25) (σ.2.1 8) 0 (c * 28) 28)) 9 (va_cpy (σ.2.1 26) (σ.2.1 9) 0 (c * 28) 28)) ⟨rfl, ⟨(va_cpy (σ.2.1 24) (σ.2.1 7) 0 (c * 28) 28), (va_cpy (σ.2.1 25) (σ.2.1 8) 0 (c * 28) 28), (va_cpy (σ.2.1 26) (σ.2.1 9) 0 (c * 28) 28), rfl, rfl, rfl, rfl⟩⟩ rfl dX2_takeNotes_50
set_option maxRecDepth 100000 in
set_option maxHeartbeats 4000000 in
theorem d_note (g kk : Nat → Nat) (σ : St) (k : Nat) (hk : σ.1 16 = nI k) (hk6 : k ≤ 6) (hI : iX σ) (hS : al_ 28 27 (σ.2.1 25)) (x : Int32) : jM (S := St) yX10_note cX10_note 2 (some .int) { frames := 3, cells := 0, slots := 0, locals := 83 } kk (cX g kk σ) [.ref (g 0), .int x] (cX g kk) (rI (fun (r : Int32) (u : St) => ∃ (pF7 : Nat → Int32) (pF8 : Nat → Int32) (pF9 : Nat → Int32) (pF24 : Nat → Int32) (pF25 : Nat → Int32) (pF26 : Nat → Int32) (n2 : Nat) (pI353 : Int32) (pI437 : Int32), u = sI (sI (sI (sF (sF (sF (sF (sF (sF σ 7 pF7) 8 pF8) 9 pF9) 24 pF24) 25 pF25) 26 pF26) 352 (nI n2)) 353 pI353) 437 pI437 ∧ (al_ 28 27 pF25) ∧ (al_ 168 27 pF8) ∧ (n2 ≤ 40))) := by
  refine j_entry [(0, .ref (g 0)), (1, .int x)] (by decide) (Nat.le_of_ble_eq_true rfl) rfl ?_
  intro X C E HI
  obtain ⟨n, hn, en⟩ := id hI.sg
  refine j_aload_n C 0 rfl dX10_note_0 ?_
  refine j_iload_n C 1 rfl dX10_note_1 ?_
  refine j_V1 C (c_isCan g kk σ k hk hk6 x) kyX10_isCan tb_478 tb_480 sp_0 0 rfl (eX_0 g kk _) rfl (Nat.le_of_ble_eq_true rfl) ⟨by decide, by decide⟩ dX10_note_2 rfl (fun vr ur hp => ?_)
  obtain ⟨r, rfl, rfl, hu⟩ := hp
  replace hu := hu.symm
  subst hu
  refine j_if_ne C 10 (by decide) dX10_note_5 (fun c1 => ?_) (fun c1 => ?_)
  · replace c1 := bI_t c1
    obtain ⟨xn, xn1, rfl⟩ := cB_nat (by omega) c1
    refine j_aload_n C 0 rfl dX10_note_10 ?_
    refine gX_0_1 C tb_429 dX10_note_11 ?_
    refine gX_22_0 C tb_169 (nI n) en dX10_note_14 ?_
    refine j_if_leN C 34 (by decide) (by omega) dX10_note_17 (fun c2 => ?_) (fun c2 => ?_)
    · refine j_aload_n C 0 rfl dX10_note_34 ?_
      refine gX_0_1 C tb_429 dX10_note_35 ?_
      refine j_V1 C (d_readItems g kk σ k hk hk6 hI hS ) kyX5_readItems tb_545 tb_546 tb_547 22 rfl (eX_22 g kk _) rfl (Nat.le_of_ble_eq_true rfl) ⟨by decide, by decide⟩ dX10_note_38 rfl (fun vr ur hp => ?_)
      obtain ⟨r8, rfl, w3, w4, w5, w6, hu, g7⟩ := hp
      replace hu := hu.symm
      subst hu
      refine j_if_ne C 47 (by decide) dX10_note_41 (fun c9 => ?_) (fun c9 => ?_)
      · refine j_aload_n C 0 rfl dX10_note_47 ?_
        refine gX_0_0 C tb_428 dX10_note_48 ?_
        refine j_iload_n C 1 rfl dX10_note_51 ?_
        refine j_aload_n C 0 rfl dX10_note_52 ?_
        refine gX_0_1 C tb_429 dX10_note_53 ?_
        refine j_V1 C (d_takeNotes g kk (sI (sF (sF (sF σ 24 w3) 25 w4) 26 w5) 353 w6) k hk hk6 hI  xn (by first | assumption | omega)) kyX2_takeNotes tb_554 tb_555 tb_556 1 rfl (eX_1 g kk _) rfl (Nat.le_of_ble_eq_true rfl) ⟨by decide, by decide⟩ dX10_note_56 rfl (fun vr ur hp => ?_)
        obtain ⟨rfl, w10, w11, w12, hu, g13, g14, g15⟩ := hp
        replace hu := hu.symm
        subst hu
        refine j_aload_n C 0 rfl dX10_note_59 ?_
        refine gX_0_1 C tb_429 dX10_note_60 ?_
        refine j_iconst C (nI 0) (by decide) dX10_note_63 ?_
        refine pX_22_0 C tb_169 dX10_note_64 ?_
        refine j_aload_n C 0 rfl dX10_note_67 ?_
        refine gX_0_2 C tb_430 dX10_note_68 ?_
        refine j_iconst C (nI 1) (by decide) dX10_note_71 ?_
        refine pX_27_5 C tb_214 rfl rfl dX10_note_72 ?_
        refine j_aload_n C 0 rfl dX10_note_75 ?_
        refine gX_0_1 C tb_429 dX10_note_76 ?_
        refine gX_22_1 C tb_171 (w6) rfl dX10_note_79 ?_
        refine j_w (cX g kk (sI (sI (sI (sF (sF (sF (sF (sF (sF σ 7 w10) 8 w11) 9 w12) 24 w3) 25 w4) 26 w5) 352 (nI 0)) 353 w6) 437 (nI 1))) (congrArg (cX g kk) (show sI (sI (sF (sF (sF (sI (sF (sF (sF σ 24 w3) 25 w4) 26 w5) 353 w6) 7 w10) 8 w11) 9 w12) 352 (nI 0)) 437 (nI 1) = sI (sI (sI (sF (sF (sF (sF (sF (sF σ 7 w10) 8 w11) 9 w12) 24 w3) 25 w4) 26 w5) 352 (nI 0)) 353 w6) 437 (nI 1) from (wrI (Eq.trans (wrI (Eq.trans (wrF (Eq.trans (wrF (Eq.trans wrFI (wrI (Eq.trans (wrFc (by decide)) (wrF (Eq.trans (wrFc (by decide)) (wrF (wrFc (by decide))))))))) (Eq.trans wrFI (wrI (Eq.trans (wrFc (by decide)) (wrF (Eq.trans (wrFc (by decide)) (wrF (wrFc (by decide)))))))))) (Eq.trans wrFI (wrI (Eq.trans (wrFc (by decide)) (wrF (Eq.trans (wrFc (by decide)) (wrF (wrFc (by decide)))))))))) (wrIc (by decide)))))) ?_
        exact j_iret C E (sI (sI (sI (sF (sF (sF (sF (sF (sF σ 7 w10) 8 w11) 9 w12) 24 w3) 25 w4) 26 w5) 352 (nI 0)) 353 w6) 437 (nI 1)) ⟨_, rfl, ⟨w10, w11, w12, w3, w4, w5, 0, w6, (nI 1), rfl, g7, (by rw [g14]; exact al_cpy g7 hI.sf (by decide)), (by omega)⟩⟩ rfl dX10_note_82
      · refine j_bipush C ((-5)) (by decide) dX10_note_44 ?_
        refine j_w (cX g kk (sI (sI (sF (sF (sF σ 24 w3) 25 w4) 26 w5) 353 w6) 352 (nI n))) (congrArg (cX g kk) (sI_self (σ := (sI (sF (sF (sF σ 24 w3) 25 w4) 26 w5) 353 w6)) (i := 352) (v := nI n) en).symm) ?_
        refine j_w (cX g kk (sF (sI (sI (sF (sF (sF σ 24 w3) 25 w4) 26 w5) 353 w6) 352 (nI n)) 7 (σ.2.1 7))) (congrArg (cX g kk) (wrFi (S := (sI (sI (sF (sF (sF σ 24 w3) 25 w4) 26 w5) 353 w6) 352 (nI n))) (c := 7) (v := σ.2.1 7) (gtFI (gtFI (gtFF (by decide) (gtFF (by decide) (gtFF (by decide) rfl))))))) ?_
        refine j_w (cX g kk (sF (sF (sI (sI (sF (sF (sF σ 24 w3) 25 w4) 26 w5) 353 w6) 352 (nI n)) 7 (σ.2.1 7)) 8 (σ.2.1 8))) (congrArg (cX g kk) (wrFi (S := (sF (sI (sI (sF (sF (sF σ 24 w3) 25 w4) 26 w5) 353 w6) 352 (nI n)) 7 (σ.2.1 7))) (c := 8) (v := σ.2.1 8) (gtFF (by decide) (gtFI (gtFI (gtFF (by decide) (gtFF (by decide) (gtFF (by decide) rfl)))))))) ?_
        refine j_w (cX g kk (sF (sF (sF (sI (sI (sF (sF (sF σ 24 w3) 25 w4) 26 w5) 353 w6) 352 (nI n)) 7 (σ.2.1 7)) 8 (σ.2.1 8)) 9 (σ.2.1 9))) (congrArg (cX g kk) (wrFi (S := (sF (sF (sI (sI (sF (sF (sF σ 24 w3) 25 w4) 26 w5) 353 w6) 352 (nI n)) 7 (σ.2.1 7)) 8 (σ.2.1 8))) (c := 9) (v := σ.2.1 9) (gtFF (by decide) (gtFF (by decide) (gtFI (gtFI (gtFF (by decide) (gtFF (by decide) (gtFF (by decide) rfl))))))))) ?_
        refine j_w (cX g kk (sI (sF (sF (sF (sI (sI (sF (sF (sF σ 24 w3) 25 w4) 26 w5) 353 w6) 352 (nI n)) 7 (σ.2.1 7)) 8 (σ.2.1 8)) 9 (σ.2.1 9)) 437 (σ.1 437))) (congrArg (cX g kk) (wrIi (S := (sF (sF (sF (sI (sI (sF (sF (sF σ 24 w3) 25 w4) 26 w5) 353 w6) 352 (nI n)) 7 (σ.2.1 7)) 8 (σ.2.1 8)) 9 (σ.2.1 9))) (c := 437) (v := σ.1 437) (gtIF (gtIF (gtIF (gtII (by decide) (gtII (by decide) (gtIF (gtIF (gtIF rfl)))))))))) ?_
        refine j_w (cX g kk (sI (sI (sI (sF (sF (sF (sF (sF (sF σ 7 (σ.2.1 7)) 8 (σ.2.1 8)) 9 (σ.2.1 9)) 24 w3) 25 w4) 26 w5) 352 (nI n)) 353 w6) 437 (σ.1 437))) (congrArg (cX g kk) (show sI (sF (sF (sF (sI (sI (sF (sF (sF σ 24 w3) 25 w4) 26 w5) 353 w6) 352 (nI n)) 7 (σ.2.1 7)) 8 (σ.2.1 8)) 9 (σ.2.1 9)) 437 (σ.1 437) = sI (sI (sI (sF (sF (sF (sF (sF (sF σ 7 (σ.2.1 7)) 8 (σ.2.1 8)) 9 (σ.2.1 9)) 24 w3) 25 w4) 26 w5) 352 (nI n)) 353 w6) 437 (σ.1 437) from (wrI (Eq.trans (wrF (Eq.trans (wrF (Eq.trans (wrF (wrIc (by decide))) (Eq.trans wrFI (wrI (Eq.trans wrFI (wrI (Eq.trans (wrFc (by decide)) (wrF (Eq.trans (wrFc (by decide)) (wrF (wrFc (by decide)))))))))))) (Eq.trans wrFI (wrI (Eq.trans wrFI (wrI (Eq.trans (wrFc (by decide)) (wrF (Eq.trans (wrFc (by decide)) (wrF (wrFc (by decide)))))))))))) (Eq.trans wrFI (wrI (Eq.trans wrFI (wrI (Eq.trans (wrFc (by decide)) (wrF (Eq.trans (wrFc (by decide)) (wrF (wrFc (by decide)))))))))))))) ?_
        exact j_iret C E (sI (sI (sI (sF (sF (sF (sF (sF (sF σ 7 (σ.2.1 7)) 8 (σ.2.1 8)) 9 (σ.2.1 9)) 24 w3) 25 w4) 26 w5) 352 (nI n)) 353 w6) 437 (σ.1 437)) ⟨_, rfl, ⟨(σ.2.1 7), (σ.2.1 8), (σ.2.1 9), w3, w4, w5, n, w6, (σ.1 437), rfl, g7, hI.sf, (by omega)⟩⟩ rfl dX10_note_46
    · refine j_aload_n C 0 rfl dX10_note_20 ?_
      refine gX_0_1 C tb_429 dX10_note_21 ?_
      refine j_V1 C (d_faultPlace g kk σ k hk hk6 hI  ) kyX5_faultPlace tb_528 tb_529 tb_530 22 rfl (eX_22 g kk _) rfl (Nat.le_of_ble_eq_true rfl) ⟨by decide, by decide⟩ dX10_note_24 rfl (fun vr ur hp => ?_)
      obtain ⟨r16, rfl, hu⟩ := hp
      replace hu := hu.symm
      subst hu
      refine j_iconst C ((-1)) (by decide) dX10_note_27 ?_
      refine j_icmp_eq C 34 (by decide) dX10_note_28 (fun c17 => ?_) (fun c17 => ?_)
      · refine j_aload_n C 0 rfl dX10_note_34 ?_
        refine gX_0_1 C tb_429 dX10_note_35 ?_
        refine j_V1 C (d_readItems g kk σ k hk hk6 hI hS ) kyX5_readItems tb_545 tb_546 tb_547 22 rfl (eX_22 g kk _) rfl (Nat.le_of_ble_eq_true rfl) ⟨by decide, by decide⟩ dX10_note_38 rfl (fun vr ur hp => ?_)
        obtain ⟨r23, rfl, w18, w19, w20, w21, hu, g22⟩ := hp
        replace hu := hu.symm
        subst hu
        refine j_if_ne C 47 (by decide) dX10_note_41 (fun c24 => ?_) (fun c24 => ?_)
        · refine j_aload_n C 0 rfl dX10_note_47 ?_
          refine gX_0_0 C tb_428 dX10_note_48 ?_
          refine j_iload_n C 1 rfl dX10_note_51 ?_
          refine j_aload_n C 0 rfl dX10_note_52 ?_
          refine gX_0_1 C tb_429 dX10_note_53 ?_
          refine j_V1 C (d_takeNotes g kk (sI (sF (sF (sF σ 24 w18) 25 w19) 26 w20) 353 w21) k hk hk6 hI  xn (by first | assumption | omega)) kyX2_takeNotes tb_554 tb_555 tb_556 1 rfl (eX_1 g kk _) rfl (Nat.le_of_ble_eq_true rfl) ⟨by decide, by decide⟩ dX10_note_56 rfl (fun vr ur hp => ?_)
          obtain ⟨rfl, w25, w26, w27, hu, g28, g29, g30⟩ := hp
          replace hu := hu.symm
          subst hu
          refine j_aload_n C 0 rfl dX10_note_59 ?_
          refine gX_0_1 C tb_429 dX10_note_60 ?_
          refine j_iconst C (nI 0) (by decide) dX10_note_63 ?_
          refine pX_22_0 C tb_169 dX10_note_64 ?_
          refine j_aload_n C 0 rfl dX10_note_67 ?_
          refine gX_0_2 C tb_430 dX10_note_68 ?_
          refine j_iconst C (nI 1) (by decide) dX10_note_71 ?_
          refine pX_27_5 C tb_214 rfl rfl dX10_note_72 ?_
          refine j_aload_n C 0 rfl dX10_note_75 ?_
          refine gX_0_1 C tb_429 dX10_note_76 ?_
          refine gX_22_1 C tb_171 (w21) rfl dX10_note_79 ?_
          refine j_w (cX g kk (sI (sI (sI (sF (sF (sF (sF (sF (sF σ 7 w25) 8 w26) 9 w27) 24 w18) 25 w19) 26 w20) 352 (nI 0)) 353 w21) 437 (nI 1))) (congrArg (cX g kk) (show sI (sI (sF (sF (sF (sI (sF (sF (sF σ 24 w18) 25 w19) 26 w20) 353 w21) 7 w25) 8 w26) 9 w27) 352 (nI 0)) 437 (nI 1) = sI (sI (sI (sF (sF (sF (sF (sF (sF σ 7 w25) 8 w26) 9 w27) 24 w18) 25 w19) 26 w20) 352 (nI 0)) 353 w21) 437 (nI 1) from (wrI (Eq.trans (wrI (Eq.trans (wrF (Eq.trans (wrF (Eq.trans wrFI (wrI (Eq.trans (wrFc (by decide)) (wrF (Eq.trans (wrFc (by decide)) (wrF (wrFc (by decide))))))))) (Eq.trans wrFI (wrI (Eq.trans (wrFc (by decide)) (wrF (Eq.trans (wrFc (by decide)) (wrF (wrFc (by decide)))))))))) (Eq.trans wrFI (wrI (Eq.trans (wrFc (by decide)) (wrF (Eq.trans (wrFc (by decide)) (wrF (wrFc (by decide)))))))))) (wrIc (by decide)))))) ?_
          exact j_iret C E (sI (sI (sI (sF (sF (sF (sF (sF (sF σ 7 w25) 8 w26) 9 w27) 24 w18) 25 w19) 26 w20) 352 (nI 0)) 353 w21) 437 (nI 1)) ⟨_, rfl, ⟨w25, w26, w27, w18, w19, w20, 0, w21, (nI 1), rfl, g22, (by rw [g29]; exact al_cpy g22 hI.sf (by decide)), (by omega)⟩⟩ rfl dX10_note_82
        · refine j_bipush C ((-5)) (by decide) dX10_note_44 ?_
          refine j_w (cX g kk (sI (sI (sF (sF (sF σ 24 w18) 25 w19) 26 w20) 353 w21) 352 (nI n))) (congrArg (cX g kk) (sI_self (σ := (sI (sF (sF (sF σ 24 w18) 25 w19) 26 w20) 353 w21)) (i := 352) (v := nI n) en).symm) ?_
          refine j_w (cX g kk (sF (sI (sI (sF (sF (sF σ 24 w18) 25 w19) 26 w20) 353 w21) 352 (nI n)) 7 (σ.2.1 7))) (congrArg (cX g kk) (wrFi (S := (sI (sI (sF (sF (sF σ 24 w18) 25 w19) 26 w20) 353 w21) 352 (nI n))) (c := 7) (v := σ.2.1 7) (gtFI (gtFI (gtFF (by decide) (gtFF (by decide) (gtFF (by decide) rfl))))))) ?_
          refine j_w (cX g kk (sF (sF (sI (sI (sF (sF (sF σ 24 w18) 25 w19) 26 w20) 353 w21) 352 (nI n)) 7 (σ.2.1 7)) 8 (σ.2.1 8))) (congrArg (cX g kk) (wrFi (S := (sF (sI (sI (sF (sF (sF σ 24 w18) 25 w19) 26 w20) 353 w21) 352 (nI n)) 7 (σ.2.1 7))) (c := 8) (v := σ.2.1 8) (gtFF (by decide) (gtFI (gtFI (gtFF (by decide) (gtFF (by decide) (gtFF (by decide) rfl)))))))) ?_
          refine j_w (cX g kk (sF (sF (sF (sI (sI (sF (sF (sF σ 24 w18) 25 w19) 26 w20) 353 w21) 352 (nI n)) 7 (σ.2.1 7)) 8 (σ.2.1 8)) 9 (σ.2.1 9))) (congrArg (cX g kk) (wrFi (S := (sF (sF (sI (sI (sF (sF (sF σ 24 w18) 25 w19) 26 w20) 353 w21) 352 (nI n)) 7 (σ.2.1 7)) 8 (σ.2.1 8))) (c := 9) (v := σ.2.1 9) (gtFF (by decide) (gtFF (by decide) (gtFI (gtFI (gtFF (by decide) (gtFF (by decide) (gtFF (by decide) rfl))))))))) ?_
          refine j_w (cX g kk (sI (sF (sF (sF (sI (sI (sF (sF (sF σ 24 w18) 25 w19) 26 w20) 353 w21) 352 (nI n)) 7 (σ.2.1 7)) 8 (σ.2.1 8)) 9 (σ.2.1 9)) 437 (σ.1 437))) (congrArg (cX g kk) (wrIi (S := (sF (sF (sF (sI (sI (sF (sF (sF σ 24 w18) 25 w19) 26 w20) 353 w21) 352 (nI n)) 7 (σ.2.1 7)) 8 (σ.2.1 8)) 9 (σ.2.1 9))) (c := 437) (v := σ.1 437) (gtIF (gtIF (gtIF (gtII (by decide) (gtII (by decide) (gtIF (gtIF (gtIF rfl)))))))))) ?_
          refine j_w (cX g kk (sI (sI (sI (sF (sF (sF (sF (sF (sF σ 7 (σ.2.1 7)) 8 (σ.2.1 8)) 9 (σ.2.1 9)) 24 w18) 25 w19) 26 w20) 352 (nI n)) 353 w21) 437 (σ.1 437))) (congrArg (cX g kk) (show sI (sF (sF (sF (sI (sI (sF (sF (sF σ 24 w18) 25 w19) 26 w20) 353 w21) 352 (nI n)) 7 (σ.2.1 7)) 8 (σ.2.1 8)) 9 (σ.2.1 9)) 437 (σ.1 437) = sI (sI (sI (sF (sF (sF (sF (sF (sF σ 7 (σ.2.1 7)) 8 (σ.2.1 8)) 9 (σ.2.1 9)) 24 w18) 25 w19) 26 w20) 352 (nI n)) 353 w21) 437 (σ.1 437) from (wrI (Eq.trans (wrF (Eq.trans (wrF (Eq.trans (wrF (wrIc (by decide))) (Eq.trans wrFI (wrI (Eq.trans wrFI (wrI (Eq.trans (wrFc (by decide)) (wrF (Eq.trans (wrFc (by decide)) (wrF (wrFc (by decide)))))))))))) (Eq.trans wrFI (wrI (Eq.trans wrFI (wrI (Eq.trans (wrFc (by decide)) (wrF (Eq.trans (wrFc (by decide)) (wrF (wrFc (by decide)))))))))))) (Eq.trans wrFI (wrI (Eq.trans wrFI (wrI (Eq.trans (wrFc (by decide)) (wrF (Eq.trans (wrFc (by decide)) (wrF (wrFc (by decide)))))))))))))) ?_
          exact j_iret C E (sI (sI (sI (sF (sF (sF (sF (sF (sF σ 7 (σ.2.1 7)) 8 (σ.2.1 8)) 9 (σ.2.1 9)) 24 w18) 25 w19) 26 w20) 352 (nI n)) 353 w21) 437 (σ.1 437)) ⟨_, rfl, ⟨(σ.2.1 7), (σ.2.1 8), (σ.2.1 9), w18, w19, w20, n, w21, (σ.1 437), rfl, g22, hI.sf, (by omega)⟩⟩ rfl dX10_note_46
      · refine j_bipush C ((-5)) (by decide) dX10_note_31 ?_
        refine j_w (cX g kk (sI σ 352 (nI n))) (congrArg (cX g kk) (sI_self (σ := σ) (i := 352) (v := nI n) en).symm) ?_
        refine j_w (cX g kk (sF (sI σ 352 (nI n)) 7 (σ.2.1 7))) (congrArg (cX g kk) (wrFi (S := (sI σ 352 (nI n))) (c := 7) (v := σ.2.1 7) (gtFI rfl))) ?_
        refine j_w (cX g kk (sF (sF (sI σ 352 (nI n)) 7 (σ.2.1 7)) 8 (σ.2.1 8))) (congrArg (cX g kk) (wrFi (S := (sF (sI σ 352 (nI n)) 7 (σ.2.1 7))) (c := 8) (v := σ.2.1 8) (gtFF (by decide) (gtFI rfl)))) ?_
        refine j_w (cX g kk (sF (sF (sF (sI σ 352 (nI n)) 7 (σ.2.1 7)) 8 (σ.2.1 8)) 9 (σ.2.1 9))) (congrArg (cX g kk) (wrFi (S := (sF (sF (sI σ 352 (nI n)) 7 (σ.2.1 7)) 8 (σ.2.1 8))) (c := 9) (v := σ.2.1 9) (gtFF (by decide) (gtFF (by decide) (gtFI rfl))))) ?_
        refine j_w (cX g kk (sF (sF (sF (sF (sI σ 352 (nI n)) 7 (σ.2.1 7)) 8 (σ.2.1 8)) 9 (σ.2.1 9)) 24 (σ.2.1 24))) (congrArg (cX g kk) (wrFi (S := (sF (sF (sF (sI σ 352 (nI n)) 7 (σ.2.1 7)) 8 (σ.2.1 8)) 9 (σ.2.1 9))) (c := 24) (v := σ.2.1 24) (gtFF (by decide) (gtFF (by decide) (gtFF (by decide) (gtFI rfl)))))) ?_
        refine j_w (cX g kk (sF (sF (sF (sF (sF (sI σ 352 (nI n)) 7 (σ.2.1 7)) 8 (σ.2.1 8)) 9 (σ.2.1 9)) 24 (σ.2.1 24)) 25 (σ.2.1 25))) (congrArg (cX g kk) (wrFi (S := (sF (sF (sF (sF (sI σ 352 (nI n)) 7 (σ.2.1 7)) 8 (σ.2.1 8)) 9 (σ.2.1 9)) 24 (σ.2.1 24))) (c := 25) (v := σ.2.1 25) (gtFF (by decide) (gtFF (by decide) (gtFF (by decide) (gtFF (by decide) (gtFI rfl))))))) ?_
        refine j_w (cX g kk (sF (sF (sF (sF (sF (sF (sI σ 352 (nI n)) 7 (σ.2.1 7)) 8 (σ.2.1 8)) 9 (σ.2.1 9)) 24 (σ.2.1 24)) 25 (σ.2.1 25)) 26 (σ.2.1 26))) (congrArg (cX g kk) (wrFi (S := (sF (sF (sF (sF (sF (sI σ 352 (nI n)) 7 (σ.2.1 7)) 8 (σ.2.1 8)) 9 (σ.2.1 9)) 24 (σ.2.1 24)) 25 (σ.2.1 25))) (c := 26) (v := σ.2.1 26) (gtFF (by decide) (gtFF (by decide) (gtFF (by decide) (gtFF (by decide) (gtFF (by decide) (gtFI rfl)))))))) ?_
        refine j_w (cX g kk (sI (sF (sF (sF (sF (sF (sF (sI σ 352 (nI n)) 7 (σ.2.1 7)) 8 (σ.2.1 8)) 9 (σ.2.1 9)) 24 (σ.2.1 24)) 25 (σ.2.1 25)) 26 (σ.2.1 26)) 353 (σ.1 353))) (congrArg (cX g kk) (wrIi (S := (sF (sF (sF (sF (sF (sF (sI σ 352 (nI n)) 7 (σ.2.1 7)) 8 (σ.2.1 8)) 9 (σ.2.1 9)) 24 (σ.2.1 24)) 25 (σ.2.1 25)) 26 (σ.2.1 26))) (c := 353) (v := σ.1 353) (gtIF (gtIF (gtIF (gtIF (gtIF (gtIF (gtII (by decide) rfl))))))))) ?_
        refine j_w (cX g kk (sI (sI (sF (sF (sF (sF (sF (sF (sI σ 352 (nI n)) 7 (σ.2.1 7)) 8 (σ.2.1 8)) 9 (σ.2.1 9)) 24 (σ.2.1 24)) 25 (σ.2.1 25)) 26 (σ.2.1 26)) 353 (σ.1 353)) 437 (σ.1 437))) (congrArg (cX g kk) (wrIi (S := (sI (sF (sF (sF (sF (sF (sF (sI σ 352 (nI n)) 7 (σ.2.1 7)) 8 (σ.2.1 8)) 9 (σ.2.1 9)) 24 (σ.2.1 24)) 25 (σ.2.1 25)) 26 (σ.2.1 26)) 353 (σ.1 353))) (c := 437) (v := σ.1 437) (gtII (by decide) (gtIF (gtIF (gtIF (gtIF (gtIF (gtIF (gtII (by decide) rfl)))))))))) ?_
        refine j_w (cX g kk (sI (sI (sI (sF (sF (sF (sF (sF (sF σ 7 (σ.2.1 7)) 8 (σ.2.1 8)) 9 (σ.2.1 9)) 24 (σ.2.1 24)) 25 (σ.2.1 25)) 26 (σ.2.1 26)) 352 (nI n)) 353 (σ.1 353)) 437 (σ.1 437))) (congrArg (cX g kk) (show sI (sI (sF (sF (sF (sF (sF (sF (sI σ 352 (nI n)) 7 (σ.2.1 7)) 8 (σ.2.1 8)) 9 (σ.2.1 9)) 24 (σ.2.1 24)) 25 (σ.2.1 25)) 26 (σ.2.1 26)) 353 (σ.1 353)) 437 (σ.1 437) = sI (sI (sI (sF (sF (sF (sF (sF (sF σ 7 (σ.2.1 7)) 8 (σ.2.1 8)) 9 (σ.2.1 9)) 24 (σ.2.1 24)) 25 (σ.2.1 25)) 26 (σ.2.1 26)) 352 (nI n)) 353 (σ.1 353)) 437 (σ.1 437) from (wrI (wrI (Eq.trans (wrF (Eq.trans (wrF (Eq.trans (wrF (Eq.trans (wrF (Eq.trans (wrF wrFI) wrFI)) wrFI)) wrFI)) wrFI)) wrFI))))) ?_
        exact j_iret C E (sI (sI (sI (sF (sF (sF (sF (sF (sF σ 7 (σ.2.1 7)) 8 (σ.2.1 8)) 9 (σ.2.1 9)) 24 (σ.2.1 24)) 25 (σ.2.1 25)) 26 (σ.2.1 26)) 352 (nI n)) 353 (σ.1 353)) 437 (σ.1 437)) ⟨_, rfl, ⟨(σ.2.1 7), (σ.2.1 8), (σ.2.1 9), (σ.2.1 24), (σ.2.1 25), (σ.2.1 26), n, (σ.1 353), (σ.1 437), rfl, hS, hI.sf, (by omega)⟩⟩ rfl dX10_note_33
  · replace c1 := bI_f c1
    refine j_iconst C ((-1)) (by decide) dX10_note_8 ?_
    refine j_w (cX g kk (sI σ 352 (nI n))) (congrArg (cX g kk) (sI_self (σ := σ) (i := 352) (v := nI n) en).symm) ?_
    refine j_w (cX g kk (sF (sI σ 352 (nI n)) 7 (σ.2.1 7))) (congrArg (cX g kk) (wrFi (S := (sI σ 352 (nI n))) (c := 7) (v := σ.2.1 7) (gtFI rfl))) ?_
    refine j_w (cX g kk (sF (sF (sI σ 352 (nI n)) 7 (σ.2.1 7)) 8 (σ.2.1 8))) (congrArg (cX g kk) (wrFi (S := (sF (sI σ 352 (nI n)) 7 (σ.2.1 7))) (c := 8) (v := σ.2.1 8) (gtFF (by decide) (gtFI rfl)))) ?_
    refine j_w (cX g kk (sF (sF (sF (sI σ 352 (nI n)) 7 (σ.2.1 7)) 8 (σ.2.1 8)) 9 (σ.2.1 9))) (congrArg (cX g kk) (wrFi (S := (sF (sF (sI σ 352 (nI n)) 7 (σ.2.1 7)) 8 (σ.2.1 8))) (c := 9) (v := σ.2.1 9) (gtFF (by decide) (gtFF (by decide) (gtFI rfl))))) ?_
    refine j_w (cX g kk (sF (sF (sF (sF (sI σ 352 (nI n)) 7 (σ.2.1 7)) 8 (σ.2.1 8)) 9 (σ.2.1 9)) 24 (σ.2.1 24))) (congrArg (cX g kk) (wrFi (S := (sF (sF (sF (sI σ 352 (nI n)) 7 (σ.2.1 7)) 8 (σ.2.1 8)) 9 (σ.2.1 9))) (c := 24) (v := σ.2.1 24) (gtFF (by decide) (gtFF (by decide) (gtFF (by decide) (gtFI rfl)))))) ?_
    refine j_w (cX g kk (sF (sF (sF (sF (sF (sI σ 352 (nI n)) 7 (σ.2.1 7)) 8 (σ.2.1 8)) 9 (σ.2.1 9)) 24 (σ.2.1 24)) 25 (σ.2.1 25))) (congrArg (cX g kk) (wrFi (S := (sF (sF (sF (sF (sI σ 352 (nI n)) 7 (σ.2.1 7)) 8 (σ.2.1 8)) 9 (σ.2.1 9)) 24 (σ.2.1 24))) (c := 25) (v := σ.2.1 25) (gtFF (by decide) (gtFF (by decide) (gtFF (by decide) (gtFF (by decide) (gtFI rfl))))))) ?_
    refine j_w (cX g kk (sF (sF (sF (sF (sF (sF (sI σ 352 (nI n)) 7 (σ.2.1 7)) 8 (σ.2.1 8)) 9 (σ.2.1 9)) 24 (σ.2.1 24)) 25 (σ.2.1 25)) 26 (σ.2.1 26))) (congrArg (cX g kk) (wrFi (S := (sF (sF (sF (sF (sF (sI σ 352 (nI n)) 7 (σ.2.1 7)) 8 (σ.2.1 8)) 9 (σ.2.1 9)) 24 (σ.2.1 24)) 25 (σ.2.1 25))) (c := 26) (v := σ.2.1 26) (gtFF (by decide) (gtFF (by decide) (gtFF (by decide) (gtFF (by decide) (gtFF (by decide) (gtFI rfl)))))))) ?_
    refine j_w (cX g kk (sI (sF (sF (sF (sF (sF (sF (sI σ 352 (nI n)) 7 (σ.2.1 7)) 8 (σ.2.1 8)) 9 (σ.2.1 9)) 24 (σ.2.1 24)) 25 (σ.2.1 25)) 26 (σ.2.1 26)) 353 (σ.1 353))) (congrArg (cX g kk) (wrIi (S := (sF (sF (sF (sF (sF (sF (sI σ 352 (nI n)) 7 (σ.2.1 7)) 8 (σ.2.1 8)) 9 (σ.2.1 9)) 24 (σ.2.1 24)) 25 (σ.2.1 25)) 26 (σ.2.1 26))) (c := 353) (v := σ.1 353) (gtIF (gtIF (gtIF (gtIF (gtIF (gtIF (gtII (by decide) rfl))))))))) ?_
    refine j_w (cX g kk (sI (sI (sF (sF (sF (sF (sF (sF (sI σ 352 (nI n)) 7 (σ.2.1 7)) 8 (σ.2.1 8)) 9 (σ.2.1 9)) 24 (σ.2.1 24)) 25 (σ.2.1 25)) 26 (σ.2.1 26)) 353 (σ.1 353)) 437 (σ.1 437))) (congrArg (cX g kk) (wrIi (S := (sI (sF (sF (sF (sF (sF (sF (sI σ 352 (nI n)) 7 (σ.2.1 7)) 8 (σ.2.1 8)) 9 (σ.2.1 9)) 24 (σ.2.1 24)) 25 (σ.2.1 25)) 26 (σ.2.1 26)) 353 (σ.1 353))) (c := 437) (v := σ.1 437) (gtII (by decide) (gtIF (gtIF (gtIF (gtIF (gtIF (gtIF (gtII (by decide) rfl)))))))))) ?_
    refine j_w (cX g kk (sI (sI (sI (sF (sF (sF (sF (sF (sF σ 7 (σ.2.1 7)) 8 (σ.2.1 8)) 9 (σ.2.1 9)) 24 (σ.2.1 24)) 25 (σ.2.1 25)) 26 (σ.2.1 26)) 352 (nI n)) 353 (σ.1 353)) 437 (σ.1 437))) (congrArg (cX g kk) (show sI (sI (sF (sF (sF (sF (sF (sF (sI σ 352 (nI n)) 7 (σ.2.1 7)) 8 (σ.2.1 8)) 9 (σ.2.1 9)) 24 (σ.2.1 24)) 25 (σ.2.1 25)) 26 (σ.2.1 26)) 353 (σ.1 353)) 437 (σ.1 437) = sI (sI (sI (sF (sF (sF (sF (sF (sF σ 7 (σ.2.1 7)) 8 (σ.2.1 8)) 9 (σ.2.1 9)) 24 (σ.2.1 24)) 25 (σ.2.1 25)) 26 (σ.2.1 26)) 352 (nI n)) 353 (σ.1 353)) 437 (σ.1 437) from (wrI (wrI (Eq.trans (wrF (Eq.trans (wrF (Eq.trans (wrF (Eq.trans (wrF (Eq.trans (wrF wrFI) wrFI)) wrFI)) wrFI)) wrFI)) wrFI))))) ?_
    exact j_iret C E (sI (sI (sI (sF (sF (sF (sF (sF (sF σ 7 (σ.2.1 7)) 8 (σ.2.1 8)) 9 (σ.2.1 9)) 24 (σ.2.1 24)) 25 (σ.2.1 25)) 26 (σ.2.1 26)) 352 (nI n)) 353 (σ.1 353)) 437 (σ.1 437)) ⟨_, rfl, ⟨(σ.2.1 7), (σ.2.1 8), (σ.2.1 9), (σ.2.1 24), (σ.2.1 25), (σ.2.1 26), n, (σ.1 353), (σ.1 437), rfl, hS, hI.sf, (by omega)⟩⟩ rfl dX10_note_9
set_option maxRecDepth 100000 in
set_option maxHeartbeats 4000000 in
theorem d_fault (g kk : Nat → Nat) (σ : St) (k : Nat) (hk : σ.1 16 = nI k) (hk6 : k ≤ 6) (hI : iX σ)   : jM (S := St) yX10_fault cX10_fault 1 (some .int) { frames := 3, cells := 0, slots := 0, locals := 64 } kk (cX g kk σ) [.ref (g 0)] (cX g kk) (rI (fun (r : Int32) (u : St) => u = σ)) := by
  refine j_entry [(0, .ref (g 0))] (by decide) (Nat.le_of_ble_eq_true rfl) rfl ?_
  intro X C E HI
  refine j_aload_n C 0 rfl dX10_fault_0 ?_
  refine gX_0_1 C tb_429 dX10_fault_1 ?_
  refine j_V1 C (d_faultPlace g kk σ k hk hk6 hI  ) kyX5_faultPlace tb_528 tb_529 tb_530 22 rfl (eX_22 g kk _) rfl (Nat.le_of_ble_eq_true rfl) ⟨by decide, by decide⟩ dX10_fault_4 rfl (fun vr ur hp => ?_)
  obtain ⟨r1, rfl, hu⟩ := hp
  replace hu := hu.symm
  subst hu
  refine j_S01 C (c_orNone r1) kyX10_orNone tb_493 tb_494 rfl (Nat.le_of_ble_eq_true rfl) ⟨by decide, by decide⟩ ⟨by decide, by decide⟩ dX10_fault_7 rfl ?_
  exact j_iret C E (σ) ⟨_, rfl, rfl⟩ rfl dX10_fault_10
set_option maxRecDepth 100000 in
set_option maxHeartbeats 4000000 in
theorem d_lookUp (g kk : Nat → Nat) (σ : St) (k : Nat) (hk : σ.1 16 = nI k) (hk6 : k ≤ 6) (hI : iX σ)  (c : Nat) (hc0 : c < 168) (w : Nat) (hw0 : w ≤ 5) : jM (S := St) yX7_lookUp cX7_lookUp 3 (some .int) { frames := 1, cells := 0, slots := 0, locals := 22 } kk (cX g kk σ) [.ref (g 27), .int (nI c), .int (nI w)] (cX g kk) (rI (fun (r : Int32) (u : St) => u = σ)) := by
  refine j_entry [(0, .ref (g 27)), (1, .int (nI c)), (2, .int (nI w))] (by decide) (Nat.le_of_ble_eq_true rfl) rfl ?_
  intro X C E HI
  refine j_iload_n C 2 rfl dX7_lookUp_0 ?_
  by_cases q1 : w = 0
  · rw [q1]
    refine j_tabIn C 36 (by decide) (by decide) rfl (by decide) dX7_lookUp_1 ?_
    refine j_aload_n C 0 rfl dX7_lookUp_36 ?_
    refine gX_27_0 C tb_198 dX7_lookUp_37 ?_
    refine gX_1_5 C tb_118 dX7_lookUp_40 ?_
    refine j_iload_n C 1 rfl dX7_lookUp_43 ?_
    refine rX_6 C c rfl (by omega) ((σ.2.1 6) c) rfl dX7_lookUp_44 ?_
    exact j_iret C E (σ) ⟨_, rfl, rfl⟩ rfl dX7_lookUp_45
  · by_cases q2 : w = 1
    · rw [q2]
      refine j_tabIn C 46 (by decide) (by decide) rfl (by decide) dX7_lookUp_1 ?_
      refine j_aload_n C 0 rfl dX7_lookUp_46 ?_
      refine gX_27_0 C tb_198 dX7_lookUp_47 ?_
      refine j_iload_n C 1 rfl dX7_lookUp_50 ?_
      refine j_V1 C (d_counted g kk σ k hk hk6 hI  c (by first | assumption | omega)) kyX2_counted tb_570 tb_571 tb_572 1 rfl (eX_1 g kk _) rfl (Nat.le_of_ble_eq_true rfl) ⟨by decide, by decide⟩ dX7_lookUp_51 rfl (fun vr ur hp => ?_)
      obtain ⟨r3, rfl, hu⟩ := hp
      replace hu := hu.symm
      subst hu
      exact j_iret C E (σ) ⟨_, rfl, rfl⟩ rfl dX7_lookUp_54
    · by_cases q4 : w = 2
      · rw [q4]
        refine j_tabIn C 55 (by decide) (by decide) rfl (by decide) dX7_lookUp_1 ?_
        refine j_aload_n C 0 rfl dX7_lookUp_55 ?_
        refine gX_27_1 C tb_202 dX7_lookUp_56 ?_
        refine j_iload_n C 1 rfl dX7_lookUp_59 ?_
        refine rX_28 C c rfl (by omega) ((σ.2.1 28) c) rfl dX7_lookUp_60 ?_
        exact j_iret C E (σ) ⟨_, rfl, rfl⟩ rfl dX7_lookUp_61
      · by_cases q5 : w = 3
        · rw [q5]
          refine j_tabIn C 62 (by decide) (by decide) rfl (by decide) dX7_lookUp_1 ?_
          refine j_aload_n C 0 rfl dX7_lookUp_62 ?_
          refine gX_27_2 C tb_203 dX7_lookUp_63 ?_
          refine j_iload_n C 1 rfl dX7_lookUp_66 ?_
          refine rX_29 C c rfl (by omega) ((σ.2.1 29) c) rfl dX7_lookUp_67 ?_
          exact j_iret C E (σ) ⟨_, rfl, rfl⟩ rfl dX7_lookUp_68
        · by_cases q6 : w = 4
          · rw [q6]
            refine j_tabIn C 69 (by decide) (by decide) rfl (by decide) dX7_lookUp_1 ?_
            refine j_aload_n C 0 rfl dX7_lookUp_69 ?_
            refine gX_27_3 C tb_204 dX7_lookUp_70 ?_
            refine j_iload_n C 1 rfl dX7_lookUp_73 ?_
            refine rX_30 C c rfl (by omega) ((σ.2.1 30) c) rfl dX7_lookUp_74 ?_
            exact j_iret C E (σ) ⟨_, rfl, rfl⟩ rfl dX7_lookUp_75
          · refine j_tabOut C 76 (swOutN 4 (by omega) (by omega)) (by decide) dX7_lookUp_1 ?_
            refine j_aload_n C 0 rfl dX7_lookUp_76 ?_
            refine gX_27_4 C tb_207 dX7_lookUp_77 ?_
            refine j_iload_n C 1 rfl dX7_lookUp_80 ?_
            refine rX_31 C c rfl (by omega) ((σ.2.1 31) c) rfl dX7_lookUp_81 ?_
            exact j_iret C E (σ) ⟨_, rfl, rfl⟩ rfl dX7_lookUp_82
set_option maxRecDepth 100000 in
set_option maxHeartbeats 4000000 in
theorem d_of (g kk : Nat → Nat) (σ : St) (k : Nat) (hk : σ.1 16 = nI k) (hk6 : k ≤ 6) (hI : iX σ)  (x : Int32) (y : Int32) (z : Int32) : jM (S := St) yX10_of cX10_of 4 (some .int) { frames := 5, cells := 0, slots := 0, locals := 115 } kk (cX g kk σ) [.ref (g 0), .int x, .int y, .int z] (cX g kk) (rI (fun (r : Int32) (u : St) => ∃ (pF28 : Nat → Int32) (pF29 : Nat → Int32) (pF30 : Nat → Int32) (pF31 : Nat → Int32) (pI437 : Int32), u = sI (sF (sF (sF (sF σ 28 pF28) 29 pF29) 30 pF30) 31 pF31) 437 pI437)) := by
  refine j_entry [(0, .ref (g 0)), (1, .int x), (2, .int y), (3, .int z)] (by decide) (Nat.le_of_ble_eq_true rfl) rfl ?_
  intro X C E HI
  refine j_aload_n C 0 rfl dX10_of_0 ?_
  refine j_iload_n C 1 rfl dX10_of_1 ?_
  refine j_V1 C (c_isCan g kk σ k hk hk6 x) kyX10_isCan tb_478 tb_480 sp_0 0 rfl (eX_0 g kk _) rfl (Nat.le_of_ble_eq_true rfl) ⟨by decide, by decide⟩ dX10_of_2 rfl (fun vr ur hp => ?_)
  obtain ⟨r, rfl, rfl, hu⟩ := hp
  replace hu := hu.symm
  subst hu
  refine j_if_eq C 15 (by decide) dX10_of_5 (fun c1 => ?_) (fun c1 => ?_)
  · replace c1 := bI_f c1
    refine j_iconst C ((-1)) (by decide) dX10_of_15 ?_
    refine j_w (cX g kk (sF σ 28 (σ.2.1 28))) (congrArg (cX g kk) (wrFi (S := σ) (c := 28) (v := σ.2.1 28) rfl)) ?_
    refine j_w (cX g kk (sF (sF σ 28 (σ.2.1 28)) 29 (σ.2.1 29))) (congrArg (cX g kk) (wrFi (S := (sF σ 28 (σ.2.1 28))) (c := 29) (v := σ.2.1 29) (gtFF (by decide) rfl))) ?_
    refine j_w (cX g kk (sF (sF (sF σ 28 (σ.2.1 28)) 29 (σ.2.1 29)) 30 (σ.2.1 30))) (congrArg (cX g kk) (wrFi (S := (sF (sF σ 28 (σ.2.1 28)) 29 (σ.2.1 29))) (c := 30) (v := σ.2.1 30) (gtFF (by decide) (gtFF (by decide) rfl)))) ?_
    refine j_w (cX g kk (sF (sF (sF (sF σ 28 (σ.2.1 28)) 29 (σ.2.1 29)) 30 (σ.2.1 30)) 31 (σ.2.1 31))) (congrArg (cX g kk) (wrFi (S := (sF (sF (sF σ 28 (σ.2.1 28)) 29 (σ.2.1 29)) 30 (σ.2.1 30))) (c := 31) (v := σ.2.1 31) (gtFF (by decide) (gtFF (by decide) (gtFF (by decide) rfl))))) ?_
    refine j_w (cX g kk (sI (sF (sF (sF (sF σ 28 (σ.2.1 28)) 29 (σ.2.1 29)) 30 (σ.2.1 30)) 31 (σ.2.1 31)) 437 (σ.1 437))) (congrArg (cX g kk) (wrIi (S := (sF (sF (sF (sF σ 28 (σ.2.1 28)) 29 (σ.2.1 29)) 30 (σ.2.1 30)) 31 (σ.2.1 31))) (c := 437) (v := σ.1 437) (gtIF (gtIF (gtIF (gtIF rfl)))))) ?_
    exact j_iret C E (sI (sF (sF (sF (sF σ 28 (σ.2.1 28)) 29 (σ.2.1 29)) 30 (σ.2.1 30)) 31 (σ.2.1 31)) 437 (σ.1 437)) ⟨_, rfl, ⟨(σ.2.1 28), (σ.2.1 29), (σ.2.1 30), (σ.2.1 31), (σ.1 437), rfl⟩⟩ rfl dX10_of_16
  · replace c1 := bI_t c1
    obtain ⟨xn, xn1, rfl⟩ := cB_nat (by omega) c1
    refine j_iload_n C 2 rfl dX10_of_8 ?_
    refine j_S01 C (c_isDay y) kyX10_isDay tb_486 tb_487 rfl (Nat.le_of_ble_eq_true rfl) ⟨by decide, by decide⟩ ⟨by decide, by decide⟩ dX10_of_9 rfl ?_
    refine j_if_ne C 17 (by decide) dX10_of_12 (fun c2 => ?_) (fun c2 => ?_)
    · replace c2 := bI_t c2
      obtain ⟨yn, yn1, yn2, rfl⟩ := wB_nat (by decide) (by decide) c2
      refine j_iload_n C 3 rfl dX10_of_17 ?_
      refine j_iconst C (nI 0) (by decide) dX10_of_18 ?_
      refine j_iconst C (nI 5) (by decide) dX10_of_19 ?_
      refine j_S01 C (c_isWithin z (nI 0) (nI 5)) kyX10_isWithin tb_467 tb_468 rfl (Nat.le_of_ble_eq_true rfl) ⟨by decide, by decide⟩ ⟨by decide, by decide⟩ dX10_of_20 rfl ?_
      refine j_if_ne C 29 (by decide) dX10_of_23 (fun c3 => ?_) (fun c3 => ?_)
      · replace c3 := bI_t c3
        obtain ⟨zn, zn1, zn2, rfl⟩ := wB_nat (by decide) (by decide) c3
        refine j_aload_n C 0 rfl dX10_of_29 ?_
        refine gX_0_2 C tb_430 dX10_of_30 ?_
        refine j_V1 C (d_refresh g kk σ k hk hk6 hI  ) kyX7_refresh tb_562 tb_563 tb_564 27 rfl (eX_27 g kk _) rfl (Nat.le_of_ble_eq_true rfl) ⟨by decide, by decide⟩ dX10_of_33 rfl (fun vr ur hp => ?_)
        obtain ⟨rfl, w4, w5, w6, w7, w8, hu⟩ := hp
        replace hu := hu.symm
        subst hu
        refine j_aload_n C 0 rfl dX10_of_36 ?_
        refine gX_0_2 C tb_430 dX10_of_37 ?_
        refine j_iload_n C 1 rfl dX10_of_40 ?_
        refine j_bipush C (nI 28) (by decide) dX10_of_41 ?_
        refine j_imulN C dX10_of_43 ?_
        refine j_iload_n C 2 rfl dX10_of_44 ?_
        refine j_iaddN C dX10_of_45 ?_
        refine j_iload_n C 3 rfl dX10_of_46 ?_
        refine j_V1 C (d_lookUp g kk (sI (sF (sF (sF (sF σ 28 w4) 29 w5) 30 w6) 31 w7) 437 w8) k hk hk6 hI  ((xn * 28) + yn) (by first | assumption | omega) zn (by first | assumption | omega)) kyX7_lookUp tb_602 tb_603 tb_604 27 rfl (eX_27 g kk _) rfl (Nat.le_of_ble_eq_true rfl) ⟨by decide, by decide⟩ dX10_of_47 rfl (fun vr ur hp => ?_)
        obtain ⟨r9, rfl, hu⟩ := hp
        replace hu := hu.symm
        subst hu
        refine j_S01 C (c_orNone r9) kyX10_orNone tb_493 tb_494 rfl (Nat.le_of_ble_eq_true rfl) ⟨by decide, by decide⟩ ⟨by decide, by decide⟩ dX10_of_50 rfl ?_
        exact j_iret C E (sI (sF (sF (sF (sF σ 28 w4) 29 w5) 30 w6) 31 w7) 437 w8) ⟨_, rfl, ⟨w4, w5, w6, w7, w8, rfl⟩⟩ rfl dX10_of_53
      · replace c3 := bI_f c3
        refine j_bipush C ((-2)) (by decide) dX10_of_26 ?_
        refine j_w (cX g kk (sF σ 28 (σ.2.1 28))) (congrArg (cX g kk) (wrFi (S := σ) (c := 28) (v := σ.2.1 28) rfl)) ?_
        refine j_w (cX g kk (sF (sF σ 28 (σ.2.1 28)) 29 (σ.2.1 29))) (congrArg (cX g kk) (wrFi (S := (sF σ 28 (σ.2.1 28))) (c := 29) (v := σ.2.1 29) (gtFF (by decide) rfl))) ?_
        refine j_w (cX g kk (sF (sF (sF σ 28 (σ.2.1 28)) 29 (σ.2.1 29)) 30 (σ.2.1 30))) (congrArg (cX g kk) (wrFi (S := (sF (sF σ 28 (σ.2.1 28)) 29 (σ.2.1 29))) (c := 30) (v := σ.2.1 30) (gtFF (by decide) (gtFF (by decide) rfl)))) ?_
        refine j_w (cX g kk (sF (sF (sF (sF σ 28 (σ.2.1 28)) 29 (σ.2.1 29)) 30 (σ.2.1 30)) 31 (σ.2.1 31))) (congrArg (cX g kk) (wrFi (S := (sF (sF (sF σ 28 (σ.2.1 28)) 29 (σ.2.1 29)) 30 (σ.2.1 30))) (c := 31) (v := σ.2.1 31) (gtFF (by decide) (gtFF (by decide) (gtFF (by decide) rfl))))) ?_
        refine j_w (cX g kk (sI (sF (sF (sF (sF σ 28 (σ.2.1 28)) 29 (σ.2.1 29)) 30 (σ.2.1 30)) 31 (σ.2.1 31)) 437 (σ.1 437))) (congrArg (cX g kk) (wrIi (S := (sF (sF (sF (sF σ 28 (σ.2.1 28)) 29 (σ.2.1 29)) 30 (σ.2.1 30)) 31 (σ.2.1 31))) (c := 437) (v := σ.1 437) (gtIF (gtIF (gtIF (gtIF rfl)))))) ?_
        exact j_iret C E (sI (sF (sF (sF (sF σ 28 (σ.2.1 28)) 29 (σ.2.1 29)) 30 (σ.2.1 30)) 31 (σ.2.1 31)) 437 (σ.1 437)) ⟨_, rfl, ⟨(σ.2.1 28), (σ.2.1 29), (σ.2.1 30), (σ.2.1 31), (σ.1 437), rfl⟩⟩ rfl dX10_of_28
    · replace c2 := bI_f c2
      refine j_iconst C ((-1)) (by decide) dX10_of_15 ?_
      refine j_w (cX g kk (sF σ 28 (σ.2.1 28))) (congrArg (cX g kk) (wrFi (S := σ) (c := 28) (v := σ.2.1 28) rfl)) ?_
      refine j_w (cX g kk (sF (sF σ 28 (σ.2.1 28)) 29 (σ.2.1 29))) (congrArg (cX g kk) (wrFi (S := (sF σ 28 (σ.2.1 28))) (c := 29) (v := σ.2.1 29) (gtFF (by decide) rfl))) ?_
      refine j_w (cX g kk (sF (sF (sF σ 28 (σ.2.1 28)) 29 (σ.2.1 29)) 30 (σ.2.1 30))) (congrArg (cX g kk) (wrFi (S := (sF (sF σ 28 (σ.2.1 28)) 29 (σ.2.1 29))) (c := 30) (v := σ.2.1 30) (gtFF (by decide) (gtFF (by decide) rfl)))) ?_
      refine j_w (cX g kk (sF (sF (sF (sF σ 28 (σ.2.1 28)) 29 (σ.2.1 29)) 30 (σ.2.1 30)) 31 (σ.2.1 31))) (congrArg (cX g kk) (wrFi (S := (sF (sF (sF σ 28 (σ.2.1 28)) 29 (σ.2.1 29)) 30 (σ.2.1 30))) (c := 31) (v := σ.2.1 31) (gtFF (by decide) (gtFF (by decide) (gtFF (by decide) rfl))))) ?_
      refine j_w (cX g kk (sI (sF (sF (sF (sF σ 28 (σ.2.1 28)) 29 (σ.2.1 29)) 30 (σ.2.1 30)) 31 (σ.2.1 31)) 437 (σ.1 437))) (congrArg (cX g kk) (wrIi (S := (sF (sF (sF (sF σ 28 (σ.2.1 28)) 29 (σ.2.1 29)) 30 (σ.2.1 30)) 31 (σ.2.1 31))) (c := 437) (v := σ.1 437) (gtIF (gtIF (gtIF (gtIF rfl)))))) ?_
      exact j_iret C E (sI (sF (sF (sF (sF σ 28 (σ.2.1 28)) 29 (σ.2.1 29)) 30 (σ.2.1 30)) 31 (σ.2.1 31)) 437 (σ.1 437)) ⟨_, rfl, ⟨(σ.2.1 28), (σ.2.1 29), (σ.2.1 30), (σ.2.1 31), (σ.1 437), rfl⟩⟩ rfl dX10_of_16
set_option maxRecDepth 100000 in
set_option maxHeartbeats 4000000 in
theorem d_week (g kk : Nat → Nat) (σ : St) (k : Nat) (hk : σ.1 16 = nI k) (hk6 : k ≤ 6) (hI : iX σ)  (x : Int32) (y : Int32) (z : Int32) : jM (S := St) yX10_week cX10_week 4 (some .int) { frames := 5, cells := 0, slots := 0, locals := 131 } kk (cX g kk σ) [.ref (g 0), .int x, .int y, .int z] (cX g kk) (rI (fun (r : Int32) (u : St) => ∃ (pF28 : Nat → Int32) (pF29 : Nat → Int32) (pF30 : Nat → Int32) (pF31 : Nat → Int32) (pF34 : Nat → Int32) (pF35 : Nat → Int32) (pF36 : Nat → Int32) (pF37 : Nat → Int32) (pI437 : Int32) (pI518 : Int32) (pI519 : Int32) (pI520 : Int32) (pI521 : Int32), u = sI (sI (sI (sI (sI (sF (sF (sF (sF (sF (sF (sF (sF σ 28 pF28) 29 pF29) 30 pF30) 31 pF31) 34 pF34) 35 pF35) 36 pF36) 37 pF37) 437 pI437) 518 pI518) 519 pI519) 520 pI520) 521 pI521)) := by
  refine j_entry [(0, .ref (g 0)), (1, .int x), (2, .int y), (3, .int z)] (by decide) (Nat.le_of_ble_eq_true rfl) rfl ?_
  intro X C E HI
  refine j_aload_n C 0 rfl dX10_week_0 ?_
  refine j_iload_n C 1 rfl dX10_week_1 ?_
  refine j_V1 C (c_isCan g kk σ k hk hk6 x) kyX10_isCan tb_478 tb_480 sp_0 0 rfl (eX_0 g kk _) rfl (Nat.le_of_ble_eq_true rfl) ⟨by decide, by decide⟩ dX10_week_2 rfl (fun vr ur hp => ?_)
  obtain ⟨r, rfl, rfl, hu⟩ := hp
  replace hu := hu.symm
  subst hu
  refine j_if_eq C 18 (by decide) dX10_week_5 (fun c1 => ?_) (fun c1 => ?_)
  · replace c1 := bI_f c1
    refine j_iconst C ((-1)) (by decide) dX10_week_18 ?_
    refine j_w (cX g kk (sF σ 28 (σ.2.1 28))) (congrArg (cX g kk) (wrFi (S := σ) (c := 28) (v := σ.2.1 28) rfl)) ?_
    refine j_w (cX g kk (sF (sF σ 28 (σ.2.1 28)) 29 (σ.2.1 29))) (congrArg (cX g kk) (wrFi (S := (sF σ 28 (σ.2.1 28))) (c := 29) (v := σ.2.1 29) (gtFF (by decide) rfl))) ?_
    refine j_w (cX g kk (sF (sF (sF σ 28 (σ.2.1 28)) 29 (σ.2.1 29)) 30 (σ.2.1 30))) (congrArg (cX g kk) (wrFi (S := (sF (sF σ 28 (σ.2.1 28)) 29 (σ.2.1 29))) (c := 30) (v := σ.2.1 30) (gtFF (by decide) (gtFF (by decide) rfl)))) ?_
    refine j_w (cX g kk (sF (sF (sF (sF σ 28 (σ.2.1 28)) 29 (σ.2.1 29)) 30 (σ.2.1 30)) 31 (σ.2.1 31))) (congrArg (cX g kk) (wrFi (S := (sF (sF (sF σ 28 (σ.2.1 28)) 29 (σ.2.1 29)) 30 (σ.2.1 30))) (c := 31) (v := σ.2.1 31) (gtFF (by decide) (gtFF (by decide) (gtFF (by decide) rfl))))) ?_
    refine j_w (cX g kk (sF (sF (sF (sF (sF σ 28 (σ.2.1 28)) 29 (σ.2.1 29)) 30 (σ.2.1 30)) 31 (σ.2.1 31)) 34 (σ.2.1 34))) (congrArg (cX g kk) (wrFi (S := (sF (sF (sF (sF σ 28 (σ.2.1 28)) 29 (σ.2.1 29)) 30 (σ.2.1 30)) 31 (σ.2.1 31))) (c := 34) (v := σ.2.1 34) (gtFF (by decide) (gtFF (by decide) (gtFF (by decide) (gtFF (by decide) rfl)))))) ?_
    refine j_w (cX g kk (sF (sF (sF (sF (sF (sF σ 28 (σ.2.1 28)) 29 (σ.2.1 29)) 30 (σ.2.1 30)) 31 (σ.2.1 31)) 34 (σ.2.1 34)) 35 (σ.2.1 35))) (congrArg (cX g kk) (wrFi (S := (sF (sF (sF (sF (sF σ 28 (σ.2.1 28)) 29 (σ.2.1 29)) 30 (σ.2.1 30)) 31 (σ.2.1 31)) 34 (σ.2.1 34))) (c := 35) (v := σ.2.1 35) (gtFF (by decide) (gtFF (by decide) (gtFF (by decide) (gtFF (by decide) (gtFF (by decide) rfl))))))) ?_
    refine j_w (cX g kk (sF (sF (sF (sF (sF (sF (sF σ 28 (σ.2.1 28)) 29 (σ.2.1 29)) 30 (σ.2.1 30)) 31 (σ.2.1 31)) 34 (σ.2.1 34)) 35 (σ.2.1 35)) 36 (σ.2.1 36))) (congrArg (cX g kk) (wrFi (S := (sF (sF (sF (sF (sF (sF σ 28 (σ.2.1 28)) 29 (σ.2.1 29)) 30 (σ.2.1 30)) 31 (σ.2.1 31)) 34 (σ.2.1 34)) 35 (σ.2.1 35))) (c := 36) (v := σ.2.1 36) (gtFF (by decide) (gtFF (by decide) (gtFF (by decide) (gtFF (by decide) (gtFF (by decide) (gtFF (by decide) rfl)))))))) ?_
    refine j_w (cX g kk (sF (sF (sF (sF (sF (sF (sF (sF σ 28 (σ.2.1 28)) 29 (σ.2.1 29)) 30 (σ.2.1 30)) 31 (σ.2.1 31)) 34 (σ.2.1 34)) 35 (σ.2.1 35)) 36 (σ.2.1 36)) 37 (σ.2.1 37))) (congrArg (cX g kk) (wrFi (S := (sF (sF (sF (sF (sF (sF (sF σ 28 (σ.2.1 28)) 29 (σ.2.1 29)) 30 (σ.2.1 30)) 31 (σ.2.1 31)) 34 (σ.2.1 34)) 35 (σ.2.1 35)) 36 (σ.2.1 36))) (c := 37) (v := σ.2.1 37) (gtFF (by decide) (gtFF (by decide) (gtFF (by decide) (gtFF (by decide) (gtFF (by decide) (gtFF (by decide) (gtFF (by decide) rfl))))))))) ?_
    refine j_w (cX g kk (sI (sF (sF (sF (sF (sF (sF (sF (sF σ 28 (σ.2.1 28)) 29 (σ.2.1 29)) 30 (σ.2.1 30)) 31 (σ.2.1 31)) 34 (σ.2.1 34)) 35 (σ.2.1 35)) 36 (σ.2.1 36)) 37 (σ.2.1 37)) 437 (σ.1 437))) (congrArg (cX g kk) (wrIi (S := (sF (sF (sF (sF (sF (sF (sF (sF σ 28 (σ.2.1 28)) 29 (σ.2.1 29)) 30 (σ.2.1 30)) 31 (σ.2.1 31)) 34 (σ.2.1 34)) 35 (σ.2.1 35)) 36 (σ.2.1 36)) 37 (σ.2.1 37))) (c := 437) (v := σ.1 437) (gtIF (gtIF (gtIF (gtIF (gtIF (gtIF (gtIF (gtIF rfl)))))))))) ?_
    refine j_w (cX g kk (sI (sI (sF (sF (sF (sF (sF (sF (sF (sF σ 28 (σ.2.1 28)) 29 (σ.2.1 29)) 30 (σ.2.1 30)) 31 (σ.2.1 31)) 34 (σ.2.1 34)) 35 (σ.2.1 35)) 36 (σ.2.1 36)) 37 (σ.2.1 37)) 437 (σ.1 437)) 518 (σ.1 518))) (congrArg (cX g kk) (wrIi (S := (sI (sF (sF (sF (sF (sF (sF (sF (sF σ 28 (σ.2.1 28)) 29 (σ.2.1 29)) 30 (σ.2.1 30)) 31 (σ.2.1 31)) 34 (σ.2.1 34)) 35 (σ.2.1 35)) 36 (σ.2.1 36)) 37 (σ.2.1 37)) 437 (σ.1 437))) (c := 518) (v := σ.1 518) (gtII (by decide) (gtIF (gtIF (gtIF (gtIF (gtIF (gtIF (gtIF (gtIF rfl))))))))))) ?_
    refine j_w (cX g kk (sI (sI (sI (sF (sF (sF (sF (sF (sF (sF (sF σ 28 (σ.2.1 28)) 29 (σ.2.1 29)) 30 (σ.2.1 30)) 31 (σ.2.1 31)) 34 (σ.2.1 34)) 35 (σ.2.1 35)) 36 (σ.2.1 36)) 37 (σ.2.1 37)) 437 (σ.1 437)) 518 (σ.1 518)) 519 (σ.1 519))) (congrArg (cX g kk) (wrIi (S := (sI (sI (sF (sF (sF (sF (sF (sF (sF (sF σ 28 (σ.2.1 28)) 29 (σ.2.1 29)) 30 (σ.2.1 30)) 31 (σ.2.1 31)) 34 (σ.2.1 34)) 35 (σ.2.1 35)) 36 (σ.2.1 36)) 37 (σ.2.1 37)) 437 (σ.1 437)) 518 (σ.1 518))) (c := 519) (v := σ.1 519) (gtII (by decide) (gtII (by decide) (gtIF (gtIF (gtIF (gtIF (gtIF (gtIF (gtIF (gtIF rfl)))))))))))) ?_
    refine j_w (cX g kk (sI (sI (sI (sI (sF (sF (sF (sF (sF (sF (sF (sF σ 28 (σ.2.1 28)) 29 (σ.2.1 29)) 30 (σ.2.1 30)) 31 (σ.2.1 31)) 34 (σ.2.1 34)) 35 (σ.2.1 35)) 36 (σ.2.1 36)) 37 (σ.2.1 37)) 437 (σ.1 437)) 518 (σ.1 518)) 519 (σ.1 519)) 520 (σ.1 520))) (congrArg (cX g kk) (wrIi (S := (sI (sI (sI (sF (sF (sF (sF (sF (sF (sF (sF σ 28 (σ.2.1 28)) 29 (σ.2.1 29)) 30 (σ.2.1 30)) 31 (σ.2.1 31)) 34 (σ.2.1 34)) 35 (σ.2.1 35)) 36 (σ.2.1 36)) 37 (σ.2.1 37)) 437 (σ.1 437)) 518 (σ.1 518)) 519 (σ.1 519))) (c := 520) (v := σ.1 520) (gtII (by decide) (gtII (by decide) (gtII (by decide) (gtIF (gtIF (gtIF (gtIF (gtIF (gtIF (gtIF (gtIF rfl))))))))))))) ?_
    refine j_w (cX g kk (sI (sI (sI (sI (sI (sF (sF (sF (sF (sF (sF (sF (sF σ 28 (σ.2.1 28)) 29 (σ.2.1 29)) 30 (σ.2.1 30)) 31 (σ.2.1 31)) 34 (σ.2.1 34)) 35 (σ.2.1 35)) 36 (σ.2.1 36)) 37 (σ.2.1 37)) 437 (σ.1 437)) 518 (σ.1 518)) 519 (σ.1 519)) 520 (σ.1 520)) 521 (σ.1 521))) (congrArg (cX g kk) (wrIi (S := (sI (sI (sI (sI (sF (sF (sF (sF (sF (sF (sF (sF σ 28 (σ.2.1 28)) 29 (σ.2.1 29)) 30 (σ.2.1 30)) 31 (σ.2.1 31)) 34 (σ.2.1 34)) 35 (σ.2.1 35)) 36 (σ.2.1 36)) 37 (σ.2.1 37)) 437 (σ.1 437)) 518 (σ.1 518)) 519 (σ.1 519)) 520 (σ.1 520))) (c := 521) (v := σ.1 521) (gtII (by decide) (gtII (by decide) (gtII (by decide) (gtII (by decide) (gtIF (gtIF (gtIF (gtIF (gtIF (gtIF (gtIF (gtIF rfl)))))))))))))) ?_
    exact j_iret C E (sI (sI (sI (sI (sI (sF (sF (sF (sF (sF (sF (sF (sF σ 28 (σ.2.1 28)) 29 (σ.2.1 29)) 30 (σ.2.1 30)) 31 (σ.2.1 31)) 34 (σ.2.1 34)) 35 (σ.2.1 35)) 36 (σ.2.1 36)) 37 (σ.2.1 37)) 437 (σ.1 437)) 518 (σ.1 518)) 519 (σ.1 519)) 520 (σ.1 520)) 521 (σ.1 521)) ⟨_, rfl, ⟨(σ.2.1 28), (σ.2.1 29), (σ.2.1 30), (σ.2.1 31), (σ.2.1 34), (σ.2.1 35), (σ.2.1 36), (σ.2.1 37), (σ.1 437), (σ.1 518), (σ.1 519), (σ.1 520), (σ.1 521), rfl⟩⟩ rfl dX10_week_19
  · replace c1 := bI_t c1
    obtain ⟨xn, xn1, rfl⟩ := cB_nat (by omega) c1
    refine j_iload_n C 2 rfl dX10_week_8 ?_
    refine j_iconst C (nI 0) (by decide) dX10_week_9 ?_
    refine j_bipush C (nI 21) (by decide) dX10_week_10 ?_
    refine j_S01 C (c_isWithin y (nI 0) (nI 21)) kyX10_isWithin tb_467 tb_468 rfl (Nat.le_of_ble_eq_true rfl) ⟨by decide, by decide⟩ ⟨by decide, by decide⟩ dX10_week_12 rfl ?_
    refine j_if_ne C 20 (by decide) dX10_week_15 (fun c2 => ?_) (fun c2 => ?_)
    · replace c2 := bI_t c2
      obtain ⟨yn, yn1, yn2, rfl⟩ := wB_nat (by decide) (by decide) c2
      refine j_iload_n C 3 rfl dX10_week_20 ?_
      refine j_iconst C (nI 0) (by decide) dX10_week_21 ?_
      refine j_iconst C (nI 3) (by decide) dX10_week_22 ?_
      refine j_S01 C (c_isWithin z (nI 0) (nI 3)) kyX10_isWithin tb_467 tb_468 rfl (Nat.le_of_ble_eq_true rfl) ⟨by decide, by decide⟩ ⟨by decide, by decide⟩ dX10_week_23 rfl ?_
      refine j_if_ne C 32 (by decide) dX10_week_26 (fun c3 => ?_) (fun c3 => ?_)
      · replace c3 := bI_t c3
        obtain ⟨zn, zn1, zn2, rfl⟩ := wB_nat (by decide) (by decide) c3
        refine j_aload_n C 0 rfl dX10_week_32 ?_
        refine gX_0_2 C tb_430 dX10_week_33 ?_
        refine j_V1 C (d_refresh g kk σ k hk hk6 hI  ) kyX7_refresh tb_562 tb_563 tb_564 27 rfl (eX_27 g kk _) rfl (Nat.le_of_ble_eq_true rfl) ⟨by decide, by decide⟩ dX10_week_36 rfl (fun vr ur hp => ?_)
        obtain ⟨rfl, w4, w5, w6, w7, w8, hu⟩ := hp
        replace hu := hu.symm
        subst hu
        refine j_aload_n C 0 rfl dX10_week_39 ?_
        refine gX_0_3 C tb_431 dX10_week_40 ?_
        refine j_iload_n C 1 rfl dX10_week_43 ?_
        refine j_bipush C (nI 28) (by decide) dX10_week_44 ?_
        refine j_imulN C dX10_week_46 ?_
        refine j_iload_n C 2 rfl dX10_week_47 ?_
        refine j_iaddN C dX10_week_48 ?_
        refine j_V1 C (d_explain g kk (sI (sF (sF (sF (sF σ 28 w4) 29 w5) 30 w6) 31 w7) 437 w8) k hk hk6 hI  ((xn * 28) + yn) (by first | assumption | omega)) kyX9_explain tb_618 tb_619 tb_620 32 rfl (eX_32 g kk _) rfl (Nat.le_of_ble_eq_true rfl) ⟨by decide, by decide⟩ dX10_week_49 rfl (fun vr ur hp => ?_)
        obtain ⟨rfl, w9, w10, w11, w12, w13, w14, w15, w16, hu⟩ := hp
        replace hu := hu.symm
        subst hu
        refine j_iload_n C 3 rfl dX10_week_52 ?_
        by_cases q17 : zn = 0
        · rw [q17]
          refine j_tabIn C 80 (by decide) (by decide) rfl (by decide) dX10_week_53 ?_
          refine j_aload_n C 0 rfl dX10_week_80 ?_
          refine gX_0_3 C tb_431 dX10_week_81 ?_
          refine gX_32_6 C tb_244 (w13) rfl dX10_week_84 ?_
          refine j_w (cX g kk (sI (sI (sI (sI (sI (sF (sF (sF (sF (sF (sF (sF (sF σ 28 w4) 29 w5) 30 w6) 31 w7) 34 w9) 35 w10) 36 w11) 37 w12) 437 w8) 518 w13) 519 w14) 520 w15) 521 w16)) (congrArg (cX g kk) (show sI (sI (sI (sI (sF (sF (sF (sF (sI (sF (sF (sF (sF σ 28 w4) 29 w5) 30 w6) 31 w7) 437 w8) 34 w9) 35 w10) 36 w11) 37 w12) 518 w13) 519 w14) 520 w15) 521 w16 = sI (sI (sI (sI (sI (sF (sF (sF (sF (sF (sF (sF (sF σ 28 w4) 29 w5) 30 w6) 31 w7) 34 w9) 35 w10) 36 w11) 37 w12) 437 w8) 518 w13) 519 w14) 520 w15) 521 w16 from (wrI (wrI (wrI (wrI (Eq.trans (wrF (Eq.trans (wrF (Eq.trans (wrF wrFI) wrFI)) wrFI)) wrFI))))))) ?_
          exact j_iret C E (sI (sI (sI (sI (sI (sF (sF (sF (sF (sF (sF (sF (sF σ 28 w4) 29 w5) 30 w6) 31 w7) 34 w9) 35 w10) 36 w11) 37 w12) 437 w8) 518 w13) 519 w14) 520 w15) 521 w16) ⟨_, rfl, ⟨w4, w5, w6, w7, w9, w10, w11, w12, w8, w13, w14, w15, w16, rfl⟩⟩ rfl dX10_week_87
        · by_cases q18 : zn = 1
          · rw [q18]
            refine j_tabIn C 88 (by decide) (by decide) rfl (by decide) dX10_week_53 ?_
            refine j_aload_n C 0 rfl dX10_week_88 ?_
            refine gX_0_3 C tb_431 dX10_week_89 ?_
            refine gX_32_7 C tb_246 (w14) rfl dX10_week_92 ?_
            refine j_w (cX g kk (sI (sI (sI (sI (sI (sF (sF (sF (sF (sF (sF (sF (sF σ 28 w4) 29 w5) 30 w6) 31 w7) 34 w9) 35 w10) 36 w11) 37 w12) 437 w8) 518 w13) 519 w14) 520 w15) 521 w16)) (congrArg (cX g kk) (show sI (sI (sI (sI (sF (sF (sF (sF (sI (sF (sF (sF (sF σ 28 w4) 29 w5) 30 w6) 31 w7) 437 w8) 34 w9) 35 w10) 36 w11) 37 w12) 518 w13) 519 w14) 520 w15) 521 w16 = sI (sI (sI (sI (sI (sF (sF (sF (sF (sF (sF (sF (sF σ 28 w4) 29 w5) 30 w6) 31 w7) 34 w9) 35 w10) 36 w11) 37 w12) 437 w8) 518 w13) 519 w14) 520 w15) 521 w16 from (wrI (wrI (wrI (wrI (Eq.trans (wrF (Eq.trans (wrF (Eq.trans (wrF wrFI) wrFI)) wrFI)) wrFI))))))) ?_
            exact j_iret C E (sI (sI (sI (sI (sI (sF (sF (sF (sF (sF (sF (sF (sF σ 28 w4) 29 w5) 30 w6) 31 w7) 34 w9) 35 w10) 36 w11) 37 w12) 437 w8) 518 w13) 519 w14) 520 w15) 521 w16) ⟨_, rfl, ⟨w4, w5, w6, w7, w9, w10, w11, w12, w8, w13, w14, w15, w16, rfl⟩⟩ rfl dX10_week_95
          · by_cases q19 : zn = 2
            · rw [q19]
              refine j_tabIn C 96 (by decide) (by decide) rfl (by decide) dX10_week_53 ?_
              refine j_aload_n C 0 rfl dX10_week_96 ?_
              refine gX_0_3 C tb_431 dX10_week_97 ?_
              refine gX_32_8 C tb_248 (w15) rfl dX10_week_100 ?_
              refine j_S01 C (c_orNone w15) kyX10_orNone tb_493 tb_494 rfl (Nat.le_of_ble_eq_true rfl) ⟨by decide, by decide⟩ ⟨by decide, by decide⟩ dX10_week_103 rfl ?_
              refine j_w (cX g kk (sI (sI (sI (sI (sI (sF (sF (sF (sF (sF (sF (sF (sF σ 28 w4) 29 w5) 30 w6) 31 w7) 34 w9) 35 w10) 36 w11) 37 w12) 437 w8) 518 w13) 519 w14) 520 w15) 521 w16)) (congrArg (cX g kk) (show sI (sI (sI (sI (sF (sF (sF (sF (sI (sF (sF (sF (sF σ 28 w4) 29 w5) 30 w6) 31 w7) 437 w8) 34 w9) 35 w10) 36 w11) 37 w12) 518 w13) 519 w14) 520 w15) 521 w16 = sI (sI (sI (sI (sI (sF (sF (sF (sF (sF (sF (sF (sF σ 28 w4) 29 w5) 30 w6) 31 w7) 34 w9) 35 w10) 36 w11) 37 w12) 437 w8) 518 w13) 519 w14) 520 w15) 521 w16 from (wrI (wrI (wrI (wrI (Eq.trans (wrF (Eq.trans (wrF (Eq.trans (wrF wrFI) wrFI)) wrFI)) wrFI))))))) ?_
              exact j_iret C E (sI (sI (sI (sI (sI (sF (sF (sF (sF (sF (sF (sF (sF σ 28 w4) 29 w5) 30 w6) 31 w7) 34 w9) 35 w10) 36 w11) 37 w12) 437 w8) 518 w13) 519 w14) 520 w15) 521 w16) ⟨_, rfl, ⟨w4, w5, w6, w7, w9, w10, w11, w12, w8, w13, w14, w15, w16, rfl⟩⟩ rfl dX10_week_106
            · refine j_tabOut C 107 (swOutN 2 (by omega) (by omega)) (by decide) dX10_week_53 ?_
              refine j_aload_n C 0 rfl dX10_week_107 ?_
              refine gX_0_3 C tb_431 dX10_week_108 ?_
              refine gX_32_9 C tb_250 (w16) rfl dX10_week_111 ?_
              refine j_S01 C (c_orNone w16) kyX10_orNone tb_493 tb_494 rfl (Nat.le_of_ble_eq_true rfl) ⟨by decide, by decide⟩ ⟨by decide, by decide⟩ dX10_week_114 rfl ?_
              refine j_w (cX g kk (sI (sI (sI (sI (sI (sF (sF (sF (sF (sF (sF (sF (sF σ 28 w4) 29 w5) 30 w6) 31 w7) 34 w9) 35 w10) 36 w11) 37 w12) 437 w8) 518 w13) 519 w14) 520 w15) 521 w16)) (congrArg (cX g kk) (show sI (sI (sI (sI (sF (sF (sF (sF (sI (sF (sF (sF (sF σ 28 w4) 29 w5) 30 w6) 31 w7) 437 w8) 34 w9) 35 w10) 36 w11) 37 w12) 518 w13) 519 w14) 520 w15) 521 w16 = sI (sI (sI (sI (sI (sF (sF (sF (sF (sF (sF (sF (sF σ 28 w4) 29 w5) 30 w6) 31 w7) 34 w9) 35 w10) 36 w11) 37 w12) 437 w8) 518 w13) 519 w14) 520 w15) 521 w16 from (wrI (wrI (wrI (wrI (Eq.trans (wrF (Eq.trans (wrF (Eq.trans (wrF wrFI) wrFI)) wrFI)) wrFI))))))) ?_
              exact j_iret C E (sI (sI (sI (sI (sI (sF (sF (sF (sF (sF (sF (sF (sF σ 28 w4) 29 w5) 30 w6) 31 w7) 34 w9) 35 w10) 36 w11) 37 w12) 437 w8) 518 w13) 519 w14) 520 w15) 521 w16) ⟨_, rfl, ⟨w4, w5, w6, w7, w9, w10, w11, w12, w8, w13, w14, w15, w16, rfl⟩⟩ rfl dX10_week_117
      · replace c3 := bI_f c3
        refine j_bipush C ((-2)) (by decide) dX10_week_29 ?_
        refine j_w (cX g kk (sF σ 28 (σ.2.1 28))) (congrArg (cX g kk) (wrFi (S := σ) (c := 28) (v := σ.2.1 28) rfl)) ?_
        refine j_w (cX g kk (sF (sF σ 28 (σ.2.1 28)) 29 (σ.2.1 29))) (congrArg (cX g kk) (wrFi (S := (sF σ 28 (σ.2.1 28))) (c := 29) (v := σ.2.1 29) (gtFF (by decide) rfl))) ?_
        refine j_w (cX g kk (sF (sF (sF σ 28 (σ.2.1 28)) 29 (σ.2.1 29)) 30 (σ.2.1 30))) (congrArg (cX g kk) (wrFi (S := (sF (sF σ 28 (σ.2.1 28)) 29 (σ.2.1 29))) (c := 30) (v := σ.2.1 30) (gtFF (by decide) (gtFF (by decide) rfl)))) ?_
        refine j_w (cX g kk (sF (sF (sF (sF σ 28 (σ.2.1 28)) 29 (σ.2.1 29)) 30 (σ.2.1 30)) 31 (σ.2.1 31))) (congrArg (cX g kk) (wrFi (S := (sF (sF (sF σ 28 (σ.2.1 28)) 29 (σ.2.1 29)) 30 (σ.2.1 30))) (c := 31) (v := σ.2.1 31) (gtFF (by decide) (gtFF (by decide) (gtFF (by decide) rfl))))) ?_
        refine j_w (cX g kk (sF (sF (sF (sF (sF σ 28 (σ.2.1 28)) 29 (σ.2.1 29)) 30 (σ.2.1 30)) 31 (σ.2.1 31)) 34 (σ.2.1 34))) (congrArg (cX g kk) (wrFi (S := (sF (sF (sF (sF σ 28 (σ.2.1 28)) 29 (σ.2.1 29)) 30 (σ.2.1 30)) 31 (σ.2.1 31))) (c := 34) (v := σ.2.1 34) (gtFF (by decide) (gtFF (by decide) (gtFF (by decide) (gtFF (by decide) rfl)))))) ?_
        refine j_w (cX g kk (sF (sF (sF (sF (sF (sF σ 28 (σ.2.1 28)) 29 (σ.2.1 29)) 30 (σ.2.1 30)) 31 (σ.2.1 31)) 34 (σ.2.1 34)) 35 (σ.2.1 35))) (congrArg (cX g kk) (wrFi (S := (sF (sF (sF (sF (sF σ 28 (σ.2.1 28)) 29 (σ.2.1 29)) 30 (σ.2.1 30)) 31 (σ.2.1 31)) 34 (σ.2.1 34))) (c := 35) (v := σ.2.1 35) (gtFF (by decide) (gtFF (by decide) (gtFF (by decide) (gtFF (by decide) (gtFF (by decide) rfl))))))) ?_
        refine j_w (cX g kk (sF (sF (sF (sF (sF (sF (sF σ 28 (σ.2.1 28)) 29 (σ.2.1 29)) 30 (σ.2.1 30)) 31 (σ.2.1 31)) 34 (σ.2.1 34)) 35 (σ.2.1 35)) 36 (σ.2.1 36))) (congrArg (cX g kk) (wrFi (S := (sF (sF (sF (sF (sF (sF σ 28 (σ.2.1 28)) 29 (σ.2.1 29)) 30 (σ.2.1 30)) 31 (σ.2.1 31)) 34 (σ.2.1 34)) 35 (σ.2.1 35))) (c := 36) (v := σ.2.1 36) (gtFF (by decide) (gtFF (by decide) (gtFF (by decide) (gtFF (by decide) (gtFF (by decide) (gtFF (by decide) rfl)))))))) ?_
        refine j_w (cX g kk (sF (sF (sF (sF (sF (sF (sF (sF σ 28 (σ.2.1 28)) 29 (σ.2.1 29)) 30 (σ.2.1 30)) 31 (σ.2.1 31)) 34 (σ.2.1 34)) 35 (σ.2.1 35)) 36 (σ.2.1 36)) 37 (σ.2.1 37))) (congrArg (cX g kk) (wrFi (S := (sF (sF (sF (sF (sF (sF (sF σ 28 (σ.2.1 28)) 29 (σ.2.1 29)) 30 (σ.2.1 30)) 31 (σ.2.1 31)) 34 (σ.2.1 34)) 35 (σ.2.1 35)) 36 (σ.2.1 36))) (c := 37) (v := σ.2.1 37) (gtFF (by decide) (gtFF (by decide) (gtFF (by decide) (gtFF (by decide) (gtFF (by decide) (gtFF (by decide) (gtFF (by decide) rfl))))))))) ?_
        refine j_w (cX g kk (sI (sF (sF (sF (sF (sF (sF (sF (sF σ 28 (σ.2.1 28)) 29 (σ.2.1 29)) 30 (σ.2.1 30)) 31 (σ.2.1 31)) 34 (σ.2.1 34)) 35 (σ.2.1 35)) 36 (σ.2.1 36)) 37 (σ.2.1 37)) 437 (σ.1 437))) (congrArg (cX g kk) (wrIi (S := (sF (sF (sF (sF (sF (sF (sF (sF σ 28 (σ.2.1 28)) 29 (σ.2.1 29)) 30 (σ.2.1 30)) 31 (σ.2.1 31)) 34 (σ.2.1 34)) 35 (σ.2.1 35)) 36 (σ.2.1 36)) 37 (σ.2.1 37))) (c := 437) (v := σ.1 437) (gtIF (gtIF (gtIF (gtIF (gtIF (gtIF (gtIF (gtIF rfl)))))))))) ?_
        refine j_w (cX g kk (sI (sI (sF (sF (sF (sF (sF (sF (sF (sF σ 28 (σ.2.1 28)) 29 (σ.2.1 29)) 30 (σ.2.1 30)) 31 (σ.2.1 31)) 34 (σ.2.1 34)) 35 (σ.2.1 35)) 36 (σ.2.1 36)) 37 (σ.2.1 37)) 437 (σ.1 437)) 518 (σ.1 518))) (congrArg (cX g kk) (wrIi (S := (sI (sF (sF (sF (sF (sF (sF (sF (sF σ 28 (σ.2.1 28)) 29 (σ.2.1 29)) 30 (σ.2.1 30)) 31 (σ.2.1 31)) 34 (σ.2.1 34)) 35 (σ.2.1 35)) 36 (σ.2.1 36)) 37 (σ.2.1 37)) 437 (σ.1 437))) (c := 518) (v := σ.1 518) (gtII (by decide) (gtIF (gtIF (gtIF (gtIF (gtIF (gtIF (gtIF (gtIF rfl))))))))))) ?_
        refine j_w (cX g kk (sI (sI (sI (sF (sF (sF (sF (sF (sF (sF (sF σ 28 (σ.2.1 28)) 29 (σ.2.1 29)) 30 (σ.2.1 30)) 31 (σ.2.1 31)) 34 (σ.2.1 34)) 35 (σ.2.1 35)) 36 (σ.2.1 36)) 37 (σ.2.1 37)) 437 (σ.1 437)) 518 (σ.1 518)) 519 (σ.1 519))) (congrArg (cX g kk) (wrIi (S := (sI (sI (sF (sF (sF (sF (sF (sF (sF (sF σ 28 (σ.2.1 28)) 29 (σ.2.1 29)) 30 (σ.2.1 30)) 31 (σ.2.1 31)) 34 (σ.2.1 34)) 35 (σ.2.1 35)) 36 (σ.2.1 36)) 37 (σ.2.1 37)) 437 (σ.1 437)) 518 (σ.1 518))) (c := 519) (v := σ.1 519) (gtII (by decide) (gtII (by decide) (gtIF (gtIF (gtIF (gtIF (gtIF (gtIF (gtIF (gtIF rfl)))))))))))) ?_
        refine j_w (cX g kk (sI (sI (sI (sI (sF (sF (sF (sF (sF (sF (sF (sF σ 28 (σ.2.1 28)) 29 (σ.2.1 29)) 30 (σ.2.1 30)) 31 (σ.2.1 31)) 34 (σ.2.1 34)) 35 (σ.2.1 35)) 36 (σ.2.1 36)) 37 (σ.2.1 37)) 437 (σ.1 437)) 518 (σ.1 518)) 519 (σ.1 519)) 520 (σ.1 520))) (congrArg (cX g kk) (wrIi (S := (sI (sI (sI (sF (sF (sF (sF (sF (sF (sF (sF σ 28 (σ.2.1 28)) 29 (σ.2.1 29)) 30 (σ.2.1 30)) 31 (σ.2.1 31)) 34 (σ.2.1 34)) 35 (σ.2.1 35)) 36 (σ.2.1 36)) 37 (σ.2.1 37)) 437 (σ.1 437)) 518 (σ.1 518)) 519 (σ.1 519))) (c := 520) (v := σ.1 520) (gtII (by decide) (gtII (by decide) (gtII (by decide) (gtIF (gtIF (gtIF (gtIF (gtIF (gtIF (gtIF (gtIF rfl))))))))))))) ?_
        refine j_w (cX g kk (sI (sI (sI (sI (sI (sF (sF (sF (sF (sF (sF (sF (sF σ 28 (σ.2.1 28)) 29 (σ.2.1 29)) 30 (σ.2.1 30)) 31 (σ.2.1 31)) 34 (σ.2.1 34)) 35 (σ.2.1 35)) 36 (σ.2.1 36)) 37 (σ.2.1 37)) 437 (σ.1 437)) 518 (σ.1 518)) 519 (σ.1 519)) 520 (σ.1 520)) 521 (σ.1 521))) (congrArg (cX g kk) (wrIi (S := (sI (sI (sI (sI (sF (sF (sF (sF (sF (sF (sF (sF σ 28 (σ.2.1 28)) 29 (σ.2.1 29)) 30 (σ.2.1 30)) 31 (σ.2.1 31)) 34 (σ.2.1 34)) 35 (σ.2.1 35)) 36 (σ.2.1 36)) 37 (σ.2.1 37)) 437 (σ.1 437)) 518 (σ.1 518)) 519 (σ.1 519)) 520 (σ.1 520))) (c := 521) (v := σ.1 521) (gtII (by decide) (gtII (by decide) (gtII (by decide) (gtII (by decide) (gtIF (gtIF (gtIF (gtIF (gtIF (gtIF (gtIF (gtIF rfl)))))))))))))) ?_
        exact j_iret C E (sI (sI (sI (sI (sI (sF (sF (sF (sF (sF (sF (sF (sF σ 28 (σ.2.1 28)) 29 (σ.2.1 29)) 30 (σ.2.1 30)) 31 (σ.2.1 31)) 34 (σ.2.1 34)) 35 (σ.2.1 35)) 36 (σ.2.1 36)) 37 (σ.2.1 37)) 437 (σ.1 437)) 518 (σ.1 518)) 519 (σ.1 519)) 520 (σ.1 520)) 521 (σ.1 521)) ⟨_, rfl, ⟨(σ.2.1 28), (σ.2.1 29), (σ.2.1 30), (σ.2.1 31), (σ.2.1 34), (σ.2.1 35), (σ.2.1 36), (σ.2.1 37), (σ.1 437), (σ.1 518), (σ.1 519), (σ.1 520), (σ.1 521), rfl⟩⟩ rfl dX10_week_31
    · replace c2 := bI_f c2
      refine j_iconst C ((-1)) (by decide) dX10_week_18 ?_
      refine j_w (cX g kk (sF σ 28 (σ.2.1 28))) (congrArg (cX g kk) (wrFi (S := σ) (c := 28) (v := σ.2.1 28) rfl)) ?_
      refine j_w (cX g kk (sF (sF σ 28 (σ.2.1 28)) 29 (σ.2.1 29))) (congrArg (cX g kk) (wrFi (S := (sF σ 28 (σ.2.1 28))) (c := 29) (v := σ.2.1 29) (gtFF (by decide) rfl))) ?_
      refine j_w (cX g kk (sF (sF (sF σ 28 (σ.2.1 28)) 29 (σ.2.1 29)) 30 (σ.2.1 30))) (congrArg (cX g kk) (wrFi (S := (sF (sF σ 28 (σ.2.1 28)) 29 (σ.2.1 29))) (c := 30) (v := σ.2.1 30) (gtFF (by decide) (gtFF (by decide) rfl)))) ?_
      refine j_w (cX g kk (sF (sF (sF (sF σ 28 (σ.2.1 28)) 29 (σ.2.1 29)) 30 (σ.2.1 30)) 31 (σ.2.1 31))) (congrArg (cX g kk) (wrFi (S := (sF (sF (sF σ 28 (σ.2.1 28)) 29 (σ.2.1 29)) 30 (σ.2.1 30))) (c := 31) (v := σ.2.1 31) (gtFF (by decide) (gtFF (by decide) (gtFF (by decide) rfl))))) ?_
      refine j_w (cX g kk (sF (sF (sF (sF (sF σ 28 (σ.2.1 28)) 29 (σ.2.1 29)) 30 (σ.2.1 30)) 31 (σ.2.1 31)) 34 (σ.2.1 34))) (congrArg (cX g kk) (wrFi (S := (sF (sF (sF (sF σ 28 (σ.2.1 28)) 29 (σ.2.1 29)) 30 (σ.2.1 30)) 31 (σ.2.1 31))) (c := 34) (v := σ.2.1 34) (gtFF (by decide) (gtFF (by decide) (gtFF (by decide) (gtFF (by decide) rfl)))))) ?_
      refine j_w (cX g kk (sF (sF (sF (sF (sF (sF σ 28 (σ.2.1 28)) 29 (σ.2.1 29)) 30 (σ.2.1 30)) 31 (σ.2.1 31)) 34 (σ.2.1 34)) 35 (σ.2.1 35))) (congrArg (cX g kk) (wrFi (S := (sF (sF (sF (sF (sF σ 28 (σ.2.1 28)) 29 (σ.2.1 29)) 30 (σ.2.1 30)) 31 (σ.2.1 31)) 34 (σ.2.1 34))) (c := 35) (v := σ.2.1 35) (gtFF (by decide) (gtFF (by decide) (gtFF (by decide) (gtFF (by decide) (gtFF (by decide) rfl))))))) ?_
      refine j_w (cX g kk (sF (sF (sF (sF (sF (sF (sF σ 28 (σ.2.1 28)) 29 (σ.2.1 29)) 30 (σ.2.1 30)) 31 (σ.2.1 31)) 34 (σ.2.1 34)) 35 (σ.2.1 35)) 36 (σ.2.1 36))) (congrArg (cX g kk) (wrFi (S := (sF (sF (sF (sF (sF (sF σ 28 (σ.2.1 28)) 29 (σ.2.1 29)) 30 (σ.2.1 30)) 31 (σ.2.1 31)) 34 (σ.2.1 34)) 35 (σ.2.1 35))) (c := 36) (v := σ.2.1 36) (gtFF (by decide) (gtFF (by decide) (gtFF (by decide) (gtFF (by decide) (gtFF (by decide) (gtFF (by decide) rfl)))))))) ?_
      refine j_w (cX g kk (sF (sF (sF (sF (sF (sF (sF (sF σ 28 (σ.2.1 28)) 29 (σ.2.1 29)) 30 (σ.2.1 30)) 31 (σ.2.1 31)) 34 (σ.2.1 34)) 35 (σ.2.1 35)) 36 (σ.2.1 36)) 37 (σ.2.1 37))) (congrArg (cX g kk) (wrFi (S := (sF (sF (sF (sF (sF (sF (sF σ 28 (σ.2.1 28)) 29 (σ.2.1 29)) 30 (σ.2.1 30)) 31 (σ.2.1 31)) 34 (σ.2.1 34)) 35 (σ.2.1 35)) 36 (σ.2.1 36))) (c := 37) (v := σ.2.1 37) (gtFF (by decide) (gtFF (by decide) (gtFF (by decide) (gtFF (by decide) (gtFF (by decide) (gtFF (by decide) (gtFF (by decide) rfl))))))))) ?_
      refine j_w (cX g kk (sI (sF (sF (sF (sF (sF (sF (sF (sF σ 28 (σ.2.1 28)) 29 (σ.2.1 29)) 30 (σ.2.1 30)) 31 (σ.2.1 31)) 34 (σ.2.1 34)) 35 (σ.2.1 35)) 36 (σ.2.1 36)) 37 (σ.2.1 37)) 437 (σ.1 437))) (congrArg (cX g kk) (wrIi (S := (sF (sF (sF (sF (sF (sF (sF (sF σ 28 (σ.2.1 28)) 29 (σ.2.1 29)) 30 (σ.2.1 30)) 31 (σ.2.1 31)) 34 (σ.2.1 34)) 35 (σ.2.1 35)) 36 (σ.2.1 36)) 37 (σ.2.1 37))) (c := 437) (v := σ.1 437) (gtIF (gtIF (gtIF (gtIF (gtIF (gtIF (gtIF (gtIF rfl)))))))))) ?_
      refine j_w (cX g kk (sI (sI (sF (sF (sF (sF (sF (sF (sF (sF σ 28 (σ.2.1 28)) 29 (σ.2.1 29)) 30 (σ.2.1 30)) 31 (σ.2.1 31)) 34 (σ.2.1 34)) 35 (σ.2.1 35)) 36 (σ.2.1 36)) 37 (σ.2.1 37)) 437 (σ.1 437)) 518 (σ.1 518))) (congrArg (cX g kk) (wrIi (S := (sI (sF (sF (sF (sF (sF (sF (sF (sF σ 28 (σ.2.1 28)) 29 (σ.2.1 29)) 30 (σ.2.1 30)) 31 (σ.2.1 31)) 34 (σ.2.1 34)) 35 (σ.2.1 35)) 36 (σ.2.1 36)) 37 (σ.2.1 37)) 437 (σ.1 437))) (c := 518) (v := σ.1 518) (gtII (by decide) (gtIF (gtIF (gtIF (gtIF (gtIF (gtIF (gtIF (gtIF rfl))))))))))) ?_
      refine j_w (cX g kk (sI (sI (sI (sF (sF (sF (sF (sF (sF (sF (sF σ 28 (σ.2.1 28)) 29 (σ.2.1 29)) 30 (σ.2.1 30)) 31 (σ.2.1 31)) 34 (σ.2.1 34)) 35 (σ.2.1 35)) 36 (σ.2.1 36)) 37 (σ.2.1 37)) 437 (σ.1 437)) 518 (σ.1 518)) 519 (σ.1 519))) (congrArg (cX g kk) (wrIi (S := (sI (sI (sF (sF (sF (sF (sF (sF (sF (sF σ 28 (σ.2.1 28)) 29 (σ.2.1 29)) 30 (σ.2.1 30)) 31 (σ.2.1 31)) 34 (σ.2.1 34)) 35 (σ.2.1 35)) 36 (σ.2.1 36)) 37 (σ.2.1 37)) 437 (σ.1 437)) 518 (σ.1 518))) (c := 519) (v := σ.1 519) (gtII (by decide) (gtII (by decide) (gtIF (gtIF (gtIF (gtIF (gtIF (gtIF (gtIF (gtIF rfl)))))))))))) ?_
      refine j_w (cX g kk (sI (sI (sI (sI (sF (sF (sF (sF (sF (sF (sF (sF σ 28 (σ.2.1 28)) 29 (σ.2.1 29)) 30 (σ.2.1 30)) 31 (σ.2.1 31)) 34 (σ.2.1 34)) 35 (σ.2.1 35)) 36 (σ.2.1 36)) 37 (σ.2.1 37)) 437 (σ.1 437)) 518 (σ.1 518)) 519 (σ.1 519)) 520 (σ.1 520))) (congrArg (cX g kk) (wrIi (S := (sI (sI (sI (sF (sF (sF (sF (sF (sF (sF (sF σ 28 (σ.2.1 28)) 29 (σ.2.1 29)) 30 (σ.2.1 30)) 31 (σ.2.1 31)) 34 (σ.2.1 34)) 35 (σ.2.1 35)) 36 (σ.2.1 36)) 37 (σ.2.1 37)) 437 (σ.1 437)) 518 (σ.1 518)) 519 (σ.1 519))) (c := 520) (v := σ.1 520) (gtII (by decide) (gtII (by decide) (gtII (by decide) (gtIF (gtIF (gtIF (gtIF (gtIF (gtIF (gtIF (gtIF rfl))))))))))))) ?_
      refine j_w (cX g kk (sI (sI (sI (sI (sI (sF (sF (sF (sF (sF (sF (sF (sF σ 28 (σ.2.1 28)) 29 (σ.2.1 29)) 30 (σ.2.1 30)) 31 (σ.2.1 31)) 34 (σ.2.1 34)) 35 (σ.2.1 35)) 36 (σ.2.1 36)) 37 (σ.2.1 37)) 437 (σ.1 437)) 518 (σ.1 518)) 519 (σ.1 519)) 520 (σ.1 520)) 521 (σ.1 521))) (congrArg (cX g kk) (wrIi (S := (sI (sI (sI (sI (sF (sF (sF (sF (sF (sF (sF (sF σ 28 (σ.2.1 28)) 29 (σ.2.1 29)) 30 (σ.2.1 30)) 31 (σ.2.1 31)) 34 (σ.2.1 34)) 35 (σ.2.1 35)) 36 (σ.2.1 36)) 37 (σ.2.1 37)) 437 (σ.1 437)) 518 (σ.1 518)) 519 (σ.1 519)) 520 (σ.1 520))) (c := 521) (v := σ.1 521) (gtII (by decide) (gtII (by decide) (gtII (by decide) (gtII (by decide) (gtIF (gtIF (gtIF (gtIF (gtIF (gtIF (gtIF (gtIF rfl)))))))))))))) ?_
      exact j_iret C E (sI (sI (sI (sI (sI (sF (sF (sF (sF (sF (sF (sF (sF σ 28 (σ.2.1 28)) 29 (σ.2.1 29)) 30 (σ.2.1 30)) 31 (σ.2.1 31)) 34 (σ.2.1 34)) 35 (σ.2.1 35)) 36 (σ.2.1 36)) 37 (σ.2.1 37)) 437 (σ.1 437)) 518 (σ.1 518)) 519 (σ.1 519)) 520 (σ.1 520)) 521 (σ.1 521)) ⟨_, rfl, ⟨(σ.2.1 28), (σ.2.1 29), (σ.2.1 30), (σ.2.1 31), (σ.2.1 34), (σ.2.1 35), (σ.2.1 36), (σ.2.1 37), (σ.1 437), (σ.1 518), (σ.1 519), (σ.1 520), (σ.1 521), rfl⟩⟩ rfl dX10_week_19
set_option maxRecDepth 100000 in
set_option maxHeartbeats 4000000 in
theorem d_breaks (g kk : Nat → Nat) (σ : St) (k : Nat) (hk : σ.1 16 = nI k) (hk6 : k ≤ 6) (hI : iX σ) (hP : le_ 24 (σ.1 614)) (x : Int32) (y : Int32) : jM (S := St) yX10_breaks cX10_breaks 3 (some .int) { frames := 5, cells := 0, slots := 0, locals := 115 } kk (cX g kk σ) [.ref (g 0), .int x, .int y] (cX g kk) (rI (fun (r : Int32) (u : St) => ∃ (pF28 : Nat → Int32) (pF29 : Nat → Int32) (pF30 : Nat → Int32) (pF31 : Nat → Int32) (pF39 : Nat → Int32) (pF40 : Nat → Int32) (pI437 : Int32) (pI612 : Int32) (pI613 : Int32) (p : Nat) (pL615 : Int64), u = sL (sI (sI (sI (sI (sF (sF (sF (sF (sF (sF σ 28 pF28) 29 pF29) 30 pF30) 31 pF31) 39 pF39) 40 pF40) 437 pI437) 612 pI612) 613 pI613) 614 (nI p)) 615 pL615 ∧ (p ≤ 24))) := by
  refine j_entry [(0, .ref (g 0)), (1, .int x), (2, .int y)] (by decide) (Nat.le_of_ble_eq_true rfl) rfl ?_
  intro X C E HI
  obtain ⟨p0, hp0, ep0⟩ := id hP
  refine j_aload_n C 0 rfl dX10_breaks_0 ?_
  refine j_iload_n C 1 rfl dX10_breaks_1 ?_
  refine j_V1 C (c_isCan g kk σ k hk hk6 x) kyX10_isCan tb_478 tb_480 sp_0 0 rfl (eX_0 g kk _) rfl (Nat.le_of_ble_eq_true rfl) ⟨by decide, by decide⟩ dX10_breaks_2 rfl (fun vr ur hp => ?_)
  obtain ⟨r, rfl, rfl, hu⟩ := hp
  replace hu := hu.symm
  subst hu
  refine j_if_ne C 11 (by decide) dX10_breaks_5 (fun c1 => ?_) (fun c1 => ?_)
  · replace c1 := bI_t c1
    obtain ⟨xn, xn1, rfl⟩ := cB_nat (by omega) c1
    refine j_iload_n C 2 rfl dX10_breaks_11 ?_
    refine j_iconst C (nI 0) (by decide) dX10_breaks_12 ?_
    refine j_iconst C (nI 1) (by decide) dX10_breaks_13 ?_
    refine j_S01 C (c_isWithin y (nI 0) (nI 1)) kyX10_isWithin tb_467 tb_468 rfl (Nat.le_of_ble_eq_true rfl) ⟨by decide, by decide⟩ ⟨by decide, by decide⟩ dX10_breaks_14 rfl ?_
    refine j_if_ne C 23 (by decide) dX10_breaks_17 (fun c2 => ?_) (fun c2 => ?_)
    · replace c2 := bI_t c2
      obtain ⟨yn, yn1, yn2, rfl⟩ := wB_nat (by decide) (by decide) c2
      refine j_aload_n C 0 rfl dX10_breaks_23 ?_
      refine gX_0_2 C tb_430 dX10_breaks_24 ?_
      refine j_V1 C (d_refresh g kk σ k hk hk6 hI  ) kyX7_refresh tb_562 tb_563 tb_564 27 rfl (eX_27 g kk _) rfl (Nat.le_of_ble_eq_true rfl) ⟨by decide, by decide⟩ dX10_breaks_27 rfl (fun vr ur hp => ?_)
      obtain ⟨rfl, w3, w4, w5, w6, w7, hu⟩ := hp
      replace hu := hu.symm
      subst hu
      refine j_aload_n C 0 rfl dX10_breaks_30 ?_
      refine gX_0_4 C tb_432 dX10_breaks_31 ?_
      refine j_iload_n C 1 rfl dX10_breaks_34 ?_
      refine j_V1 C (d_find g kk (sI (sF (sF (sF (sF σ 28 w3) 29 w4) 30 w5) 31 w6) 437 w7) k hk hk6 hI hP xn (by first | assumption | omega)) kyX0_find tb_652 tb_653 tb_654 38 rfl (eX_38 g kk _) rfl (Nat.le_of_ble_eq_true rfl) ⟨by decide, by decide⟩ dX10_breaks_35 rfl (fun vr ur hp => ?_)
      obtain ⟨r17, rfl, w8, w9, w10, w11, w12, w13, hu, g14, g15, g16⟩ := hp
      replace hu := hu.symm
      subst hu
      refine j_if_ne C 44 (by decide) dX10_breaks_38 (fun c18 => ?_) (fun c18 => ?_)
      · refine j_iload_n C 2 rfl dX10_breaks_44 ?_
        refine j_if_neN C 58 (by decide) (by omega) dX10_breaks_45 (fun c19 => ?_) (fun c19 => ?_)
        · refine j_aload_n C 0 rfl dX10_breaks_58 ?_
          refine gX_0_4 C tb_432 dX10_breaks_59 ?_
          refine j_V1 C (d_step g kk (sL (sI (sI (sI (sF (sF (sI (sF (sF (sF (sF σ 28 w3) 29 w4) 30 w5) 31 w6) 437 w7) 39 w8) 40 w9) 612 (nI w10)) 613 w11) 614 (nI w12)) 615 w13) k hk hk6 hI w12 rfl (by omega)  ) kyX0_step tb_674 tb_675 tb_676 38 rfl (eX_38 g kk _) rfl (Nat.le_of_ble_eq_true rfl) ⟨by decide, by decide⟩ dX10_breaks_62 rfl (fun vr ur hp => ?_)
          obtain ⟨r20, rfl, hu⟩ := hp
          replace hu := hu.symm
          subst hu
          refine j_w (cX g kk (sL (sI (sI (sI (sI (sF (sF (sF (sF (sF (sF σ 28 w3) 29 w4) 30 w5) 31 w6) 39 w8) 40 w9) 437 w7) 612 (nI w10)) 613 w11) 614 (nI w12)) 615 w13)) (congrArg (cX g kk) (show sL (sI (sI (sI (sF (sF (sI (sF (sF (sF (sF σ 28 w3) 29 w4) 30 w5) 31 w6) 437 w7) 39 w8) 40 w9) 612 (nI w10)) 613 w11) 614 (nI w12)) 615 w13 = sL (sI (sI (sI (sI (sF (sF (sF (sF (sF (sF σ 28 w3) 29 w4) 30 w5) 31 w6) 39 w8) 40 w9) 437 w7) 612 (nI w10)) 613 w11) 614 (nI w12)) 615 w13 from (wrL (wrI (wrI (wrI (Eq.trans (wrF wrFI) wrFI))))))) ?_
          exact j_iret C E (sL (sI (sI (sI (sI (sF (sF (sF (sF (sF (sF σ 28 w3) 29 w4) 30 w5) 31 w6) 39 w8) 40 w9) 437 w7) 612 (nI w10)) 613 w11) 614 (nI w12)) 615 w13) ⟨_, rfl, ⟨w3, w4, w5, w6, w8, w9, w7, (nI w10), w11, w12, w13, rfl, (by omega)⟩⟩ rfl dX10_breaks_65
        · refine j_aload_n C 0 rfl dX10_breaks_48 ?_
          refine gX_0_4 C tb_432 dX10_breaks_49 ?_
          refine j_V1 C (d_fdb g kk (sL (sI (sI (sI (sF (sF (sI (sF (sF (sF (sF σ 28 w3) 29 w4) 30 w5) 31 w6) 437 w7) 39 w8) 40 w9) 612 (nI w10)) 613 w11) 614 (nI w12)) 615 w13) k hk hk6 hI w12 rfl (by omega)  ) kyX0_firstDayBehind tb_670 tb_671 tb_672 38 rfl (eX_38 g kk _) rfl (Nat.le_of_ble_eq_true rfl) ⟨by decide, by decide⟩ dX10_breaks_52 rfl (fun vr ur hp => ?_)
          obtain ⟨r21, rfl, hu⟩ := hp
          replace hu := hu.symm
          subst hu
          refine j_goto C 65 (by decide) dX10_breaks_55 ?_
          refine j_w (cX g kk (sL (sI (sI (sI (sI (sF (sF (sF (sF (sF (sF σ 28 w3) 29 w4) 30 w5) 31 w6) 39 w8) 40 w9) 437 w7) 612 (nI w10)) 613 w11) 614 (nI w12)) 615 w13)) (congrArg (cX g kk) (show sL (sI (sI (sI (sF (sF (sI (sF (sF (sF (sF σ 28 w3) 29 w4) 30 w5) 31 w6) 437 w7) 39 w8) 40 w9) 612 (nI w10)) 613 w11) 614 (nI w12)) 615 w13 = sL (sI (sI (sI (sI (sF (sF (sF (sF (sF (sF σ 28 w3) 29 w4) 30 w5) 31 w6) 39 w8) 40 w9) 437 w7) 612 (nI w10)) 613 w11) 614 (nI w12)) 615 w13 from (wrL (wrI (wrI (wrI (Eq.trans (wrF wrFI) wrFI))))))) ?_
          exact j_iret C E (sL (sI (sI (sI (sI (sF (sF (sF (sF (sF (sF σ 28 w3) 29 w4) 30 w5) 31 w6) 39 w8) 40 w9) 437 w7) 612 (nI w10)) 613 w11) 614 (nI w12)) 615 w13) ⟨_, rfl, ⟨w3, w4, w5, w6, w8, w9, w7, (nI w10), w11, w12, w13, rfl, (by omega)⟩⟩ rfl dX10_breaks_65
      · refine j_ldc C tb_669 dX10_breaks_41 ?_
        refine j_w (cX g kk (sL (sI (sI (sI (sI (sF (sF (sF (sF (sF (sF σ 28 w3) 29 w4) 30 w5) 31 w6) 39 w8) 40 w9) 437 w7) 612 (nI w10)) 613 w11) 614 (nI w12)) 615 w13)) (congrArg (cX g kk) (show sL (sI (sI (sI (sF (sF (sI (sF (sF (sF (sF σ 28 w3) 29 w4) 30 w5) 31 w6) 437 w7) 39 w8) 40 w9) 612 (nI w10)) 613 w11) 614 (nI w12)) 615 w13 = sL (sI (sI (sI (sI (sF (sF (sF (sF (sF (sF σ 28 w3) 29 w4) 30 w5) 31 w6) 39 w8) 40 w9) 437 w7) 612 (nI w10)) 613 w11) 614 (nI w12)) 615 w13 from (wrL (wrI (wrI (wrI (Eq.trans (wrF wrFI) wrFI))))))) ?_
        exact j_iret C E (sL (sI (sI (sI (sI (sF (sF (sF (sF (sF (sF σ 28 w3) 29 w4) 30 w5) 31 w6) 39 w8) 40 w9) 437 w7) 612 (nI w10)) 613 w11) 614 (nI w12)) 615 w13) ⟨_, rfl, ⟨w3, w4, w5, w6, w8, w9, w7, (nI w10), w11, w12, w13, rfl, (by omega)⟩⟩ rfl dX10_breaks_43
    · replace c2 := bI_f c2
      refine j_ldc C tb_651 dX10_breaks_20 ?_
      refine j_w (cX g kk (sI σ 614 (nI p0))) (congrArg (cX g kk) (sI_self (σ := σ) (i := 614) (v := nI p0) ep0).symm) ?_
      refine j_w (cX g kk (sF (sI σ 614 (nI p0)) 28 (σ.2.1 28))) (congrArg (cX g kk) (wrFi (S := (sI σ 614 (nI p0))) (c := 28) (v := σ.2.1 28) (gtFI rfl))) ?_
      refine j_w (cX g kk (sF (sF (sI σ 614 (nI p0)) 28 (σ.2.1 28)) 29 (σ.2.1 29))) (congrArg (cX g kk) (wrFi (S := (sF (sI σ 614 (nI p0)) 28 (σ.2.1 28))) (c := 29) (v := σ.2.1 29) (gtFF (by decide) (gtFI rfl)))) ?_
      refine j_w (cX g kk (sF (sF (sF (sI σ 614 (nI p0)) 28 (σ.2.1 28)) 29 (σ.2.1 29)) 30 (σ.2.1 30))) (congrArg (cX g kk) (wrFi (S := (sF (sF (sI σ 614 (nI p0)) 28 (σ.2.1 28)) 29 (σ.2.1 29))) (c := 30) (v := σ.2.1 30) (gtFF (by decide) (gtFF (by decide) (gtFI rfl))))) ?_
      refine j_w (cX g kk (sF (sF (sF (sF (sI σ 614 (nI p0)) 28 (σ.2.1 28)) 29 (σ.2.1 29)) 30 (σ.2.1 30)) 31 (σ.2.1 31))) (congrArg (cX g kk) (wrFi (S := (sF (sF (sF (sI σ 614 (nI p0)) 28 (σ.2.1 28)) 29 (σ.2.1 29)) 30 (σ.2.1 30))) (c := 31) (v := σ.2.1 31) (gtFF (by decide) (gtFF (by decide) (gtFF (by decide) (gtFI rfl)))))) ?_
      refine j_w (cX g kk (sF (sF (sF (sF (sF (sI σ 614 (nI p0)) 28 (σ.2.1 28)) 29 (σ.2.1 29)) 30 (σ.2.1 30)) 31 (σ.2.1 31)) 39 (σ.2.1 39))) (congrArg (cX g kk) (wrFi (S := (sF (sF (sF (sF (sI σ 614 (nI p0)) 28 (σ.2.1 28)) 29 (σ.2.1 29)) 30 (σ.2.1 30)) 31 (σ.2.1 31))) (c := 39) (v := σ.2.1 39) (gtFF (by decide) (gtFF (by decide) (gtFF (by decide) (gtFF (by decide) (gtFI rfl))))))) ?_
      refine j_w (cX g kk (sF (sF (sF (sF (sF (sF (sI σ 614 (nI p0)) 28 (σ.2.1 28)) 29 (σ.2.1 29)) 30 (σ.2.1 30)) 31 (σ.2.1 31)) 39 (σ.2.1 39)) 40 (σ.2.1 40))) (congrArg (cX g kk) (wrFi (S := (sF (sF (sF (sF (sF (sI σ 614 (nI p0)) 28 (σ.2.1 28)) 29 (σ.2.1 29)) 30 (σ.2.1 30)) 31 (σ.2.1 31)) 39 (σ.2.1 39))) (c := 40) (v := σ.2.1 40) (gtFF (by decide) (gtFF (by decide) (gtFF (by decide) (gtFF (by decide) (gtFF (by decide) (gtFI rfl)))))))) ?_
      refine j_w (cX g kk (sI (sF (sF (sF (sF (sF (sF (sI σ 614 (nI p0)) 28 (σ.2.1 28)) 29 (σ.2.1 29)) 30 (σ.2.1 30)) 31 (σ.2.1 31)) 39 (σ.2.1 39)) 40 (σ.2.1 40)) 437 (σ.1 437))) (congrArg (cX g kk) (wrIi (S := (sF (sF (sF (sF (sF (sF (sI σ 614 (nI p0)) 28 (σ.2.1 28)) 29 (σ.2.1 29)) 30 (σ.2.1 30)) 31 (σ.2.1 31)) 39 (σ.2.1 39)) 40 (σ.2.1 40))) (c := 437) (v := σ.1 437) (gtIF (gtIF (gtIF (gtIF (gtIF (gtIF (gtII (by decide) rfl))))))))) ?_
      refine j_w (cX g kk (sI (sI (sF (sF (sF (sF (sF (sF (sI σ 614 (nI p0)) 28 (σ.2.1 28)) 29 (σ.2.1 29)) 30 (σ.2.1 30)) 31 (σ.2.1 31)) 39 (σ.2.1 39)) 40 (σ.2.1 40)) 437 (σ.1 437)) 612 (σ.1 612))) (congrArg (cX g kk) (wrIi (S := (sI (sF (sF (sF (sF (sF (sF (sI σ 614 (nI p0)) 28 (σ.2.1 28)) 29 (σ.2.1 29)) 30 (σ.2.1 30)) 31 (σ.2.1 31)) 39 (σ.2.1 39)) 40 (σ.2.1 40)) 437 (σ.1 437))) (c := 612) (v := σ.1 612) (gtII (by decide) (gtIF (gtIF (gtIF (gtIF (gtIF (gtIF (gtII (by decide) rfl)))))))))) ?_
      refine j_w (cX g kk (sI (sI (sI (sF (sF (sF (sF (sF (sF (sI σ 614 (nI p0)) 28 (σ.2.1 28)) 29 (σ.2.1 29)) 30 (σ.2.1 30)) 31 (σ.2.1 31)) 39 (σ.2.1 39)) 40 (σ.2.1 40)) 437 (σ.1 437)) 612 (σ.1 612)) 613 (σ.1 613))) (congrArg (cX g kk) (wrIi (S := (sI (sI (sF (sF (sF (sF (sF (sF (sI σ 614 (nI p0)) 28 (σ.2.1 28)) 29 (σ.2.1 29)) 30 (σ.2.1 30)) 31 (σ.2.1 31)) 39 (σ.2.1 39)) 40 (σ.2.1 40)) 437 (σ.1 437)) 612 (σ.1 612))) (c := 613) (v := σ.1 613) (gtII (by decide) (gtII (by decide) (gtIF (gtIF (gtIF (gtIF (gtIF (gtIF (gtII (by decide) rfl))))))))))) ?_
      refine j_w (cX g kk (sL (sI (sI (sI (sF (sF (sF (sF (sF (sF (sI σ 614 (nI p0)) 28 (σ.2.1 28)) 29 (σ.2.1 29)) 30 (σ.2.1 30)) 31 (σ.2.1 31)) 39 (σ.2.1 39)) 40 (σ.2.1 40)) 437 (σ.1 437)) 612 (σ.1 612)) 613 (σ.1 613)) 615 (σ.2.2.1 615))) (congrArg (cX g kk) (wrLi (S := (sI (sI (sI (sF (sF (sF (sF (sF (sF (sI σ 614 (nI p0)) 28 (σ.2.1 28)) 29 (σ.2.1 29)) 30 (σ.2.1 30)) 31 (σ.2.1 31)) 39 (σ.2.1 39)) 40 (σ.2.1 40)) 437 (σ.1 437)) 612 (σ.1 612)) 613 (σ.1 613))) (c := 615) (v := σ.2.2.1 615) (gtLI (gtLI (gtLI (gtLF (gtLF (gtLF (gtLF (gtLF (gtLF (gtLI rfl)))))))))))) ?_
      refine j_w (cX g kk (sL (sI (sI (sI (sI (sF (sF (sF (sF (sF (sF σ 28 (σ.2.1 28)) 29 (σ.2.1 29)) 30 (σ.2.1 30)) 31 (σ.2.1 31)) 39 (σ.2.1 39)) 40 (σ.2.1 40)) 437 (σ.1 437)) 612 (σ.1 612)) 613 (σ.1 613)) 614 (nI p0)) 615 (σ.2.2.1 615))) (congrArg (cX g kk) (show sL (sI (sI (sI (sF (sF (sF (sF (sF (sF (sI σ 614 (nI p0)) 28 (σ.2.1 28)) 29 (σ.2.1 29)) 30 (σ.2.1 30)) 31 (σ.2.1 31)) 39 (σ.2.1 39)) 40 (σ.2.1 40)) 437 (σ.1 437)) 612 (σ.1 612)) 613 (σ.1 613)) 615 (σ.2.2.1 615) = sL (sI (sI (sI (sI (sF (sF (sF (sF (sF (sF σ 28 (σ.2.1 28)) 29 (σ.2.1 29)) 30 (σ.2.1 30)) 31 (σ.2.1 31)) 39 (σ.2.1 39)) 40 (σ.2.1 40)) 437 (σ.1 437)) 612 (σ.1 612)) 613 (σ.1 613)) 614 (nI p0)) 615 (σ.2.2.1 615) from (wrL (Eq.trans (wrI (Eq.trans (wrI (Eq.trans (wrI (Eq.trans (wrF (Eq.trans (wrF (Eq.trans (wrF (Eq.trans (wrF (Eq.trans (wrF wrFI) wrFI)) wrFI)) wrFI)) wrFI)) wrFI)) (wrIc (by decide)))) (wrIc (by decide)))) (wrIc (by decide)))))) ?_
      exact j_iret C E (sL (sI (sI (sI (sI (sF (sF (sF (sF (sF (sF σ 28 (σ.2.1 28)) 29 (σ.2.1 29)) 30 (σ.2.1 30)) 31 (σ.2.1 31)) 39 (σ.2.1 39)) 40 (σ.2.1 40)) 437 (σ.1 437)) 612 (σ.1 612)) 613 (σ.1 613)) 614 (nI p0)) 615 (σ.2.2.1 615)) ⟨_, rfl, ⟨(σ.2.1 28), (σ.2.1 29), (σ.2.1 30), (σ.2.1 31), (σ.2.1 39), (σ.2.1 40), (σ.1 437), (σ.1 612), (σ.1 613), p0, (σ.2.2.1 615), rfl, (by omega)⟩⟩ rfl dX10_breaks_22
  · replace c1 := bI_f c1
    refine j_ldc C tb_650 dX10_breaks_8 ?_
    refine j_w (cX g kk (sI σ 614 (nI p0))) (congrArg (cX g kk) (sI_self (σ := σ) (i := 614) (v := nI p0) ep0).symm) ?_
    refine j_w (cX g kk (sF (sI σ 614 (nI p0)) 28 (σ.2.1 28))) (congrArg (cX g kk) (wrFi (S := (sI σ 614 (nI p0))) (c := 28) (v := σ.2.1 28) (gtFI rfl))) ?_
    refine j_w (cX g kk (sF (sF (sI σ 614 (nI p0)) 28 (σ.2.1 28)) 29 (σ.2.1 29))) (congrArg (cX g kk) (wrFi (S := (sF (sI σ 614 (nI p0)) 28 (σ.2.1 28))) (c := 29) (v := σ.2.1 29) (gtFF (by decide) (gtFI rfl)))) ?_
    refine j_w (cX g kk (sF (sF (sF (sI σ 614 (nI p0)) 28 (σ.2.1 28)) 29 (σ.2.1 29)) 30 (σ.2.1 30))) (congrArg (cX g kk) (wrFi (S := (sF (sF (sI σ 614 (nI p0)) 28 (σ.2.1 28)) 29 (σ.2.1 29))) (c := 30) (v := σ.2.1 30) (gtFF (by decide) (gtFF (by decide) (gtFI rfl))))) ?_
    refine j_w (cX g kk (sF (sF (sF (sF (sI σ 614 (nI p0)) 28 (σ.2.1 28)) 29 (σ.2.1 29)) 30 (σ.2.1 30)) 31 (σ.2.1 31))) (congrArg (cX g kk) (wrFi (S := (sF (sF (sF (sI σ 614 (nI p0)) 28 (σ.2.1 28)) 29 (σ.2.1 29)) 30 (σ.2.1 30))) (c := 31) (v := σ.2.1 31) (gtFF (by decide) (gtFF (by decide) (gtFF (by decide) (gtFI rfl)))))) ?_
    refine j_w (cX g kk (sF (sF (sF (sF (sF (sI σ 614 (nI p0)) 28 (σ.2.1 28)) 29 (σ.2.1 29)) 30 (σ.2.1 30)) 31 (σ.2.1 31)) 39 (σ.2.1 39))) (congrArg (cX g kk) (wrFi (S := (sF (sF (sF (sF (sI σ 614 (nI p0)) 28 (σ.2.1 28)) 29 (σ.2.1 29)) 30 (σ.2.1 30)) 31 (σ.2.1 31))) (c := 39) (v := σ.2.1 39) (gtFF (by decide) (gtFF (by decide) (gtFF (by decide) (gtFF (by decide) (gtFI rfl))))))) ?_
    refine j_w (cX g kk (sF (sF (sF (sF (sF (sF (sI σ 614 (nI p0)) 28 (σ.2.1 28)) 29 (σ.2.1 29)) 30 (σ.2.1 30)) 31 (σ.2.1 31)) 39 (σ.2.1 39)) 40 (σ.2.1 40))) (congrArg (cX g kk) (wrFi (S := (sF (sF (sF (sF (sF (sI σ 614 (nI p0)) 28 (σ.2.1 28)) 29 (σ.2.1 29)) 30 (σ.2.1 30)) 31 (σ.2.1 31)) 39 (σ.2.1 39))) (c := 40) (v := σ.2.1 40) (gtFF (by decide) (gtFF (by decide) (gtFF (by decide) (gtFF (by decide) (gtFF (by decide) (gtFI rfl)))))))) ?_
    refine j_w (cX g kk (sI (sF (sF (sF (sF (sF (sF (sI σ 614 (nI p0)) 28 (σ.2.1 28)) 29 (σ.2.1 29)) 30 (σ.2.1 30)) 31 (σ.2.1 31)) 39 (σ.2.1 39)) 40 (σ.2.1 40)) 437 (σ.1 437))) (congrArg (cX g kk) (wrIi (S := (sF (sF (sF (sF (sF (sF (sI σ 614 (nI p0)) 28 (σ.2.1 28)) 29 (σ.2.1 29)) 30 (σ.2.1 30)) 31 (σ.2.1 31)) 39 (σ.2.1 39)) 40 (σ.2.1 40))) (c := 437) (v := σ.1 437) (gtIF (gtIF (gtIF (gtIF (gtIF (gtIF (gtII (by decide) rfl))))))))) ?_
    refine j_w (cX g kk (sI (sI (sF (sF (sF (sF (sF (sF (sI σ 614 (nI p0)) 28 (σ.2.1 28)) 29 (σ.2.1 29)) 30 (σ.2.1 30)) 31 (σ.2.1 31)) 39 (σ.2.1 39)) 40 (σ.2.1 40)) 437 (σ.1 437)) 612 (σ.1 612))) (congrArg (cX g kk) (wrIi (S := (sI (sF (sF (sF (sF (sF (sF (sI σ 614 (nI p0)) 28 (σ.2.1 28)) 29 (σ.2.1 29)) 30 (σ.2.1 30)) 31 (σ.2.1 31)) 39 (σ.2.1 39)) 40 (σ.2.1 40)) 437 (σ.1 437))) (c := 612) (v := σ.1 612) (gtII (by decide) (gtIF (gtIF (gtIF (gtIF (gtIF (gtIF (gtII (by decide) rfl)))))))))) ?_
    refine j_w (cX g kk (sI (sI (sI (sF (sF (sF (sF (sF (sF (sI σ 614 (nI p0)) 28 (σ.2.1 28)) 29 (σ.2.1 29)) 30 (σ.2.1 30)) 31 (σ.2.1 31)) 39 (σ.2.1 39)) 40 (σ.2.1 40)) 437 (σ.1 437)) 612 (σ.1 612)) 613 (σ.1 613))) (congrArg (cX g kk) (wrIi (S := (sI (sI (sF (sF (sF (sF (sF (sF (sI σ 614 (nI p0)) 28 (σ.2.1 28)) 29 (σ.2.1 29)) 30 (σ.2.1 30)) 31 (σ.2.1 31)) 39 (σ.2.1 39)) 40 (σ.2.1 40)) 437 (σ.1 437)) 612 (σ.1 612))) (c := 613) (v := σ.1 613) (gtII (by decide) (gtII (by decide) (gtIF (gtIF (gtIF (gtIF (gtIF (gtIF (gtII (by decide) rfl))))))))))) ?_
    refine j_w (cX g kk (sL (sI (sI (sI (sF (sF (sF (sF (sF (sF (sI σ 614 (nI p0)) 28 (σ.2.1 28)) 29 (σ.2.1 29)) 30 (σ.2.1 30)) 31 (σ.2.1 31)) 39 (σ.2.1 39)) 40 (σ.2.1 40)) 437 (σ.1 437)) 612 (σ.1 612)) 613 (σ.1 613)) 615 (σ.2.2.1 615))) (congrArg (cX g kk) (wrLi (S := (sI (sI (sI (sF (sF (sF (sF (sF (sF (sI σ 614 (nI p0)) 28 (σ.2.1 28)) 29 (σ.2.1 29)) 30 (σ.2.1 30)) 31 (σ.2.1 31)) 39 (σ.2.1 39)) 40 (σ.2.1 40)) 437 (σ.1 437)) 612 (σ.1 612)) 613 (σ.1 613))) (c := 615) (v := σ.2.2.1 615) (gtLI (gtLI (gtLI (gtLF (gtLF (gtLF (gtLF (gtLF (gtLF (gtLI rfl)))))))))))) ?_
    refine j_w (cX g kk (sL (sI (sI (sI (sI (sF (sF (sF (sF (sF (sF σ 28 (σ.2.1 28)) 29 (σ.2.1 29)) 30 (σ.2.1 30)) 31 (σ.2.1 31)) 39 (σ.2.1 39)) 40 (σ.2.1 40)) 437 (σ.1 437)) 612 (σ.1 612)) 613 (σ.1 613)) 614 (nI p0)) 615 (σ.2.2.1 615))) (congrArg (cX g kk) (show sL (sI (sI (sI (sF (sF (sF (sF (sF (sF (sI σ 614 (nI p0)) 28 (σ.2.1 28)) 29 (σ.2.1 29)) 30 (σ.2.1 30)) 31 (σ.2.1 31)) 39 (σ.2.1 39)) 40 (σ.2.1 40)) 437 (σ.1 437)) 612 (σ.1 612)) 613 (σ.1 613)) 615 (σ.2.2.1 615) = sL (sI (sI (sI (sI (sF (sF (sF (sF (sF (sF σ 28 (σ.2.1 28)) 29 (σ.2.1 29)) 30 (σ.2.1 30)) 31 (σ.2.1 31)) 39 (σ.2.1 39)) 40 (σ.2.1 40)) 437 (σ.1 437)) 612 (σ.1 612)) 613 (σ.1 613)) 614 (nI p0)) 615 (σ.2.2.1 615) from (wrL (Eq.trans (wrI (Eq.trans (wrI (Eq.trans (wrI (Eq.trans (wrF (Eq.trans (wrF (Eq.trans (wrF (Eq.trans (wrF (Eq.trans (wrF wrFI) wrFI)) wrFI)) wrFI)) wrFI)) wrFI)) (wrIc (by decide)))) (wrIc (by decide)))) (wrIc (by decide)))))) ?_
    exact j_iret C E (sL (sI (sI (sI (sI (sF (sF (sF (sF (sF (sF σ 28 (σ.2.1 28)) 29 (σ.2.1 29)) 30 (σ.2.1 30)) 31 (σ.2.1 31)) 39 (σ.2.1 39)) 40 (σ.2.1 40)) 437 (σ.1 437)) 612 (σ.1 612)) 613 (σ.1 613)) 614 (nI p0)) 615 (σ.2.2.1 615)) ⟨_, rfl, ⟨(σ.2.1 28), (σ.2.1 29), (σ.2.1 30), (σ.2.1 31), (σ.2.1 39), (σ.2.1 40), (σ.1 437), (σ.1 612), (σ.1 613), p0, (σ.2.2.1 615), rfl, (by omega)⟩⟩ rfl dX10_breaks_10
set_option maxRecDepth 100000 in
set_option maxHeartbeats 4000000 in
theorem d_chance (g kk : Nat → Nat) (σ : St) (k : Nat) (hk : σ.1 16 = nI k) (hk6 : k ≤ 6) (hI : iX σ) (hP : le_ 24 (σ.1 614)) (x : Int32) (y : Int32) : jM (S := St) yX10_chance cX10_chance 3 (some .int) { frames := 5, cells := 0, slots := 0, locals := 115 } kk (cX g kk σ) [.ref (g 0), .int x, .int y] (cX g kk) (rI (fun (r : Int32) (u : St) => ∃ (pF28 : Nat → Int32) (pF29 : Nat → Int32) (pF30 : Nat → Int32) (pF31 : Nat → Int32) (pF39 : Nat → Int32) (pF40 : Nat → Int32) (pF41 : Nat → Int32) (pI437 : Int32) (pI612 : Int32) (pI613 : Int32) (p : Nat) (pI616 : Int32) (pL615 : Int64), u = sL (sI (sI (sI (sI (sI (sF (sF (sF (sF (sF (sF (sF σ 28 pF28) 29 pF29) 30 pF30) 31 pF31) 39 pF39) 40 pF40) 41 pF41) 437 pI437) 612 pI612) 613 pI613) 614 (nI p)) 616 pI616) 615 pL615 ∧ (p ≤ 24))) := by
  refine j_entry [(0, .ref (g 0)), (1, .int x), (2, .int y)] (by decide) (Nat.le_of_ble_eq_true rfl) rfl ?_
  intro X C E HI
  obtain ⟨p0, hp0, ep0⟩ := id hP
  refine j_aload_n C 0 rfl dX10_chance_0 ?_
  refine j_iload_n C 1 rfl dX10_chance_1 ?_
  refine j_V1 C (c_isCan g kk σ k hk hk6 x) kyX10_isCan tb_478 tb_480 sp_0 0 rfl (eX_0 g kk _) rfl (Nat.le_of_ble_eq_true rfl) ⟨by decide, by decide⟩ dX10_chance_2 rfl (fun vr ur hp => ?_)
  obtain ⟨r, rfl, rfl, hu⟩ := hp
  replace hu := hu.symm
  subst hu
  refine j_if_ne C 10 (by decide) dX10_chance_5 (fun c1 => ?_) (fun c1 => ?_)
  · replace c1 := bI_t c1
    obtain ⟨xn, xn1, rfl⟩ := cB_nat (by omega) c1
    refine j_iload_n C 2 rfl dX10_chance_10 ?_
    refine j_iconst C (nI 0) (by decide) dX10_chance_11 ?_
    refine j_sipush C (nI 9999) (by decide) dX10_chance_12 ?_
    refine j_S01 C (c_isWithin y (nI 0) (nI 9999)) kyX10_isWithin tb_467 tb_468 rfl (Nat.le_of_ble_eq_true rfl) ⟨by decide, by decide⟩ ⟨by decide, by decide⟩ dX10_chance_15 rfl ?_
    refine j_if_ne C 24 (by decide) dX10_chance_18 (fun c2 => ?_) (fun c2 => ?_)
    · replace c2 := bI_t c2
      obtain ⟨yn, yn1, yn2, rfl⟩ := wB_nat (by decide) (by decide) c2
      refine j_aload_n C 0 rfl dX10_chance_24 ?_
      refine gX_0_2 C tb_430 dX10_chance_25 ?_
      refine j_V1 C (d_refresh g kk σ k hk hk6 hI  ) kyX7_refresh tb_562 tb_563 tb_564 27 rfl (eX_27 g kk _) rfl (Nat.le_of_ble_eq_true rfl) ⟨by decide, by decide⟩ dX10_chance_28 rfl (fun vr ur hp => ?_)
      obtain ⟨rfl, w3, w4, w5, w6, w7, hu⟩ := hp
      replace hu := hu.symm
      subst hu
      refine j_aload_n C 0 rfl dX10_chance_31 ?_
      refine gX_0_4 C tb_432 dX10_chance_32 ?_
      refine j_iload_n C 1 rfl dX10_chance_35 ?_
      refine j_V1 C (d_find g kk (sI (sF (sF (sF (sF σ 28 w3) 29 w4) 30 w5) 31 w6) 437 w7) k hk hk6 hI hP xn (by first | assumption | omega)) kyX0_find tb_652 tb_653 tb_654 38 rfl (eX_38 g kk _) rfl (Nat.le_of_ble_eq_true rfl) ⟨by decide, by decide⟩ dX10_chance_36 rfl (fun vr ur hp => ?_)
      obtain ⟨r17, rfl, w8, w9, w10, w11, w12, w13, hu, g14, g15, g16⟩ := hp
      replace hu := hu.symm
      subst hu
      refine j_if_ne C 45 (by decide) dX10_chance_39 (fun c18 => ?_) (fun c18 => ?_)
      · refine j_aload_n C 0 rfl dX10_chance_45 ?_
        refine gX_0_4 C tb_432 dX10_chance_46 ?_
        refine j_iload_n C 2 rfl dX10_chance_49 ?_
        have h8 := g16.resolve_left (fun q => c18 (q.trans (by decide)))
        refine j_V1 C (d_shuffled g kk (sL (sI (sI (sI (sF (sF (sI (sF (sF (sF (sF σ 28 w3) 29 w4) 30 w5) 31 w6) 437 w7) 39 w8) 40 w9) 612 (nI w10)) 613 w11) 614 (nI w12)) 615 w13) k hk hk6 hI w10 rfl (by omega)  yn (by first | assumption | omega)) kyX0_shuffledAsGreat tb_682 tb_683 tb_684 38 rfl (eX_38 g kk _) rfl (Nat.le_of_ble_eq_true rfl) ⟨by decide, by decide⟩ dX10_chance_50 rfl (fun vr ur hp => ?_)
        obtain ⟨r21, rfl, w19, w20, hu⟩ := hp
        replace hu := hu.symm
        subst hu
        refine j_w (cX g kk (sL (sI (sI (sI (sI (sI (sF (sF (sF (sF (sF (sF (sF σ 28 w3) 29 w4) 30 w5) 31 w6) 39 w8) 40 w9) 41 w19) 437 w7) 612 (nI w10)) 613 w11) 614 (nI w12)) 616 w20) 615 w13)) (congrArg (cX g kk) (show sI (sF (sL (sI (sI (sI (sF (sF (sI (sF (sF (sF (sF σ 28 w3) 29 w4) 30 w5) 31 w6) 437 w7) 39 w8) 40 w9) 612 (nI w10)) 613 w11) 614 (nI w12)) 615 w13) 41 w19) 616 w20 = sL (sI (sI (sI (sI (sI (sF (sF (sF (sF (sF (sF (sF σ 28 w3) 29 w4) 30 w5) 31 w6) 39 w8) 40 w9) 41 w19) 437 w7) 612 (nI w10)) 613 w11) 614 (nI w12)) 616 w20) 615 w13 from (Eq.trans (wrI (Eq.trans (wrF (wrL (wrI (wrI (wrI (Eq.trans (wrF wrFI) wrFI)))))) (Eq.trans wrFL (wrL (Eq.trans wrFI (wrI (Eq.trans wrFI (wrI (Eq.trans wrFI (wrI wrFI)))))))))) wrIL))) ?_
        exact j_iret C E (sL (sI (sI (sI (sI (sI (sF (sF (sF (sF (sF (sF (sF σ 28 w3) 29 w4) 30 w5) 31 w6) 39 w8) 40 w9) 41 w19) 437 w7) 612 (nI w10)) 613 w11) 614 (nI w12)) 616 w20) 615 w13) ⟨_, rfl, ⟨w3, w4, w5, w6, w8, w9, w19, w7, (nI w10), w11, w12, w20, w13, rfl, (by omega)⟩⟩ rfl dX10_chance_53
      · refine j_bipush C ((-5)) (by decide) dX10_chance_42 ?_
        refine j_w (cX g kk (sF (sL (sI (sI (sI (sF (sF (sI (sF (sF (sF (sF σ 28 w3) 29 w4) 30 w5) 31 w6) 437 w7) 39 w8) 40 w9) 612 (nI w10)) 613 w11) 614 (nI w12)) 615 w13) 41 (σ.2.1 41))) (congrArg (cX g kk) (wrFi (S := (sL (sI (sI (sI (sF (sF (sI (sF (sF (sF (sF σ 28 w3) 29 w4) 30 w5) 31 w6) 437 w7) 39 w8) 40 w9) 612 (nI w10)) 613 w11) 614 (nI w12)) 615 w13)) (c := 41) (v := σ.2.1 41) (gtFL (gtFI (gtFI (gtFI (gtFF (by decide) (gtFF (by decide) (gtFI (gtFF (by decide) (gtFF (by decide) (gtFF (by decide) (gtFF (by decide) rfl))))))))))))) ?_
        refine j_w (cX g kk (sI (sF (sL (sI (sI (sI (sF (sF (sI (sF (sF (sF (sF σ 28 w3) 29 w4) 30 w5) 31 w6) 437 w7) 39 w8) 40 w9) 612 (nI w10)) 613 w11) 614 (nI w12)) 615 w13) 41 (σ.2.1 41)) 616 (σ.1 616))) (congrArg (cX g kk) (wrIi (S := (sF (sL (sI (sI (sI (sF (sF (sI (sF (sF (sF (sF σ 28 w3) 29 w4) 30 w5) 31 w6) 437 w7) 39 w8) 40 w9) 612 (nI w10)) 613 w11) 614 (nI w12)) 615 w13) 41 (σ.2.1 41))) (c := 616) (v := σ.1 616) (gtIF (gtIL (gtII (by decide) (gtII (by decide) (gtII (by decide) (gtIF (gtIF (gtII (by decide) (gtIF (gtIF (gtIF (gtIF rfl)))))))))))))) ?_
        refine j_w (cX g kk (sL (sI (sI (sI (sI (sI (sF (sF (sF (sF (sF (sF (sF σ 28 w3) 29 w4) 30 w5) 31 w6) 39 w8) 40 w9) 41 (σ.2.1 41)) 437 w7) 612 (nI w10)) 613 w11) 614 (nI w12)) 616 (σ.1 616)) 615 w13)) (congrArg (cX g kk) (show sI (sF (sL (sI (sI (sI (sF (sF (sI (sF (sF (sF (sF σ 28 w3) 29 w4) 30 w5) 31 w6) 437 w7) 39 w8) 40 w9) 612 (nI w10)) 613 w11) 614 (nI w12)) 615 w13) 41 (σ.2.1 41)) 616 (σ.1 616) = sL (sI (sI (sI (sI (sI (sF (sF (sF (sF (sF (sF (sF σ 28 w3) 29 w4) 30 w5) 31 w6) 39 w8) 40 w9) 41 (σ.2.1 41)) 437 w7) 612 (nI w10)) 613 w11) 614 (nI w12)) 616 (σ.1 616)) 615 w13 from (Eq.trans (wrI (Eq.trans (wrF (wrL (wrI (wrI (wrI (Eq.trans (wrF wrFI) wrFI)))))) (Eq.trans wrFL (wrL (Eq.trans wrFI (wrI (Eq.trans wrFI (wrI (Eq.trans wrFI (wrI wrFI)))))))))) wrIL))) ?_
        exact j_iret C E (sL (sI (sI (sI (sI (sI (sF (sF (sF (sF (sF (sF (sF σ 28 w3) 29 w4) 30 w5) 31 w6) 39 w8) 40 w9) 41 (σ.2.1 41)) 437 w7) 612 (nI w10)) 613 w11) 614 (nI w12)) 616 (σ.1 616)) 615 w13) ⟨_, rfl, ⟨w3, w4, w5, w6, w8, w9, (σ.2.1 41), w7, (nI w10), w11, w12, (σ.1 616), w13, rfl, (by omega)⟩⟩ rfl dX10_chance_44
    · replace c2 := bI_f c2
      refine j_bipush C ((-2)) (by decide) dX10_chance_21 ?_
      refine j_w (cX g kk (sI σ 614 (nI p0))) (congrArg (cX g kk) (sI_self (σ := σ) (i := 614) (v := nI p0) ep0).symm) ?_
      refine j_w (cX g kk (sF (sI σ 614 (nI p0)) 28 (σ.2.1 28))) (congrArg (cX g kk) (wrFi (S := (sI σ 614 (nI p0))) (c := 28) (v := σ.2.1 28) (gtFI rfl))) ?_
      refine j_w (cX g kk (sF (sF (sI σ 614 (nI p0)) 28 (σ.2.1 28)) 29 (σ.2.1 29))) (congrArg (cX g kk) (wrFi (S := (sF (sI σ 614 (nI p0)) 28 (σ.2.1 28))) (c := 29) (v := σ.2.1 29) (gtFF (by decide) (gtFI rfl)))) ?_
      refine j_w (cX g kk (sF (sF (sF (sI σ 614 (nI p0)) 28 (σ.2.1 28)) 29 (σ.2.1 29)) 30 (σ.2.1 30))) (congrArg (cX g kk) (wrFi (S := (sF (sF (sI σ 614 (nI p0)) 28 (σ.2.1 28)) 29 (σ.2.1 29))) (c := 30) (v := σ.2.1 30) (gtFF (by decide) (gtFF (by decide) (gtFI rfl))))) ?_
      refine j_w (cX g kk (sF (sF (sF (sF (sI σ 614 (nI p0)) 28 (σ.2.1 28)) 29 (σ.2.1 29)) 30 (σ.2.1 30)) 31 (σ.2.1 31))) (congrArg (cX g kk) (wrFi (S := (sF (sF (sF (sI σ 614 (nI p0)) 28 (σ.2.1 28)) 29 (σ.2.1 29)) 30 (σ.2.1 30))) (c := 31) (v := σ.2.1 31) (gtFF (by decide) (gtFF (by decide) (gtFF (by decide) (gtFI rfl)))))) ?_
      refine j_w (cX g kk (sF (sF (sF (sF (sF (sI σ 614 (nI p0)) 28 (σ.2.1 28)) 29 (σ.2.1 29)) 30 (σ.2.1 30)) 31 (σ.2.1 31)) 39 (σ.2.1 39))) (congrArg (cX g kk) (wrFi (S := (sF (sF (sF (sF (sI σ 614 (nI p0)) 28 (σ.2.1 28)) 29 (σ.2.1 29)) 30 (σ.2.1 30)) 31 (σ.2.1 31))) (c := 39) (v := σ.2.1 39) (gtFF (by decide) (gtFF (by decide) (gtFF (by decide) (gtFF (by decide) (gtFI rfl))))))) ?_
      refine j_w (cX g kk (sF (sF (sF (sF (sF (sF (sI σ 614 (nI p0)) 28 (σ.2.1 28)) 29 (σ.2.1 29)) 30 (σ.2.1 30)) 31 (σ.2.1 31)) 39 (σ.2.1 39)) 40 (σ.2.1 40))) (congrArg (cX g kk) (wrFi (S := (sF (sF (sF (sF (sF (sI σ 614 (nI p0)) 28 (σ.2.1 28)) 29 (σ.2.1 29)) 30 (σ.2.1 30)) 31 (σ.2.1 31)) 39 (σ.2.1 39))) (c := 40) (v := σ.2.1 40) (gtFF (by decide) (gtFF (by decide) (gtFF (by decide) (gtFF (by decide) (gtFF (by decide) (gtFI rfl)))))))) ?_
      refine j_w (cX g kk (sF (sF (sF (sF (sF (sF (sF (sI σ 614 (nI p0)) 28 (σ.2.1 28)) 29 (σ.2.1 29)) 30 (σ.2.1 30)) 31 (σ.2.1 31)) 39 (σ.2.1 39)) 40 (σ.2.1 40)) 41 (σ.2.1 41))) (congrArg (cX g kk) (wrFi (S := (sF (sF (sF (sF (sF (sF (sI σ 614 (nI p0)) 28 (σ.2.1 28)) 29 (σ.2.1 29)) 30 (σ.2.1 30)) 31 (σ.2.1 31)) 39 (σ.2.1 39)) 40 (σ.2.1 40))) (c := 41) (v := σ.2.1 41) (gtFF (by decide) (gtFF (by decide) (gtFF (by decide) (gtFF (by decide) (gtFF (by decide) (gtFF (by decide) (gtFI rfl))))))))) ?_
      refine j_w (cX g kk (sI (sF (sF (sF (sF (sF (sF (sF (sI σ 614 (nI p0)) 28 (σ.2.1 28)) 29 (σ.2.1 29)) 30 (σ.2.1 30)) 31 (σ.2.1 31)) 39 (σ.2.1 39)) 40 (σ.2.1 40)) 41 (σ.2.1 41)) 437 (σ.1 437))) (congrArg (cX g kk) (wrIi (S := (sF (sF (sF (sF (sF (sF (sF (sI σ 614 (nI p0)) 28 (σ.2.1 28)) 29 (σ.2.1 29)) 30 (σ.2.1 30)) 31 (σ.2.1 31)) 39 (σ.2.1 39)) 40 (σ.2.1 40)) 41 (σ.2.1 41))) (c := 437) (v := σ.1 437) (gtIF (gtIF (gtIF (gtIF (gtIF (gtIF (gtIF (gtII (by decide) rfl)))))))))) ?_
      refine j_w (cX g kk (sI (sI (sF (sF (sF (sF (sF (sF (sF (sI σ 614 (nI p0)) 28 (σ.2.1 28)) 29 (σ.2.1 29)) 30 (σ.2.1 30)) 31 (σ.2.1 31)) 39 (σ.2.1 39)) 40 (σ.2.1 40)) 41 (σ.2.1 41)) 437 (σ.1 437)) 612 (σ.1 612))) (congrArg (cX g kk) (wrIi (S := (sI (sF (sF (sF (sF (sF (sF (sF (sI σ 614 (nI p0)) 28 (σ.2.1 28)) 29 (σ.2.1 29)) 30 (σ.2.1 30)) 31 (σ.2.1 31)) 39 (σ.2.1 39)) 40 (σ.2.1 40)) 41 (σ.2.1 41)) 437 (σ.1 437))) (c := 612) (v := σ.1 612) (gtII (by decide) (gtIF (gtIF (gtIF (gtIF (gtIF (gtIF (gtIF (gtII (by decide) rfl))))))))))) ?_
      refine j_w (cX g kk (sI (sI (sI (sF (sF (sF (sF (sF (sF (sF (sI σ 614 (nI p0)) 28 (σ.2.1 28)) 29 (σ.2.1 29)) 30 (σ.2.1 30)) 31 (σ.2.1 31)) 39 (σ.2.1 39)) 40 (σ.2.1 40)) 41 (σ.2.1 41)) 437 (σ.1 437)) 612 (σ.1 612)) 613 (σ.1 613))) (congrArg (cX g kk) (wrIi (S := (sI (sI (sF (sF (sF (sF (sF (sF (sF (sI σ 614 (nI p0)) 28 (σ.2.1 28)) 29 (σ.2.1 29)) 30 (σ.2.1 30)) 31 (σ.2.1 31)) 39 (σ.2.1 39)) 40 (σ.2.1 40)) 41 (σ.2.1 41)) 437 (σ.1 437)) 612 (σ.1 612))) (c := 613) (v := σ.1 613) (gtII (by decide) (gtII (by decide) (gtIF (gtIF (gtIF (gtIF (gtIF (gtIF (gtIF (gtII (by decide) rfl)))))))))))) ?_
      refine j_w (cX g kk (sI (sI (sI (sI (sF (sF (sF (sF (sF (sF (sF (sI σ 614 (nI p0)) 28 (σ.2.1 28)) 29 (σ.2.1 29)) 30 (σ.2.1 30)) 31 (σ.2.1 31)) 39 (σ.2.1 39)) 40 (σ.2.1 40)) 41 (σ.2.1 41)) 437 (σ.1 437)) 612 (σ.1 612)) 613 (σ.1 613)) 616 (σ.1 616))) (congrArg (cX g kk) (wrIi (S := (sI (sI (sI (sF (sF (sF (sF (sF (sF (sF (sI σ 614 (nI p0)) 28 (σ.2.1 28)) 29 (σ.2.1 29)) 30 (σ.2.1 30)) 31 (σ.2.1 31)) 39 (σ.2.1 39)) 40 (σ.2.1 40)) 41 (σ.2.1 41)) 437 (σ.1 437)) 612 (σ.1 612)) 613 (σ.1 613))) (c := 616) (v := σ.1 616) (gtII (by decide) (gtII (by decide) (gtII (by decide) (gtIF (gtIF (gtIF (gtIF (gtIF (gtIF (gtIF (gtII (by decide) rfl))))))))))))) ?_
      refine j_w (cX g kk (sL (sI (sI (sI (sI (sF (sF (sF (sF (sF (sF (sF (sI σ 614 (nI p0)) 28 (σ.2.1 28)) 29 (σ.2.1 29)) 30 (σ.2.1 30)) 31 (σ.2.1 31)) 39 (σ.2.1 39)) 40 (σ.2.1 40)) 41 (σ.2.1 41)) 437 (σ.1 437)) 612 (σ.1 612)) 613 (σ.1 613)) 616 (σ.1 616)) 615 (σ.2.2.1 615))) (congrArg (cX g kk) (wrLi (S := (sI (sI (sI (sI (sF (sF (sF (sF (sF (sF (sF (sI σ 614 (nI p0)) 28 (σ.2.1 28)) 29 (σ.2.1 29)) 30 (σ.2.1 30)) 31 (σ.2.1 31)) 39 (σ.2.1 39)) 40 (σ.2.1 40)) 41 (σ.2.1 41)) 437 (σ.1 437)) 612 (σ.1 612)) 613 (σ.1 613)) 616 (σ.1 616))) (c := 615) (v := σ.2.2.1 615) (gtLI (gtLI (gtLI (gtLI (gtLF (gtLF (gtLF (gtLF (gtLF (gtLF (gtLF (gtLI rfl)))))))))))))) ?_
      refine j_w (cX g kk (sL (sI (sI (sI (sI (sI (sF (sF (sF (sF (sF (sF (sF σ 28 (σ.2.1 28)) 29 (σ.2.1 29)) 30 (σ.2.1 30)) 31 (σ.2.1 31)) 39 (σ.2.1 39)) 40 (σ.2.1 40)) 41 (σ.2.1 41)) 437 (σ.1 437)) 612 (σ.1 612)) 613 (σ.1 613)) 614 (nI p0)) 616 (σ.1 616)) 615 (σ.2.2.1 615))) (congrArg (cX g kk) (show sL (sI (sI (sI (sI (sF (sF (sF (sF (sF (sF (sF (sI σ 614 (nI p0)) 28 (σ.2.1 28)) 29 (σ.2.1 29)) 30 (σ.2.1 30)) 31 (σ.2.1 31)) 39 (σ.2.1 39)) 40 (σ.2.1 40)) 41 (σ.2.1 41)) 437 (σ.1 437)) 612 (σ.1 612)) 613 (σ.1 613)) 616 (σ.1 616)) 615 (σ.2.2.1 615) = sL (sI (sI (sI (sI (sI (sF (sF (sF (sF (sF (sF (sF σ 28 (σ.2.1 28)) 29 (σ.2.1 29)) 30 (σ.2.1 30)) 31 (σ.2.1 31)) 39 (σ.2.1 39)) 40 (σ.2.1 40)) 41 (σ.2.1 41)) 437 (σ.1 437)) 612 (σ.1 612)) 613 (σ.1 613)) 614 (nI p0)) 616 (σ.1 616)) 615 (σ.2.2.1 615) from (wrL (wrI (Eq.trans (wrI (Eq.trans (wrI (Eq.trans (wrI (Eq.trans (wrF (Eq.trans (wrF (Eq.trans (wrF (Eq.trans (wrF (Eq.trans (wrF (Eq.trans (wrF wrFI) wrFI)) wrFI)) wrFI)) wrFI)) wrFI)) wrFI)) (wrIc (by decide)))) (wrIc (by decide)))) (wrIc (by decide))))))) ?_
      exact j_iret C E (sL (sI (sI (sI (sI (sI (sF (sF (sF (sF (sF (sF (sF σ 28 (σ.2.1 28)) 29 (σ.2.1 29)) 30 (σ.2.1 30)) 31 (σ.2.1 31)) 39 (σ.2.1 39)) 40 (σ.2.1 40)) 41 (σ.2.1 41)) 437 (σ.1 437)) 612 (σ.1 612)) 613 (σ.1 613)) 614 (nI p0)) 616 (σ.1 616)) 615 (σ.2.2.1 615)) ⟨_, rfl, ⟨(σ.2.1 28), (σ.2.1 29), (σ.2.1 30), (σ.2.1 31), (σ.2.1 39), (σ.2.1 40), (σ.2.1 41), (σ.1 437), (σ.1 612), (σ.1 613), p0, (σ.1 616), (σ.2.2.1 615), rfl, (by omega)⟩⟩ rfl dX10_chance_23
  · replace c1 := bI_f c1
    refine j_iconst C ((-1)) (by decide) dX10_chance_8 ?_
    refine j_w (cX g kk (sI σ 614 (nI p0))) (congrArg (cX g kk) (sI_self (σ := σ) (i := 614) (v := nI p0) ep0).symm) ?_
    refine j_w (cX g kk (sF (sI σ 614 (nI p0)) 28 (σ.2.1 28))) (congrArg (cX g kk) (wrFi (S := (sI σ 614 (nI p0))) (c := 28) (v := σ.2.1 28) (gtFI rfl))) ?_
    refine j_w (cX g kk (sF (sF (sI σ 614 (nI p0)) 28 (σ.2.1 28)) 29 (σ.2.1 29))) (congrArg (cX g kk) (wrFi (S := (sF (sI σ 614 (nI p0)) 28 (σ.2.1 28))) (c := 29) (v := σ.2.1 29) (gtFF (by decide) (gtFI rfl)))) ?_
    refine j_w (cX g kk (sF (sF (sF (sI σ 614 (nI p0)) 28 (σ.2.1 28)) 29 (σ.2.1 29)) 30 (σ.2.1 30))) (congrArg (cX g kk) (wrFi (S := (sF (sF (sI σ 614 (nI p0)) 28 (σ.2.1 28)) 29 (σ.2.1 29))) (c := 30) (v := σ.2.1 30) (gtFF (by decide) (gtFF (by decide) (gtFI rfl))))) ?_
    refine j_w (cX g kk (sF (sF (sF (sF (sI σ 614 (nI p0)) 28 (σ.2.1 28)) 29 (σ.2.1 29)) 30 (σ.2.1 30)) 31 (σ.2.1 31))) (congrArg (cX g kk) (wrFi (S := (sF (sF (sF (sI σ 614 (nI p0)) 28 (σ.2.1 28)) 29 (σ.2.1 29)) 30 (σ.2.1 30))) (c := 31) (v := σ.2.1 31) (gtFF (by decide) (gtFF (by decide) (gtFF (by decide) (gtFI rfl)))))) ?_
    refine j_w (cX g kk (sF (sF (sF (sF (sF (sI σ 614 (nI p0)) 28 (σ.2.1 28)) 29 (σ.2.1 29)) 30 (σ.2.1 30)) 31 (σ.2.1 31)) 39 (σ.2.1 39))) (congrArg (cX g kk) (wrFi (S := (sF (sF (sF (sF (sI σ 614 (nI p0)) 28 (σ.2.1 28)) 29 (σ.2.1 29)) 30 (σ.2.1 30)) 31 (σ.2.1 31))) (c := 39) (v := σ.2.1 39) (gtFF (by decide) (gtFF (by decide) (gtFF (by decide) (gtFF (by decide) (gtFI rfl))))))) ?_
    refine j_w (cX g kk (sF (sF (sF (sF (sF (sF (sI σ 614 (nI p0)) 28 (σ.2.1 28)) 29 (σ.2.1 29)) 30 (σ.2.1 30)) 31 (σ.2.1 31)) 39 (σ.2.1 39)) 40 (σ.2.1 40))) (congrArg (cX g kk) (wrFi (S := (sF (sF (sF (sF (sF (sI σ 614 (nI p0)) 28 (σ.2.1 28)) 29 (σ.2.1 29)) 30 (σ.2.1 30)) 31 (σ.2.1 31)) 39 (σ.2.1 39))) (c := 40) (v := σ.2.1 40) (gtFF (by decide) (gtFF (by decide) (gtFF (by decide) (gtFF (by decide) (gtFF (by decide) (gtFI rfl)))))))) ?_
    refine j_w (cX g kk (sF (sF (sF (sF (sF (sF (sF (sI σ 614 (nI p0)) 28 (σ.2.1 28)) 29 (σ.2.1 29)) 30 (σ.2.1 30)) 31 (σ.2.1 31)) 39 (σ.2.1 39)) 40 (σ.2.1 40)) 41 (σ.2.1 41))) (congrArg (cX g kk) (wrFi (S := (sF (sF (sF (sF (sF (sF (sI σ 614 (nI p0)) 28 (σ.2.1 28)) 29 (σ.2.1 29)) 30 (σ.2.1 30)) 31 (σ.2.1 31)) 39 (σ.2.1 39)) 40 (σ.2.1 40))) (c := 41) (v := σ.2.1 41) (gtFF (by decide) (gtFF (by decide) (gtFF (by decide) (gtFF (by decide) (gtFF (by decide) (gtFF (by decide) (gtFI rfl))))))))) ?_
    refine j_w (cX g kk (sI (sF (sF (sF (sF (sF (sF (sF (sI σ 614 (nI p0)) 28 (σ.2.1 28)) 29 (σ.2.1 29)) 30 (σ.2.1 30)) 31 (σ.2.1 31)) 39 (σ.2.1 39)) 40 (σ.2.1 40)) 41 (σ.2.1 41)) 437 (σ.1 437))) (congrArg (cX g kk) (wrIi (S := (sF (sF (sF (sF (sF (sF (sF (sI σ 614 (nI p0)) 28 (σ.2.1 28)) 29 (σ.2.1 29)) 30 (σ.2.1 30)) 31 (σ.2.1 31)) 39 (σ.2.1 39)) 40 (σ.2.1 40)) 41 (σ.2.1 41))) (c := 437) (v := σ.1 437) (gtIF (gtIF (gtIF (gtIF (gtIF (gtIF (gtIF (gtII (by decide) rfl)))))))))) ?_
    refine j_w (cX g kk (sI (sI (sF (sF (sF (sF (sF (sF (sF (sI σ 614 (nI p0)) 28 (σ.2.1 28)) 29 (σ.2.1 29)) 30 (σ.2.1 30)) 31 (σ.2.1 31)) 39 (σ.2.1 39)) 40 (σ.2.1 40)) 41 (σ.2.1 41)) 437 (σ.1 437)) 612 (σ.1 612))) (congrArg (cX g kk) (wrIi (S := (sI (sF (sF (sF (sF (sF (sF (sF (sI σ 614 (nI p0)) 28 (σ.2.1 28)) 29 (σ.2.1 29)) 30 (σ.2.1 30)) 31 (σ.2.1 31)) 39 (σ.2.1 39)) 40 (σ.2.1 40)) 41 (σ.2.1 41)) 437 (σ.1 437))) (c := 612) (v := σ.1 612) (gtII (by decide) (gtIF (gtIF (gtIF (gtIF (gtIF (gtIF (gtIF (gtII (by decide) rfl))))))))))) ?_
    refine j_w (cX g kk (sI (sI (sI (sF (sF (sF (sF (sF (sF (sF (sI σ 614 (nI p0)) 28 (σ.2.1 28)) 29 (σ.2.1 29)) 30 (σ.2.1 30)) 31 (σ.2.1 31)) 39 (σ.2.1 39)) 40 (σ.2.1 40)) 41 (σ.2.1 41)) 437 (σ.1 437)) 612 (σ.1 612)) 613 (σ.1 613))) (congrArg (cX g kk) (wrIi (S := (sI (sI (sF (sF (sF (sF (sF (sF (sF (sI σ 614 (nI p0)) 28 (σ.2.1 28)) 29 (σ.2.1 29)) 30 (σ.2.1 30)) 31 (σ.2.1 31)) 39 (σ.2.1 39)) 40 (σ.2.1 40)) 41 (σ.2.1 41)) 437 (σ.1 437)) 612 (σ.1 612))) (c := 613) (v := σ.1 613) (gtII (by decide) (gtII (by decide) (gtIF (gtIF (gtIF (gtIF (gtIF (gtIF (gtIF (gtII (by decide) rfl)))))))))))) ?_
    refine j_w (cX g kk (sI (sI (sI (sI (sF (sF (sF (sF (sF (sF (sF (sI σ 614 (nI p0)) 28 (σ.2.1 28)) 29 (σ.2.1 29)) 30 (σ.2.1 30)) 31 (σ.2.1 31)) 39 (σ.2.1 39)) 40 (σ.2.1 40)) 41 (σ.2.1 41)) 437 (σ.1 437)) 612 (σ.1 612)) 613 (σ.1 613)) 616 (σ.1 616))) (congrArg (cX g kk) (wrIi (S := (sI (sI (sI (sF (sF (sF (sF (sF (sF (sF (sI σ 614 (nI p0)) 28 (σ.2.1 28)) 29 (σ.2.1 29)) 30 (σ.2.1 30)) 31 (σ.2.1 31)) 39 (σ.2.1 39)) 40 (σ.2.1 40)) 41 (σ.2.1 41)) 437 (σ.1 437)) 612 (σ.1 612)) 613 (σ.1 613))) (c := 616) (v := σ.1 616) (gtII (by decide) (gtII (by decide) (gtII (by decide) (gtIF (gtIF (gtIF (gtIF (gtIF (gtIF (gtIF (gtII (by decide) rfl))))))))))))) ?_
    refine j_w (cX g kk (sL (sI (sI (sI (sI (sF (sF (sF (sF (sF (sF (sF (sI σ 614 (nI p0)) 28 (σ.2.1 28)) 29 (σ.2.1 29)) 30 (σ.2.1 30)) 31 (σ.2.1 31)) 39 (σ.2.1 39)) 40 (σ.2.1 40)) 41 (σ.2.1 41)) 437 (σ.1 437)) 612 (σ.1 612)) 613 (σ.1 613)) 616 (σ.1 616)) 615 (σ.2.2.1 615))) (congrArg (cX g kk) (wrLi (S := (sI (sI (sI (sI (sF (sF (sF (sF (sF (sF (sF (sI σ 614 (nI p0)) 28 (σ.2.1 28)) 29 (σ.2.1 29)) 30 (σ.2.1 30)) 31 (σ.2.1 31)) 39 (σ.2.1 39)) 40 (σ.2.1 40)) 41 (σ.2.1 41)) 437 (σ.1 437)) 612 (σ.1 612)) 613 (σ.1 613)) 616 (σ.1 616))) (c := 615) (v := σ.2.2.1 615) (gtLI (gtLI (gtLI (gtLI (gtLF (gtLF (gtLF (gtLF (gtLF (gtLF (gtLF (gtLI rfl)))))))))))))) ?_
    refine j_w (cX g kk (sL (sI (sI (sI (sI (sI (sF (sF (sF (sF (sF (sF (sF σ 28 (σ.2.1 28)) 29 (σ.2.1 29)) 30 (σ.2.1 30)) 31 (σ.2.1 31)) 39 (σ.2.1 39)) 40 (σ.2.1 40)) 41 (σ.2.1 41)) 437 (σ.1 437)) 612 (σ.1 612)) 613 (σ.1 613)) 614 (nI p0)) 616 (σ.1 616)) 615 (σ.2.2.1 615))) (congrArg (cX g kk) (show sL (sI (sI (sI (sI (sF (sF (sF (sF (sF (sF (sF (sI σ 614 (nI p0)) 28 (σ.2.1 28)) 29 (σ.2.1 29)) 30 (σ.2.1 30)) 31 (σ.2.1 31)) 39 (σ.2.1 39)) 40 (σ.2.1 40)) 41 (σ.2.1 41)) 437 (σ.1 437)) 612 (σ.1 612)) 613 (σ.1 613)) 616 (σ.1 616)) 615 (σ.2.2.1 615) = sL (sI (sI (sI (sI (sI (sF (sF (sF (sF (sF (sF (sF σ 28 (σ.2.1 28)) 29 (σ.2.1 29)) 30 (σ.2.1 30)) 31 (σ.2.1 31)) 39 (σ.2.1 39)) 40 (σ.2.1 40)) 41 (σ.2.1 41)) 437 (σ.1 437)) 612 (σ.1 612)) 613 (σ.1 613)) 614 (nI p0)) 616 (σ.1 616)) 615 (σ.2.2.1 615) from (wrL (wrI (Eq.trans (wrI (Eq.trans (wrI (Eq.trans (wrI (Eq.trans (wrF (Eq.trans (wrF (Eq.trans (wrF (Eq.trans (wrF (Eq.trans (wrF (Eq.trans (wrF wrFI) wrFI)) wrFI)) wrFI)) wrFI)) wrFI)) wrFI)) (wrIc (by decide)))) (wrIc (by decide)))) (wrIc (by decide))))))) ?_
    exact j_iret C E (sL (sI (sI (sI (sI (sI (sF (sF (sF (sF (sF (sF (sF σ 28 (σ.2.1 28)) 29 (σ.2.1 29)) 30 (σ.2.1 30)) 31 (σ.2.1 31)) 39 (σ.2.1 39)) 40 (σ.2.1 40)) 41 (σ.2.1 41)) 437 (σ.1 437)) 612 (σ.1 612)) 613 (σ.1 613)) 614 (nI p0)) 616 (σ.1 616)) 615 (σ.2.2.1 615)) ⟨_, rfl, ⟨(σ.2.1 28), (σ.2.1 29), (σ.2.1 30), (σ.2.1 31), (σ.2.1 39), (σ.2.1 40), (σ.2.1 41), (σ.1 437), (σ.1 612), (σ.1 613), p0, (σ.1 616), (σ.2.2.1 615), rfl, (by omega)⟩⟩ rfl dX10_chance_9
set_option maxRecDepth 100000 in
set_option maxHeartbeats 4000000 in
theorem d_bound (g kk : Nat → Nat) (σ : St) (k : Nat) (hk : σ.1 16 = nI k) (hk6 : k ≤ 6) (hI : iX σ)  (x : Int32) (y : Int32) (z : Int32) (w : Int32) : jM (S := St) yX10_bound cX10_bound 5 (some .int) { frames := 5, cells := 0, slots := 0, locals := 115 } kk (cX g kk σ) [.ref (g 0), .int x, .int y, .int z, .int w] (cX g kk) (rI (fun (r : Int32) (u : St) => ∃ (pF28 : Nat → Int32) (pF29 : Nat → Int32) (pF30 : Nat → Int32) (pF31 : Nat → Int32) (pF43 : Nat → Int32) (pF44 : Nat → Int32) (pF45 : Nat → Int32) (pF46 : Nat → Int32) (pI437 : Int32) (pI678 : Int32) (pI679 : Int32) (pI680 : Int32), u = sI (sI (sI (sI (sF (sF (sF (sF (sF (sF (sF (sF σ 28 pF28) 29 pF29) 30 pF30) 31 pF31) 43 pF43) 44 pF44) 45 pF45) 46 pF46) 437 pI437) 678 pI678) 679 pI679) 680 pI680)) := by
  refine j_entry [(0, .ref (g 0)), (1, .int x), (2, .int y), (3, .int z), (4, .int w)] (by decide) (Nat.le_of_ble_eq_true rfl) rfl ?_
  intro X C E HI
  refine j_iload_n C 1 rfl dX10_bound_0 ?_
  refine j_S01 C (c_isDay x) kyX10_isDay tb_486 tb_487 rfl (Nat.le_of_ble_eq_true rfl) ⟨by decide, by decide⟩ ⟨by decide, by decide⟩ dX10_bound_1 rfl ?_
  refine j_if_ne C 9 (by decide) dX10_bound_4 (fun c1 => ?_) (fun c1 => ?_)
  · replace c1 := bI_t c1
    obtain ⟨xn, xn1, xn2, rfl⟩ := wB_nat (by decide) (by decide) c1
    refine j_iload_n C 2 rfl dX10_bound_9 ?_
    refine j_iload_n C 3 rfl dX10_bound_10 ?_
    refine j_S01 C (c_isPlace y z) kyX10_isPlace tb_464 tb_465 rfl (Nat.le_of_ble_eq_true rfl) ⟨by decide, by decide⟩ ⟨by decide, by decide⟩ dX10_bound_11 rfl ?_
    refine j_if_eq C 27 (by decide) dX10_bound_14 (fun c2 => ?_) (fun c2 => ?_)
    · replace c2 := bI_f c2
      refine j_bipush C ((-2)) (by decide) dX10_bound_27 ?_
      refine j_w (cX g kk (sF σ 28 (σ.2.1 28))) (congrArg (cX g kk) (wrFi (S := σ) (c := 28) (v := σ.2.1 28) rfl)) ?_
      refine j_w (cX g kk (sF (sF σ 28 (σ.2.1 28)) 29 (σ.2.1 29))) (congrArg (cX g kk) (wrFi (S := (sF σ 28 (σ.2.1 28))) (c := 29) (v := σ.2.1 29) (gtFF (by decide) rfl))) ?_
      refine j_w (cX g kk (sF (sF (sF σ 28 (σ.2.1 28)) 29 (σ.2.1 29)) 30 (σ.2.1 30))) (congrArg (cX g kk) (wrFi (S := (sF (sF σ 28 (σ.2.1 28)) 29 (σ.2.1 29))) (c := 30) (v := σ.2.1 30) (gtFF (by decide) (gtFF (by decide) rfl)))) ?_
      refine j_w (cX g kk (sF (sF (sF (sF σ 28 (σ.2.1 28)) 29 (σ.2.1 29)) 30 (σ.2.1 30)) 31 (σ.2.1 31))) (congrArg (cX g kk) (wrFi (S := (sF (sF (sF σ 28 (σ.2.1 28)) 29 (σ.2.1 29)) 30 (σ.2.1 30))) (c := 31) (v := σ.2.1 31) (gtFF (by decide) (gtFF (by decide) (gtFF (by decide) rfl))))) ?_
      refine j_w (cX g kk (sF (sF (sF (sF (sF σ 28 (σ.2.1 28)) 29 (σ.2.1 29)) 30 (σ.2.1 30)) 31 (σ.2.1 31)) 43 (σ.2.1 43))) (congrArg (cX g kk) (wrFi (S := (sF (sF (sF (sF σ 28 (σ.2.1 28)) 29 (σ.2.1 29)) 30 (σ.2.1 30)) 31 (σ.2.1 31))) (c := 43) (v := σ.2.1 43) (gtFF (by decide) (gtFF (by decide) (gtFF (by decide) (gtFF (by decide) rfl)))))) ?_
      refine j_w (cX g kk (sF (sF (sF (sF (sF (sF σ 28 (σ.2.1 28)) 29 (σ.2.1 29)) 30 (σ.2.1 30)) 31 (σ.2.1 31)) 43 (σ.2.1 43)) 44 (σ.2.1 44))) (congrArg (cX g kk) (wrFi (S := (sF (sF (sF (sF (sF σ 28 (σ.2.1 28)) 29 (σ.2.1 29)) 30 (σ.2.1 30)) 31 (σ.2.1 31)) 43 (σ.2.1 43))) (c := 44) (v := σ.2.1 44) (gtFF (by decide) (gtFF (by decide) (gtFF (by decide) (gtFF (by decide) (gtFF (by decide) rfl))))))) ?_
      refine j_w (cX g kk (sF (sF (sF (sF (sF (sF (sF σ 28 (σ.2.1 28)) 29 (σ.2.1 29)) 30 (σ.2.1 30)) 31 (σ.2.1 31)) 43 (σ.2.1 43)) 44 (σ.2.1 44)) 45 (σ.2.1 45))) (congrArg (cX g kk) (wrFi (S := (sF (sF (sF (sF (sF (sF σ 28 (σ.2.1 28)) 29 (σ.2.1 29)) 30 (σ.2.1 30)) 31 (σ.2.1 31)) 43 (σ.2.1 43)) 44 (σ.2.1 44))) (c := 45) (v := σ.2.1 45) (gtFF (by decide) (gtFF (by decide) (gtFF (by decide) (gtFF (by decide) (gtFF (by decide) (gtFF (by decide) rfl)))))))) ?_
      refine j_w (cX g kk (sF (sF (sF (sF (sF (sF (sF (sF σ 28 (σ.2.1 28)) 29 (σ.2.1 29)) 30 (σ.2.1 30)) 31 (σ.2.1 31)) 43 (σ.2.1 43)) 44 (σ.2.1 44)) 45 (σ.2.1 45)) 46 (σ.2.1 46))) (congrArg (cX g kk) (wrFi (S := (sF (sF (sF (sF (sF (sF (sF σ 28 (σ.2.1 28)) 29 (σ.2.1 29)) 30 (σ.2.1 30)) 31 (σ.2.1 31)) 43 (σ.2.1 43)) 44 (σ.2.1 44)) 45 (σ.2.1 45))) (c := 46) (v := σ.2.1 46) (gtFF (by decide) (gtFF (by decide) (gtFF (by decide) (gtFF (by decide) (gtFF (by decide) (gtFF (by decide) (gtFF (by decide) rfl))))))))) ?_
      refine j_w (cX g kk (sI (sF (sF (sF (sF (sF (sF (sF (sF σ 28 (σ.2.1 28)) 29 (σ.2.1 29)) 30 (σ.2.1 30)) 31 (σ.2.1 31)) 43 (σ.2.1 43)) 44 (σ.2.1 44)) 45 (σ.2.1 45)) 46 (σ.2.1 46)) 437 (σ.1 437))) (congrArg (cX g kk) (wrIi (S := (sF (sF (sF (sF (sF (sF (sF (sF σ 28 (σ.2.1 28)) 29 (σ.2.1 29)) 30 (σ.2.1 30)) 31 (σ.2.1 31)) 43 (σ.2.1 43)) 44 (σ.2.1 44)) 45 (σ.2.1 45)) 46 (σ.2.1 46))) (c := 437) (v := σ.1 437) (gtIF (gtIF (gtIF (gtIF (gtIF (gtIF (gtIF (gtIF rfl)))))))))) ?_
      refine j_w (cX g kk (sI (sI (sF (sF (sF (sF (sF (sF (sF (sF σ 28 (σ.2.1 28)) 29 (σ.2.1 29)) 30 (σ.2.1 30)) 31 (σ.2.1 31)) 43 (σ.2.1 43)) 44 (σ.2.1 44)) 45 (σ.2.1 45)) 46 (σ.2.1 46)) 437 (σ.1 437)) 678 (σ.1 678))) (congrArg (cX g kk) (wrIi (S := (sI (sF (sF (sF (sF (sF (sF (sF (sF σ 28 (σ.2.1 28)) 29 (σ.2.1 29)) 30 (σ.2.1 30)) 31 (σ.2.1 31)) 43 (σ.2.1 43)) 44 (σ.2.1 44)) 45 (σ.2.1 45)) 46 (σ.2.1 46)) 437 (σ.1 437))) (c := 678) (v := σ.1 678) (gtII (by decide) (gtIF (gtIF (gtIF (gtIF (gtIF (gtIF (gtIF (gtIF rfl))))))))))) ?_
      refine j_w (cX g kk (sI (sI (sI (sF (sF (sF (sF (sF (sF (sF (sF σ 28 (σ.2.1 28)) 29 (σ.2.1 29)) 30 (σ.2.1 30)) 31 (σ.2.1 31)) 43 (σ.2.1 43)) 44 (σ.2.1 44)) 45 (σ.2.1 45)) 46 (σ.2.1 46)) 437 (σ.1 437)) 678 (σ.1 678)) 679 (σ.1 679))) (congrArg (cX g kk) (wrIi (S := (sI (sI (sF (sF (sF (sF (sF (sF (sF (sF σ 28 (σ.2.1 28)) 29 (σ.2.1 29)) 30 (σ.2.1 30)) 31 (σ.2.1 31)) 43 (σ.2.1 43)) 44 (σ.2.1 44)) 45 (σ.2.1 45)) 46 (σ.2.1 46)) 437 (σ.1 437)) 678 (σ.1 678))) (c := 679) (v := σ.1 679) (gtII (by decide) (gtII (by decide) (gtIF (gtIF (gtIF (gtIF (gtIF (gtIF (gtIF (gtIF rfl)))))))))))) ?_
      refine j_w (cX g kk (sI (sI (sI (sI (sF (sF (sF (sF (sF (sF (sF (sF σ 28 (σ.2.1 28)) 29 (σ.2.1 29)) 30 (σ.2.1 30)) 31 (σ.2.1 31)) 43 (σ.2.1 43)) 44 (σ.2.1 44)) 45 (σ.2.1 45)) 46 (σ.2.1 46)) 437 (σ.1 437)) 678 (σ.1 678)) 679 (σ.1 679)) 680 (σ.1 680))) (congrArg (cX g kk) (wrIi (S := (sI (sI (sI (sF (sF (sF (sF (sF (sF (sF (sF σ 28 (σ.2.1 28)) 29 (σ.2.1 29)) 30 (σ.2.1 30)) 31 (σ.2.1 31)) 43 (σ.2.1 43)) 44 (σ.2.1 44)) 45 (σ.2.1 45)) 46 (σ.2.1 46)) 437 (σ.1 437)) 678 (σ.1 678)) 679 (σ.1 679))) (c := 680) (v := σ.1 680) (gtII (by decide) (gtII (by decide) (gtII (by decide) (gtIF (gtIF (gtIF (gtIF (gtIF (gtIF (gtIF (gtIF rfl))))))))))))) ?_
      exact j_iret C E (sI (sI (sI (sI (sF (sF (sF (sF (sF (sF (sF (sF σ 28 (σ.2.1 28)) 29 (σ.2.1 29)) 30 (σ.2.1 30)) 31 (σ.2.1 31)) 43 (σ.2.1 43)) 44 (σ.2.1 44)) 45 (σ.2.1 45)) 46 (σ.2.1 46)) 437 (σ.1 437)) 678 (σ.1 678)) 679 (σ.1 679)) 680 (σ.1 680)) ⟨_, rfl, ⟨(σ.2.1 28), (σ.2.1 29), (σ.2.1 30), (σ.2.1 31), (σ.2.1 43), (σ.2.1 44), (σ.2.1 45), (σ.2.1 46), (σ.1 437), (σ.1 678), (σ.1 679), (σ.1 680), rfl⟩⟩ rfl dX10_bound_29
    · replace c2 := bI_t c2
      refine j_iload C 4 rfl dX10_bound_17 ?_
      refine j_iconst C (nI 0) (by decide) dX10_bound_19 ?_
      refine j_iconst C (nI 1) (by decide) dX10_bound_20 ?_
      refine j_S01 C (c_isWithin w (nI 0) (nI 1)) kyX10_isWithin tb_467 tb_468 rfl (Nat.le_of_ble_eq_true rfl) ⟨by decide, by decide⟩ ⟨by decide, by decide⟩ dX10_bound_21 rfl ?_
      refine j_if_ne C 30 (by decide) dX10_bound_24 (fun c3 => ?_) (fun c3 => ?_)
      · replace c3 := bI_t c3
        obtain ⟨wn, wn1, wn2, rfl⟩ := wB_nat (by decide) (by decide) c3
        refine j_aload_n C 0 rfl dX10_bound_30 ?_
        refine gX_0_2 C tb_430 dX10_bound_31 ?_
        refine j_V1 C (d_refresh g kk σ k hk hk6 hI  ) kyX7_refresh tb_562 tb_563 tb_564 27 rfl (eX_27 g kk _) rfl (Nat.le_of_ble_eq_true rfl) ⟨by decide, by decide⟩ dX10_bound_34 rfl (fun vr ur hp => ?_)
        obtain ⟨rfl, w4, w5, w6, w7, w8, hu⟩ := hp
        replace hu := hu.symm
        subst hu
        refine j_aload_n C 0 rfl dX10_bound_37 ?_
        refine gX_0_5 C tb_433 dX10_bound_38 ?_
        refine j_iload_n C 1 rfl dX10_bound_41 ?_
        refine j_V1 C (d_gather g kk (sI (sF (sF (sF (sF σ 28 w4) 29 w5) 30 w6) 31 w7) 437 w8) k hk hk6 hI  xn (by first | assumption | omega)) kyX4_gather tb_712 tb_713 tb_714 42 rfl (eX_42 g kk _) rfl (Nat.le_of_ble_eq_true rfl) ⟨by decide, by decide⟩ dX10_bound_42 rfl (fun vr ur hp => ?_)
        obtain ⟨rfl, w9, w10, w11, w12, w13, hu, g14⟩ := hp
        replace hu := hu.symm
        subst hu
        refine j_aload_n C 0 rfl dX10_bound_45 ?_
        refine gX_0_5 C tb_433 dX10_bound_46 ?_
        refine j_iload_n C 2 rfl dX10_bound_49 ?_
        refine j_iload_n C 3 rfl dX10_bound_50 ?_
        refine j_V1 C (d_boundsAt g kk (sI (sF (sF (sF (sF (sI (sF (sF (sF (sF σ 28 w4) 29 w5) 30 w6) 31 w7) 437 w8) 43 w9) 44 w10) 45 w11) 46 w12) 678 (nI w13)) k hk hk6 hI w13 rfl (by omega)  y z) kyX4_boundsAt tb_720 tb_721 tb_722 42 rfl (eX_42 g kk _) rfl (Nat.le_of_ble_eq_true rfl) ⟨by decide, by decide⟩ dX10_bound_51 rfl (fun vr ur hp => ?_)
        obtain ⟨r17, rfl, w15, w16, hu⟩ := hp
        replace hu := hu.symm
        subst hu
        refine j_if_ne C 60 (by decide) dX10_bound_54 (fun c18 => ?_) (fun c18 => ?_)
        · refine j_iload C 4 rfl dX10_bound_60 ?_
          refine j_if_neN C 75 (by decide) (by omega) dX10_bound_62 (fun c19 => ?_) (fun c19 => ?_)
          · refine j_aload_n C 0 rfl dX10_bound_75 ?_
            refine gX_0_5 C tb_433 dX10_bound_76 ?_
            refine gX_42_8 C tb_322 (w16) rfl dX10_bound_79 ?_
            refine j_w (cX g kk (sI (sI (sI (sI (sF (sF (sF (sF (sF (sF (sF (sF σ 28 w4) 29 w5) 30 w6) 31 w7) 43 w9) 44 w10) 45 w11) 46 w12) 437 w8) 678 (nI w13)) 679 w15) 680 w16)) (congrArg (cX g kk) (show sI (sI (sI (sF (sF (sF (sF (sI (sF (sF (sF (sF σ 28 w4) 29 w5) 30 w6) 31 w7) 437 w8) 43 w9) 44 w10) 45 w11) 46 w12) 678 (nI w13)) 679 w15) 680 w16 = sI (sI (sI (sI (sF (sF (sF (sF (sF (sF (sF (sF σ 28 w4) 29 w5) 30 w6) 31 w7) 43 w9) 44 w10) 45 w11) 46 w12) 437 w8) 678 (nI w13)) 679 w15) 680 w16 from (wrI (wrI (wrI (Eq.trans (wrF (Eq.trans (wrF (Eq.trans (wrF wrFI) wrFI)) wrFI)) wrFI)))))) ?_
            exact j_iret C E (sI (sI (sI (sI (sF (sF (sF (sF (sF (sF (sF (sF σ 28 w4) 29 w5) 30 w6) 31 w7) 43 w9) 44 w10) 45 w11) 46 w12) 437 w8) 678 (nI w13)) 679 w15) 680 w16) ⟨_, rfl, ⟨w4, w5, w6, w7, w9, w10, w11, w12, w8, (nI w13), w15, w16, rfl⟩⟩ rfl dX10_bound_82
          · refine j_aload_n C 0 rfl dX10_bound_65 ?_
            refine gX_0_5 C tb_433 dX10_bound_66 ?_
            refine gX_42_7 C tb_320 (w15) rfl dX10_bound_69 ?_
            refine j_goto C 82 (by decide) dX10_bound_72 ?_
            refine j_w (cX g kk (sI (sI (sI (sI (sF (sF (sF (sF (sF (sF (sF (sF σ 28 w4) 29 w5) 30 w6) 31 w7) 43 w9) 44 w10) 45 w11) 46 w12) 437 w8) 678 (nI w13)) 679 w15) 680 w16)) (congrArg (cX g kk) (show sI (sI (sI (sF (sF (sF (sF (sI (sF (sF (sF (sF σ 28 w4) 29 w5) 30 w6) 31 w7) 437 w8) 43 w9) 44 w10) 45 w11) 46 w12) 678 (nI w13)) 679 w15) 680 w16 = sI (sI (sI (sI (sF (sF (sF (sF (sF (sF (sF (sF σ 28 w4) 29 w5) 30 w6) 31 w7) 43 w9) 44 w10) 45 w11) 46 w12) 437 w8) 678 (nI w13)) 679 w15) 680 w16 from (wrI (wrI (wrI (Eq.trans (wrF (Eq.trans (wrF (Eq.trans (wrF wrFI) wrFI)) wrFI)) wrFI)))))) ?_
            exact j_iret C E (sI (sI (sI (sI (sF (sF (sF (sF (sF (sF (sF (sF σ 28 w4) 29 w5) 30 w6) 31 w7) 43 w9) 44 w10) 45 w11) 46 w12) 437 w8) 678 (nI w13)) 679 w15) 680 w16) ⟨_, rfl, ⟨w4, w5, w6, w7, w9, w10, w11, w12, w8, (nI w13), w15, w16, rfl⟩⟩ rfl dX10_bound_82
        · refine j_bipush C ((-5)) (by decide) dX10_bound_57 ?_
          refine j_w (cX g kk (sI (sI (sI (sI (sF (sF (sF (sF (sF (sF (sF (sF σ 28 w4) 29 w5) 30 w6) 31 w7) 43 w9) 44 w10) 45 w11) 46 w12) 437 w8) 678 (nI w13)) 679 w15) 680 w16)) (congrArg (cX g kk) (show sI (sI (sI (sF (sF (sF (sF (sI (sF (sF (sF (sF σ 28 w4) 29 w5) 30 w6) 31 w7) 437 w8) 43 w9) 44 w10) 45 w11) 46 w12) 678 (nI w13)) 679 w15) 680 w16 = sI (sI (sI (sI (sF (sF (sF (sF (sF (sF (sF (sF σ 28 w4) 29 w5) 30 w6) 31 w7) 43 w9) 44 w10) 45 w11) 46 w12) 437 w8) 678 (nI w13)) 679 w15) 680 w16 from (wrI (wrI (wrI (Eq.trans (wrF (Eq.trans (wrF (Eq.trans (wrF wrFI) wrFI)) wrFI)) wrFI)))))) ?_
          exact j_iret C E (sI (sI (sI (sI (sF (sF (sF (sF (sF (sF (sF (sF σ 28 w4) 29 w5) 30 w6) 31 w7) 43 w9) 44 w10) 45 w11) 46 w12) 437 w8) 678 (nI w13)) 679 w15) 680 w16) ⟨_, rfl, ⟨w4, w5, w6, w7, w9, w10, w11, w12, w8, (nI w13), w15, w16, rfl⟩⟩ rfl dX10_bound_59
      · replace c3 := bI_f c3
        refine j_bipush C ((-2)) (by decide) dX10_bound_27 ?_
        refine j_w (cX g kk (sF σ 28 (σ.2.1 28))) (congrArg (cX g kk) (wrFi (S := σ) (c := 28) (v := σ.2.1 28) rfl)) ?_
        refine j_w (cX g kk (sF (sF σ 28 (σ.2.1 28)) 29 (σ.2.1 29))) (congrArg (cX g kk) (wrFi (S := (sF σ 28 (σ.2.1 28))) (c := 29) (v := σ.2.1 29) (gtFF (by decide) rfl))) ?_
        refine j_w (cX g kk (sF (sF (sF σ 28 (σ.2.1 28)) 29 (σ.2.1 29)) 30 (σ.2.1 30))) (congrArg (cX g kk) (wrFi (S := (sF (sF σ 28 (σ.2.1 28)) 29 (σ.2.1 29))) (c := 30) (v := σ.2.1 30) (gtFF (by decide) (gtFF (by decide) rfl)))) ?_
        refine j_w (cX g kk (sF (sF (sF (sF σ 28 (σ.2.1 28)) 29 (σ.2.1 29)) 30 (σ.2.1 30)) 31 (σ.2.1 31))) (congrArg (cX g kk) (wrFi (S := (sF (sF (sF σ 28 (σ.2.1 28)) 29 (σ.2.1 29)) 30 (σ.2.1 30))) (c := 31) (v := σ.2.1 31) (gtFF (by decide) (gtFF (by decide) (gtFF (by decide) rfl))))) ?_
        refine j_w (cX g kk (sF (sF (sF (sF (sF σ 28 (σ.2.1 28)) 29 (σ.2.1 29)) 30 (σ.2.1 30)) 31 (σ.2.1 31)) 43 (σ.2.1 43))) (congrArg (cX g kk) (wrFi (S := (sF (sF (sF (sF σ 28 (σ.2.1 28)) 29 (σ.2.1 29)) 30 (σ.2.1 30)) 31 (σ.2.1 31))) (c := 43) (v := σ.2.1 43) (gtFF (by decide) (gtFF (by decide) (gtFF (by decide) (gtFF (by decide) rfl)))))) ?_
        refine j_w (cX g kk (sF (sF (sF (sF (sF (sF σ 28 (σ.2.1 28)) 29 (σ.2.1 29)) 30 (σ.2.1 30)) 31 (σ.2.1 31)) 43 (σ.2.1 43)) 44 (σ.2.1 44))) (congrArg (cX g kk) (wrFi (S := (sF (sF (sF (sF (sF σ 28 (σ.2.1 28)) 29 (σ.2.1 29)) 30 (σ.2.1 30)) 31 (σ.2.1 31)) 43 (σ.2.1 43))) (c := 44) (v := σ.2.1 44) (gtFF (by decide) (gtFF (by decide) (gtFF (by decide) (gtFF (by decide) (gtFF (by decide) rfl))))))) ?_
        refine j_w (cX g kk (sF (sF (sF (sF (sF (sF (sF σ 28 (σ.2.1 28)) 29 (σ.2.1 29)) 30 (σ.2.1 30)) 31 (σ.2.1 31)) 43 (σ.2.1 43)) 44 (σ.2.1 44)) 45 (σ.2.1 45))) (congrArg (cX g kk) (wrFi (S := (sF (sF (sF (sF (sF (sF σ 28 (σ.2.1 28)) 29 (σ.2.1 29)) 30 (σ.2.1 30)) 31 (σ.2.1 31)) 43 (σ.2.1 43)) 44 (σ.2.1 44))) (c := 45) (v := σ.2.1 45) (gtFF (by decide) (gtFF (by decide) (gtFF (by decide) (gtFF (by decide) (gtFF (by decide) (gtFF (by decide) rfl)))))))) ?_
        refine j_w (cX g kk (sF (sF (sF (sF (sF (sF (sF (sF σ 28 (σ.2.1 28)) 29 (σ.2.1 29)) 30 (σ.2.1 30)) 31 (σ.2.1 31)) 43 (σ.2.1 43)) 44 (σ.2.1 44)) 45 (σ.2.1 45)) 46 (σ.2.1 46))) (congrArg (cX g kk) (wrFi (S := (sF (sF (sF (sF (sF (sF (sF σ 28 (σ.2.1 28)) 29 (σ.2.1 29)) 30 (σ.2.1 30)) 31 (σ.2.1 31)) 43 (σ.2.1 43)) 44 (σ.2.1 44)) 45 (σ.2.1 45))) (c := 46) (v := σ.2.1 46) (gtFF (by decide) (gtFF (by decide) (gtFF (by decide) (gtFF (by decide) (gtFF (by decide) (gtFF (by decide) (gtFF (by decide) rfl))))))))) ?_
        refine j_w (cX g kk (sI (sF (sF (sF (sF (sF (sF (sF (sF σ 28 (σ.2.1 28)) 29 (σ.2.1 29)) 30 (σ.2.1 30)) 31 (σ.2.1 31)) 43 (σ.2.1 43)) 44 (σ.2.1 44)) 45 (σ.2.1 45)) 46 (σ.2.1 46)) 437 (σ.1 437))) (congrArg (cX g kk) (wrIi (S := (sF (sF (sF (sF (sF (sF (sF (sF σ 28 (σ.2.1 28)) 29 (σ.2.1 29)) 30 (σ.2.1 30)) 31 (σ.2.1 31)) 43 (σ.2.1 43)) 44 (σ.2.1 44)) 45 (σ.2.1 45)) 46 (σ.2.1 46))) (c := 437) (v := σ.1 437) (gtIF (gtIF (gtIF (gtIF (gtIF (gtIF (gtIF (gtIF rfl)))))))))) ?_
        refine j_w (cX g kk (sI (sI (sF (sF (sF (sF (sF (sF (sF (sF σ 28 (σ.2.1 28)) 29 (σ.2.1 29)) 30 (σ.2.1 30)) 31 (σ.2.1 31)) 43 (σ.2.1 43)) 44 (σ.2.1 44)) 45 (σ.2.1 45)) 46 (σ.2.1 46)) 437 (σ.1 437)) 678 (σ.1 678))) (congrArg (cX g kk) (wrIi (S := (sI (sF (sF (sF (sF (sF (sF (sF (sF σ 28 (σ.2.1 28)) 29 (σ.2.1 29)) 30 (σ.2.1 30)) 31 (σ.2.1 31)) 43 (σ.2.1 43)) 44 (σ.2.1 44)) 45 (σ.2.1 45)) 46 (σ.2.1 46)) 437 (σ.1 437))) (c := 678) (v := σ.1 678) (gtII (by decide) (gtIF (gtIF (gtIF (gtIF (gtIF (gtIF (gtIF (gtIF rfl))))))))))) ?_
        refine j_w (cX g kk (sI (sI (sI (sF (sF (sF (sF (sF (sF (sF (sF σ 28 (σ.2.1 28)) 29 (σ.2.1 29)) 30 (σ.2.1 30)) 31 (σ.2.1 31)) 43 (σ.2.1 43)) 44 (σ.2.1 44)) 45 (σ.2.1 45)) 46 (σ.2.1 46)) 437 (σ.1 437)) 678 (σ.1 678)) 679 (σ.1 679))) (congrArg (cX g kk) (wrIi (S := (sI (sI (sF (sF (sF (sF (sF (sF (sF (sF σ 28 (σ.2.1 28)) 29 (σ.2.1 29)) 30 (σ.2.1 30)) 31 (σ.2.1 31)) 43 (σ.2.1 43)) 44 (σ.2.1 44)) 45 (σ.2.1 45)) 46 (σ.2.1 46)) 437 (σ.1 437)) 678 (σ.1 678))) (c := 679) (v := σ.1 679) (gtII (by decide) (gtII (by decide) (gtIF (gtIF (gtIF (gtIF (gtIF (gtIF (gtIF (gtIF rfl)))))))))))) ?_
        refine j_w (cX g kk (sI (sI (sI (sI (sF (sF (sF (sF (sF (sF (sF (sF σ 28 (σ.2.1 28)) 29 (σ.2.1 29)) 30 (σ.2.1 30)) 31 (σ.2.1 31)) 43 (σ.2.1 43)) 44 (σ.2.1 44)) 45 (σ.2.1 45)) 46 (σ.2.1 46)) 437 (σ.1 437)) 678 (σ.1 678)) 679 (σ.1 679)) 680 (σ.1 680))) (congrArg (cX g kk) (wrIi (S := (sI (sI (sI (sF (sF (sF (sF (sF (sF (sF (sF σ 28 (σ.2.1 28)) 29 (σ.2.1 29)) 30 (σ.2.1 30)) 31 (σ.2.1 31)) 43 (σ.2.1 43)) 44 (σ.2.1 44)) 45 (σ.2.1 45)) 46 (σ.2.1 46)) 437 (σ.1 437)) 678 (σ.1 678)) 679 (σ.1 679))) (c := 680) (v := σ.1 680) (gtII (by decide) (gtII (by decide) (gtII (by decide) (gtIF (gtIF (gtIF (gtIF (gtIF (gtIF (gtIF (gtIF rfl))))))))))))) ?_
        exact j_iret C E (sI (sI (sI (sI (sF (sF (sF (sF (sF (sF (sF (sF σ 28 (σ.2.1 28)) 29 (σ.2.1 29)) 30 (σ.2.1 30)) 31 (σ.2.1 31)) 43 (σ.2.1 43)) 44 (σ.2.1 44)) 45 (σ.2.1 45)) 46 (σ.2.1 46)) 437 (σ.1 437)) 678 (σ.1 678)) 679 (σ.1 679)) 680 (σ.1 680)) ⟨_, rfl, ⟨(σ.2.1 28), (σ.2.1 29), (σ.2.1 30), (σ.2.1 31), (σ.2.1 43), (σ.2.1 44), (σ.2.1 45), (σ.2.1 46), (σ.1 437), (σ.1 678), (σ.1 679), (σ.1 680), rfl⟩⟩ rfl dX10_bound_29
  · replace c1 := bI_f c1
    refine j_iconst C ((-1)) (by decide) dX10_bound_7 ?_
    refine j_w (cX g kk (sF σ 28 (σ.2.1 28))) (congrArg (cX g kk) (wrFi (S := σ) (c := 28) (v := σ.2.1 28) rfl)) ?_
    refine j_w (cX g kk (sF (sF σ 28 (σ.2.1 28)) 29 (σ.2.1 29))) (congrArg (cX g kk) (wrFi (S := (sF σ 28 (σ.2.1 28))) (c := 29) (v := σ.2.1 29) (gtFF (by decide) rfl))) ?_
    refine j_w (cX g kk (sF (sF (sF σ 28 (σ.2.1 28)) 29 (σ.2.1 29)) 30 (σ.2.1 30))) (congrArg (cX g kk) (wrFi (S := (sF (sF σ 28 (σ.2.1 28)) 29 (σ.2.1 29))) (c := 30) (v := σ.2.1 30) (gtFF (by decide) (gtFF (by decide) rfl)))) ?_
    refine j_w (cX g kk (sF (sF (sF (sF σ 28 (σ.2.1 28)) 29 (σ.2.1 29)) 30 (σ.2.1 30)) 31 (σ.2.1 31))) (congrArg (cX g kk) (wrFi (S := (sF (sF (sF σ 28 (σ.2.1 28)) 29 (σ.2.1 29)) 30 (σ.2.1 30))) (c := 31) (v := σ.2.1 31) (gtFF (by decide) (gtFF (by decide) (gtFF (by decide) rfl))))) ?_
    refine j_w (cX g kk (sF (sF (sF (sF (sF σ 28 (σ.2.1 28)) 29 (σ.2.1 29)) 30 (σ.2.1 30)) 31 (σ.2.1 31)) 43 (σ.2.1 43))) (congrArg (cX g kk) (wrFi (S := (sF (sF (sF (sF σ 28 (σ.2.1 28)) 29 (σ.2.1 29)) 30 (σ.2.1 30)) 31 (σ.2.1 31))) (c := 43) (v := σ.2.1 43) (gtFF (by decide) (gtFF (by decide) (gtFF (by decide) (gtFF (by decide) rfl)))))) ?_
    refine j_w (cX g kk (sF (sF (sF (sF (sF (sF σ 28 (σ.2.1 28)) 29 (σ.2.1 29)) 30 (σ.2.1 30)) 31 (σ.2.1 31)) 43 (σ.2.1 43)) 44 (σ.2.1 44))) (congrArg (cX g kk) (wrFi (S := (sF (sF (sF (sF (sF σ 28 (σ.2.1 28)) 29 (σ.2.1 29)) 30 (σ.2.1 30)) 31 (σ.2.1 31)) 43 (σ.2.1 43))) (c := 44) (v := σ.2.1 44) (gtFF (by decide) (gtFF (by decide) (gtFF (by decide) (gtFF (by decide) (gtFF (by decide) rfl))))))) ?_
    refine j_w (cX g kk (sF (sF (sF (sF (sF (sF (sF σ 28 (σ.2.1 28)) 29 (σ.2.1 29)) 30 (σ.2.1 30)) 31 (σ.2.1 31)) 43 (σ.2.1 43)) 44 (σ.2.1 44)) 45 (σ.2.1 45))) (congrArg (cX g kk) (wrFi (S := (sF (sF (sF (sF (sF (sF σ 28 (σ.2.1 28)) 29 (σ.2.1 29)) 30 (σ.2.1 30)) 31 (σ.2.1 31)) 43 (σ.2.1 43)) 44 (σ.2.1 44))) (c := 45) (v := σ.2.1 45) (gtFF (by decide) (gtFF (by decide) (gtFF (by decide) (gtFF (by decide) (gtFF (by decide) (gtFF (by decide) rfl)))))))) ?_
    refine j_w (cX g kk (sF (sF (sF (sF (sF (sF (sF (sF σ 28 (σ.2.1 28)) 29 (σ.2.1 29)) 30 (σ.2.1 30)) 31 (σ.2.1 31)) 43 (σ.2.1 43)) 44 (σ.2.1 44)) 45 (σ.2.1 45)) 46 (σ.2.1 46))) (congrArg (cX g kk) (wrFi (S := (sF (sF (sF (sF (sF (sF (sF σ 28 (σ.2.1 28)) 29 (σ.2.1 29)) 30 (σ.2.1 30)) 31 (σ.2.1 31)) 43 (σ.2.1 43)) 44 (σ.2.1 44)) 45 (σ.2.1 45))) (c := 46) (v := σ.2.1 46) (gtFF (by decide) (gtFF (by decide) (gtFF (by decide) (gtFF (by decide) (gtFF (by decide) (gtFF (by decide) (gtFF (by decide) rfl))))))))) ?_
    refine j_w (cX g kk (sI (sF (sF (sF (sF (sF (sF (sF (sF σ 28 (σ.2.1 28)) 29 (σ.2.1 29)) 30 (σ.2.1 30)) 31 (σ.2.1 31)) 43 (σ.2.1 43)) 44 (σ.2.1 44)) 45 (σ.2.1 45)) 46 (σ.2.1 46)) 437 (σ.1 437))) (congrArg (cX g kk) (wrIi (S := (sF (sF (sF (sF (sF (sF (sF (sF σ 28 (σ.2.1 28)) 29 (σ.2.1 29)) 30 (σ.2.1 30)) 31 (σ.2.1 31)) 43 (σ.2.1 43)) 44 (σ.2.1 44)) 45 (σ.2.1 45)) 46 (σ.2.1 46))) (c := 437) (v := σ.1 437) (gtIF (gtIF (gtIF (gtIF (gtIF (gtIF (gtIF (gtIF rfl)))))))))) ?_
    refine j_w (cX g kk (sI (sI (sF (sF (sF (sF (sF (sF (sF (sF σ 28 (σ.2.1 28)) 29 (σ.2.1 29)) 30 (σ.2.1 30)) 31 (σ.2.1 31)) 43 (σ.2.1 43)) 44 (σ.2.1 44)) 45 (σ.2.1 45)) 46 (σ.2.1 46)) 437 (σ.1 437)) 678 (σ.1 678))) (congrArg (cX g kk) (wrIi (S := (sI (sF (sF (sF (sF (sF (sF (sF (sF σ 28 (σ.2.1 28)) 29 (σ.2.1 29)) 30 (σ.2.1 30)) 31 (σ.2.1 31)) 43 (σ.2.1 43)) 44 (σ.2.1 44)) 45 (σ.2.1 45)) 46 (σ.2.1 46)) 437 (σ.1 437))) (c := 678) (v := σ.1 678) (gtII (by decide) (gtIF (gtIF (gtIF (gtIF (gtIF (gtIF (gtIF (gtIF rfl))))))))))) ?_
    refine j_w (cX g kk (sI (sI (sI (sF (sF (sF (sF (sF (sF (sF (sF σ 28 (σ.2.1 28)) 29 (σ.2.1 29)) 30 (σ.2.1 30)) 31 (σ.2.1 31)) 43 (σ.2.1 43)) 44 (σ.2.1 44)) 45 (σ.2.1 45)) 46 (σ.2.1 46)) 437 (σ.1 437)) 678 (σ.1 678)) 679 (σ.1 679))) (congrArg (cX g kk) (wrIi (S := (sI (sI (sF (sF (sF (sF (sF (sF (sF (sF σ 28 (σ.2.1 28)) 29 (σ.2.1 29)) 30 (σ.2.1 30)) 31 (σ.2.1 31)) 43 (σ.2.1 43)) 44 (σ.2.1 44)) 45 (σ.2.1 45)) 46 (σ.2.1 46)) 437 (σ.1 437)) 678 (σ.1 678))) (c := 679) (v := σ.1 679) (gtII (by decide) (gtII (by decide) (gtIF (gtIF (gtIF (gtIF (gtIF (gtIF (gtIF (gtIF rfl)))))))))))) ?_
    refine j_w (cX g kk (sI (sI (sI (sI (sF (sF (sF (sF (sF (sF (sF (sF σ 28 (σ.2.1 28)) 29 (σ.2.1 29)) 30 (σ.2.1 30)) 31 (σ.2.1 31)) 43 (σ.2.1 43)) 44 (σ.2.1 44)) 45 (σ.2.1 45)) 46 (σ.2.1 46)) 437 (σ.1 437)) 678 (σ.1 678)) 679 (σ.1 679)) 680 (σ.1 680))) (congrArg (cX g kk) (wrIi (S := (sI (sI (sI (sF (sF (sF (sF (sF (sF (sF (sF σ 28 (σ.2.1 28)) 29 (σ.2.1 29)) 30 (σ.2.1 30)) 31 (σ.2.1 31)) 43 (σ.2.1 43)) 44 (σ.2.1 44)) 45 (σ.2.1 45)) 46 (σ.2.1 46)) 437 (σ.1 437)) 678 (σ.1 678)) 679 (σ.1 679))) (c := 680) (v := σ.1 680) (gtII (by decide) (gtII (by decide) (gtII (by decide) (gtIF (gtIF (gtIF (gtIF (gtIF (gtIF (gtIF (gtIF rfl))))))))))))) ?_
    exact j_iret C E (sI (sI (sI (sI (sF (sF (sF (sF (sF (sF (sF (sF σ 28 (σ.2.1 28)) 29 (σ.2.1 29)) 30 (σ.2.1 30)) 31 (σ.2.1 31)) 43 (σ.2.1 43)) 44 (σ.2.1 44)) 45 (σ.2.1 45)) 46 (σ.2.1 46)) 437 (σ.1 437)) 678 (σ.1 678)) 679 (σ.1 679)) 680 (σ.1 680)) ⟨_, rfl, ⟨(σ.2.1 28), (σ.2.1 29), (σ.2.1 30), (σ.2.1 31), (σ.2.1 43), (σ.2.1 44), (σ.2.1 45), (σ.2.1 46), (σ.1 437), (σ.1 678), (σ.1 679), (σ.1 680), rfl⟩⟩ rfl dX10_bound_8
set_option maxRecDepth 100000 in
set_option maxHeartbeats 4000000 in
theorem d_over (g kk : Nat → Nat) (σ : St) (k : Nat) (hk : σ.1 16 = nI k) (hk6 : k ≤ 6) (hI : iX σ)  (x : Int32) (a : Int32) (b : Int32) (c : Int32) (d : Int32) (w : Int32) : jM (S := St) yX10_over cX10_over 7 (some .int) { frames := 5, cells := 0, slots := 0, locals := 115 } kk (cX g kk σ) [.ref (g 0), .int x, .int a, .int b, .int c, .int d, .int w] (cX g kk) (rI (fun (r : Int32) (u : St) => ∃ (pF28 : Nat → Int32) (pF29 : Nat → Int32) (pF30 : Nat → Int32) (pF31 : Nat → Int32) (pF43 : Nat → Int32) (pF44 : Nat → Int32) (pF45 : Nat → Int32) (pF46 : Nat → Int32) (pI437 : Int32) (pI678 : Int32) (pI679 : Int32) (pI680 : Int32) (pI681 : Int32) (pI682 : Int32), u = sI (sI (sI (sI (sI (sI (sF (sF (sF (sF (sF (sF (sF (sF σ 28 pF28) 29 pF29) 30 pF30) 31 pF31) 43 pF43) 44 pF44) 45 pF45) 46 pF46) 437 pI437) 678 pI678) 679 pI679) 680 pI680) 681 pI681) 682 pI682)) := by
  refine j_entry [(0, .ref (g 0)), (1, .int x), (2, .int a), (3, .int b), (4, .int c), (5, .int d), (6, .int w)] (by decide) (Nat.le_of_ble_eq_true rfl) rfl ?_
  intro X C E HI
  refine j_iload_n C 1 rfl dX10_over_0 ?_
  refine j_S01 C (c_isDay x) kyX10_isDay tb_486 tb_487 rfl (Nat.le_of_ble_eq_true rfl) ⟨by decide, by decide⟩ ⟨by decide, by decide⟩ dX10_over_1 rfl ?_
  refine j_if_ne C 9 (by decide) dX10_over_4 (fun c1 => ?_) (fun c1 => ?_)
  · replace c1 := bI_t c1
    obtain ⟨xn, xn1, xn2, rfl⟩ := wB_nat (by decide) (by decide) c1
    refine j_iload_n C 2 rfl dX10_over_9 ?_
    refine j_iload_n C 3 rfl dX10_over_10 ?_
    refine j_iload C 4 rfl dX10_over_11 ?_
    refine j_iload C 5 rfl dX10_over_13 ?_
    refine j_S01 C (c_isLand a b c d) kyX10_isLand tb_733 tb_734 rfl (Nat.le_of_ble_eq_true rfl) ⟨by decide, by decide⟩ ⟨by decide, by decide⟩ dX10_over_15 rfl ?_
    refine j_if_eq C 31 (by decide) dX10_over_18 (fun c2 => ?_) (fun c2 => ?_)
    · replace c2 := bI_f c2
      refine j_bipush C ((-2)) (by decide) dX10_over_31 ?_
      refine j_w (cX g kk (sF σ 28 (σ.2.1 28))) (congrArg (cX g kk) (wrFi (S := σ) (c := 28) (v := σ.2.1 28) rfl)) ?_
      refine j_w (cX g kk (sF (sF σ 28 (σ.2.1 28)) 29 (σ.2.1 29))) (congrArg (cX g kk) (wrFi (S := (sF σ 28 (σ.2.1 28))) (c := 29) (v := σ.2.1 29) (gtFF (by decide) rfl))) ?_
      refine j_w (cX g kk (sF (sF (sF σ 28 (σ.2.1 28)) 29 (σ.2.1 29)) 30 (σ.2.1 30))) (congrArg (cX g kk) (wrFi (S := (sF (sF σ 28 (σ.2.1 28)) 29 (σ.2.1 29))) (c := 30) (v := σ.2.1 30) (gtFF (by decide) (gtFF (by decide) rfl)))) ?_
      refine j_w (cX g kk (sF (sF (sF (sF σ 28 (σ.2.1 28)) 29 (σ.2.1 29)) 30 (σ.2.1 30)) 31 (σ.2.1 31))) (congrArg (cX g kk) (wrFi (S := (sF (sF (sF σ 28 (σ.2.1 28)) 29 (σ.2.1 29)) 30 (σ.2.1 30))) (c := 31) (v := σ.2.1 31) (gtFF (by decide) (gtFF (by decide) (gtFF (by decide) rfl))))) ?_
      refine j_w (cX g kk (sF (sF (sF (sF (sF σ 28 (σ.2.1 28)) 29 (σ.2.1 29)) 30 (σ.2.1 30)) 31 (σ.2.1 31)) 43 (σ.2.1 43))) (congrArg (cX g kk) (wrFi (S := (sF (sF (sF (sF σ 28 (σ.2.1 28)) 29 (σ.2.1 29)) 30 (σ.2.1 30)) 31 (σ.2.1 31))) (c := 43) (v := σ.2.1 43) (gtFF (by decide) (gtFF (by decide) (gtFF (by decide) (gtFF (by decide) rfl)))))) ?_
      refine j_w (cX g kk (sF (sF (sF (sF (sF (sF σ 28 (σ.2.1 28)) 29 (σ.2.1 29)) 30 (σ.2.1 30)) 31 (σ.2.1 31)) 43 (σ.2.1 43)) 44 (σ.2.1 44))) (congrArg (cX g kk) (wrFi (S := (sF (sF (sF (sF (sF σ 28 (σ.2.1 28)) 29 (σ.2.1 29)) 30 (σ.2.1 30)) 31 (σ.2.1 31)) 43 (σ.2.1 43))) (c := 44) (v := σ.2.1 44) (gtFF (by decide) (gtFF (by decide) (gtFF (by decide) (gtFF (by decide) (gtFF (by decide) rfl))))))) ?_
      refine j_w (cX g kk (sF (sF (sF (sF (sF (sF (sF σ 28 (σ.2.1 28)) 29 (σ.2.1 29)) 30 (σ.2.1 30)) 31 (σ.2.1 31)) 43 (σ.2.1 43)) 44 (σ.2.1 44)) 45 (σ.2.1 45))) (congrArg (cX g kk) (wrFi (S := (sF (sF (sF (sF (sF (sF σ 28 (σ.2.1 28)) 29 (σ.2.1 29)) 30 (σ.2.1 30)) 31 (σ.2.1 31)) 43 (σ.2.1 43)) 44 (σ.2.1 44))) (c := 45) (v := σ.2.1 45) (gtFF (by decide) (gtFF (by decide) (gtFF (by decide) (gtFF (by decide) (gtFF (by decide) (gtFF (by decide) rfl)))))))) ?_
      refine j_w (cX g kk (sF (sF (sF (sF (sF (sF (sF (sF σ 28 (σ.2.1 28)) 29 (σ.2.1 29)) 30 (σ.2.1 30)) 31 (σ.2.1 31)) 43 (σ.2.1 43)) 44 (σ.2.1 44)) 45 (σ.2.1 45)) 46 (σ.2.1 46))) (congrArg (cX g kk) (wrFi (S := (sF (sF (sF (sF (sF (sF (sF σ 28 (σ.2.1 28)) 29 (σ.2.1 29)) 30 (σ.2.1 30)) 31 (σ.2.1 31)) 43 (σ.2.1 43)) 44 (σ.2.1 44)) 45 (σ.2.1 45))) (c := 46) (v := σ.2.1 46) (gtFF (by decide) (gtFF (by decide) (gtFF (by decide) (gtFF (by decide) (gtFF (by decide) (gtFF (by decide) (gtFF (by decide) rfl))))))))) ?_
      refine j_w (cX g kk (sI (sF (sF (sF (sF (sF (sF (sF (sF σ 28 (σ.2.1 28)) 29 (σ.2.1 29)) 30 (σ.2.1 30)) 31 (σ.2.1 31)) 43 (σ.2.1 43)) 44 (σ.2.1 44)) 45 (σ.2.1 45)) 46 (σ.2.1 46)) 437 (σ.1 437))) (congrArg (cX g kk) (wrIi (S := (sF (sF (sF (sF (sF (sF (sF (sF σ 28 (σ.2.1 28)) 29 (σ.2.1 29)) 30 (σ.2.1 30)) 31 (σ.2.1 31)) 43 (σ.2.1 43)) 44 (σ.2.1 44)) 45 (σ.2.1 45)) 46 (σ.2.1 46))) (c := 437) (v := σ.1 437) (gtIF (gtIF (gtIF (gtIF (gtIF (gtIF (gtIF (gtIF rfl)))))))))) ?_
      refine j_w (cX g kk (sI (sI (sF (sF (sF (sF (sF (sF (sF (sF σ 28 (σ.2.1 28)) 29 (σ.2.1 29)) 30 (σ.2.1 30)) 31 (σ.2.1 31)) 43 (σ.2.1 43)) 44 (σ.2.1 44)) 45 (σ.2.1 45)) 46 (σ.2.1 46)) 437 (σ.1 437)) 678 (σ.1 678))) (congrArg (cX g kk) (wrIi (S := (sI (sF (sF (sF (sF (sF (sF (sF (sF σ 28 (σ.2.1 28)) 29 (σ.2.1 29)) 30 (σ.2.1 30)) 31 (σ.2.1 31)) 43 (σ.2.1 43)) 44 (σ.2.1 44)) 45 (σ.2.1 45)) 46 (σ.2.1 46)) 437 (σ.1 437))) (c := 678) (v := σ.1 678) (gtII (by decide) (gtIF (gtIF (gtIF (gtIF (gtIF (gtIF (gtIF (gtIF rfl))))))))))) ?_
      refine j_w (cX g kk (sI (sI (sI (sF (sF (sF (sF (sF (sF (sF (sF σ 28 (σ.2.1 28)) 29 (σ.2.1 29)) 30 (σ.2.1 30)) 31 (σ.2.1 31)) 43 (σ.2.1 43)) 44 (σ.2.1 44)) 45 (σ.2.1 45)) 46 (σ.2.1 46)) 437 (σ.1 437)) 678 (σ.1 678)) 679 (σ.1 679))) (congrArg (cX g kk) (wrIi (S := (sI (sI (sF (sF (sF (sF (sF (sF (sF (sF σ 28 (σ.2.1 28)) 29 (σ.2.1 29)) 30 (σ.2.1 30)) 31 (σ.2.1 31)) 43 (σ.2.1 43)) 44 (σ.2.1 44)) 45 (σ.2.1 45)) 46 (σ.2.1 46)) 437 (σ.1 437)) 678 (σ.1 678))) (c := 679) (v := σ.1 679) (gtII (by decide) (gtII (by decide) (gtIF (gtIF (gtIF (gtIF (gtIF (gtIF (gtIF (gtIF rfl)))))))))))) ?_
      refine j_w (cX g kk (sI (sI (sI (sI (sF (sF (sF (sF (sF (sF (sF (sF σ 28 (σ.2.1 28)) 29 (σ.2.1 29)) 30 (σ.2.1 30)) 31 (σ.2.1 31)) 43 (σ.2.1 43)) 44 (σ.2.1 44)) 45 (σ.2.1 45)) 46 (σ.2.1 46)) 437 (σ.1 437)) 678 (σ.1 678)) 679 (σ.1 679)) 680 (σ.1 680))) (congrArg (cX g kk) (wrIi (S := (sI (sI (sI (sF (sF (sF (sF (sF (sF (sF (sF σ 28 (σ.2.1 28)) 29 (σ.2.1 29)) 30 (σ.2.1 30)) 31 (σ.2.1 31)) 43 (σ.2.1 43)) 44 (σ.2.1 44)) 45 (σ.2.1 45)) 46 (σ.2.1 46)) 437 (σ.1 437)) 678 (σ.1 678)) 679 (σ.1 679))) (c := 680) (v := σ.1 680) (gtII (by decide) (gtII (by decide) (gtII (by decide) (gtIF (gtIF (gtIF (gtIF (gtIF (gtIF (gtIF (gtIF rfl))))))))))))) ?_
      refine j_w (cX g kk (sI (sI (sI (sI (sI (sF (sF (sF (sF (sF (sF (sF (sF σ 28 (σ.2.1 28)) 29 (σ.2.1 29)) 30 (σ.2.1 30)) 31 (σ.2.1 31)) 43 (σ.2.1 43)) 44 (σ.2.1 44)) 45 (σ.2.1 45)) 46 (σ.2.1 46)) 437 (σ.1 437)) 678 (σ.1 678)) 679 (σ.1 679)) 680 (σ.1 680)) 681 (σ.1 681))) (congrArg (cX g kk) (wrIi (S := (sI (sI (sI (sI (sF (sF (sF (sF (sF (sF (sF (sF σ 28 (σ.2.1 28)) 29 (σ.2.1 29)) 30 (σ.2.1 30)) 31 (σ.2.1 31)) 43 (σ.2.1 43)) 44 (σ.2.1 44)) 45 (σ.2.1 45)) 46 (σ.2.1 46)) 437 (σ.1 437)) 678 (σ.1 678)) 679 (σ.1 679)) 680 (σ.1 680))) (c := 681) (v := σ.1 681) (gtII (by decide) (gtII (by decide) (gtII (by decide) (gtII (by decide) (gtIF (gtIF (gtIF (gtIF (gtIF (gtIF (gtIF (gtIF rfl)))))))))))))) ?_
      refine j_w (cX g kk (sI (sI (sI (sI (sI (sI (sF (sF (sF (sF (sF (sF (sF (sF σ 28 (σ.2.1 28)) 29 (σ.2.1 29)) 30 (σ.2.1 30)) 31 (σ.2.1 31)) 43 (σ.2.1 43)) 44 (σ.2.1 44)) 45 (σ.2.1 45)) 46 (σ.2.1 46)) 437 (σ.1 437)) 678 (σ.1 678)) 679 (σ.1 679)) 680 (σ.1 680)) 681 (σ.1 681)) 682 (σ.1 682))) (congrArg (cX g kk) (wrIi (S := (sI (sI (sI (sI (sI (sF (sF (sF (sF (sF (sF (sF (sF σ 28 (σ.2.1 28)) 29 (σ.2.1 29)) 30 (σ.2.1 30)) 31 (σ.2.1 31)) 43 (σ.2.1 43)) 44 (σ.2.1 44)) 45 (σ.2.1 45)) 46 (σ.2.1 46)) 437 (σ.1 437)) 678 (σ.1 678)) 679 (σ.1 679)) 680 (σ.1 680)) 681 (σ.1 681))) (c := 682) (v := σ.1 682) (gtII (by decide) (gtII (by decide) (gtII (by decide) (gtII (by decide) (gtII (by decide) (gtIF (gtIF (gtIF (gtIF (gtIF (gtIF (gtIF (gtIF rfl))))))))))))))) ?_
      exact j_iret C E (sI (sI (sI (sI (sI (sI (sF (sF (sF (sF (sF (sF (sF (sF σ 28 (σ.2.1 28)) 29 (σ.2.1 29)) 30 (σ.2.1 30)) 31 (σ.2.1 31)) 43 (σ.2.1 43)) 44 (σ.2.1 44)) 45 (σ.2.1 45)) 46 (σ.2.1 46)) 437 (σ.1 437)) 678 (σ.1 678)) 679 (σ.1 679)) 680 (σ.1 680)) 681 (σ.1 681)) 682 (σ.1 682)) ⟨_, rfl, ⟨(σ.2.1 28), (σ.2.1 29), (σ.2.1 30), (σ.2.1 31), (σ.2.1 43), (σ.2.1 44), (σ.2.1 45), (σ.2.1 46), (σ.1 437), (σ.1 678), (σ.1 679), (σ.1 680), (σ.1 681), (σ.1 682), rfl⟩⟩ rfl dX10_over_33
    · replace c2 := bI_t c2
      obtain ⟨an, bn, cn, dn, hl1, hl2, hl3, hl4, rfl, rfl, rfl, rfl⟩ := ldB_nat c2
      refine j_iload C 6 rfl dX10_over_21 ?_
      refine j_iconst C (nI 0) (by decide) dX10_over_23 ?_
      refine j_iconst C (nI 1) (by decide) dX10_over_24 ?_
      refine j_S01 C (c_isWithin w (nI 0) (nI 1)) kyX10_isWithin tb_467 tb_468 rfl (Nat.le_of_ble_eq_true rfl) ⟨by decide, by decide⟩ ⟨by decide, by decide⟩ dX10_over_25 rfl ?_
      refine j_if_ne C 34 (by decide) dX10_over_28 (fun c3 => ?_) (fun c3 => ?_)
      · replace c3 := bI_t c3
        obtain ⟨wn, wn1, wn2, rfl⟩ := wB_nat (by decide) (by decide) c3
        refine j_aload_n C 0 rfl dX10_over_34 ?_
        refine gX_0_2 C tb_430 dX10_over_35 ?_
        refine j_V1 C (d_refresh g kk σ k hk hk6 hI  ) kyX7_refresh tb_562 tb_563 tb_564 27 rfl (eX_27 g kk _) rfl (Nat.le_of_ble_eq_true rfl) ⟨by decide, by decide⟩ dX10_over_38 rfl (fun vr ur hp => ?_)
        obtain ⟨rfl, w4, w5, w6, w7, w8, hu⟩ := hp
        replace hu := hu.symm
        subst hu
        refine j_aload_n C 0 rfl dX10_over_41 ?_
        refine gX_0_5 C tb_433 dX10_over_42 ?_
        refine j_iload_n C 1 rfl dX10_over_45 ?_
        refine j_V1 C (d_gather g kk (sI (sF (sF (sF (sF σ 28 w4) 29 w5) 30 w6) 31 w7) 437 w8) k hk hk6 hI  xn (by first | assumption | omega)) kyX4_gather tb_712 tb_713 tb_714 42 rfl (eX_42 g kk _) rfl (Nat.le_of_ble_eq_true rfl) ⟨by decide, by decide⟩ dX10_over_46 rfl (fun vr ur hp => ?_)
        obtain ⟨rfl, w9, w10, w11, w12, w13, hu, g14⟩ := hp
        replace hu := hu.symm
        subst hu
        refine j_aload_n C 0 rfl dX10_over_49 ?_
        refine gX_0_5 C tb_433 dX10_over_50 ?_
        refine j_iload_n C 2 rfl dX10_over_53 ?_
        refine j_iload_n C 3 rfl dX10_over_54 ?_
        refine j_iload C 4 rfl dX10_over_55 ?_
        refine j_iload C 5 rfl dX10_over_57 ?_
        refine j_V1 C (d_sum g kk (sI (sF (sF (sF (sF (sI (sF (sF (sF (sF σ 28 w4) 29 w5) 30 w6) 31 w7) 437 w8) 43 w9) 44 w10) 45 w11) 46 w12) 678 (nI w13)) k hk hk6 hI w13 rfl (by omega)  an (by first | assumption | omega) bn (by first | assumption | omega) cn (by first | assumption | omega) dn (by first | assumption | omega)) kyX4_sum tb_736 tb_737 tb_738 42 rfl (eX_42 g kk _) rfl (Nat.le_of_ble_eq_true rfl) ⟨by decide, by decide⟩ dX10_over_59 rfl (fun vr ur hp => ?_)
        obtain ⟨r19, rfl, w15, w16, w17, w18, hu⟩ := hp
        replace hu := hu.symm
        subst hu
        refine j_if_ne C 68 (by decide) dX10_over_62 (fun c20 => ?_) (fun c20 => ?_)
        · refine j_iload C 6 rfl dX10_over_68 ?_
          refine j_if_neN C 83 (by decide) (by omega) dX10_over_70 (fun c21 => ?_) (fun c21 => ?_)
          · refine j_aload_n C 0 rfl dX10_over_83 ?_
            refine gX_0_5 C tb_433 dX10_over_84 ?_
            refine gX_42_10 C tb_326 (w18) rfl dX10_over_87 ?_
            refine j_w (cX g kk (sI (sI (sI (sI (sI (sI (sF (sF (sF (sF (sF (sF (sF (sF σ 28 w4) 29 w5) 30 w6) 31 w7) 43 w9) 44 w10) 45 w11) 46 w12) 437 w8) 678 (nI w13)) 679 w15) 680 w16) 681 w17) 682 w18)) (congrArg (cX g kk) (show sI (sI (sI (sI (sI (sF (sF (sF (sF (sI (sF (sF (sF (sF σ 28 w4) 29 w5) 30 w6) 31 w7) 437 w8) 43 w9) 44 w10) 45 w11) 46 w12) 678 (nI w13)) 679 w15) 680 w16) 681 w17) 682 w18 = sI (sI (sI (sI (sI (sI (sF (sF (sF (sF (sF (sF (sF (sF σ 28 w4) 29 w5) 30 w6) 31 w7) 43 w9) 44 w10) 45 w11) 46 w12) 437 w8) 678 (nI w13)) 679 w15) 680 w16) 681 w17) 682 w18 from (wrI (wrI (wrI (wrI (wrI (Eq.trans (wrF (Eq.trans (wrF (Eq.trans (wrF wrFI) wrFI)) wrFI)) wrFI)))))))) ?_
            exact j_iret C E (sI (sI (sI (sI (sI (sI (sF (sF (sF (sF (sF (sF (sF (sF σ 28 w4) 29 w5) 30 w6) 31 w7) 43 w9) 44 w10) 45 w11) 46 w12) 437 w8) 678 (nI w13)) 679 w15) 680 w16) 681 w17) 682 w18) ⟨_, rfl, ⟨w4, w5, w6, w7, w9, w10, w11, w12, w8, (nI w13), w15, w16, w17, w18, rfl⟩⟩ rfl dX10_over_90
          · refine j_aload_n C 0 rfl dX10_over_73 ?_
            refine gX_0_5 C tb_433 dX10_over_74 ?_
            refine gX_42_9 C tb_324 (w17) rfl dX10_over_77 ?_
            refine j_goto C 90 (by decide) dX10_over_80 ?_
            refine j_w (cX g kk (sI (sI (sI (sI (sI (sI (sF (sF (sF (sF (sF (sF (sF (sF σ 28 w4) 29 w5) 30 w6) 31 w7) 43 w9) 44 w10) 45 w11) 46 w12) 437 w8) 678 (nI w13)) 679 w15) 680 w16) 681 w17) 682 w18)) (congrArg (cX g kk) (show sI (sI (sI (sI (sI (sF (sF (sF (sF (sI (sF (sF (sF (sF σ 28 w4) 29 w5) 30 w6) 31 w7) 437 w8) 43 w9) 44 w10) 45 w11) 46 w12) 678 (nI w13)) 679 w15) 680 w16) 681 w17) 682 w18 = sI (sI (sI (sI (sI (sI (sF (sF (sF (sF (sF (sF (sF (sF σ 28 w4) 29 w5) 30 w6) 31 w7) 43 w9) 44 w10) 45 w11) 46 w12) 437 w8) 678 (nI w13)) 679 w15) 680 w16) 681 w17) 682 w18 from (wrI (wrI (wrI (wrI (wrI (Eq.trans (wrF (Eq.trans (wrF (Eq.trans (wrF wrFI) wrFI)) wrFI)) wrFI)))))))) ?_
            exact j_iret C E (sI (sI (sI (sI (sI (sI (sF (sF (sF (sF (sF (sF (sF (sF σ 28 w4) 29 w5) 30 w6) 31 w7) 43 w9) 44 w10) 45 w11) 46 w12) 437 w8) 678 (nI w13)) 679 w15) 680 w16) 681 w17) 682 w18) ⟨_, rfl, ⟨w4, w5, w6, w7, w9, w10, w11, w12, w8, (nI w13), w15, w16, w17, w18, rfl⟩⟩ rfl dX10_over_90
        · refine j_bipush C ((-5)) (by decide) dX10_over_65 ?_
          refine j_w (cX g kk (sI (sI (sI (sI (sI (sI (sF (sF (sF (sF (sF (sF (sF (sF σ 28 w4) 29 w5) 30 w6) 31 w7) 43 w9) 44 w10) 45 w11) 46 w12) 437 w8) 678 (nI w13)) 679 w15) 680 w16) 681 w17) 682 w18)) (congrArg (cX g kk) (show sI (sI (sI (sI (sI (sF (sF (sF (sF (sI (sF (sF (sF (sF σ 28 w4) 29 w5) 30 w6) 31 w7) 437 w8) 43 w9) 44 w10) 45 w11) 46 w12) 678 (nI w13)) 679 w15) 680 w16) 681 w17) 682 w18 = sI (sI (sI (sI (sI (sI (sF (sF (sF (sF (sF (sF (sF (sF σ 28 w4) 29 w5) 30 w6) 31 w7) 43 w9) 44 w10) 45 w11) 46 w12) 437 w8) 678 (nI w13)) 679 w15) 680 w16) 681 w17) 682 w18 from (wrI (wrI (wrI (wrI (wrI (Eq.trans (wrF (Eq.trans (wrF (Eq.trans (wrF wrFI) wrFI)) wrFI)) wrFI)))))))) ?_
          exact j_iret C E (sI (sI (sI (sI (sI (sI (sF (sF (sF (sF (sF (sF (sF (sF σ 28 w4) 29 w5) 30 w6) 31 w7) 43 w9) 44 w10) 45 w11) 46 w12) 437 w8) 678 (nI w13)) 679 w15) 680 w16) 681 w17) 682 w18) ⟨_, rfl, ⟨w4, w5, w6, w7, w9, w10, w11, w12, w8, (nI w13), w15, w16, w17, w18, rfl⟩⟩ rfl dX10_over_67
      · replace c3 := bI_f c3
        refine j_bipush C ((-2)) (by decide) dX10_over_31 ?_
        refine j_w (cX g kk (sF σ 28 (σ.2.1 28))) (congrArg (cX g kk) (wrFi (S := σ) (c := 28) (v := σ.2.1 28) rfl)) ?_
        refine j_w (cX g kk (sF (sF σ 28 (σ.2.1 28)) 29 (σ.2.1 29))) (congrArg (cX g kk) (wrFi (S := (sF σ 28 (σ.2.1 28))) (c := 29) (v := σ.2.1 29) (gtFF (by decide) rfl))) ?_
        refine j_w (cX g kk (sF (sF (sF σ 28 (σ.2.1 28)) 29 (σ.2.1 29)) 30 (σ.2.1 30))) (congrArg (cX g kk) (wrFi (S := (sF (sF σ 28 (σ.2.1 28)) 29 (σ.2.1 29))) (c := 30) (v := σ.2.1 30) (gtFF (by decide) (gtFF (by decide) rfl)))) ?_
        refine j_w (cX g kk (sF (sF (sF (sF σ 28 (σ.2.1 28)) 29 (σ.2.1 29)) 30 (σ.2.1 30)) 31 (σ.2.1 31))) (congrArg (cX g kk) (wrFi (S := (sF (sF (sF σ 28 (σ.2.1 28)) 29 (σ.2.1 29)) 30 (σ.2.1 30))) (c := 31) (v := σ.2.1 31) (gtFF (by decide) (gtFF (by decide) (gtFF (by decide) rfl))))) ?_
        refine j_w (cX g kk (sF (sF (sF (sF (sF σ 28 (σ.2.1 28)) 29 (σ.2.1 29)) 30 (σ.2.1 30)) 31 (σ.2.1 31)) 43 (σ.2.1 43))) (congrArg (cX g kk) (wrFi (S := (sF (sF (sF (sF σ 28 (σ.2.1 28)) 29 (σ.2.1 29)) 30 (σ.2.1 30)) 31 (σ.2.1 31))) (c := 43) (v := σ.2.1 43) (gtFF (by decide) (gtFF (by decide) (gtFF (by decide) (gtFF (by decide) rfl)))))) ?_
        refine j_w (cX g kk (sF (sF (sF (sF (sF (sF σ 28 (σ.2.1 28)) 29 (σ.2.1 29)) 30 (σ.2.1 30)) 31 (σ.2.1 31)) 43 (σ.2.1 43)) 44 (σ.2.1 44))) (congrArg (cX g kk) (wrFi (S := (sF (sF (sF (sF (sF σ 28 (σ.2.1 28)) 29 (σ.2.1 29)) 30 (σ.2.1 30)) 31 (σ.2.1 31)) 43 (σ.2.1 43))) (c := 44) (v := σ.2.1 44) (gtFF (by decide) (gtFF (by decide) (gtFF (by decide) (gtFF (by decide) (gtFF (by decide) rfl))))))) ?_
        refine j_w (cX g kk (sF (sF (sF (sF (sF (sF (sF σ 28 (σ.2.1 28)) 29 (σ.2.1 29)) 30 (σ.2.1 30)) 31 (σ.2.1 31)) 43 (σ.2.1 43)) 44 (σ.2.1 44)) 45 (σ.2.1 45))) (congrArg (cX g kk) (wrFi (S := (sF (sF (sF (sF (sF (sF σ 28 (σ.2.1 28)) 29 (σ.2.1 29)) 30 (σ.2.1 30)) 31 (σ.2.1 31)) 43 (σ.2.1 43)) 44 (σ.2.1 44))) (c := 45) (v := σ.2.1 45) (gtFF (by decide) (gtFF (by decide) (gtFF (by decide) (gtFF (by decide) (gtFF (by decide) (gtFF (by decide) rfl)))))))) ?_
        refine j_w (cX g kk (sF (sF (sF (sF (sF (sF (sF (sF σ 28 (σ.2.1 28)) 29 (σ.2.1 29)) 30 (σ.2.1 30)) 31 (σ.2.1 31)) 43 (σ.2.1 43)) 44 (σ.2.1 44)) 45 (σ.2.1 45)) 46 (σ.2.1 46))) (congrArg (cX g kk) (wrFi (S := (sF (sF (sF (sF (sF (sF (sF σ 28 (σ.2.1 28)) 29 (σ.2.1 29)) 30 (σ.2.1 30)) 31 (σ.2.1 31)) 43 (σ.2.1 43)) 44 (σ.2.1 44)) 45 (σ.2.1 45))) (c := 46) (v := σ.2.1 46) (gtFF (by decide) (gtFF (by decide) (gtFF (by decide) (gtFF (by decide) (gtFF (by decide) (gtFF (by decide) (gtFF (by decide) rfl))))))))) ?_
        refine j_w (cX g kk (sI (sF (sF (sF (sF (sF (sF (sF (sF σ 28 (σ.2.1 28)) 29 (σ.2.1 29)) 30 (σ.2.1 30)) 31 (σ.2.1 31)) 43 (σ.2.1 43)) 44 (σ.2.1 44)) 45 (σ.2.1 45)) 46 (σ.2.1 46)) 437 (σ.1 437))) (congrArg (cX g kk) (wrIi (S := (sF (sF (sF (sF (sF (sF (sF (sF σ 28 (σ.2.1 28)) 29 (σ.2.1 29)) 30 (σ.2.1 30)) 31 (σ.2.1 31)) 43 (σ.2.1 43)) 44 (σ.2.1 44)) 45 (σ.2.1 45)) 46 (σ.2.1 46))) (c := 437) (v := σ.1 437) (gtIF (gtIF (gtIF (gtIF (gtIF (gtIF (gtIF (gtIF rfl)))))))))) ?_
        refine j_w (cX g kk (sI (sI (sF (sF (sF (sF (sF (sF (sF (sF σ 28 (σ.2.1 28)) 29 (σ.2.1 29)) 30 (σ.2.1 30)) 31 (σ.2.1 31)) 43 (σ.2.1 43)) 44 (σ.2.1 44)) 45 (σ.2.1 45)) 46 (σ.2.1 46)) 437 (σ.1 437)) 678 (σ.1 678))) (congrArg (cX g kk) (wrIi (S := (sI (sF (sF (sF (sF (sF (sF (sF (sF σ 28 (σ.2.1 28)) 29 (σ.2.1 29)) 30 (σ.2.1 30)) 31 (σ.2.1 31)) 43 (σ.2.1 43)) 44 (σ.2.1 44)) 45 (σ.2.1 45)) 46 (σ.2.1 46)) 437 (σ.1 437))) (c := 678) (v := σ.1 678) (gtII (by decide) (gtIF (gtIF (gtIF (gtIF (gtIF (gtIF (gtIF (gtIF rfl))))))))))) ?_
        refine j_w (cX g kk (sI (sI (sI (sF (sF (sF (sF (sF (sF (sF (sF σ 28 (σ.2.1 28)) 29 (σ.2.1 29)) 30 (σ.2.1 30)) 31 (σ.2.1 31)) 43 (σ.2.1 43)) 44 (σ.2.1 44)) 45 (σ.2.1 45)) 46 (σ.2.1 46)) 437 (σ.1 437)) 678 (σ.1 678)) 679 (σ.1 679))) (congrArg (cX g kk) (wrIi (S := (sI (sI (sF (sF (sF (sF (sF (sF (sF (sF σ 28 (σ.2.1 28)) 29 (σ.2.1 29)) 30 (σ.2.1 30)) 31 (σ.2.1 31)) 43 (σ.2.1 43)) 44 (σ.2.1 44)) 45 (σ.2.1 45)) 46 (σ.2.1 46)) 437 (σ.1 437)) 678 (σ.1 678))) (c := 679) (v := σ.1 679) (gtII (by decide) (gtII (by decide) (gtIF (gtIF (gtIF (gtIF (gtIF (gtIF (gtIF (gtIF rfl)))))))))))) ?_
        refine j_w (cX g kk (sI (sI (sI (sI (sF (sF (sF (sF (sF (sF (sF (sF σ 28 (σ.2.1 28)) 29 (σ.2.1 29)) 30 (σ.2.1 30)) 31 (σ.2.1 31)) 43 (σ.2.1 43)) 44 (σ.2.1 44)) 45 (σ.2.1 45)) 46 (σ.2.1 46)) 437 (σ.1 437)) 678 (σ.1 678)) 679 (σ.1 679)) 680 (σ.1 680))) (congrArg (cX g kk) (wrIi (S := (sI (sI (sI (sF (sF (sF (sF (sF (sF (sF (sF σ 28 (σ.2.1 28)) 29 (σ.2.1 29)) 30 (σ.2.1 30)) 31 (σ.2.1 31)) 43 (σ.2.1 43)) 44 (σ.2.1 44)) 45 (σ.2.1 45)) 46 (σ.2.1 46)) 437 (σ.1 437)) 678 (σ.1 678)) 679 (σ.1 679))) (c := 680) (v := σ.1 680) (gtII (by decide) (gtII (by decide) (gtII (by decide) (gtIF (gtIF (gtIF (gtIF (gtIF (gtIF (gtIF (gtIF rfl))))))))))))) ?_
        refine j_w (cX g kk (sI (sI (sI (sI (sI (sF (sF (sF (sF (sF (sF (sF (sF σ 28 (σ.2.1 28)) 29 (σ.2.1 29)) 30 (σ.2.1 30)) 31 (σ.2.1 31)) 43 (σ.2.1 43)) 44 (σ.2.1 44)) 45 (σ.2.1 45)) 46 (σ.2.1 46)) 437 (σ.1 437)) 678 (σ.1 678)) 679 (σ.1 679)) 680 (σ.1 680)) 681 (σ.1 681))) (congrArg (cX g kk) (wrIi (S := (sI (sI (sI (sI (sF (sF (sF (sF (sF (sF (sF (sF σ 28 (σ.2.1 28)) 29 (σ.2.1 29)) 30 (σ.2.1 30)) 31 (σ.2.1 31)) 43 (σ.2.1 43)) 44 (σ.2.1 44)) 45 (σ.2.1 45)) 46 (σ.2.1 46)) 437 (σ.1 437)) 678 (σ.1 678)) 679 (σ.1 679)) 680 (σ.1 680))) (c := 681) (v := σ.1 681) (gtII (by decide) (gtII (by decide) (gtII (by decide) (gtII (by decide) (gtIF (gtIF (gtIF (gtIF (gtIF (gtIF (gtIF (gtIF rfl)))))))))))))) ?_
        refine j_w (cX g kk (sI (sI (sI (sI (sI (sI (sF (sF (sF (sF (sF (sF (sF (sF σ 28 (σ.2.1 28)) 29 (σ.2.1 29)) 30 (σ.2.1 30)) 31 (σ.2.1 31)) 43 (σ.2.1 43)) 44 (σ.2.1 44)) 45 (σ.2.1 45)) 46 (σ.2.1 46)) 437 (σ.1 437)) 678 (σ.1 678)) 679 (σ.1 679)) 680 (σ.1 680)) 681 (σ.1 681)) 682 (σ.1 682))) (congrArg (cX g kk) (wrIi (S := (sI (sI (sI (sI (sI (sF (sF (sF (sF (sF (sF (sF (sF σ 28 (σ.2.1 28)) 29 (σ.2.1 29)) 30 (σ.2.1 30)) 31 (σ.2.1 31)) 43 (σ.2.1 43)) 44 (σ.2.1 44)) 45 (σ.2.1 45)) 46 (σ.2.1 46)) 437 (σ.1 437)) 678 (σ.1 678)) 679 (σ.1 679)) 680 (σ.1 680)) 681 (σ.1 681))) (c := 682) (v := σ.1 682) (gtII (by decide) (gtII (by decide) (gtII (by decide) (gtII (by decide) (gtII (by decide) (gtIF (gtIF (gtIF (gtIF (gtIF (gtIF (gtIF (gtIF rfl))))))))))))))) ?_
        exact j_iret C E (sI (sI (sI (sI (sI (sI (sF (sF (sF (sF (sF (sF (sF (sF σ 28 (σ.2.1 28)) 29 (σ.2.1 29)) 30 (σ.2.1 30)) 31 (σ.2.1 31)) 43 (σ.2.1 43)) 44 (σ.2.1 44)) 45 (σ.2.1 45)) 46 (σ.2.1 46)) 437 (σ.1 437)) 678 (σ.1 678)) 679 (σ.1 679)) 680 (σ.1 680)) 681 (σ.1 681)) 682 (σ.1 682)) ⟨_, rfl, ⟨(σ.2.1 28), (σ.2.1 29), (σ.2.1 30), (σ.2.1 31), (σ.2.1 43), (σ.2.1 44), (σ.2.1 45), (σ.2.1 46), (σ.1 437), (σ.1 678), (σ.1 679), (σ.1 680), (σ.1 681), (σ.1 682), rfl⟩⟩ rfl dX10_over_33
  · replace c1 := bI_f c1
    refine j_iconst C ((-1)) (by decide) dX10_over_7 ?_
    refine j_w (cX g kk (sF σ 28 (σ.2.1 28))) (congrArg (cX g kk) (wrFi (S := σ) (c := 28) (v := σ.2.1 28) rfl)) ?_
    refine j_w (cX g kk (sF (sF σ 28 (σ.2.1 28)) 29 (σ.2.1 29))) (congrArg (cX g kk) (wrFi (S := (sF σ 28 (σ.2.1 28))) (c := 29) (v := σ.2.1 29) (gtFF (by decide) rfl))) ?_
    refine j_w (cX g kk (sF (sF (sF σ 28 (σ.2.1 28)) 29 (σ.2.1 29)) 30 (σ.2.1 30))) (congrArg (cX g kk) (wrFi (S := (sF (sF σ 28 (σ.2.1 28)) 29 (σ.2.1 29))) (c := 30) (v := σ.2.1 30) (gtFF (by decide) (gtFF (by decide) rfl)))) ?_
    refine j_w (cX g kk (sF (sF (sF (sF σ 28 (σ.2.1 28)) 29 (σ.2.1 29)) 30 (σ.2.1 30)) 31 (σ.2.1 31))) (congrArg (cX g kk) (wrFi (S := (sF (sF (sF σ 28 (σ.2.1 28)) 29 (σ.2.1 29)) 30 (σ.2.1 30))) (c := 31) (v := σ.2.1 31) (gtFF (by decide) (gtFF (by decide) (gtFF (by decide) rfl))))) ?_
    refine j_w (cX g kk (sF (sF (sF (sF (sF σ 28 (σ.2.1 28)) 29 (σ.2.1 29)) 30 (σ.2.1 30)) 31 (σ.2.1 31)) 43 (σ.2.1 43))) (congrArg (cX g kk) (wrFi (S := (sF (sF (sF (sF σ 28 (σ.2.1 28)) 29 (σ.2.1 29)) 30 (σ.2.1 30)) 31 (σ.2.1 31))) (c := 43) (v := σ.2.1 43) (gtFF (by decide) (gtFF (by decide) (gtFF (by decide) (gtFF (by decide) rfl)))))) ?_
    refine j_w (cX g kk (sF (sF (sF (sF (sF (sF σ 28 (σ.2.1 28)) 29 (σ.2.1 29)) 30 (σ.2.1 30)) 31 (σ.2.1 31)) 43 (σ.2.1 43)) 44 (σ.2.1 44))) (congrArg (cX g kk) (wrFi (S := (sF (sF (sF (sF (sF σ 28 (σ.2.1 28)) 29 (σ.2.1 29)) 30 (σ.2.1 30)) 31 (σ.2.1 31)) 43 (σ.2.1 43))) (c := 44) (v := σ.2.1 44) (gtFF (by decide) (gtFF (by decide) (gtFF (by decide) (gtFF (by decide) (gtFF (by decide) rfl))))))) ?_
    refine j_w (cX g kk (sF (sF (sF (sF (sF (sF (sF σ 28 (σ.2.1 28)) 29 (σ.2.1 29)) 30 (σ.2.1 30)) 31 (σ.2.1 31)) 43 (σ.2.1 43)) 44 (σ.2.1 44)) 45 (σ.2.1 45))) (congrArg (cX g kk) (wrFi (S := (sF (sF (sF (sF (sF (sF σ 28 (σ.2.1 28)) 29 (σ.2.1 29)) 30 (σ.2.1 30)) 31 (σ.2.1 31)) 43 (σ.2.1 43)) 44 (σ.2.1 44))) (c := 45) (v := σ.2.1 45) (gtFF (by decide) (gtFF (by decide) (gtFF (by decide) (gtFF (by decide) (gtFF (by decide) (gtFF (by decide) rfl)))))))) ?_
    refine j_w (cX g kk (sF (sF (sF (sF (sF (sF (sF (sF σ 28 (σ.2.1 28)) 29 (σ.2.1 29)) 30 (σ.2.1 30)) 31 (σ.2.1 31)) 43 (σ.2.1 43)) 44 (σ.2.1 44)) 45 (σ.2.1 45)) 46 (σ.2.1 46))) (congrArg (cX g kk) (wrFi (S := (sF (sF (sF (sF (sF (sF (sF σ 28 (σ.2.1 28)) 29 (σ.2.1 29)) 30 (σ.2.1 30)) 31 (σ.2.1 31)) 43 (σ.2.1 43)) 44 (σ.2.1 44)) 45 (σ.2.1 45))) (c := 46) (v := σ.2.1 46) (gtFF (by decide) (gtFF (by decide) (gtFF (by decide) (gtFF (by decide) (gtFF (by decide) (gtFF (by decide) (gtFF (by decide) rfl))))))))) ?_
    refine j_w (cX g kk (sI (sF (sF (sF (sF (sF (sF (sF (sF σ 28 (σ.2.1 28)) 29 (σ.2.1 29)) 30 (σ.2.1 30)) 31 (σ.2.1 31)) 43 (σ.2.1 43)) 44 (σ.2.1 44)) 45 (σ.2.1 45)) 46 (σ.2.1 46)) 437 (σ.1 437))) (congrArg (cX g kk) (wrIi (S := (sF (sF (sF (sF (sF (sF (sF (sF σ 28 (σ.2.1 28)) 29 (σ.2.1 29)) 30 (σ.2.1 30)) 31 (σ.2.1 31)) 43 (σ.2.1 43)) 44 (σ.2.1 44)) 45 (σ.2.1 45)) 46 (σ.2.1 46))) (c := 437) (v := σ.1 437) (gtIF (gtIF (gtIF (gtIF (gtIF (gtIF (gtIF (gtIF rfl)))))))))) ?_
    refine j_w (cX g kk (sI (sI (sF (sF (sF (sF (sF (sF (sF (sF σ 28 (σ.2.1 28)) 29 (σ.2.1 29)) 30 (σ.2.1 30)) 31 (σ.2.1 31)) 43 (σ.2.1 43)) 44 (σ.2.1 44)) 45 (σ.2.1 45)) 46 (σ.2.1 46)) 437 (σ.1 437)) 678 (σ.1 678))) (congrArg (cX g kk) (wrIi (S := (sI (sF (sF (sF (sF (sF (sF (sF (sF σ 28 (σ.2.1 28)) 29 (σ.2.1 29)) 30 (σ.2.1 30)) 31 (σ.2.1 31)) 43 (σ.2.1 43)) 44 (σ.2.1 44)) 45 (σ.2.1 45)) 46 (σ.2.1 46)) 437 (σ.1 437))) (c := 678) (v := σ.1 678) (gtII (by decide) (gtIF (gtIF (gtIF (gtIF (gtIF (gtIF (gtIF (gtIF rfl))))))))))) ?_
    refine j_w (cX g kk (sI (sI (sI (sF (sF (sF (sF (sF (sF (sF (sF σ 28 (σ.2.1 28)) 29 (σ.2.1 29)) 30 (σ.2.1 30)) 31 (σ.2.1 31)) 43 (σ.2.1 43)) 44 (σ.2.1 44)) 45 (σ.2.1 45)) 46 (σ.2.1 46)) 437 (σ.1 437)) 678 (σ.1 678)) 679 (σ.1 679))) (congrArg (cX g kk) (wrIi (S := (sI (sI (sF (sF (sF (sF (sF (sF (sF (sF σ 28 (σ.2.1 28)) 29 (σ.2.1 29)) 30 (σ.2.1 30)) 31 (σ.2.1 31)) 43 (σ.2.1 43)) 44 (σ.2.1 44)) 45 (σ.2.1 45)) 46 (σ.2.1 46)) 437 (σ.1 437)) 678 (σ.1 678))) (c := 679) (v := σ.1 679) (gtII (by decide) (gtII (by decide) (gtIF (gtIF (gtIF (gtIF (gtIF (gtIF (gtIF (gtIF rfl)))))))))))) ?_
    refine j_w (cX g kk (sI (sI (sI (sI (sF (sF (sF (sF (sF (sF (sF (sF σ 28 (σ.2.1 28)) 29 (σ.2.1 29)) 30 (σ.2.1 30)) 31 (σ.2.1 31)) 43 (σ.2.1 43)) 44 (σ.2.1 44)) 45 (σ.2.1 45)) 46 (σ.2.1 46)) 437 (σ.1 437)) 678 (σ.1 678)) 679 (σ.1 679)) 680 (σ.1 680))) (congrArg (cX g kk) (wrIi (S := (sI (sI (sI (sF (sF (sF (sF (sF (sF (sF (sF σ 28 (σ.2.1 28)) 29 (σ.2.1 29)) 30 (σ.2.1 30)) 31 (σ.2.1 31)) 43 (σ.2.1 43)) 44 (σ.2.1 44)) 45 (σ.2.1 45)) 46 (σ.2.1 46)) 437 (σ.1 437)) 678 (σ.1 678)) 679 (σ.1 679))) (c := 680) (v := σ.1 680) (gtII (by decide) (gtII (by decide) (gtII (by decide) (gtIF (gtIF (gtIF (gtIF (gtIF (gtIF (gtIF (gtIF rfl))))))))))))) ?_
    refine j_w (cX g kk (sI (sI (sI (sI (sI (sF (sF (sF (sF (sF (sF (sF (sF σ 28 (σ.2.1 28)) 29 (σ.2.1 29)) 30 (σ.2.1 30)) 31 (σ.2.1 31)) 43 (σ.2.1 43)) 44 (σ.2.1 44)) 45 (σ.2.1 45)) 46 (σ.2.1 46)) 437 (σ.1 437)) 678 (σ.1 678)) 679 (σ.1 679)) 680 (σ.1 680)) 681 (σ.1 681))) (congrArg (cX g kk) (wrIi (S := (sI (sI (sI (sI (sF (sF (sF (sF (sF (sF (sF (sF σ 28 (σ.2.1 28)) 29 (σ.2.1 29)) 30 (σ.2.1 30)) 31 (σ.2.1 31)) 43 (σ.2.1 43)) 44 (σ.2.1 44)) 45 (σ.2.1 45)) 46 (σ.2.1 46)) 437 (σ.1 437)) 678 (σ.1 678)) 679 (σ.1 679)) 680 (σ.1 680))) (c := 681) (v := σ.1 681) (gtII (by decide) (gtII (by decide) (gtII (by decide) (gtII (by decide) (gtIF (gtIF (gtIF (gtIF (gtIF (gtIF (gtIF (gtIF rfl)))))))))))))) ?_
    refine j_w (cX g kk (sI (sI (sI (sI (sI (sI (sF (sF (sF (sF (sF (sF (sF (sF σ 28 (σ.2.1 28)) 29 (σ.2.1 29)) 30 (σ.2.1 30)) 31 (σ.2.1 31)) 43 (σ.2.1 43)) 44 (σ.2.1 44)) 45 (σ.2.1 45)) 46 (σ.2.1 46)) 437 (σ.1 437)) 678 (σ.1 678)) 679 (σ.1 679)) 680 (σ.1 680)) 681 (σ.1 681)) 682 (σ.1 682))) (congrArg (cX g kk) (wrIi (S := (sI (sI (sI (sI (sI (sF (sF (sF (sF (sF (sF (sF (sF σ 28 (σ.2.1 28)) 29 (σ.2.1 29)) 30 (σ.2.1 30)) 31 (σ.2.1 31)) 43 (σ.2.1 43)) 44 (σ.2.1 44)) 45 (σ.2.1 45)) 46 (σ.2.1 46)) 437 (σ.1 437)) 678 (σ.1 678)) 679 (σ.1 679)) 680 (σ.1 680)) 681 (σ.1 681))) (c := 682) (v := σ.1 682) (gtII (by decide) (gtII (by decide) (gtII (by decide) (gtII (by decide) (gtII (by decide) (gtIF (gtIF (gtIF (gtIF (gtIF (gtIF (gtIF (gtIF rfl))))))))))))))) ?_
    exact j_iret C E (sI (sI (sI (sI (sI (sI (sF (sF (sF (sF (sF (sF (sF (sF σ 28 (σ.2.1 28)) 29 (σ.2.1 29)) 30 (σ.2.1 30)) 31 (σ.2.1 31)) 43 (σ.2.1 43)) 44 (σ.2.1 44)) 45 (σ.2.1 45)) 46 (σ.2.1 46)) 437 (σ.1 437)) 678 (σ.1 678)) 679 (σ.1 679)) 680 (σ.1 680)) 681 (σ.1 681)) 682 (σ.1 682)) ⟨_, rfl, ⟨(σ.2.1 28), (σ.2.1 29), (σ.2.1 30), (σ.2.1 31), (σ.2.1 43), (σ.2.1 44), (σ.2.1 45), (σ.2.1 46), (σ.1 437), (σ.1 678), (σ.1 679), (σ.1 680), (σ.1 681), (σ.1 682), rfl⟩⟩ rfl dX10_over_8
set_option maxRecDepth 100000 in
set_option maxHeartbeats 4000000 in
theorem d_flow (g kk : Nat → Nat) (σ : St) (k : Nat) (hk : σ.1 16 = nI k) (hk6 : k ≤ 6) (hI : iX σ)  (x : Int32) (a : Int32) (b : Int32) (c : Int32) (d : Int32) (y : Int32) (z : Int32) : jM (S := St) yX10_flow cX10_flow 8 (some .int) { frames := 5, cells := 0, slots := 0, locals := 115 } kk (cX g kk σ) [.ref (g 0), .int x, .int a, .int b, .int c, .int d, .int y, .int z] (cX g kk) (rI (fun (r : Int32) (u : St) => ∃ (pF28 : Nat → Int32) (pF29 : Nat → Int32) (pF30 : Nat → Int32) (pF31 : Nat → Int32) (pF43 : Nat → Int32) (pF44 : Nat → Int32) (pF45 : Nat → Int32) (pF46 : Nat → Int32) (pI437 : Int32) (pI678 : Int32) (pI679 : Int32) (pI680 : Int32) (pI681 : Int32) (pI682 : Int32), u = sI (sI (sI (sI (sI (sI (sF (sF (sF (sF (sF (sF (sF (sF σ 28 pF28) 29 pF29) 30 pF30) 31 pF31) 43 pF43) 44 pF44) 45 pF45) 46 pF46) 437 pI437) 678 pI678) 679 pI679) 680 pI680) 681 pI681) 682 pI682)) := by
  refine j_entry [(0, .ref (g 0)), (1, .int x), (2, .int a), (3, .int b), (4, .int c), (5, .int d), (6, .int y), (7, .int z)] (by decide) (Nat.le_of_ble_eq_true rfl) rfl ?_
  intro X C E HI
  refine j_iload_n C 1 rfl dX10_flow_0 ?_
  refine j_S01 C (c_isDay x) kyX10_isDay tb_486 tb_487 rfl (Nat.le_of_ble_eq_true rfl) ⟨by decide, by decide⟩ ⟨by decide, by decide⟩ dX10_flow_1 rfl ?_
  refine j_if_ne C 10 (by decide) dX10_flow_4 (fun c1 => ?_) (fun c1 => ?_)
  · replace c1 := bI_t c1
    obtain ⟨xn, xn1, xn2, rfl⟩ := wB_nat (by decide) (by decide) c1
    refine j_iload_n C 2 rfl dX10_flow_10 ?_
    refine j_iload_n C 3 rfl dX10_flow_11 ?_
    refine j_iload C 4 rfl dX10_flow_12 ?_
    refine j_iload C 5 rfl dX10_flow_14 ?_
    refine j_S01 C (c_isLand a b c d) kyX10_isLand tb_733 tb_734 rfl (Nat.le_of_ble_eq_true rfl) ⟨by decide, by decide⟩ ⟨by decide, by decide⟩ dX10_flow_16 rfl ?_
    refine j_if_eq C 44 (by decide) dX10_flow_19 (fun c2 => ?_) (fun c2 => ?_)
    · replace c2 := bI_f c2
      refine j_ldc C tb_651 dX10_flow_44 ?_
      refine j_w (cX g kk (sF σ 28 (σ.2.1 28))) (congrArg (cX g kk) (wrFi (S := σ) (c := 28) (v := σ.2.1 28) rfl)) ?_
      refine j_w (cX g kk (sF (sF σ 28 (σ.2.1 28)) 29 (σ.2.1 29))) (congrArg (cX g kk) (wrFi (S := (sF σ 28 (σ.2.1 28))) (c := 29) (v := σ.2.1 29) (gtFF (by decide) rfl))) ?_
      refine j_w (cX g kk (sF (sF (sF σ 28 (σ.2.1 28)) 29 (σ.2.1 29)) 30 (σ.2.1 30))) (congrArg (cX g kk) (wrFi (S := (sF (sF σ 28 (σ.2.1 28)) 29 (σ.2.1 29))) (c := 30) (v := σ.2.1 30) (gtFF (by decide) (gtFF (by decide) rfl)))) ?_
      refine j_w (cX g kk (sF (sF (sF (sF σ 28 (σ.2.1 28)) 29 (σ.2.1 29)) 30 (σ.2.1 30)) 31 (σ.2.1 31))) (congrArg (cX g kk) (wrFi (S := (sF (sF (sF σ 28 (σ.2.1 28)) 29 (σ.2.1 29)) 30 (σ.2.1 30))) (c := 31) (v := σ.2.1 31) (gtFF (by decide) (gtFF (by decide) (gtFF (by decide) rfl))))) ?_
      refine j_w (cX g kk (sF (sF (sF (sF (sF σ 28 (σ.2.1 28)) 29 (σ.2.1 29)) 30 (σ.2.1 30)) 31 (σ.2.1 31)) 43 (σ.2.1 43))) (congrArg (cX g kk) (wrFi (S := (sF (sF (sF (sF σ 28 (σ.2.1 28)) 29 (σ.2.1 29)) 30 (σ.2.1 30)) 31 (σ.2.1 31))) (c := 43) (v := σ.2.1 43) (gtFF (by decide) (gtFF (by decide) (gtFF (by decide) (gtFF (by decide) rfl)))))) ?_
      refine j_w (cX g kk (sF (sF (sF (sF (sF (sF σ 28 (σ.2.1 28)) 29 (σ.2.1 29)) 30 (σ.2.1 30)) 31 (σ.2.1 31)) 43 (σ.2.1 43)) 44 (σ.2.1 44))) (congrArg (cX g kk) (wrFi (S := (sF (sF (sF (sF (sF σ 28 (σ.2.1 28)) 29 (σ.2.1 29)) 30 (σ.2.1 30)) 31 (σ.2.1 31)) 43 (σ.2.1 43))) (c := 44) (v := σ.2.1 44) (gtFF (by decide) (gtFF (by decide) (gtFF (by decide) (gtFF (by decide) (gtFF (by decide) rfl))))))) ?_
      refine j_w (cX g kk (sF (sF (sF (sF (sF (sF (sF σ 28 (σ.2.1 28)) 29 (σ.2.1 29)) 30 (σ.2.1 30)) 31 (σ.2.1 31)) 43 (σ.2.1 43)) 44 (σ.2.1 44)) 45 (σ.2.1 45))) (congrArg (cX g kk) (wrFi (S := (sF (sF (sF (sF (sF (sF σ 28 (σ.2.1 28)) 29 (σ.2.1 29)) 30 (σ.2.1 30)) 31 (σ.2.1 31)) 43 (σ.2.1 43)) 44 (σ.2.1 44))) (c := 45) (v := σ.2.1 45) (gtFF (by decide) (gtFF (by decide) (gtFF (by decide) (gtFF (by decide) (gtFF (by decide) (gtFF (by decide) rfl)))))))) ?_
      refine j_w (cX g kk (sF (sF (sF (sF (sF (sF (sF (sF σ 28 (σ.2.1 28)) 29 (σ.2.1 29)) 30 (σ.2.1 30)) 31 (σ.2.1 31)) 43 (σ.2.1 43)) 44 (σ.2.1 44)) 45 (σ.2.1 45)) 46 (σ.2.1 46))) (congrArg (cX g kk) (wrFi (S := (sF (sF (sF (sF (sF (sF (sF σ 28 (σ.2.1 28)) 29 (σ.2.1 29)) 30 (σ.2.1 30)) 31 (σ.2.1 31)) 43 (σ.2.1 43)) 44 (σ.2.1 44)) 45 (σ.2.1 45))) (c := 46) (v := σ.2.1 46) (gtFF (by decide) (gtFF (by decide) (gtFF (by decide) (gtFF (by decide) (gtFF (by decide) (gtFF (by decide) (gtFF (by decide) rfl))))))))) ?_
      refine j_w (cX g kk (sI (sF (sF (sF (sF (sF (sF (sF (sF σ 28 (σ.2.1 28)) 29 (σ.2.1 29)) 30 (σ.2.1 30)) 31 (σ.2.1 31)) 43 (σ.2.1 43)) 44 (σ.2.1 44)) 45 (σ.2.1 45)) 46 (σ.2.1 46)) 437 (σ.1 437))) (congrArg (cX g kk) (wrIi (S := (sF (sF (sF (sF (sF (sF (sF (sF σ 28 (σ.2.1 28)) 29 (σ.2.1 29)) 30 (σ.2.1 30)) 31 (σ.2.1 31)) 43 (σ.2.1 43)) 44 (σ.2.1 44)) 45 (σ.2.1 45)) 46 (σ.2.1 46))) (c := 437) (v := σ.1 437) (gtIF (gtIF (gtIF (gtIF (gtIF (gtIF (gtIF (gtIF rfl)))))))))) ?_
      refine j_w (cX g kk (sI (sI (sF (sF (sF (sF (sF (sF (sF (sF σ 28 (σ.2.1 28)) 29 (σ.2.1 29)) 30 (σ.2.1 30)) 31 (σ.2.1 31)) 43 (σ.2.1 43)) 44 (σ.2.1 44)) 45 (σ.2.1 45)) 46 (σ.2.1 46)) 437 (σ.1 437)) 678 (σ.1 678))) (congrArg (cX g kk) (wrIi (S := (sI (sF (sF (sF (sF (sF (sF (sF (sF σ 28 (σ.2.1 28)) 29 (σ.2.1 29)) 30 (σ.2.1 30)) 31 (σ.2.1 31)) 43 (σ.2.1 43)) 44 (σ.2.1 44)) 45 (σ.2.1 45)) 46 (σ.2.1 46)) 437 (σ.1 437))) (c := 678) (v := σ.1 678) (gtII (by decide) (gtIF (gtIF (gtIF (gtIF (gtIF (gtIF (gtIF (gtIF rfl))))))))))) ?_
      refine j_w (cX g kk (sI (sI (sI (sF (sF (sF (sF (sF (sF (sF (sF σ 28 (σ.2.1 28)) 29 (σ.2.1 29)) 30 (σ.2.1 30)) 31 (σ.2.1 31)) 43 (σ.2.1 43)) 44 (σ.2.1 44)) 45 (σ.2.1 45)) 46 (σ.2.1 46)) 437 (σ.1 437)) 678 (σ.1 678)) 679 (σ.1 679))) (congrArg (cX g kk) (wrIi (S := (sI (sI (sF (sF (sF (sF (sF (sF (sF (sF σ 28 (σ.2.1 28)) 29 (σ.2.1 29)) 30 (σ.2.1 30)) 31 (σ.2.1 31)) 43 (σ.2.1 43)) 44 (σ.2.1 44)) 45 (σ.2.1 45)) 46 (σ.2.1 46)) 437 (σ.1 437)) 678 (σ.1 678))) (c := 679) (v := σ.1 679) (gtII (by decide) (gtII (by decide) (gtIF (gtIF (gtIF (gtIF (gtIF (gtIF (gtIF (gtIF rfl)))))))))))) ?_
      refine j_w (cX g kk (sI (sI (sI (sI (sF (sF (sF (sF (sF (sF (sF (sF σ 28 (σ.2.1 28)) 29 (σ.2.1 29)) 30 (σ.2.1 30)) 31 (σ.2.1 31)) 43 (σ.2.1 43)) 44 (σ.2.1 44)) 45 (σ.2.1 45)) 46 (σ.2.1 46)) 437 (σ.1 437)) 678 (σ.1 678)) 679 (σ.1 679)) 680 (σ.1 680))) (congrArg (cX g kk) (wrIi (S := (sI (sI (sI (sF (sF (sF (sF (sF (sF (sF (sF σ 28 (σ.2.1 28)) 29 (σ.2.1 29)) 30 (σ.2.1 30)) 31 (σ.2.1 31)) 43 (σ.2.1 43)) 44 (σ.2.1 44)) 45 (σ.2.1 45)) 46 (σ.2.1 46)) 437 (σ.1 437)) 678 (σ.1 678)) 679 (σ.1 679))) (c := 680) (v := σ.1 680) (gtII (by decide) (gtII (by decide) (gtII (by decide) (gtIF (gtIF (gtIF (gtIF (gtIF (gtIF (gtIF (gtIF rfl))))))))))))) ?_
      refine j_w (cX g kk (sI (sI (sI (sI (sI (sF (sF (sF (sF (sF (sF (sF (sF σ 28 (σ.2.1 28)) 29 (σ.2.1 29)) 30 (σ.2.1 30)) 31 (σ.2.1 31)) 43 (σ.2.1 43)) 44 (σ.2.1 44)) 45 (σ.2.1 45)) 46 (σ.2.1 46)) 437 (σ.1 437)) 678 (σ.1 678)) 679 (σ.1 679)) 680 (σ.1 680)) 681 (σ.1 681))) (congrArg (cX g kk) (wrIi (S := (sI (sI (sI (sI (sF (sF (sF (sF (sF (sF (sF (sF σ 28 (σ.2.1 28)) 29 (σ.2.1 29)) 30 (σ.2.1 30)) 31 (σ.2.1 31)) 43 (σ.2.1 43)) 44 (σ.2.1 44)) 45 (σ.2.1 45)) 46 (σ.2.1 46)) 437 (σ.1 437)) 678 (σ.1 678)) 679 (σ.1 679)) 680 (σ.1 680))) (c := 681) (v := σ.1 681) (gtII (by decide) (gtII (by decide) (gtII (by decide) (gtII (by decide) (gtIF (gtIF (gtIF (gtIF (gtIF (gtIF (gtIF (gtIF rfl)))))))))))))) ?_
      refine j_w (cX g kk (sI (sI (sI (sI (sI (sI (sF (sF (sF (sF (sF (sF (sF (sF σ 28 (σ.2.1 28)) 29 (σ.2.1 29)) 30 (σ.2.1 30)) 31 (σ.2.1 31)) 43 (σ.2.1 43)) 44 (σ.2.1 44)) 45 (σ.2.1 45)) 46 (σ.2.1 46)) 437 (σ.1 437)) 678 (σ.1 678)) 679 (σ.1 679)) 680 (σ.1 680)) 681 (σ.1 681)) 682 (σ.1 682))) (congrArg (cX g kk) (wrIi (S := (sI (sI (sI (sI (sI (sF (sF (sF (sF (sF (sF (sF (sF σ 28 (σ.2.1 28)) 29 (σ.2.1 29)) 30 (σ.2.1 30)) 31 (σ.2.1 31)) 43 (σ.2.1 43)) 44 (σ.2.1 44)) 45 (σ.2.1 45)) 46 (σ.2.1 46)) 437 (σ.1 437)) 678 (σ.1 678)) 679 (σ.1 679)) 680 (σ.1 680)) 681 (σ.1 681))) (c := 682) (v := σ.1 682) (gtII (by decide) (gtII (by decide) (gtII (by decide) (gtII (by decide) (gtII (by decide) (gtIF (gtIF (gtIF (gtIF (gtIF (gtIF (gtIF (gtIF rfl))))))))))))))) ?_
      exact j_iret C E (sI (sI (sI (sI (sI (sI (sF (sF (sF (sF (sF (sF (sF (sF σ 28 (σ.2.1 28)) 29 (σ.2.1 29)) 30 (σ.2.1 30)) 31 (σ.2.1 31)) 43 (σ.2.1 43)) 44 (σ.2.1 44)) 45 (σ.2.1 45)) 46 (σ.2.1 46)) 437 (σ.1 437)) 678 (σ.1 678)) 679 (σ.1 679)) 680 (σ.1 680)) 681 (σ.1 681)) 682 (σ.1 682)) ⟨_, rfl, ⟨(σ.2.1 28), (σ.2.1 29), (σ.2.1 30), (σ.2.1 31), (σ.2.1 43), (σ.2.1 44), (σ.2.1 45), (σ.2.1 46), (σ.1 437), (σ.1 678), (σ.1 679), (σ.1 680), (σ.1 681), (σ.1 682), rfl⟩⟩ rfl dX10_flow_46
    · replace c2 := bI_t c2
      obtain ⟨an, bn, cn, dn, hl1, hl2, hl3, hl4, rfl, rfl, rfl, rfl⟩ := ldB_nat c2
      refine j_iload C 6 rfl dX10_flow_22 ?_
      refine j_iconst C (nI 0) (by decide) dX10_flow_24 ?_
      refine j_bipush C (nI 100) (by decide) dX10_flow_25 ?_
      refine j_S01 C (c_isWithin y (nI 0) (nI 100)) kyX10_isWithin tb_467 tb_468 rfl (Nat.le_of_ble_eq_true rfl) ⟨by decide, by decide⟩ ⟨by decide, by decide⟩ dX10_flow_27 rfl ?_
      refine j_if_eq C 44 (by decide) dX10_flow_30 (fun c3 => ?_) (fun c3 => ?_)
      · replace c3 := bI_f c3
        refine j_ldc C tb_651 dX10_flow_44 ?_
        refine j_w (cX g kk (sF σ 28 (σ.2.1 28))) (congrArg (cX g kk) (wrFi (S := σ) (c := 28) (v := σ.2.1 28) rfl)) ?_
        refine j_w (cX g kk (sF (sF σ 28 (σ.2.1 28)) 29 (σ.2.1 29))) (congrArg (cX g kk) (wrFi (S := (sF σ 28 (σ.2.1 28))) (c := 29) (v := σ.2.1 29) (gtFF (by decide) rfl))) ?_
        refine j_w (cX g kk (sF (sF (sF σ 28 (σ.2.1 28)) 29 (σ.2.1 29)) 30 (σ.2.1 30))) (congrArg (cX g kk) (wrFi (S := (sF (sF σ 28 (σ.2.1 28)) 29 (σ.2.1 29))) (c := 30) (v := σ.2.1 30) (gtFF (by decide) (gtFF (by decide) rfl)))) ?_
        refine j_w (cX g kk (sF (sF (sF (sF σ 28 (σ.2.1 28)) 29 (σ.2.1 29)) 30 (σ.2.1 30)) 31 (σ.2.1 31))) (congrArg (cX g kk) (wrFi (S := (sF (sF (sF σ 28 (σ.2.1 28)) 29 (σ.2.1 29)) 30 (σ.2.1 30))) (c := 31) (v := σ.2.1 31) (gtFF (by decide) (gtFF (by decide) (gtFF (by decide) rfl))))) ?_
        refine j_w (cX g kk (sF (sF (sF (sF (sF σ 28 (σ.2.1 28)) 29 (σ.2.1 29)) 30 (σ.2.1 30)) 31 (σ.2.1 31)) 43 (σ.2.1 43))) (congrArg (cX g kk) (wrFi (S := (sF (sF (sF (sF σ 28 (σ.2.1 28)) 29 (σ.2.1 29)) 30 (σ.2.1 30)) 31 (σ.2.1 31))) (c := 43) (v := σ.2.1 43) (gtFF (by decide) (gtFF (by decide) (gtFF (by decide) (gtFF (by decide) rfl)))))) ?_
        refine j_w (cX g kk (sF (sF (sF (sF (sF (sF σ 28 (σ.2.1 28)) 29 (σ.2.1 29)) 30 (σ.2.1 30)) 31 (σ.2.1 31)) 43 (σ.2.1 43)) 44 (σ.2.1 44))) (congrArg (cX g kk) (wrFi (S := (sF (sF (sF (sF (sF σ 28 (σ.2.1 28)) 29 (σ.2.1 29)) 30 (σ.2.1 30)) 31 (σ.2.1 31)) 43 (σ.2.1 43))) (c := 44) (v := σ.2.1 44) (gtFF (by decide) (gtFF (by decide) (gtFF (by decide) (gtFF (by decide) (gtFF (by decide) rfl))))))) ?_
        refine j_w (cX g kk (sF (sF (sF (sF (sF (sF (sF σ 28 (σ.2.1 28)) 29 (σ.2.1 29)) 30 (σ.2.1 30)) 31 (σ.2.1 31)) 43 (σ.2.1 43)) 44 (σ.2.1 44)) 45 (σ.2.1 45))) (congrArg (cX g kk) (wrFi (S := (sF (sF (sF (sF (sF (sF σ 28 (σ.2.1 28)) 29 (σ.2.1 29)) 30 (σ.2.1 30)) 31 (σ.2.1 31)) 43 (σ.2.1 43)) 44 (σ.2.1 44))) (c := 45) (v := σ.2.1 45) (gtFF (by decide) (gtFF (by decide) (gtFF (by decide) (gtFF (by decide) (gtFF (by decide) (gtFF (by decide) rfl)))))))) ?_
        refine j_w (cX g kk (sF (sF (sF (sF (sF (sF (sF (sF σ 28 (σ.2.1 28)) 29 (σ.2.1 29)) 30 (σ.2.1 30)) 31 (σ.2.1 31)) 43 (σ.2.1 43)) 44 (σ.2.1 44)) 45 (σ.2.1 45)) 46 (σ.2.1 46))) (congrArg (cX g kk) (wrFi (S := (sF (sF (sF (sF (sF (sF (sF σ 28 (σ.2.1 28)) 29 (σ.2.1 29)) 30 (σ.2.1 30)) 31 (σ.2.1 31)) 43 (σ.2.1 43)) 44 (σ.2.1 44)) 45 (σ.2.1 45))) (c := 46) (v := σ.2.1 46) (gtFF (by decide) (gtFF (by decide) (gtFF (by decide) (gtFF (by decide) (gtFF (by decide) (gtFF (by decide) (gtFF (by decide) rfl))))))))) ?_
        refine j_w (cX g kk (sI (sF (sF (sF (sF (sF (sF (sF (sF σ 28 (σ.2.1 28)) 29 (σ.2.1 29)) 30 (σ.2.1 30)) 31 (σ.2.1 31)) 43 (σ.2.1 43)) 44 (σ.2.1 44)) 45 (σ.2.1 45)) 46 (σ.2.1 46)) 437 (σ.1 437))) (congrArg (cX g kk) (wrIi (S := (sF (sF (sF (sF (sF (sF (sF (sF σ 28 (σ.2.1 28)) 29 (σ.2.1 29)) 30 (σ.2.1 30)) 31 (σ.2.1 31)) 43 (σ.2.1 43)) 44 (σ.2.1 44)) 45 (σ.2.1 45)) 46 (σ.2.1 46))) (c := 437) (v := σ.1 437) (gtIF (gtIF (gtIF (gtIF (gtIF (gtIF (gtIF (gtIF rfl)))))))))) ?_
        refine j_w (cX g kk (sI (sI (sF (sF (sF (sF (sF (sF (sF (sF σ 28 (σ.2.1 28)) 29 (σ.2.1 29)) 30 (σ.2.1 30)) 31 (σ.2.1 31)) 43 (σ.2.1 43)) 44 (σ.2.1 44)) 45 (σ.2.1 45)) 46 (σ.2.1 46)) 437 (σ.1 437)) 678 (σ.1 678))) (congrArg (cX g kk) (wrIi (S := (sI (sF (sF (sF (sF (sF (sF (sF (sF σ 28 (σ.2.1 28)) 29 (σ.2.1 29)) 30 (σ.2.1 30)) 31 (σ.2.1 31)) 43 (σ.2.1 43)) 44 (σ.2.1 44)) 45 (σ.2.1 45)) 46 (σ.2.1 46)) 437 (σ.1 437))) (c := 678) (v := σ.1 678) (gtII (by decide) (gtIF (gtIF (gtIF (gtIF (gtIF (gtIF (gtIF (gtIF rfl))))))))))) ?_
        refine j_w (cX g kk (sI (sI (sI (sF (sF (sF (sF (sF (sF (sF (sF σ 28 (σ.2.1 28)) 29 (σ.2.1 29)) 30 (σ.2.1 30)) 31 (σ.2.1 31)) 43 (σ.2.1 43)) 44 (σ.2.1 44)) 45 (σ.2.1 45)) 46 (σ.2.1 46)) 437 (σ.1 437)) 678 (σ.1 678)) 679 (σ.1 679))) (congrArg (cX g kk) (wrIi (S := (sI (sI (sF (sF (sF (sF (sF (sF (sF (sF σ 28 (σ.2.1 28)) 29 (σ.2.1 29)) 30 (σ.2.1 30)) 31 (σ.2.1 31)) 43 (σ.2.1 43)) 44 (σ.2.1 44)) 45 (σ.2.1 45)) 46 (σ.2.1 46)) 437 (σ.1 437)) 678 (σ.1 678))) (c := 679) (v := σ.1 679) (gtII (by decide) (gtII (by decide) (gtIF (gtIF (gtIF (gtIF (gtIF (gtIF (gtIF (gtIF rfl)))))))))))) ?_
        refine j_w (cX g kk (sI (sI (sI (sI (sF (sF (sF (sF (sF (sF (sF (sF σ 28 (σ.2.1 28)) 29 (σ.2.1 29)) 30 (σ.2.1 30)) 31 (σ.2.1 31)) 43 (σ.2.1 43)) 44 (σ.2.1 44)) 45 (σ.2.1 45)) 46 (σ.2.1 46)) 437 (σ.1 437)) 678 (σ.1 678)) 679 (σ.1 679)) 680 (σ.1 680))) (congrArg (cX g kk) (wrIi (S := (sI (sI (sI (sF (sF (sF (sF (sF (sF (sF (sF σ 28 (σ.2.1 28)) 29 (σ.2.1 29)) 30 (σ.2.1 30)) 31 (σ.2.1 31)) 43 (σ.2.1 43)) 44 (σ.2.1 44)) 45 (σ.2.1 45)) 46 (σ.2.1 46)) 437 (σ.1 437)) 678 (σ.1 678)) 679 (σ.1 679))) (c := 680) (v := σ.1 680) (gtII (by decide) (gtII (by decide) (gtII (by decide) (gtIF (gtIF (gtIF (gtIF (gtIF (gtIF (gtIF (gtIF rfl))))))))))))) ?_
        refine j_w (cX g kk (sI (sI (sI (sI (sI (sF (sF (sF (sF (sF (sF (sF (sF σ 28 (σ.2.1 28)) 29 (σ.2.1 29)) 30 (σ.2.1 30)) 31 (σ.2.1 31)) 43 (σ.2.1 43)) 44 (σ.2.1 44)) 45 (σ.2.1 45)) 46 (σ.2.1 46)) 437 (σ.1 437)) 678 (σ.1 678)) 679 (σ.1 679)) 680 (σ.1 680)) 681 (σ.1 681))) (congrArg (cX g kk) (wrIi (S := (sI (sI (sI (sI (sF (sF (sF (sF (sF (sF (sF (sF σ 28 (σ.2.1 28)) 29 (σ.2.1 29)) 30 (σ.2.1 30)) 31 (σ.2.1 31)) 43 (σ.2.1 43)) 44 (σ.2.1 44)) 45 (σ.2.1 45)) 46 (σ.2.1 46)) 437 (σ.1 437)) 678 (σ.1 678)) 679 (σ.1 679)) 680 (σ.1 680))) (c := 681) (v := σ.1 681) (gtII (by decide) (gtII (by decide) (gtII (by decide) (gtII (by decide) (gtIF (gtIF (gtIF (gtIF (gtIF (gtIF (gtIF (gtIF rfl)))))))))))))) ?_
        refine j_w (cX g kk (sI (sI (sI (sI (sI (sI (sF (sF (sF (sF (sF (sF (sF (sF σ 28 (σ.2.1 28)) 29 (σ.2.1 29)) 30 (σ.2.1 30)) 31 (σ.2.1 31)) 43 (σ.2.1 43)) 44 (σ.2.1 44)) 45 (σ.2.1 45)) 46 (σ.2.1 46)) 437 (σ.1 437)) 678 (σ.1 678)) 679 (σ.1 679)) 680 (σ.1 680)) 681 (σ.1 681)) 682 (σ.1 682))) (congrArg (cX g kk) (wrIi (S := (sI (sI (sI (sI (sI (sF (sF (sF (sF (sF (sF (sF (sF σ 28 (σ.2.1 28)) 29 (σ.2.1 29)) 30 (σ.2.1 30)) 31 (σ.2.1 31)) 43 (σ.2.1 43)) 44 (σ.2.1 44)) 45 (σ.2.1 45)) 46 (σ.2.1 46)) 437 (σ.1 437)) 678 (σ.1 678)) 679 (σ.1 679)) 680 (σ.1 680)) 681 (σ.1 681))) (c := 682) (v := σ.1 682) (gtII (by decide) (gtII (by decide) (gtII (by decide) (gtII (by decide) (gtII (by decide) (gtIF (gtIF (gtIF (gtIF (gtIF (gtIF (gtIF (gtIF rfl))))))))))))))) ?_
        exact j_iret C E (sI (sI (sI (sI (sI (sI (sF (sF (sF (sF (sF (sF (sF (sF σ 28 (σ.2.1 28)) 29 (σ.2.1 29)) 30 (σ.2.1 30)) 31 (σ.2.1 31)) 43 (σ.2.1 43)) 44 (σ.2.1 44)) 45 (σ.2.1 45)) 46 (σ.2.1 46)) 437 (σ.1 437)) 678 (σ.1 678)) 679 (σ.1 679)) 680 (σ.1 680)) 681 (σ.1 681)) 682 (σ.1 682)) ⟨_, rfl, ⟨(σ.2.1 28), (σ.2.1 29), (σ.2.1 30), (σ.2.1 31), (σ.2.1 43), (σ.2.1 44), (σ.2.1 45), (σ.2.1 46), (σ.1 437), (σ.1 678), (σ.1 679), (σ.1 680), (σ.1 681), (σ.1 682), rfl⟩⟩ rfl dX10_flow_46
      · replace c3 := bI_t c3
        obtain ⟨yn, yn1, yn2, rfl⟩ := wB_nat (by decide) (by decide) c3
        refine j_iload C 7 rfl dX10_flow_33 ?_
        refine j_iconst C (nI 0) (by decide) dX10_flow_35 ?_
        refine j_ldc (v := nI 9999999) C tb_745 dX10_flow_36 ?_
        refine j_S01 C (c_isWithin z (nI 0) (nI 9999999)) kyX10_isWithin tb_467 tb_468 rfl (Nat.le_of_ble_eq_true rfl) ⟨by decide, by decide⟩ ⟨by decide, by decide⟩ dX10_flow_38 rfl ?_
        refine j_if_ne C 47 (by decide) dX10_flow_41 (fun c4 => ?_) (fun c4 => ?_)
        · replace c4 := bI_t c4
          obtain ⟨zn, zn1, zn2, rfl⟩ := wB_nat (by decide) (by decide) c4
          refine j_aload_n C 0 rfl dX10_flow_47 ?_
          refine gX_0_2 C tb_430 dX10_flow_48 ?_
          refine j_V1 C (d_refresh g kk σ k hk hk6 hI  ) kyX7_refresh tb_562 tb_563 tb_564 27 rfl (eX_27 g kk _) rfl (Nat.le_of_ble_eq_true rfl) ⟨by decide, by decide⟩ dX10_flow_51 rfl (fun vr ur hp => ?_)
          obtain ⟨rfl, w5, w6, w7, w8, w9, hu⟩ := hp
          replace hu := hu.symm
          subst hu
          refine j_aload_n C 0 rfl dX10_flow_54 ?_
          refine gX_0_5 C tb_433 dX10_flow_55 ?_
          refine j_iload_n C 1 rfl dX10_flow_58 ?_
          refine j_V1 C (d_gather g kk (sI (sF (sF (sF (sF σ 28 w5) 29 w6) 30 w7) 31 w8) 437 w9) k hk hk6 hI  xn (by first | assumption | omega)) kyX4_gather tb_712 tb_713 tb_714 42 rfl (eX_42 g kk _) rfl (Nat.le_of_ble_eq_true rfl) ⟨by decide, by decide⟩ dX10_flow_59 rfl (fun vr ur hp => ?_)
          obtain ⟨rfl, w10, w11, w12, w13, w14, hu, g15⟩ := hp
          replace hu := hu.symm
          subst hu
          refine j_aload_n C 0 rfl dX10_flow_62 ?_
          refine gX_0_5 C tb_433 dX10_flow_63 ?_
          refine j_iload_n C 2 rfl dX10_flow_66 ?_
          refine j_iload_n C 3 rfl dX10_flow_67 ?_
          refine j_iload C 4 rfl dX10_flow_68 ?_
          refine j_iload C 5 rfl dX10_flow_70 ?_
          refine j_V1 C (d_sum g kk (sI (sF (sF (sF (sF (sI (sF (sF (sF (sF σ 28 w5) 29 w6) 30 w7) 31 w8) 437 w9) 43 w10) 44 w11) 45 w12) 46 w13) 678 (nI w14)) k hk hk6 hI w14 rfl (by omega)  an (by first | assumption | omega) bn (by first | assumption | omega) cn (by first | assumption | omega) dn (by first | assumption | omega)) kyX4_sum tb_736 tb_737 tb_738 42 rfl (eX_42 g kk _) rfl (Nat.le_of_ble_eq_true rfl) ⟨by decide, by decide⟩ dX10_flow_72 rfl (fun vr ur hp => ?_)
          obtain ⟨r20, rfl, w16, w17, w18, w19, hu⟩ := hp
          replace hu := hu.symm
          subst hu
          refine j_if_ne C 81 (by decide) dX10_flow_75 (fun c21 => ?_) (fun c21 => ?_)
          · refine j_aload_n C 0 rfl dX10_flow_81 ?_
            refine gX_0_5 C tb_433 dX10_flow_82 ?_
            refine j_iload C 6 rfl dX10_flow_85 ?_
            refine j_iload C 7 rfl dX10_flow_87 ?_
            refine j_V1 C (d_beyond g kk (sI (sI (sI (sI (sI (sF (sF (sF (sF (sI (sF (sF (sF (sF σ 28 w5) 29 w6) 30 w7) 31 w8) 437 w9) 43 w10) 44 w11) 45 w12) 46 w13) 678 (nI w14)) 679 w16) 680 w17) 681 w18) 682 w19) k hk hk6 hI  (nI yn) (nI zn)) kyX4_beyond tb_746 tb_747 tb_748 42 rfl (eX_42 g kk _) rfl (Nat.le_of_ble_eq_true rfl) ⟨by decide, by decide⟩ dX10_flow_89 rfl (fun vr ur hp => ?_)
            obtain ⟨r22, rfl, hu⟩ := hp
            replace hu := hu.symm
            subst hu
            refine j_w (cX g kk (sI (sI (sI (sI (sI (sI (sF (sF (sF (sF (sF (sF (sF (sF σ 28 w5) 29 w6) 30 w7) 31 w8) 43 w10) 44 w11) 45 w12) 46 w13) 437 w9) 678 (nI w14)) 679 w16) 680 w17) 681 w18) 682 w19)) (congrArg (cX g kk) (show sI (sI (sI (sI (sI (sF (sF (sF (sF (sI (sF (sF (sF (sF σ 28 w5) 29 w6) 30 w7) 31 w8) 437 w9) 43 w10) 44 w11) 45 w12) 46 w13) 678 (nI w14)) 679 w16) 680 w17) 681 w18) 682 w19 = sI (sI (sI (sI (sI (sI (sF (sF (sF (sF (sF (sF (sF (sF σ 28 w5) 29 w6) 30 w7) 31 w8) 43 w10) 44 w11) 45 w12) 46 w13) 437 w9) 678 (nI w14)) 679 w16) 680 w17) 681 w18) 682 w19 from (wrI (wrI (wrI (wrI (wrI (Eq.trans (wrF (Eq.trans (wrF (Eq.trans (wrF wrFI) wrFI)) wrFI)) wrFI)))))))) ?_
            exact j_iret C E (sI (sI (sI (sI (sI (sI (sF (sF (sF (sF (sF (sF (sF (sF σ 28 w5) 29 w6) 30 w7) 31 w8) 43 w10) 44 w11) 45 w12) 46 w13) 437 w9) 678 (nI w14)) 679 w16) 680 w17) 681 w18) 682 w19) ⟨_, rfl, ⟨w5, w6, w7, w8, w10, w11, w12, w13, w9, (nI w14), w16, w17, w18, w19, rfl⟩⟩ rfl dX10_flow_92
          · refine j_ldc C tb_669 dX10_flow_78 ?_
            refine j_w (cX g kk (sI (sI (sI (sI (sI (sI (sF (sF (sF (sF (sF (sF (sF (sF σ 28 w5) 29 w6) 30 w7) 31 w8) 43 w10) 44 w11) 45 w12) 46 w13) 437 w9) 678 (nI w14)) 679 w16) 680 w17) 681 w18) 682 w19)) (congrArg (cX g kk) (show sI (sI (sI (sI (sI (sF (sF (sF (sF (sI (sF (sF (sF (sF σ 28 w5) 29 w6) 30 w7) 31 w8) 437 w9) 43 w10) 44 w11) 45 w12) 46 w13) 678 (nI w14)) 679 w16) 680 w17) 681 w18) 682 w19 = sI (sI (sI (sI (sI (sI (sF (sF (sF (sF (sF (sF (sF (sF σ 28 w5) 29 w6) 30 w7) 31 w8) 43 w10) 44 w11) 45 w12) 46 w13) 437 w9) 678 (nI w14)) 679 w16) 680 w17) 681 w18) 682 w19 from (wrI (wrI (wrI (wrI (wrI (Eq.trans (wrF (Eq.trans (wrF (Eq.trans (wrF wrFI) wrFI)) wrFI)) wrFI)))))))) ?_
            exact j_iret C E (sI (sI (sI (sI (sI (sI (sF (sF (sF (sF (sF (sF (sF (sF σ 28 w5) 29 w6) 30 w7) 31 w8) 43 w10) 44 w11) 45 w12) 46 w13) 437 w9) 678 (nI w14)) 679 w16) 680 w17) 681 w18) 682 w19) ⟨_, rfl, ⟨w5, w6, w7, w8, w10, w11, w12, w13, w9, (nI w14), w16, w17, w18, w19, rfl⟩⟩ rfl dX10_flow_80
        · replace c4 := bI_f c4
          refine j_ldc C tb_651 dX10_flow_44 ?_
          refine j_w (cX g kk (sF σ 28 (σ.2.1 28))) (congrArg (cX g kk) (wrFi (S := σ) (c := 28) (v := σ.2.1 28) rfl)) ?_
          refine j_w (cX g kk (sF (sF σ 28 (σ.2.1 28)) 29 (σ.2.1 29))) (congrArg (cX g kk) (wrFi (S := (sF σ 28 (σ.2.1 28))) (c := 29) (v := σ.2.1 29) (gtFF (by decide) rfl))) ?_
          refine j_w (cX g kk (sF (sF (sF σ 28 (σ.2.1 28)) 29 (σ.2.1 29)) 30 (σ.2.1 30))) (congrArg (cX g kk) (wrFi (S := (sF (sF σ 28 (σ.2.1 28)) 29 (σ.2.1 29))) (c := 30) (v := σ.2.1 30) (gtFF (by decide) (gtFF (by decide) rfl)))) ?_
          refine j_w (cX g kk (sF (sF (sF (sF σ 28 (σ.2.1 28)) 29 (σ.2.1 29)) 30 (σ.2.1 30)) 31 (σ.2.1 31))) (congrArg (cX g kk) (wrFi (S := (sF (sF (sF σ 28 (σ.2.1 28)) 29 (σ.2.1 29)) 30 (σ.2.1 30))) (c := 31) (v := σ.2.1 31) (gtFF (by decide) (gtFF (by decide) (gtFF (by decide) rfl))))) ?_
          refine j_w (cX g kk (sF (sF (sF (sF (sF σ 28 (σ.2.1 28)) 29 (σ.2.1 29)) 30 (σ.2.1 30)) 31 (σ.2.1 31)) 43 (σ.2.1 43))) (congrArg (cX g kk) (wrFi (S := (sF (sF (sF (sF σ 28 (σ.2.1 28)) 29 (σ.2.1 29)) 30 (σ.2.1 30)) 31 (σ.2.1 31))) (c := 43) (v := σ.2.1 43) (gtFF (by decide) (gtFF (by decide) (gtFF (by decide) (gtFF (by decide) rfl)))))) ?_
          refine j_w (cX g kk (sF (sF (sF (sF (sF (sF σ 28 (σ.2.1 28)) 29 (σ.2.1 29)) 30 (σ.2.1 30)) 31 (σ.2.1 31)) 43 (σ.2.1 43)) 44 (σ.2.1 44))) (congrArg (cX g kk) (wrFi (S := (sF (sF (sF (sF (sF σ 28 (σ.2.1 28)) 29 (σ.2.1 29)) 30 (σ.2.1 30)) 31 (σ.2.1 31)) 43 (σ.2.1 43))) (c := 44) (v := σ.2.1 44) (gtFF (by decide) (gtFF (by decide) (gtFF (by decide) (gtFF (by decide) (gtFF (by decide) rfl))))))) ?_
          refine j_w (cX g kk (sF (sF (sF (sF (sF (sF (sF σ 28 (σ.2.1 28)) 29 (σ.2.1 29)) 30 (σ.2.1 30)) 31 (σ.2.1 31)) 43 (σ.2.1 43)) 44 (σ.2.1 44)) 45 (σ.2.1 45))) (congrArg (cX g kk) (wrFi (S := (sF (sF (sF (sF (sF (sF σ 28 (σ.2.1 28)) 29 (σ.2.1 29)) 30 (σ.2.1 30)) 31 (σ.2.1 31)) 43 (σ.2.1 43)) 44 (σ.2.1 44))) (c := 45) (v := σ.2.1 45) (gtFF (by decide) (gtFF (by decide) (gtFF (by decide) (gtFF (by decide) (gtFF (by decide) (gtFF (by decide) rfl)))))))) ?_
          refine j_w (cX g kk (sF (sF (sF (sF (sF (sF (sF (sF σ 28 (σ.2.1 28)) 29 (σ.2.1 29)) 30 (σ.2.1 30)) 31 (σ.2.1 31)) 43 (σ.2.1 43)) 44 (σ.2.1 44)) 45 (σ.2.1 45)) 46 (σ.2.1 46))) (congrArg (cX g kk) (wrFi (S := (sF (sF (sF (sF (sF (sF (sF σ 28 (σ.2.1 28)) 29 (σ.2.1 29)) 30 (σ.2.1 30)) 31 (σ.2.1 31)) 43 (σ.2.1 43)) 44 (σ.2.1 44)) 45 (σ.2.1 45))) (c := 46) (v := σ.2.1 46) (gtFF (by decide) (gtFF (by decide) (gtFF (by decide) (gtFF (by decide) (gtFF (by decide) (gtFF (by decide) (gtFF (by decide) rfl))))))))) ?_
          refine j_w (cX g kk (sI (sF (sF (sF (sF (sF (sF (sF (sF σ 28 (σ.2.1 28)) 29 (σ.2.1 29)) 30 (σ.2.1 30)) 31 (σ.2.1 31)) 43 (σ.2.1 43)) 44 (σ.2.1 44)) 45 (σ.2.1 45)) 46 (σ.2.1 46)) 437 (σ.1 437))) (congrArg (cX g kk) (wrIi (S := (sF (sF (sF (sF (sF (sF (sF (sF σ 28 (σ.2.1 28)) 29 (σ.2.1 29)) 30 (σ.2.1 30)) 31 (σ.2.1 31)) 43 (σ.2.1 43)) 44 (σ.2.1 44)) 45 (σ.2.1 45)) 46 (σ.2.1 46))) (c := 437) (v := σ.1 437) (gtIF (gtIF (gtIF (gtIF (gtIF (gtIF (gtIF (gtIF rfl)))))))))) ?_
          refine j_w (cX g kk (sI (sI (sF (sF (sF (sF (sF (sF (sF (sF σ 28 (σ.2.1 28)) 29 (σ.2.1 29)) 30 (σ.2.1 30)) 31 (σ.2.1 31)) 43 (σ.2.1 43)) 44 (σ.2.1 44)) 45 (σ.2.1 45)) 46 (σ.2.1 46)) 437 (σ.1 437)) 678 (σ.1 678))) (congrArg (cX g kk) (wrIi (S := (sI (sF (sF (sF (sF (sF (sF (sF (sF σ 28 (σ.2.1 28)) 29 (σ.2.1 29)) 30 (σ.2.1 30)) 31 (σ.2.1 31)) 43 (σ.2.1 43)) 44 (σ.2.1 44)) 45 (σ.2.1 45)) 46 (σ.2.1 46)) 437 (σ.1 437))) (c := 678) (v := σ.1 678) (gtII (by decide) (gtIF (gtIF (gtIF (gtIF (gtIF (gtIF (gtIF (gtIF rfl))))))))))) ?_
          refine j_w (cX g kk (sI (sI (sI (sF (sF (sF (sF (sF (sF (sF (sF σ 28 (σ.2.1 28)) 29 (σ.2.1 29)) 30 (σ.2.1 30)) 31 (σ.2.1 31)) 43 (σ.2.1 43)) 44 (σ.2.1 44)) 45 (σ.2.1 45)) 46 (σ.2.1 46)) 437 (σ.1 437)) 678 (σ.1 678)) 679 (σ.1 679))) (congrArg (cX g kk) (wrIi (S := (sI (sI (sF (sF (sF (sF (sF (sF (sF (sF σ 28 (σ.2.1 28)) 29 (σ.2.1 29)) 30 (σ.2.1 30)) 31 (σ.2.1 31)) 43 (σ.2.1 43)) 44 (σ.2.1 44)) 45 (σ.2.1 45)) 46 (σ.2.1 46)) 437 (σ.1 437)) 678 (σ.1 678))) (c := 679) (v := σ.1 679) (gtII (by decide) (gtII (by decide) (gtIF (gtIF (gtIF (gtIF (gtIF (gtIF (gtIF (gtIF rfl)))))))))))) ?_
          refine j_w (cX g kk (sI (sI (sI (sI (sF (sF (sF (sF (sF (sF (sF (sF σ 28 (σ.2.1 28)) 29 (σ.2.1 29)) 30 (σ.2.1 30)) 31 (σ.2.1 31)) 43 (σ.2.1 43)) 44 (σ.2.1 44)) 45 (σ.2.1 45)) 46 (σ.2.1 46)) 437 (σ.1 437)) 678 (σ.1 678)) 679 (σ.1 679)) 680 (σ.1 680))) (congrArg (cX g kk) (wrIi (S := (sI (sI (sI (sF (sF (sF (sF (sF (sF (sF (sF σ 28 (σ.2.1 28)) 29 (σ.2.1 29)) 30 (σ.2.1 30)) 31 (σ.2.1 31)) 43 (σ.2.1 43)) 44 (σ.2.1 44)) 45 (σ.2.1 45)) 46 (σ.2.1 46)) 437 (σ.1 437)) 678 (σ.1 678)) 679 (σ.1 679))) (c := 680) (v := σ.1 680) (gtII (by decide) (gtII (by decide) (gtII (by decide) (gtIF (gtIF (gtIF (gtIF (gtIF (gtIF (gtIF (gtIF rfl))))))))))))) ?_
          refine j_w (cX g kk (sI (sI (sI (sI (sI (sF (sF (sF (sF (sF (sF (sF (sF σ 28 (σ.2.1 28)) 29 (σ.2.1 29)) 30 (σ.2.1 30)) 31 (σ.2.1 31)) 43 (σ.2.1 43)) 44 (σ.2.1 44)) 45 (σ.2.1 45)) 46 (σ.2.1 46)) 437 (σ.1 437)) 678 (σ.1 678)) 679 (σ.1 679)) 680 (σ.1 680)) 681 (σ.1 681))) (congrArg (cX g kk) (wrIi (S := (sI (sI (sI (sI (sF (sF (sF (sF (sF (sF (sF (sF σ 28 (σ.2.1 28)) 29 (σ.2.1 29)) 30 (σ.2.1 30)) 31 (σ.2.1 31)) 43 (σ.2.1 43)) 44 (σ.2.1 44)) 45 (σ.2.1 45)) 46 (σ.2.1 46)) 437 (σ.1 437)) 678 (σ.1 678)) 679 (σ.1 679)) 680 (σ.1 680))) (c := 681) (v := σ.1 681) (gtII (by decide) (gtII (by decide) (gtII (by decide) (gtII (by decide) (gtIF (gtIF (gtIF (gtIF (gtIF (gtIF (gtIF (gtIF rfl)))))))))))))) ?_
          refine j_w (cX g kk (sI (sI (sI (sI (sI (sI (sF (sF (sF (sF (sF (sF (sF (sF σ 28 (σ.2.1 28)) 29 (σ.2.1 29)) 30 (σ.2.1 30)) 31 (σ.2.1 31)) 43 (σ.2.1 43)) 44 (σ.2.1 44)) 45 (σ.2.1 45)) 46 (σ.2.1 46)) 437 (σ.1 437)) 678 (σ.1 678)) 679 (σ.1 679)) 680 (σ.1 680)) 681 (σ.1 681)) 682 (σ.1 682))) (congrArg (cX g kk) (wrIi (S := (sI (sI (sI (sI (sI (sF (sF (sF (sF (sF (sF (sF (sF σ 28 (σ.2.1 28)) 29 (σ.2.1 29)) 30 (σ.2.1 30)) 31 (σ.2.1 31)) 43 (σ.2.1 43)) 44 (σ.2.1 44)) 45 (σ.2.1 45)) 46 (σ.2.1 46)) 437 (σ.1 437)) 678 (σ.1 678)) 679 (σ.1 679)) 680 (σ.1 680)) 681 (σ.1 681))) (c := 682) (v := σ.1 682) (gtII (by decide) (gtII (by decide) (gtII (by decide) (gtII (by decide) (gtII (by decide) (gtIF (gtIF (gtIF (gtIF (gtIF (gtIF (gtIF (gtIF rfl))))))))))))))) ?_
          exact j_iret C E (sI (sI (sI (sI (sI (sI (sF (sF (sF (sF (sF (sF (sF (sF σ 28 (σ.2.1 28)) 29 (σ.2.1 29)) 30 (σ.2.1 30)) 31 (σ.2.1 31)) 43 (σ.2.1 43)) 44 (σ.2.1 44)) 45 (σ.2.1 45)) 46 (σ.2.1 46)) 437 (σ.1 437)) 678 (σ.1 678)) 679 (σ.1 679)) 680 (σ.1 680)) 681 (σ.1 681)) 682 (σ.1 682)) ⟨_, rfl, ⟨(σ.2.1 28), (σ.2.1 29), (σ.2.1 30), (σ.2.1 31), (σ.2.1 43), (σ.2.1 44), (σ.2.1 45), (σ.2.1 46), (σ.1 437), (σ.1 678), (σ.1 679), (σ.1 680), (σ.1 681), (σ.1 682), rfl⟩⟩ rfl dX10_flow_46
  · replace c1 := bI_f c1
    refine j_ldc C tb_650 dX10_flow_7 ?_
    refine j_w (cX g kk (sF σ 28 (σ.2.1 28))) (congrArg (cX g kk) (wrFi (S := σ) (c := 28) (v := σ.2.1 28) rfl)) ?_
    refine j_w (cX g kk (sF (sF σ 28 (σ.2.1 28)) 29 (σ.2.1 29))) (congrArg (cX g kk) (wrFi (S := (sF σ 28 (σ.2.1 28))) (c := 29) (v := σ.2.1 29) (gtFF (by decide) rfl))) ?_
    refine j_w (cX g kk (sF (sF (sF σ 28 (σ.2.1 28)) 29 (σ.2.1 29)) 30 (σ.2.1 30))) (congrArg (cX g kk) (wrFi (S := (sF (sF σ 28 (σ.2.1 28)) 29 (σ.2.1 29))) (c := 30) (v := σ.2.1 30) (gtFF (by decide) (gtFF (by decide) rfl)))) ?_
    refine j_w (cX g kk (sF (sF (sF (sF σ 28 (σ.2.1 28)) 29 (σ.2.1 29)) 30 (σ.2.1 30)) 31 (σ.2.1 31))) (congrArg (cX g kk) (wrFi (S := (sF (sF (sF σ 28 (σ.2.1 28)) 29 (σ.2.1 29)) 30 (σ.2.1 30))) (c := 31) (v := σ.2.1 31) (gtFF (by decide) (gtFF (by decide) (gtFF (by decide) rfl))))) ?_
    refine j_w (cX g kk (sF (sF (sF (sF (sF σ 28 (σ.2.1 28)) 29 (σ.2.1 29)) 30 (σ.2.1 30)) 31 (σ.2.1 31)) 43 (σ.2.1 43))) (congrArg (cX g kk) (wrFi (S := (sF (sF (sF (sF σ 28 (σ.2.1 28)) 29 (σ.2.1 29)) 30 (σ.2.1 30)) 31 (σ.2.1 31))) (c := 43) (v := σ.2.1 43) (gtFF (by decide) (gtFF (by decide) (gtFF (by decide) (gtFF (by decide) rfl)))))) ?_
    refine j_w (cX g kk (sF (sF (sF (sF (sF (sF σ 28 (σ.2.1 28)) 29 (σ.2.1 29)) 30 (σ.2.1 30)) 31 (σ.2.1 31)) 43 (σ.2.1 43)) 44 (σ.2.1 44))) (congrArg (cX g kk) (wrFi (S := (sF (sF (sF (sF (sF σ 28 (σ.2.1 28)) 29 (σ.2.1 29)) 30 (σ.2.1 30)) 31 (σ.2.1 31)) 43 (σ.2.1 43))) (c := 44) (v := σ.2.1 44) (gtFF (by decide) (gtFF (by decide) (gtFF (by decide) (gtFF (by decide) (gtFF (by decide) rfl))))))) ?_
    refine j_w (cX g kk (sF (sF (sF (sF (sF (sF (sF σ 28 (σ.2.1 28)) 29 (σ.2.1 29)) 30 (σ.2.1 30)) 31 (σ.2.1 31)) 43 (σ.2.1 43)) 44 (σ.2.1 44)) 45 (σ.2.1 45))) (congrArg (cX g kk) (wrFi (S := (sF (sF (sF (sF (sF (sF σ 28 (σ.2.1 28)) 29 (σ.2.1 29)) 30 (σ.2.1 30)) 31 (σ.2.1 31)) 43 (σ.2.1 43)) 44 (σ.2.1 44))) (c := 45) (v := σ.2.1 45) (gtFF (by decide) (gtFF (by decide) (gtFF (by decide) (gtFF (by decide) (gtFF (by decide) (gtFF (by decide) rfl)))))))) ?_
    refine j_w (cX g kk (sF (sF (sF (sF (sF (sF (sF (sF σ 28 (σ.2.1 28)) 29 (σ.2.1 29)) 30 (σ.2.1 30)) 31 (σ.2.1 31)) 43 (σ.2.1 43)) 44 (σ.2.1 44)) 45 (σ.2.1 45)) 46 (σ.2.1 46))) (congrArg (cX g kk) (wrFi (S := (sF (sF (sF (sF (sF (sF (sF σ 28 (σ.2.1 28)) 29 (σ.2.1 29)) 30 (σ.2.1 30)) 31 (σ.2.1 31)) 43 (σ.2.1 43)) 44 (σ.2.1 44)) 45 (σ.2.1 45))) (c := 46) (v := σ.2.1 46) (gtFF (by decide) (gtFF (by decide) (gtFF (by decide) (gtFF (by decide) (gtFF (by decide) (gtFF (by decide) (gtFF (by decide) rfl))))))))) ?_
    refine j_w (cX g kk (sI (sF (sF (sF (sF (sF (sF (sF (sF σ 28 (σ.2.1 28)) 29 (σ.2.1 29)) 30 (σ.2.1 30)) 31 (σ.2.1 31)) 43 (σ.2.1 43)) 44 (σ.2.1 44)) 45 (σ.2.1 45)) 46 (σ.2.1 46)) 437 (σ.1 437))) (congrArg (cX g kk) (wrIi (S := (sF (sF (sF (sF (sF (sF (sF (sF σ 28 (σ.2.1 28)) 29 (σ.2.1 29)) 30 (σ.2.1 30)) 31 (σ.2.1 31)) 43 (σ.2.1 43)) 44 (σ.2.1 44)) 45 (σ.2.1 45)) 46 (σ.2.1 46))) (c := 437) (v := σ.1 437) (gtIF (gtIF (gtIF (gtIF (gtIF (gtIF (gtIF (gtIF rfl)))))))))) ?_
    refine j_w (cX g kk (sI (sI (sF (sF (sF (sF (sF (sF (sF (sF σ 28 (σ.2.1 28)) 29 (σ.2.1 29)) 30 (σ.2.1 30)) 31 (σ.2.1 31)) 43 (σ.2.1 43)) 44 (σ.2.1 44)) 45 (σ.2.1 45)) 46 (σ.2.1 46)) 437 (σ.1 437)) 678 (σ.1 678))) (congrArg (cX g kk) (wrIi (S := (sI (sF (sF (sF (sF (sF (sF (sF (sF σ 28 (σ.2.1 28)) 29 (σ.2.1 29)) 30 (σ.2.1 30)) 31 (σ.2.1 31)) 43 (σ.2.1 43)) 44 (σ.2.1 44)) 45 (σ.2.1 45)) 46 (σ.2.1 46)) 437 (σ.1 437))) (c := 678) (v := σ.1 678) (gtII (by decide) (gtIF (gtIF (gtIF (gtIF (gtIF (gtIF (gtIF (gtIF rfl))))))))))) ?_
    refine j_w (cX g kk (sI (sI (sI (sF (sF (sF (sF (sF (sF (sF (sF σ 28 (σ.2.1 28)) 29 (σ.2.1 29)) 30 (σ.2.1 30)) 31 (σ.2.1 31)) 43 (σ.2.1 43)) 44 (σ.2.1 44)) 45 (σ.2.1 45)) 46 (σ.2.1 46)) 437 (σ.1 437)) 678 (σ.1 678)) 679 (σ.1 679))) (congrArg (cX g kk) (wrIi (S := (sI (sI (sF (sF (sF (sF (sF (sF (sF (sF σ 28 (σ.2.1 28)) 29 (σ.2.1 29)) 30 (σ.2.1 30)) 31 (σ.2.1 31)) 43 (σ.2.1 43)) 44 (σ.2.1 44)) 45 (σ.2.1 45)) 46 (σ.2.1 46)) 437 (σ.1 437)) 678 (σ.1 678))) (c := 679) (v := σ.1 679) (gtII (by decide) (gtII (by decide) (gtIF (gtIF (gtIF (gtIF (gtIF (gtIF (gtIF (gtIF rfl)))))))))))) ?_
    refine j_w (cX g kk (sI (sI (sI (sI (sF (sF (sF (sF (sF (sF (sF (sF σ 28 (σ.2.1 28)) 29 (σ.2.1 29)) 30 (σ.2.1 30)) 31 (σ.2.1 31)) 43 (σ.2.1 43)) 44 (σ.2.1 44)) 45 (σ.2.1 45)) 46 (σ.2.1 46)) 437 (σ.1 437)) 678 (σ.1 678)) 679 (σ.1 679)) 680 (σ.1 680))) (congrArg (cX g kk) (wrIi (S := (sI (sI (sI (sF (sF (sF (sF (sF (sF (sF (sF σ 28 (σ.2.1 28)) 29 (σ.2.1 29)) 30 (σ.2.1 30)) 31 (σ.2.1 31)) 43 (σ.2.1 43)) 44 (σ.2.1 44)) 45 (σ.2.1 45)) 46 (σ.2.1 46)) 437 (σ.1 437)) 678 (σ.1 678)) 679 (σ.1 679))) (c := 680) (v := σ.1 680) (gtII (by decide) (gtII (by decide) (gtII (by decide) (gtIF (gtIF (gtIF (gtIF (gtIF (gtIF (gtIF (gtIF rfl))))))))))))) ?_
    refine j_w (cX g kk (sI (sI (sI (sI (sI (sF (sF (sF (sF (sF (sF (sF (sF σ 28 (σ.2.1 28)) 29 (σ.2.1 29)) 30 (σ.2.1 30)) 31 (σ.2.1 31)) 43 (σ.2.1 43)) 44 (σ.2.1 44)) 45 (σ.2.1 45)) 46 (σ.2.1 46)) 437 (σ.1 437)) 678 (σ.1 678)) 679 (σ.1 679)) 680 (σ.1 680)) 681 (σ.1 681))) (congrArg (cX g kk) (wrIi (S := (sI (sI (sI (sI (sF (sF (sF (sF (sF (sF (sF (sF σ 28 (σ.2.1 28)) 29 (σ.2.1 29)) 30 (σ.2.1 30)) 31 (σ.2.1 31)) 43 (σ.2.1 43)) 44 (σ.2.1 44)) 45 (σ.2.1 45)) 46 (σ.2.1 46)) 437 (σ.1 437)) 678 (σ.1 678)) 679 (σ.1 679)) 680 (σ.1 680))) (c := 681) (v := σ.1 681) (gtII (by decide) (gtII (by decide) (gtII (by decide) (gtII (by decide) (gtIF (gtIF (gtIF (gtIF (gtIF (gtIF (gtIF (gtIF rfl)))))))))))))) ?_
    refine j_w (cX g kk (sI (sI (sI (sI (sI (sI (sF (sF (sF (sF (sF (sF (sF (sF σ 28 (σ.2.1 28)) 29 (σ.2.1 29)) 30 (σ.2.1 30)) 31 (σ.2.1 31)) 43 (σ.2.1 43)) 44 (σ.2.1 44)) 45 (σ.2.1 45)) 46 (σ.2.1 46)) 437 (σ.1 437)) 678 (σ.1 678)) 679 (σ.1 679)) 680 (σ.1 680)) 681 (σ.1 681)) 682 (σ.1 682))) (congrArg (cX g kk) (wrIi (S := (sI (sI (sI (sI (sI (sF (sF (sF (sF (sF (sF (sF (sF σ 28 (σ.2.1 28)) 29 (σ.2.1 29)) 30 (σ.2.1 30)) 31 (σ.2.1 31)) 43 (σ.2.1 43)) 44 (σ.2.1 44)) 45 (σ.2.1 45)) 46 (σ.2.1 46)) 437 (σ.1 437)) 678 (σ.1 678)) 679 (σ.1 679)) 680 (σ.1 680)) 681 (σ.1 681))) (c := 682) (v := σ.1 682) (gtII (by decide) (gtII (by decide) (gtII (by decide) (gtII (by decide) (gtII (by decide) (gtIF (gtIF (gtIF (gtIF (gtIF (gtIF (gtIF (gtIF rfl))))))))))))))) ?_
    exact j_iret C E (sI (sI (sI (sI (sI (sI (sF (sF (sF (sF (sF (sF (sF (sF σ 28 (σ.2.1 28)) 29 (σ.2.1 29)) 30 (σ.2.1 30)) 31 (σ.2.1 31)) 43 (σ.2.1 43)) 44 (σ.2.1 44)) 45 (σ.2.1 45)) 46 (σ.2.1 46)) 437 (σ.1 437)) 678 (σ.1 678)) 679 (σ.1 679)) 680 (σ.1 680)) 681 (σ.1 681)) 682 (σ.1 682)) ⟨_, rfl, ⟨(σ.2.1 28), (σ.2.1 29), (σ.2.1 30), (σ.2.1 31), (σ.2.1 43), (σ.2.1 44), (σ.2.1 45), (σ.2.1 46), (σ.1 437), (σ.1 678), (σ.1 679), (σ.1 680), (σ.1 681), (σ.1 682), rfl⟩⟩ rfl dX10_flow_9
set_option maxRecDepth 100000 in
set_option maxHeartbeats 4000000 in
theorem d_fill (g kk : Nat → Nat) (σ : St) (k : Nat) (hk : σ.1 16 = nI k) (hk6 : k ≤ 6) (hI : iX σ)  (x : Int32) (y : Int32) (z : Int32) : jM (S := St) yX10_fill cX10_fill 4 (some .int) { frames := 5, cells := 0, slots := 0, locals := 115 } kk (cX g kk σ) [.ref (g 0), .int x, .int y, .int z] (cX g kk) (rI (fun (r : Int32) (u : St) => ∃ (pF28 : Nat → Int32) (pF29 : Nat → Int32) (pF30 : Nat → Int32) (pF31 : Nat → Int32) (pF43 : Nat → Int32) (pF44 : Nat → Int32) (pF45 : Nat → Int32) (pF46 : Nat → Int32) (pI437 : Int32) (pI678 : Int32) (pI679 : Int32) (pI680 : Int32), u = sI (sI (sI (sI (sF (sF (sF (sF (sF (sF (sF (sF σ 28 pF28) 29 pF29) 30 pF30) 31 pF31) 43 pF43) 44 pF44) 45 pF45) 46 pF46) 437 pI437) 678 pI678) 679 pI679) 680 pI680)) := by
  refine j_entry [(0, .ref (g 0)), (1, .int x), (2, .int y), (3, .int z)] (by decide) (Nat.le_of_ble_eq_true rfl) rfl ?_
  intro X C E HI
  refine j_aload_n C 0 rfl dX10_fill_0 ?_
  refine j_iload_n C 1 rfl dX10_fill_1 ?_
  refine j_V1 C (c_isCan g kk σ k hk hk6 x) kyX10_isCan tb_478 tb_480 sp_0 0 rfl (eX_0 g kk _) rfl (Nat.le_of_ble_eq_true rfl) ⟨by decide, by decide⟩ dX10_fill_2 rfl (fun vr ur hp => ?_)
  obtain ⟨r, rfl, rfl, hu⟩ := hp
  replace hu := hu.symm
  subst hu
  refine j_if_eq C 15 (by decide) dX10_fill_5 (fun c1 => ?_) (fun c1 => ?_)
  · replace c1 := bI_f c1
    refine j_iconst C ((-1)) (by decide) dX10_fill_15 ?_
    refine j_w (cX g kk (sF σ 28 (σ.2.1 28))) (congrArg (cX g kk) (wrFi (S := σ) (c := 28) (v := σ.2.1 28) rfl)) ?_
    refine j_w (cX g kk (sF (sF σ 28 (σ.2.1 28)) 29 (σ.2.1 29))) (congrArg (cX g kk) (wrFi (S := (sF σ 28 (σ.2.1 28))) (c := 29) (v := σ.2.1 29) (gtFF (by decide) rfl))) ?_
    refine j_w (cX g kk (sF (sF (sF σ 28 (σ.2.1 28)) 29 (σ.2.1 29)) 30 (σ.2.1 30))) (congrArg (cX g kk) (wrFi (S := (sF (sF σ 28 (σ.2.1 28)) 29 (σ.2.1 29))) (c := 30) (v := σ.2.1 30) (gtFF (by decide) (gtFF (by decide) rfl)))) ?_
    refine j_w (cX g kk (sF (sF (sF (sF σ 28 (σ.2.1 28)) 29 (σ.2.1 29)) 30 (σ.2.1 30)) 31 (σ.2.1 31))) (congrArg (cX g kk) (wrFi (S := (sF (sF (sF σ 28 (σ.2.1 28)) 29 (σ.2.1 29)) 30 (σ.2.1 30))) (c := 31) (v := σ.2.1 31) (gtFF (by decide) (gtFF (by decide) (gtFF (by decide) rfl))))) ?_
    refine j_w (cX g kk (sF (sF (sF (sF (sF σ 28 (σ.2.1 28)) 29 (σ.2.1 29)) 30 (σ.2.1 30)) 31 (σ.2.1 31)) 43 (σ.2.1 43))) (congrArg (cX g kk) (wrFi (S := (sF (sF (sF (sF σ 28 (σ.2.1 28)) 29 (σ.2.1 29)) 30 (σ.2.1 30)) 31 (σ.2.1 31))) (c := 43) (v := σ.2.1 43) (gtFF (by decide) (gtFF (by decide) (gtFF (by decide) (gtFF (by decide) rfl)))))) ?_
    refine j_w (cX g kk (sF (sF (sF (sF (sF (sF σ 28 (σ.2.1 28)) 29 (σ.2.1 29)) 30 (σ.2.1 30)) 31 (σ.2.1 31)) 43 (σ.2.1 43)) 44 (σ.2.1 44))) (congrArg (cX g kk) (wrFi (S := (sF (sF (sF (sF (sF σ 28 (σ.2.1 28)) 29 (σ.2.1 29)) 30 (σ.2.1 30)) 31 (σ.2.1 31)) 43 (σ.2.1 43))) (c := 44) (v := σ.2.1 44) (gtFF (by decide) (gtFF (by decide) (gtFF (by decide) (gtFF (by decide) (gtFF (by decide) rfl))))))) ?_
    refine j_w (cX g kk (sF (sF (sF (sF (sF (sF (sF σ 28 (σ.2.1 28)) 29 (σ.2.1 29)) 30 (σ.2.1 30)) 31 (σ.2.1 31)) 43 (σ.2.1 43)) 44 (σ.2.1 44)) 45 (σ.2.1 45))) (congrArg (cX g kk) (wrFi (S := (sF (sF (sF (sF (sF (sF σ 28 (σ.2.1 28)) 29 (σ.2.1 29)) 30 (σ.2.1 30)) 31 (σ.2.1 31)) 43 (σ.2.1 43)) 44 (σ.2.1 44))) (c := 45) (v := σ.2.1 45) (gtFF (by decide) (gtFF (by decide) (gtFF (by decide) (gtFF (by decide) (gtFF (by decide) (gtFF (by decide) rfl)))))))) ?_
    refine j_w (cX g kk (sF (sF (sF (sF (sF (sF (sF (sF σ 28 (σ.2.1 28)) 29 (σ.2.1 29)) 30 (σ.2.1 30)) 31 (σ.2.1 31)) 43 (σ.2.1 43)) 44 (σ.2.1 44)) 45 (σ.2.1 45)) 46 (σ.2.1 46))) (congrArg (cX g kk) (wrFi (S := (sF (sF (sF (sF (sF (sF (sF σ 28 (σ.2.1 28)) 29 (σ.2.1 29)) 30 (σ.2.1 30)) 31 (σ.2.1 31)) 43 (σ.2.1 43)) 44 (σ.2.1 44)) 45 (σ.2.1 45))) (c := 46) (v := σ.2.1 46) (gtFF (by decide) (gtFF (by decide) (gtFF (by decide) (gtFF (by decide) (gtFF (by decide) (gtFF (by decide) (gtFF (by decide) rfl))))))))) ?_
    refine j_w (cX g kk (sI (sF (sF (sF (sF (sF (sF (sF (sF σ 28 (σ.2.1 28)) 29 (σ.2.1 29)) 30 (σ.2.1 30)) 31 (σ.2.1 31)) 43 (σ.2.1 43)) 44 (σ.2.1 44)) 45 (σ.2.1 45)) 46 (σ.2.1 46)) 437 (σ.1 437))) (congrArg (cX g kk) (wrIi (S := (sF (sF (sF (sF (sF (sF (sF (sF σ 28 (σ.2.1 28)) 29 (σ.2.1 29)) 30 (σ.2.1 30)) 31 (σ.2.1 31)) 43 (σ.2.1 43)) 44 (σ.2.1 44)) 45 (σ.2.1 45)) 46 (σ.2.1 46))) (c := 437) (v := σ.1 437) (gtIF (gtIF (gtIF (gtIF (gtIF (gtIF (gtIF (gtIF rfl)))))))))) ?_
    refine j_w (cX g kk (sI (sI (sF (sF (sF (sF (sF (sF (sF (sF σ 28 (σ.2.1 28)) 29 (σ.2.1 29)) 30 (σ.2.1 30)) 31 (σ.2.1 31)) 43 (σ.2.1 43)) 44 (σ.2.1 44)) 45 (σ.2.1 45)) 46 (σ.2.1 46)) 437 (σ.1 437)) 678 (σ.1 678))) (congrArg (cX g kk) (wrIi (S := (sI (sF (sF (sF (sF (sF (sF (sF (sF σ 28 (σ.2.1 28)) 29 (σ.2.1 29)) 30 (σ.2.1 30)) 31 (σ.2.1 31)) 43 (σ.2.1 43)) 44 (σ.2.1 44)) 45 (σ.2.1 45)) 46 (σ.2.1 46)) 437 (σ.1 437))) (c := 678) (v := σ.1 678) (gtII (by decide) (gtIF (gtIF (gtIF (gtIF (gtIF (gtIF (gtIF (gtIF rfl))))))))))) ?_
    refine j_w (cX g kk (sI (sI (sI (sF (sF (sF (sF (sF (sF (sF (sF σ 28 (σ.2.1 28)) 29 (σ.2.1 29)) 30 (σ.2.1 30)) 31 (σ.2.1 31)) 43 (σ.2.1 43)) 44 (σ.2.1 44)) 45 (σ.2.1 45)) 46 (σ.2.1 46)) 437 (σ.1 437)) 678 (σ.1 678)) 679 (σ.1 679))) (congrArg (cX g kk) (wrIi (S := (sI (sI (sF (sF (sF (sF (sF (sF (sF (sF σ 28 (σ.2.1 28)) 29 (σ.2.1 29)) 30 (σ.2.1 30)) 31 (σ.2.1 31)) 43 (σ.2.1 43)) 44 (σ.2.1 44)) 45 (σ.2.1 45)) 46 (σ.2.1 46)) 437 (σ.1 437)) 678 (σ.1 678))) (c := 679) (v := σ.1 679) (gtII (by decide) (gtII (by decide) (gtIF (gtIF (gtIF (gtIF (gtIF (gtIF (gtIF (gtIF rfl)))))))))))) ?_
    refine j_w (cX g kk (sI (sI (sI (sI (sF (sF (sF (sF (sF (sF (sF (sF σ 28 (σ.2.1 28)) 29 (σ.2.1 29)) 30 (σ.2.1 30)) 31 (σ.2.1 31)) 43 (σ.2.1 43)) 44 (σ.2.1 44)) 45 (σ.2.1 45)) 46 (σ.2.1 46)) 437 (σ.1 437)) 678 (σ.1 678)) 679 (σ.1 679)) 680 (σ.1 680))) (congrArg (cX g kk) (wrIi (S := (sI (sI (sI (sF (sF (sF (sF (sF (sF (sF (sF σ 28 (σ.2.1 28)) 29 (σ.2.1 29)) 30 (σ.2.1 30)) 31 (σ.2.1 31)) 43 (σ.2.1 43)) 44 (σ.2.1 44)) 45 (σ.2.1 45)) 46 (σ.2.1 46)) 437 (σ.1 437)) 678 (σ.1 678)) 679 (σ.1 679))) (c := 680) (v := σ.1 680) (gtII (by decide) (gtII (by decide) (gtII (by decide) (gtIF (gtIF (gtIF (gtIF (gtIF (gtIF (gtIF (gtIF rfl))))))))))))) ?_
    exact j_iret C E (sI (sI (sI (sI (sF (sF (sF (sF (sF (sF (sF (sF σ 28 (σ.2.1 28)) 29 (σ.2.1 29)) 30 (σ.2.1 30)) 31 (σ.2.1 31)) 43 (σ.2.1 43)) 44 (σ.2.1 44)) 45 (σ.2.1 45)) 46 (σ.2.1 46)) 437 (σ.1 437)) 678 (σ.1 678)) 679 (σ.1 679)) 680 (σ.1 680)) ⟨_, rfl, ⟨(σ.2.1 28), (σ.2.1 29), (σ.2.1 30), (σ.2.1 31), (σ.2.1 43), (σ.2.1 44), (σ.2.1 45), (σ.2.1 46), (σ.1 437), (σ.1 678), (σ.1 679), (σ.1 680), rfl⟩⟩ rfl dX10_fill_16
  · replace c1 := bI_t c1
    obtain ⟨xn, xn1, rfl⟩ := cB_nat (by omega) c1
    refine j_iload_n C 2 rfl dX10_fill_8 ?_
    refine j_S01 C (c_isDay y) kyX10_isDay tb_486 tb_487 rfl (Nat.le_of_ble_eq_true rfl) ⟨by decide, by decide⟩ ⟨by decide, by decide⟩ dX10_fill_9 rfl ?_
    refine j_if_ne C 17 (by decide) dX10_fill_12 (fun c2 => ?_) (fun c2 => ?_)
    · replace c2 := bI_t c2
      obtain ⟨yn, yn1, yn2, rfl⟩ := wB_nat (by decide) (by decide) c2
      refine j_iload_n C 3 rfl dX10_fill_17 ?_
      refine j_iconst C (nI 0) (by decide) dX10_fill_18 ?_
      refine j_iconst C (nI 1) (by decide) dX10_fill_19 ?_
      refine j_S01 C (c_isWithin z (nI 0) (nI 1)) kyX10_isWithin tb_467 tb_468 rfl (Nat.le_of_ble_eq_true rfl) ⟨by decide, by decide⟩ ⟨by decide, by decide⟩ dX10_fill_20 rfl ?_
      refine j_if_ne C 29 (by decide) dX10_fill_23 (fun c3 => ?_) (fun c3 => ?_)
      · replace c3 := bI_t c3
        obtain ⟨zn, zn1, zn2, rfl⟩ := wB_nat (by decide) (by decide) c3
        refine j_aload_n C 0 rfl dX10_fill_29 ?_
        refine gX_0_2 C tb_430 dX10_fill_30 ?_
        refine j_V1 C (d_refresh g kk σ k hk hk6 hI  ) kyX7_refresh tb_562 tb_563 tb_564 27 rfl (eX_27 g kk _) rfl (Nat.le_of_ble_eq_true rfl) ⟨by decide, by decide⟩ dX10_fill_33 rfl (fun vr ur hp => ?_)
        obtain ⟨rfl, w4, w5, w6, w7, w8, hu⟩ := hp
        replace hu := hu.symm
        subst hu
        refine j_aload_n C 0 rfl dX10_fill_36 ?_
        refine gX_0_2 C tb_430 dX10_fill_37 ?_
        refine gX_27_4 C tb_212 dX10_fill_40 ?_
        refine j_iload_n C 1 rfl dX10_fill_43 ?_
        refine j_bipush C (nI 28) (by decide) dX10_fill_44 ?_
        refine j_imulN C dX10_fill_46 ?_
        refine j_iload_n C 2 rfl dX10_fill_47 ?_
        refine j_iaddN C dX10_fill_48 ?_
        refine rX_31 C ((xn * 28) + yn) rfl (by omega) (w7 ((xn * 28) + yn)) rfl dX10_fill_49 ?_
        refine j_iconst C ((-1)) (by decide) dX10_fill_50 ?_
        refine j_icmp_eq C 57 (by decide) dX10_fill_51 (fun c9 => ?_) (fun c9 => ?_)
        · refine j_aload_n C 0 rfl dX10_fill_57 ?_
          refine gX_0_5 C tb_433 dX10_fill_58 ?_
          refine j_iload_n C 2 rfl dX10_fill_61 ?_
          refine j_V1 C (d_gather g kk (sI (sF (sF (sF (sF σ 28 w4) 29 w5) 30 w6) 31 w7) 437 w8) k hk hk6 hI  yn (by first | assumption | omega)) kyX4_gather tb_712 tb_713 tb_714 42 rfl (eX_42 g kk _) rfl (Nat.le_of_ble_eq_true rfl) ⟨by decide, by decide⟩ dX10_fill_62 rfl (fun vr ur hp => ?_)
          obtain ⟨rfl, w10, w11, w12, w13, w14, hu, g15⟩ := hp
          replace hu := hu.symm
          subst hu
          refine j_aload_n C 0 rfl dX10_fill_65 ?_
          refine gX_0_5 C tb_433 dX10_fill_66 ?_
          refine j_aload_n C 0 rfl dX10_fill_69 ?_
          refine gX_0_0 C tb_428 dX10_fill_70 ?_
          refine gX_1_1 C tb_105 dX10_fill_73 ?_
          refine j_iload_n C 1 rfl dX10_fill_76 ?_
          refine rX_2 C xn rfl (by omega) ((σ.2.1 2) xn) rfl dX10_fill_77 ?_
          refine j_aload_n C 0 rfl dX10_fill_78 ?_
          refine gX_0_0 C tb_428 dX10_fill_79 ?_
          refine gX_1_2 C tb_109 dX10_fill_82 ?_
          refine j_iload_n C 1 rfl dX10_fill_85 ?_
          refine rX_3 C xn rfl (by omega) ((σ.2.1 3) xn) rfl dX10_fill_86 ?_
          refine j_V1 C (d_boundsAt g kk (sI (sF (sF (sF (sF (sI (sF (sF (sF (sF σ 28 w4) 29 w5) 30 w6) 31 w7) 437 w8) 43 w10) 44 w11) 45 w12) 46 w13) 678 (nI w14)) k hk hk6 hI w14 rfl (by omega)  ((σ.2.1 2) xn) ((σ.2.1 3) xn)) kyX4_boundsAt tb_720 tb_721 tb_722 42 rfl (eX_42 g kk _) rfl (Nat.le_of_ble_eq_true rfl) ⟨by decide, by decide⟩ dX10_fill_87 rfl (fun vr ur hp => ?_)
          obtain ⟨r18, rfl, w16, w17, hu⟩ := hp
          replace hu := hu.symm
          subst hu
          refine j_if_ne C 96 (by decide) dX10_fill_90 (fun c19 => ?_) (fun c19 => ?_)
          · refine j_iload_n C 3 rfl dX10_fill_96 ?_
            refine j_if_neN C 120 (by decide) (by omega) dX10_fill_97 (fun c20 => ?_) (fun c20 => ?_)
            · refine j_aload_n C 0 rfl dX10_fill_120 ?_
              refine gX_0_5 C tb_433 dX10_fill_121 ?_
              refine gX_42_8 C tb_322 (w17) rfl dX10_fill_124 ?_
              refine j_aload_n C 0 rfl dX10_fill_127 ?_
              refine gX_0_5 C tb_433 dX10_fill_128 ?_
              refine gX_42_7 C tb_320 (w16) rfl dX10_fill_131 ?_
              refine j_isub C dX10_fill_134 ?_
              refine j_iconst C (nI 2) (by decide) dX10_fill_135 ?_
              refine j_idiv C (by first | decide | assumption | exact nI_ne0 (by omega) (by omega) | exact i64ne (by assumption) | exact i64ne (nI_ne0 (by omega) (by omega))) dX10_fill_136 ?_
              refine j_iconst C (nI 1) (by decide) dX10_fill_137 ?_
              refine j_iadd C dX10_fill_138 ?_
              refine j_top (fun v21 => ?_)
              refine j_w (cX g kk (sI (sI (sI (sI (sF (sF (sF (sF (sF (sF (sF (sF σ 28 w4) 29 w5) 30 w6) 31 w7) 43 w10) 44 w11) 45 w12) 46 w13) 437 w8) 678 (nI w14)) 679 w16) 680 w17)) (congrArg (cX g kk) (show sI (sI (sI (sF (sF (sF (sF (sI (sF (sF (sF (sF σ 28 w4) 29 w5) 30 w6) 31 w7) 437 w8) 43 w10) 44 w11) 45 w12) 46 w13) 678 (nI w14)) 679 w16) 680 w17 = sI (sI (sI (sI (sF (sF (sF (sF (sF (sF (sF (sF σ 28 w4) 29 w5) 30 w6) 31 w7) 43 w10) 44 w11) 45 w12) 46 w13) 437 w8) 678 (nI w14)) 679 w16) 680 w17 from (wrI (wrI (wrI (Eq.trans (wrF (Eq.trans (wrF (Eq.trans (wrF wrFI) wrFI)) wrFI)) wrFI)))))) ?_
              exact j_iret C E (sI (sI (sI (sI (sF (sF (sF (sF (sF (sF (sF (sF σ 28 w4) 29 w5) 30 w6) 31 w7) 43 w10) 44 w11) 45 w12) 46 w13) 437 w8) 678 (nI w14)) 679 w16) 680 w17) ⟨_, rfl, ⟨w4, w5, w6, w7, w10, w11, w12, w13, w8, (nI w14), w16, w17, rfl⟩⟩ rfl dX10_fill_139
            · refine j_aload_n C 0 rfl dX10_fill_100 ?_
              refine gX_0_5 C tb_433 dX10_fill_101 ?_
              refine gX_42_7 C tb_320 (w16) rfl dX10_fill_104 ?_
              refine j_aload_n C 0 rfl dX10_fill_107 ?_
              refine gX_0_5 C tb_433 dX10_fill_108 ?_
              refine gX_42_8 C tb_322 (w17) rfl dX10_fill_111 ?_
              refine j_iadd C dX10_fill_114 ?_
              refine j_iconst C (nI 2) (by decide) dX10_fill_115 ?_
              refine j_idiv C (by first | decide | assumption | exact nI_ne0 (by omega) (by omega) | exact i64ne (by assumption) | exact i64ne (nI_ne0 (by omega) (by omega))) dX10_fill_116 ?_
              refine j_goto C 139 (by decide) dX10_fill_117 ?_
              refine j_w (cX g kk (sI (sI (sI (sI (sF (sF (sF (sF (sF (sF (sF (sF σ 28 w4) 29 w5) 30 w6) 31 w7) 43 w10) 44 w11) 45 w12) 46 w13) 437 w8) 678 (nI w14)) 679 w16) 680 w17)) (congrArg (cX g kk) (show sI (sI (sI (sF (sF (sF (sF (sI (sF (sF (sF (sF σ 28 w4) 29 w5) 30 w6) 31 w7) 437 w8) 43 w10) 44 w11) 45 w12) 46 w13) 678 (nI w14)) 679 w16) 680 w17 = sI (sI (sI (sI (sF (sF (sF (sF (sF (sF (sF (sF σ 28 w4) 29 w5) 30 w6) 31 w7) 43 w10) 44 w11) 45 w12) 46 w13) 437 w8) 678 (nI w14)) 679 w16) 680 w17 from (wrI (wrI (wrI (Eq.trans (wrF (Eq.trans (wrF (Eq.trans (wrF wrFI) wrFI)) wrFI)) wrFI)))))) ?_
              exact j_iret C E (sI (sI (sI (sI (sF (sF (sF (sF (sF (sF (sF (sF σ 28 w4) 29 w5) 30 w6) 31 w7) 43 w10) 44 w11) 45 w12) 46 w13) 437 w8) 678 (nI w14)) 679 w16) 680 w17) ⟨_, rfl, ⟨w4, w5, w6, w7, w10, w11, w12, w13, w8, (nI w14), w16, w17, rfl⟩⟩ rfl dX10_fill_139
          · refine j_bipush C ((-5)) (by decide) dX10_fill_93 ?_
            refine j_w (cX g kk (sI (sI (sI (sI (sF (sF (sF (sF (sF (sF (sF (sF σ 28 w4) 29 w5) 30 w6) 31 w7) 43 w10) 44 w11) 45 w12) 46 w13) 437 w8) 678 (nI w14)) 679 w16) 680 w17)) (congrArg (cX g kk) (show sI (sI (sI (sF (sF (sF (sF (sI (sF (sF (sF (sF σ 28 w4) 29 w5) 30 w6) 31 w7) 437 w8) 43 w10) 44 w11) 45 w12) 46 w13) 678 (nI w14)) 679 w16) 680 w17 = sI (sI (sI (sI (sF (sF (sF (sF (sF (sF (sF (sF σ 28 w4) 29 w5) 30 w6) 31 w7) 43 w10) 44 w11) 45 w12) 46 w13) 437 w8) 678 (nI w14)) 679 w16) 680 w17 from (wrI (wrI (wrI (Eq.trans (wrF (Eq.trans (wrF (Eq.trans (wrF wrFI) wrFI)) wrFI)) wrFI)))))) ?_
            exact j_iret C E (sI (sI (sI (sI (sF (sF (sF (sF (sF (sF (sF (sF σ 28 w4) 29 w5) 30 w6) 31 w7) 43 w10) 44 w11) 45 w12) 46 w13) 437 w8) 678 (nI w14)) 679 w16) 680 w17) ⟨_, rfl, ⟨w4, w5, w6, w7, w10, w11, w12, w13, w8, (nI w14), w16, w17, rfl⟩⟩ rfl dX10_fill_95
        · refine j_bipush C ((-3)) (by decide) dX10_fill_54 ?_
          refine j_w (cX g kk (sF (sI (sF (sF (sF (sF σ 28 w4) 29 w5) 30 w6) 31 w7) 437 w8) 43 (σ.2.1 43))) (congrArg (cX g kk) (wrFi (S := (sI (sF (sF (sF (sF σ 28 w4) 29 w5) 30 w6) 31 w7) 437 w8)) (c := 43) (v := σ.2.1 43) (gtFI (gtFF (by decide) (gtFF (by decide) (gtFF (by decide) (gtFF (by decide) rfl))))))) ?_
          refine j_w (cX g kk (sF (sF (sI (sF (sF (sF (sF σ 28 w4) 29 w5) 30 w6) 31 w7) 437 w8) 43 (σ.2.1 43)) 44 (σ.2.1 44))) (congrArg (cX g kk) (wrFi (S := (sF (sI (sF (sF (sF (sF σ 28 w4) 29 w5) 30 w6) 31 w7) 437 w8) 43 (σ.2.1 43))) (c := 44) (v := σ.2.1 44) (gtFF (by decide) (gtFI (gtFF (by decide) (gtFF (by decide) (gtFF (by decide) (gtFF (by decide) rfl)))))))) ?_
          refine j_w (cX g kk (sF (sF (sF (sI (sF (sF (sF (sF σ 28 w4) 29 w5) 30 w6) 31 w7) 437 w8) 43 (σ.2.1 43)) 44 (σ.2.1 44)) 45 (σ.2.1 45))) (congrArg (cX g kk) (wrFi (S := (sF (sF (sI (sF (sF (sF (sF σ 28 w4) 29 w5) 30 w6) 31 w7) 437 w8) 43 (σ.2.1 43)) 44 (σ.2.1 44))) (c := 45) (v := σ.2.1 45) (gtFF (by decide) (gtFF (by decide) (gtFI (gtFF (by decide) (gtFF (by decide) (gtFF (by decide) (gtFF (by decide) rfl))))))))) ?_
          refine j_w (cX g kk (sF (sF (sF (sF (sI (sF (sF (sF (sF σ 28 w4) 29 w5) 30 w6) 31 w7) 437 w8) 43 (σ.2.1 43)) 44 (σ.2.1 44)) 45 (σ.2.1 45)) 46 (σ.2.1 46))) (congrArg (cX g kk) (wrFi (S := (sF (sF (sF (sI (sF (sF (sF (sF σ 28 w4) 29 w5) 30 w6) 31 w7) 437 w8) 43 (σ.2.1 43)) 44 (σ.2.1 44)) 45 (σ.2.1 45))) (c := 46) (v := σ.2.1 46) (gtFF (by decide) (gtFF (by decide) (gtFF (by decide) (gtFI (gtFF (by decide) (gtFF (by decide) (gtFF (by decide) (gtFF (by decide) rfl)))))))))) ?_
          refine j_w (cX g kk (sI (sF (sF (sF (sF (sI (sF (sF (sF (sF σ 28 w4) 29 w5) 30 w6) 31 w7) 437 w8) 43 (σ.2.1 43)) 44 (σ.2.1 44)) 45 (σ.2.1 45)) 46 (σ.2.1 46)) 678 (σ.1 678))) (congrArg (cX g kk) (wrIi (S := (sF (sF (sF (sF (sI (sF (sF (sF (sF σ 28 w4) 29 w5) 30 w6) 31 w7) 437 w8) 43 (σ.2.1 43)) 44 (σ.2.1 44)) 45 (σ.2.1 45)) 46 (σ.2.1 46))) (c := 678) (v := σ.1 678) (gtIF (gtIF (gtIF (gtIF (gtII (by decide) (gtIF (gtIF (gtIF (gtIF rfl))))))))))) ?_
          refine j_w (cX g kk (sI (sI (sF (sF (sF (sF (sI (sF (sF (sF (sF σ 28 w4) 29 w5) 30 w6) 31 w7) 437 w8) 43 (σ.2.1 43)) 44 (σ.2.1 44)) 45 (σ.2.1 45)) 46 (σ.2.1 46)) 678 (σ.1 678)) 679 (σ.1 679))) (congrArg (cX g kk) (wrIi (S := (sI (sF (sF (sF (sF (sI (sF (sF (sF (sF σ 28 w4) 29 w5) 30 w6) 31 w7) 437 w8) 43 (σ.2.1 43)) 44 (σ.2.1 44)) 45 (σ.2.1 45)) 46 (σ.2.1 46)) 678 (σ.1 678))) (c := 679) (v := σ.1 679) (gtII (by decide) (gtIF (gtIF (gtIF (gtIF (gtII (by decide) (gtIF (gtIF (gtIF (gtIF rfl)))))))))))) ?_
          refine j_w (cX g kk (sI (sI (sI (sF (sF (sF (sF (sI (sF (sF (sF (sF σ 28 w4) 29 w5) 30 w6) 31 w7) 437 w8) 43 (σ.2.1 43)) 44 (σ.2.1 44)) 45 (σ.2.1 45)) 46 (σ.2.1 46)) 678 (σ.1 678)) 679 (σ.1 679)) 680 (σ.1 680))) (congrArg (cX g kk) (wrIi (S := (sI (sI (sF (sF (sF (sF (sI (sF (sF (sF (sF σ 28 w4) 29 w5) 30 w6) 31 w7) 437 w8) 43 (σ.2.1 43)) 44 (σ.2.1 44)) 45 (σ.2.1 45)) 46 (σ.2.1 46)) 678 (σ.1 678)) 679 (σ.1 679))) (c := 680) (v := σ.1 680) (gtII (by decide) (gtII (by decide) (gtIF (gtIF (gtIF (gtIF (gtII (by decide) (gtIF (gtIF (gtIF (gtIF rfl))))))))))))) ?_
          refine j_w (cX g kk (sI (sI (sI (sI (sF (sF (sF (sF (sF (sF (sF (sF σ 28 w4) 29 w5) 30 w6) 31 w7) 43 (σ.2.1 43)) 44 (σ.2.1 44)) 45 (σ.2.1 45)) 46 (σ.2.1 46)) 437 w8) 678 (σ.1 678)) 679 (σ.1 679)) 680 (σ.1 680))) (congrArg (cX g kk) (show sI (sI (sI (sF (sF (sF (sF (sI (sF (sF (sF (sF σ 28 w4) 29 w5) 30 w6) 31 w7) 437 w8) 43 (σ.2.1 43)) 44 (σ.2.1 44)) 45 (σ.2.1 45)) 46 (σ.2.1 46)) 678 (σ.1 678)) 679 (σ.1 679)) 680 (σ.1 680) = sI (sI (sI (sI (sF (sF (sF (sF (sF (sF (sF (sF σ 28 w4) 29 w5) 30 w6) 31 w7) 43 (σ.2.1 43)) 44 (σ.2.1 44)) 45 (σ.2.1 45)) 46 (σ.2.1 46)) 437 w8) 678 (σ.1 678)) 679 (σ.1 679)) 680 (σ.1 680) from (wrI (wrI (wrI (Eq.trans (wrF (Eq.trans (wrF (Eq.trans (wrF wrFI) wrFI)) wrFI)) wrFI)))))) ?_
          exact j_iret C E (sI (sI (sI (sI (sF (sF (sF (sF (sF (sF (sF (sF σ 28 w4) 29 w5) 30 w6) 31 w7) 43 (σ.2.1 43)) 44 (σ.2.1 44)) 45 (σ.2.1 45)) 46 (σ.2.1 46)) 437 w8) 678 (σ.1 678)) 679 (σ.1 679)) 680 (σ.1 680)) ⟨_, rfl, ⟨w4, w5, w6, w7, (σ.2.1 43), (σ.2.1 44), (σ.2.1 45), (σ.2.1 46), w8, (σ.1 678), (σ.1 679), (σ.1 680), rfl⟩⟩ rfl dX10_fill_56
      · replace c3 := bI_f c3
        refine j_bipush C ((-2)) (by decide) dX10_fill_26 ?_
        refine j_w (cX g kk (sF σ 28 (σ.2.1 28))) (congrArg (cX g kk) (wrFi (S := σ) (c := 28) (v := σ.2.1 28) rfl)) ?_
        refine j_w (cX g kk (sF (sF σ 28 (σ.2.1 28)) 29 (σ.2.1 29))) (congrArg (cX g kk) (wrFi (S := (sF σ 28 (σ.2.1 28))) (c := 29) (v := σ.2.1 29) (gtFF (by decide) rfl))) ?_
        refine j_w (cX g kk (sF (sF (sF σ 28 (σ.2.1 28)) 29 (σ.2.1 29)) 30 (σ.2.1 30))) (congrArg (cX g kk) (wrFi (S := (sF (sF σ 28 (σ.2.1 28)) 29 (σ.2.1 29))) (c := 30) (v := σ.2.1 30) (gtFF (by decide) (gtFF (by decide) rfl)))) ?_
        refine j_w (cX g kk (sF (sF (sF (sF σ 28 (σ.2.1 28)) 29 (σ.2.1 29)) 30 (σ.2.1 30)) 31 (σ.2.1 31))) (congrArg (cX g kk) (wrFi (S := (sF (sF (sF σ 28 (σ.2.1 28)) 29 (σ.2.1 29)) 30 (σ.2.1 30))) (c := 31) (v := σ.2.1 31) (gtFF (by decide) (gtFF (by decide) (gtFF (by decide) rfl))))) ?_
        refine j_w (cX g kk (sF (sF (sF (sF (sF σ 28 (σ.2.1 28)) 29 (σ.2.1 29)) 30 (σ.2.1 30)) 31 (σ.2.1 31)) 43 (σ.2.1 43))) (congrArg (cX g kk) (wrFi (S := (sF (sF (sF (sF σ 28 (σ.2.1 28)) 29 (σ.2.1 29)) 30 (σ.2.1 30)) 31 (σ.2.1 31))) (c := 43) (v := σ.2.1 43) (gtFF (by decide) (gtFF (by decide) (gtFF (by decide) (gtFF (by decide) rfl)))))) ?_
        refine j_w (cX g kk (sF (sF (sF (sF (sF (sF σ 28 (σ.2.1 28)) 29 (σ.2.1 29)) 30 (σ.2.1 30)) 31 (σ.2.1 31)) 43 (σ.2.1 43)) 44 (σ.2.1 44))) (congrArg (cX g kk) (wrFi (S := (sF (sF (sF (sF (sF σ 28 (σ.2.1 28)) 29 (σ.2.1 29)) 30 (σ.2.1 30)) 31 (σ.2.1 31)) 43 (σ.2.1 43))) (c := 44) (v := σ.2.1 44) (gtFF (by decide) (gtFF (by decide) (gtFF (by decide) (gtFF (by decide) (gtFF (by decide) rfl))))))) ?_
        refine j_w (cX g kk (sF (sF (sF (sF (sF (sF (sF σ 28 (σ.2.1 28)) 29 (σ.2.1 29)) 30 (σ.2.1 30)) 31 (σ.2.1 31)) 43 (σ.2.1 43)) 44 (σ.2.1 44)) 45 (σ.2.1 45))) (congrArg (cX g kk) (wrFi (S := (sF (sF (sF (sF (sF (sF σ 28 (σ.2.1 28)) 29 (σ.2.1 29)) 30 (σ.2.1 30)) 31 (σ.2.1 31)) 43 (σ.2.1 43)) 44 (σ.2.1 44))) (c := 45) (v := σ.2.1 45) (gtFF (by decide) (gtFF (by decide) (gtFF (by decide) (gtFF (by decide) (gtFF (by decide) (gtFF (by decide) rfl)))))))) ?_
        refine j_w (cX g kk (sF (sF (sF (sF (sF (sF (sF (sF σ 28 (σ.2.1 28)) 29 (σ.2.1 29)) 30 (σ.2.1 30)) 31 (σ.2.1 31)) 43 (σ.2.1 43)) 44 (σ.2.1 44)) 45 (σ.2.1 45)) 46 (σ.2.1 46))) (congrArg (cX g kk) (wrFi (S := (sF (sF (sF (sF (sF (sF (sF σ 28 (σ.2.1 28)) 29 (σ.2.1 29)) 30 (σ.2.1 30)) 31 (σ.2.1 31)) 43 (σ.2.1 43)) 44 (σ.2.1 44)) 45 (σ.2.1 45))) (c := 46) (v := σ.2.1 46) (gtFF (by decide) (gtFF (by decide) (gtFF (by decide) (gtFF (by decide) (gtFF (by decide) (gtFF (by decide) (gtFF (by decide) rfl))))))))) ?_
        refine j_w (cX g kk (sI (sF (sF (sF (sF (sF (sF (sF (sF σ 28 (σ.2.1 28)) 29 (σ.2.1 29)) 30 (σ.2.1 30)) 31 (σ.2.1 31)) 43 (σ.2.1 43)) 44 (σ.2.1 44)) 45 (σ.2.1 45)) 46 (σ.2.1 46)) 437 (σ.1 437))) (congrArg (cX g kk) (wrIi (S := (sF (sF (sF (sF (sF (sF (sF (sF σ 28 (σ.2.1 28)) 29 (σ.2.1 29)) 30 (σ.2.1 30)) 31 (σ.2.1 31)) 43 (σ.2.1 43)) 44 (σ.2.1 44)) 45 (σ.2.1 45)) 46 (σ.2.1 46))) (c := 437) (v := σ.1 437) (gtIF (gtIF (gtIF (gtIF (gtIF (gtIF (gtIF (gtIF rfl)))))))))) ?_
        refine j_w (cX g kk (sI (sI (sF (sF (sF (sF (sF (sF (sF (sF σ 28 (σ.2.1 28)) 29 (σ.2.1 29)) 30 (σ.2.1 30)) 31 (σ.2.1 31)) 43 (σ.2.1 43)) 44 (σ.2.1 44)) 45 (σ.2.1 45)) 46 (σ.2.1 46)) 437 (σ.1 437)) 678 (σ.1 678))) (congrArg (cX g kk) (wrIi (S := (sI (sF (sF (sF (sF (sF (sF (sF (sF σ 28 (σ.2.1 28)) 29 (σ.2.1 29)) 30 (σ.2.1 30)) 31 (σ.2.1 31)) 43 (σ.2.1 43)) 44 (σ.2.1 44)) 45 (σ.2.1 45)) 46 (σ.2.1 46)) 437 (σ.1 437))) (c := 678) (v := σ.1 678) (gtII (by decide) (gtIF (gtIF (gtIF (gtIF (gtIF (gtIF (gtIF (gtIF rfl))))))))))) ?_
        refine j_w (cX g kk (sI (sI (sI (sF (sF (sF (sF (sF (sF (sF (sF σ 28 (σ.2.1 28)) 29 (σ.2.1 29)) 30 (σ.2.1 30)) 31 (σ.2.1 31)) 43 (σ.2.1 43)) 44 (σ.2.1 44)) 45 (σ.2.1 45)) 46 (σ.2.1 46)) 437 (σ.1 437)) 678 (σ.1 678)) 679 (σ.1 679))) (congrArg (cX g kk) (wrIi (S := (sI (sI (sF (sF (sF (sF (sF (sF (sF (sF σ 28 (σ.2.1 28)) 29 (σ.2.1 29)) 30 (σ.2.1 30)) 31 (σ.2.1 31)) 43 (σ.2.1 43)) 44 (σ.2.1 44)) 45 (σ.2.1 45)) 46 (σ.2.1 46)) 437 (σ.1 437)) 678 (σ.1 678))) (c := 679) (v := σ.1 679) (gtII (by decide) (gtII (by decide) (gtIF (gtIF (gtIF (gtIF (gtIF (gtIF (gtIF (gtIF rfl)))))))))))) ?_
        refine j_w (cX g kk (sI (sI (sI (sI (sF (sF (sF (sF (sF (sF (sF (sF σ 28 (σ.2.1 28)) 29 (σ.2.1 29)) 30 (σ.2.1 30)) 31 (σ.2.1 31)) 43 (σ.2.1 43)) 44 (σ.2.1 44)) 45 (σ.2.1 45)) 46 (σ.2.1 46)) 437 (σ.1 437)) 678 (σ.1 678)) 679 (σ.1 679)) 680 (σ.1 680))) (congrArg (cX g kk) (wrIi (S := (sI (sI (sI (sF (sF (sF (sF (sF (sF (sF (sF σ 28 (σ.2.1 28)) 29 (σ.2.1 29)) 30 (σ.2.1 30)) 31 (σ.2.1 31)) 43 (σ.2.1 43)) 44 (σ.2.1 44)) 45 (σ.2.1 45)) 46 (σ.2.1 46)) 437 (σ.1 437)) 678 (σ.1 678)) 679 (σ.1 679))) (c := 680) (v := σ.1 680) (gtII (by decide) (gtII (by decide) (gtII (by decide) (gtIF (gtIF (gtIF (gtIF (gtIF (gtIF (gtIF (gtIF rfl))))))))))))) ?_
        exact j_iret C E (sI (sI (sI (sI (sF (sF (sF (sF (sF (sF (sF (sF σ 28 (σ.2.1 28)) 29 (σ.2.1 29)) 30 (σ.2.1 30)) 31 (σ.2.1 31)) 43 (σ.2.1 43)) 44 (σ.2.1 44)) 45 (σ.2.1 45)) 46 (σ.2.1 46)) 437 (σ.1 437)) 678 (σ.1 678)) 679 (σ.1 679)) 680 (σ.1 680)) ⟨_, rfl, ⟨(σ.2.1 28), (σ.2.1 29), (σ.2.1 30), (σ.2.1 31), (σ.2.1 43), (σ.2.1 44), (σ.2.1 45), (σ.2.1 46), (σ.1 437), (σ.1 678), (σ.1 679), (σ.1 680), rfl⟩⟩ rfl dX10_fill_28
    · replace c2 := bI_f c2
      refine j_iconst C ((-1)) (by decide) dX10_fill_15 ?_
      refine j_w (cX g kk (sF σ 28 (σ.2.1 28))) (congrArg (cX g kk) (wrFi (S := σ) (c := 28) (v := σ.2.1 28) rfl)) ?_
      refine j_w (cX g kk (sF (sF σ 28 (σ.2.1 28)) 29 (σ.2.1 29))) (congrArg (cX g kk) (wrFi (S := (sF σ 28 (σ.2.1 28))) (c := 29) (v := σ.2.1 29) (gtFF (by decide) rfl))) ?_
      refine j_w (cX g kk (sF (sF (sF σ 28 (σ.2.1 28)) 29 (σ.2.1 29)) 30 (σ.2.1 30))) (congrArg (cX g kk) (wrFi (S := (sF (sF σ 28 (σ.2.1 28)) 29 (σ.2.1 29))) (c := 30) (v := σ.2.1 30) (gtFF (by decide) (gtFF (by decide) rfl)))) ?_
      refine j_w (cX g kk (sF (sF (sF (sF σ 28 (σ.2.1 28)) 29 (σ.2.1 29)) 30 (σ.2.1 30)) 31 (σ.2.1 31))) (congrArg (cX g kk) (wrFi (S := (sF (sF (sF σ 28 (σ.2.1 28)) 29 (σ.2.1 29)) 30 (σ.2.1 30))) (c := 31) (v := σ.2.1 31) (gtFF (by decide) (gtFF (by decide) (gtFF (by decide) rfl))))) ?_
      refine j_w (cX g kk (sF (sF (sF (sF (sF σ 28 (σ.2.1 28)) 29 (σ.2.1 29)) 30 (σ.2.1 30)) 31 (σ.2.1 31)) 43 (σ.2.1 43))) (congrArg (cX g kk) (wrFi (S := (sF (sF (sF (sF σ 28 (σ.2.1 28)) 29 (σ.2.1 29)) 30 (σ.2.1 30)) 31 (σ.2.1 31))) (c := 43) (v := σ.2.1 43) (gtFF (by decide) (gtFF (by decide) (gtFF (by decide) (gtFF (by decide) rfl)))))) ?_
      refine j_w (cX g kk (sF (sF (sF (sF (sF (sF σ 28 (σ.2.1 28)) 29 (σ.2.1 29)) 30 (σ.2.1 30)) 31 (σ.2.1 31)) 43 (σ.2.1 43)) 44 (σ.2.1 44))) (congrArg (cX g kk) (wrFi (S := (sF (sF (sF (sF (sF σ 28 (σ.2.1 28)) 29 (σ.2.1 29)) 30 (σ.2.1 30)) 31 (σ.2.1 31)) 43 (σ.2.1 43))) (c := 44) (v := σ.2.1 44) (gtFF (by decide) (gtFF (by decide) (gtFF (by decide) (gtFF (by decide) (gtFF (by decide) rfl))))))) ?_
      refine j_w (cX g kk (sF (sF (sF (sF (sF (sF (sF σ 28 (σ.2.1 28)) 29 (σ.2.1 29)) 30 (σ.2.1 30)) 31 (σ.2.1 31)) 43 (σ.2.1 43)) 44 (σ.2.1 44)) 45 (σ.2.1 45))) (congrArg (cX g kk) (wrFi (S := (sF (sF (sF (sF (sF (sF σ 28 (σ.2.1 28)) 29 (σ.2.1 29)) 30 (σ.2.1 30)) 31 (σ.2.1 31)) 43 (σ.2.1 43)) 44 (σ.2.1 44))) (c := 45) (v := σ.2.1 45) (gtFF (by decide) (gtFF (by decide) (gtFF (by decide) (gtFF (by decide) (gtFF (by decide) (gtFF (by decide) rfl)))))))) ?_
      refine j_w (cX g kk (sF (sF (sF (sF (sF (sF (sF (sF σ 28 (σ.2.1 28)) 29 (σ.2.1 29)) 30 (σ.2.1 30)) 31 (σ.2.1 31)) 43 (σ.2.1 43)) 44 (σ.2.1 44)) 45 (σ.2.1 45)) 46 (σ.2.1 46))) (congrArg (cX g kk) (wrFi (S := (sF (sF (sF (sF (sF (sF (sF σ 28 (σ.2.1 28)) 29 (σ.2.1 29)) 30 (σ.2.1 30)) 31 (σ.2.1 31)) 43 (σ.2.1 43)) 44 (σ.2.1 44)) 45 (σ.2.1 45))) (c := 46) (v := σ.2.1 46) (gtFF (by decide) (gtFF (by decide) (gtFF (by decide) (gtFF (by decide) (gtFF (by decide) (gtFF (by decide) (gtFF (by decide) rfl))))))))) ?_
      refine j_w (cX g kk (sI (sF (sF (sF (sF (sF (sF (sF (sF σ 28 (σ.2.1 28)) 29 (σ.2.1 29)) 30 (σ.2.1 30)) 31 (σ.2.1 31)) 43 (σ.2.1 43)) 44 (σ.2.1 44)) 45 (σ.2.1 45)) 46 (σ.2.1 46)) 437 (σ.1 437))) (congrArg (cX g kk) (wrIi (S := (sF (sF (sF (sF (sF (sF (sF (sF σ 28 (σ.2.1 28)) 29 (σ.2.1 29)) 30 (σ.2.1 30)) 31 (σ.2.1 31)) 43 (σ.2.1 43)) 44 (σ.2.1 44)) 45 (σ.2.1 45)) 46 (σ.2.1 46))) (c := 437) (v := σ.1 437) (gtIF (gtIF (gtIF (gtIF (gtIF (gtIF (gtIF (gtIF rfl)))))))))) ?_
      refine j_w (cX g kk (sI (sI (sF (sF (sF (sF (sF (sF (sF (sF σ 28 (σ.2.1 28)) 29 (σ.2.1 29)) 30 (σ.2.1 30)) 31 (σ.2.1 31)) 43 (σ.2.1 43)) 44 (σ.2.1 44)) 45 (σ.2.1 45)) 46 (σ.2.1 46)) 437 (σ.1 437)) 678 (σ.1 678))) (congrArg (cX g kk) (wrIi (S := (sI (sF (sF (sF (sF (sF (sF (sF (sF σ 28 (σ.2.1 28)) 29 (σ.2.1 29)) 30 (σ.2.1 30)) 31 (σ.2.1 31)) 43 (σ.2.1 43)) 44 (σ.2.1 44)) 45 (σ.2.1 45)) 46 (σ.2.1 46)) 437 (σ.1 437))) (c := 678) (v := σ.1 678) (gtII (by decide) (gtIF (gtIF (gtIF (gtIF (gtIF (gtIF (gtIF (gtIF rfl))))))))))) ?_
      refine j_w (cX g kk (sI (sI (sI (sF (sF (sF (sF (sF (sF (sF (sF σ 28 (σ.2.1 28)) 29 (σ.2.1 29)) 30 (σ.2.1 30)) 31 (σ.2.1 31)) 43 (σ.2.1 43)) 44 (σ.2.1 44)) 45 (σ.2.1 45)) 46 (σ.2.1 46)) 437 (σ.1 437)) 678 (σ.1 678)) 679 (σ.1 679))) (congrArg (cX g kk) (wrIi (S := (sI (sI (sF (sF (sF (sF (sF (sF (sF (sF σ 28 (σ.2.1 28)) 29 (σ.2.1 29)) 30 (σ.2.1 30)) 31 (σ.2.1 31)) 43 (σ.2.1 43)) 44 (σ.2.1 44)) 45 (σ.2.1 45)) 46 (σ.2.1 46)) 437 (σ.1 437)) 678 (σ.1 678))) (c := 679) (v := σ.1 679) (gtII (by decide) (gtII (by decide) (gtIF (gtIF (gtIF (gtIF (gtIF (gtIF (gtIF (gtIF rfl)))))))))))) ?_
      refine j_w (cX g kk (sI (sI (sI (sI (sF (sF (sF (sF (sF (sF (sF (sF σ 28 (σ.2.1 28)) 29 (σ.2.1 29)) 30 (σ.2.1 30)) 31 (σ.2.1 31)) 43 (σ.2.1 43)) 44 (σ.2.1 44)) 45 (σ.2.1 45)) 46 (σ.2.1 46)) 437 (σ.1 437)) 678 (σ.1 678)) 679 (σ.1 679)) 680 (σ.1 680))) (congrArg (cX g kk) (wrIi (S := (sI (sI (sI (sF (sF (sF (sF (sF (sF (sF (sF σ 28 (σ.2.1 28)) 29 (σ.2.1 29)) 30 (σ.2.1 30)) 31 (σ.2.1 31)) 43 (σ.2.1 43)) 44 (σ.2.1 44)) 45 (σ.2.1 45)) 46 (σ.2.1 46)) 437 (σ.1 437)) 678 (σ.1 678)) 679 (σ.1 679))) (c := 680) (v := σ.1 680) (gtII (by decide) (gtII (by decide) (gtII (by decide) (gtIF (gtIF (gtIF (gtIF (gtIF (gtIF (gtIF (gtIF rfl))))))))))))) ?_
      exact j_iret C E (sI (sI (sI (sI (sF (sF (sF (sF (sF (sF (sF (sF σ 28 (σ.2.1 28)) 29 (σ.2.1 29)) 30 (σ.2.1 30)) 31 (σ.2.1 31)) 43 (σ.2.1 43)) 44 (σ.2.1 44)) 45 (σ.2.1 45)) 46 (σ.2.1 46)) 437 (σ.1 437)) 678 (σ.1 678)) 679 (σ.1 679)) 680 (σ.1 680)) ⟨_, rfl, ⟨(σ.2.1 28), (σ.2.1 29), (σ.2.1 30), (σ.2.1 31), (σ.2.1 43), (σ.2.1 44), (σ.2.1 45), (σ.2.1 46), (σ.1 437), (σ.1 678), (σ.1 679), (σ.1 680), rfl⟩⟩ rfl dX10_fill_16
set_option maxRecDepth 100000 in
set_option maxHeartbeats 4000000 in
theorem d_place (g kk : Nat → Nat) (σ : St) (k : Nat) (hk : σ.1 16 = nI k) (hk6 : k ≤ 6) (hI : iX σ)  (a : Int32) (b : Int32) (c : Int32) (d : Int32) : jM (S := St) yX10_place cX10_place 5 (some .int) { frames := 4, cells := 0, slots := 0, locals := 94 } kk (cX g kk σ) [.ref (g 0), .int a, .int b, .int c, .int d] (cX g kk) (rI (fun (r : Int32) (u : St) => ∃ (pF47 : Nat → Int32) (pF48 : Nat → Int32) (pF49 : Nat → Int32) (pI686 : Int32), u = sI (sF (sF (sF σ 47 pF47) 48 pF48) 49 pF49) 686 pI686)) := by
  refine j_entry [(0, .ref (g 0)), (1, .int a), (2, .int b), (3, .int c), (4, .int d)] (by decide) (Nat.le_of_ble_eq_true rfl) rfl ?_
  intro X C E HI
  refine j_iload_n C 1 rfl dX10_place_0 ?_
  refine j_iload_n C 2 rfl dX10_place_1 ?_
  refine j_iload_n C 3 rfl dX10_place_2 ?_
  refine j_iload C 4 rfl dX10_place_3 ?_
  refine j_S01 C (c_isLand a b c d) kyX10_isLand tb_733 tb_734 rfl (Nat.le_of_ble_eq_true rfl) ⟨by decide, by decide⟩ ⟨by decide, by decide⟩ dX10_place_5 rfl ?_
  refine j_if_ne C 14 (by decide) dX10_place_8 (fun c1 => ?_) (fun c1 => ?_)
  · replace c1 := bI_t c1
    obtain ⟨an, bn, cn, dn, hl1, hl2, hl3, hl4, rfl, rfl, rfl, rfl⟩ := ldB_nat c1
    refine j_aload_n C 0 rfl dX10_place_14 ?_
    refine gX_0_5 C tb_433 dX10_place_15 ?_
    refine j_iload_n C 1 rfl dX10_place_18 ?_
    refine j_iload_n C 2 rfl dX10_place_19 ?_
    refine j_iload_n C 3 rfl dX10_place_20 ?_
    refine j_iload C 4 rfl dX10_place_21 ?_
    refine j_V1 C (d_gatherN g kk σ k hk hk6 hI  an (by first | assumption | omega) bn (by first | assumption | omega) cn (by first | assumption | omega) dn (by first | assumption | omega)) kyX4_gatherNearest tb_758 tb_759 tb_760 42 rfl (eX_42 g kk _) rfl (Nat.le_of_ble_eq_true rfl) ⟨by decide, by decide⟩ dX10_place_23 rfl (fun vr ur hp => ?_)
    obtain ⟨rfl, w2, w3, w4, w5, hu, g6⟩ := hp
    replace hu := hu.symm
    subst hu
    refine j_aload_n C 0 rfl dX10_place_26 ?_
    refine gX_0_5 C tb_433 dX10_place_27 ?_
    refine j_V1 C (d_bestNew g kk (sI (sF (sF (sF σ 47 w2) 48 w3) 49 w4) 686 (nI w5)) k hk hk6 hI w5 rfl (by omega)  ) kyX4_bestNew tb_766 tb_767 tb_768 42 rfl (eX_42 g kk _) rfl (Nat.le_of_ble_eq_true rfl) ⟨by decide, by decide⟩ dX10_place_30 rfl (fun vr ur hp => ?_)
    obtain ⟨r7, rfl, hu⟩ := hp
    replace hu := hu.symm
    subst hu
    exact j_iret C E (sI (sF (sF (sF σ 47 w2) 48 w3) 49 w4) 686 (nI w5)) ⟨_, rfl, ⟨w2, w3, w4, (nI w5), rfl⟩⟩ rfl dX10_place_33
  · replace c1 := bI_f c1
    refine j_bipush C ((-2)) (by decide) dX10_place_11 ?_
    refine j_w (cX g kk (sF σ 47 (σ.2.1 47))) (congrArg (cX g kk) (wrFi (S := σ) (c := 47) (v := σ.2.1 47) rfl)) ?_
    refine j_w (cX g kk (sF (sF σ 47 (σ.2.1 47)) 48 (σ.2.1 48))) (congrArg (cX g kk) (wrFi (S := (sF σ 47 (σ.2.1 47))) (c := 48) (v := σ.2.1 48) (gtFF (by decide) rfl))) ?_
    refine j_w (cX g kk (sF (sF (sF σ 47 (σ.2.1 47)) 48 (σ.2.1 48)) 49 (σ.2.1 49))) (congrArg (cX g kk) (wrFi (S := (sF (sF σ 47 (σ.2.1 47)) 48 (σ.2.1 48))) (c := 49) (v := σ.2.1 49) (gtFF (by decide) (gtFF (by decide) rfl)))) ?_
    refine j_w (cX g kk (sI (sF (sF (sF σ 47 (σ.2.1 47)) 48 (σ.2.1 48)) 49 (σ.2.1 49)) 686 (σ.1 686))) (congrArg (cX g kk) (wrIi (S := (sF (sF (sF σ 47 (σ.2.1 47)) 48 (σ.2.1 48)) 49 (σ.2.1 49))) (c := 686) (v := σ.1 686) (gtIF (gtIF (gtIF rfl))))) ?_
    exact j_iret C E (sI (sF (sF (sF σ 47 (σ.2.1 47)) 48 (σ.2.1 48)) 49 (σ.2.1 49)) 686 (σ.1 686)) ⟨_, rfl, ⟨(σ.2.1 47), (σ.2.1 48), (σ.2.1 49), (σ.1 686), rfl⟩⟩ rfl dX10_place_13
set_option maxRecDepth 100000 in
set_option maxHeartbeats 4000000 in
theorem d_record (g kk : Nat → Nat) (σ : St) (k : Nat) (hk : σ.1 16 = nI k) (hk6 : k ≤ 6) (hI : iX σ) (hO : al_ 6 5 (σ.2.1 51)) (x : Int32) (y : Int32) (z : Int32) : jM (S := St) yX10_record cX10_record 5 (some .int) { frames := 5, cells := 0, slots := 0, locals := 115 } kk (cX g kk σ) [.ref (g 0), .int x, .int y, .int z] (cX g kk) (rI (fun (r : Int32) (u : St) => ∃ (pF28 : Nat → Int32) (pF29 : Nat → Int32) (pF30 : Nat → Int32) (pF31 : Nat → Int32) (pF51 : Nat → Int32) (pI437 : Int32) (pI803 : Int32), u = sI (sI (sF (sF (sF (sF (sF σ 28 pF28) 29 pF29) 30 pF30) 31 pF31) 51 pF51) 437 pI437) 803 pI803 ∧ (al_ 6 5 pF51))) := by
  refine j_entry [(0, .ref (g 0)), (1, .int x), (2, .int y), (3, .int z)] (by decide) (Nat.le_of_ble_eq_true rfl) rfl ?_
  intro X C E HI
  refine j_iload_n C 1 rfl dX10_record_0 ?_
  refine j_S01 C (c_isRow x) kyX10_isRow tb_778 tb_779 rfl (Nat.le_of_ble_eq_true rfl) ⟨by decide, by decide⟩ ⟨by decide, by decide⟩ dX10_record_1 rfl ?_
  refine j_if_eq C 16 (by decide) dX10_record_4 (fun c1 => ?_) (fun c1 => ?_)
  · replace c1 := bI_f c1
    refine j_bipush C ((-2)) (by decide) dX10_record_16 ?_
    refine j_w (cX g kk (sF σ 28 (σ.2.1 28))) (congrArg (cX g kk) (wrFi (S := σ) (c := 28) (v := σ.2.1 28) rfl)) ?_
    refine j_w (cX g kk (sF (sF σ 28 (σ.2.1 28)) 29 (σ.2.1 29))) (congrArg (cX g kk) (wrFi (S := (sF σ 28 (σ.2.1 28))) (c := 29) (v := σ.2.1 29) (gtFF (by decide) rfl))) ?_
    refine j_w (cX g kk (sF (sF (sF σ 28 (σ.2.1 28)) 29 (σ.2.1 29)) 30 (σ.2.1 30))) (congrArg (cX g kk) (wrFi (S := (sF (sF σ 28 (σ.2.1 28)) 29 (σ.2.1 29))) (c := 30) (v := σ.2.1 30) (gtFF (by decide) (gtFF (by decide) rfl)))) ?_
    refine j_w (cX g kk (sF (sF (sF (sF σ 28 (σ.2.1 28)) 29 (σ.2.1 29)) 30 (σ.2.1 30)) 31 (σ.2.1 31))) (congrArg (cX g kk) (wrFi (S := (sF (sF (sF σ 28 (σ.2.1 28)) 29 (σ.2.1 29)) 30 (σ.2.1 30))) (c := 31) (v := σ.2.1 31) (gtFF (by decide) (gtFF (by decide) (gtFF (by decide) rfl))))) ?_
    refine j_w (cX g kk (sF (sF (sF (sF (sF σ 28 (σ.2.1 28)) 29 (σ.2.1 29)) 30 (σ.2.1 30)) 31 (σ.2.1 31)) 51 (σ.2.1 51))) (congrArg (cX g kk) (wrFi (S := (sF (sF (sF (sF σ 28 (σ.2.1 28)) 29 (σ.2.1 29)) 30 (σ.2.1 30)) 31 (σ.2.1 31))) (c := 51) (v := σ.2.1 51) (gtFF (by decide) (gtFF (by decide) (gtFF (by decide) (gtFF (by decide) rfl)))))) ?_
    refine j_w (cX g kk (sI (sF (sF (sF (sF (sF σ 28 (σ.2.1 28)) 29 (σ.2.1 29)) 30 (σ.2.1 30)) 31 (σ.2.1 31)) 51 (σ.2.1 51)) 437 (σ.1 437))) (congrArg (cX g kk) (wrIi (S := (sF (sF (sF (sF (sF σ 28 (σ.2.1 28)) 29 (σ.2.1 29)) 30 (σ.2.1 30)) 31 (σ.2.1 31)) 51 (σ.2.1 51))) (c := 437) (v := σ.1 437) (gtIF (gtIF (gtIF (gtIF (gtIF rfl))))))) ?_
    refine j_w (cX g kk (sI (sI (sF (sF (sF (sF (sF σ 28 (σ.2.1 28)) 29 (σ.2.1 29)) 30 (σ.2.1 30)) 31 (σ.2.1 31)) 51 (σ.2.1 51)) 437 (σ.1 437)) 803 (σ.1 803))) (congrArg (cX g kk) (wrIi (S := (sI (sF (sF (sF (sF (sF σ 28 (σ.2.1 28)) 29 (σ.2.1 29)) 30 (σ.2.1 30)) 31 (σ.2.1 31)) 51 (σ.2.1 51)) 437 (σ.1 437))) (c := 803) (v := σ.1 803) (gtII (by decide) (gtIF (gtIF (gtIF (gtIF (gtIF rfl)))))))) ?_
    exact j_iret C E (sI (sI (sF (sF (sF (sF (sF σ 28 (σ.2.1 28)) 29 (σ.2.1 29)) 30 (σ.2.1 30)) 31 (σ.2.1 31)) 51 (σ.2.1 51)) 437 (σ.1 437)) 803 (σ.1 803)) ⟨_, rfl, ⟨(σ.2.1 28), (σ.2.1 29), (σ.2.1 30), (σ.2.1 31), (σ.2.1 51), (σ.1 437), (σ.1 803), rfl, hO⟩⟩ rfl dX10_record_18
  · replace c1 := bI_t c1
    obtain ⟨xn, xn1, rfl⟩ := rowB_nat c1
    refine j_iload_n C 3 rfl dX10_record_7 ?_
    refine j_iconst C (nI 0) (by decide) dX10_record_8 ?_
    refine j_iconst C (nI 1) (by decide) dX10_record_9 ?_
    refine j_S01 C (c_isWithin z (nI 0) (nI 1)) kyX10_isWithin tb_467 tb_468 rfl (Nat.le_of_ble_eq_true rfl) ⟨by decide, by decide⟩ ⟨by decide, by decide⟩ dX10_record_10 rfl ?_
    refine j_if_ne C 19 (by decide) dX10_record_13 (fun c2 => ?_) (fun c2 => ?_)
    · replace c2 := bI_t c2
      obtain ⟨zn, zn1, zn2, rfl⟩ := wB_nat (by decide) (by decide) c2
      refine j_iload_n C 2 rfl dX10_record_19 ?_
      refine j_S01 C (c_isDay y) kyX10_isDay tb_486 tb_487 rfl (Nat.le_of_ble_eq_true rfl) ⟨by decide, by decide⟩ ⟨by decide, by decide⟩ dX10_record_20 rfl ?_
      refine j_if_ne C 28 (by decide) dX10_record_23 (fun c3 => ?_) (fun c3 => ?_)
      · replace c3 := bI_t c3
        obtain ⟨yn, yn1, yn2, rfl⟩ := wB_nat (by decide) (by decide) c3
        refine j_aload_n C 0 rfl dX10_record_28 ?_
        refine gX_0_2 C tb_430 dX10_record_29 ?_
        refine j_V1 C (d_refresh g kk σ k hk hk6 hI  ) kyX7_refresh tb_562 tb_563 tb_564 27 rfl (eX_27 g kk _) rfl (Nat.le_of_ble_eq_true rfl) ⟨by decide, by decide⟩ dX10_record_32 rfl (fun vr ur hp => ?_)
        obtain ⟨rfl, w4, w5, w6, w7, w8, hu⟩ := hp
        replace hu := hu.symm
        subst hu
        refine j_aload_n C 0 rfl dX10_record_35 ?_
        refine gX_0_6 C tb_434 dX10_record_36 ?_
        refine j_iload_n C 1 rfl dX10_record_39 ?_
        refine j_V1 C (d_rgather g kk (sI (sF (sF (sF (sF σ 28 w4) 29 w5) 30 w6) 31 w7) 437 w8) k hk hk6 hI hO xn (by first | assumption | omega)) kyX8_gather tb_782 tb_783 tb_784 50 rfl (eX_50 g kk _) rfl (Nat.le_of_ble_eq_true rfl) ⟨by decide, by decide⟩ dX10_record_40 rfl (fun vr ur hp => ?_)
        obtain ⟨rfl, w9, w10, hu, g11, g12⟩ := hp
        replace hu := hu.symm
        subst hu
        refine j_aload_n C 0 rfl dX10_record_43 ?_
        refine gX_0_6 C tb_434 dX10_record_44 ?_
        refine j_iload_n C 2 rfl dX10_record_47 ?_
        refine j_V1 C (d_canOn g kk (sI (sF (sI (sF (sF (sF (sF σ 28 w4) 29 w5) 30 w6) 31 w7) 437 w8) 51 w9) 803 (nI w10)) k hk hk6 hI w10 rfl (by omega) g12 yn (by first | assumption | omega)) kyX8_canOn tb_787 tb_788 tb_789 50 rfl (eX_50 g kk _) rfl (Nat.le_of_ble_eq_true rfl) ⟨by decide, by decide⟩ dX10_record_48 rfl (fun vr ur hp => ?_)
        obtain ⟨r14, rfl, hu, g13⟩ := hp
        replace hu := hu.symm
        subst hu
        rcases g13 with rfl | ⟨b15, hb15, rfl⟩
        · refine j_istore C [(4, .int (-1)), (0, .ref (g 0)), (1, .int (nI xn)), (2, .int (nI yn)), (3, .int (nI zn))] (by decide) rfl dX10_record_51 ?_
          refine j_iload C 0 rfl dX10_record_53 ?_
          refine j_iconst C ((-1)) (by decide) dX10_record_55 ?_
          refine j_icmp_ne C 62 (by decide) dX10_record_56 (fun c16 => ?_) (fun c16 => ?_)
          · exact absurd rfl c16
          · refine j_bipush C ((-6)) (by decide) dX10_record_59 ?_
            refine j_w (cX g kk (sI (sI (sF (sF (sF (sF (sF σ 28 w4) 29 w5) 30 w6) 31 w7) 51 w9) 437 w8) 803 (nI w10))) (congrArg (cX g kk) (show sI (sF (sI (sF (sF (sF (sF σ 28 w4) 29 w5) 30 w6) 31 w7) 437 w8) 51 w9) 803 (nI w10) = sI (sI (sF (sF (sF (sF (sF σ 28 w4) 29 w5) 30 w6) 31 w7) 51 w9) 437 w8) 803 (nI w10) from (wrI wrFI))) ?_
            exact j_iret C E (sI (sI (sF (sF (sF (sF (sF σ 28 w4) 29 w5) 30 w6) 31 w7) 51 w9) 437 w8) 803 (nI w10)) ⟨_, rfl, ⟨w4, w5, w6, w7, w9, w8, (nI w10), rfl, g12⟩⟩ rfl dX10_record_61
        · refine j_istore C [(4, .int (nI b15)), (0, .ref (g 0)), (1, .int (nI xn)), (2, .int (nI yn)), (3, .int (nI zn))] (by decide) rfl dX10_record_51 ?_
          refine j_iload C 0 rfl dX10_record_53 ?_
          refine j_iconst C ((-1)) (by decide) dX10_record_55 ?_
          refine j_icmp_ne C 62 (by decide) dX10_record_56 (fun c17 => ?_) (fun c17 => ?_)
          · refine j_iload_n C 4 rfl dX10_record_62 ?_
            refine j_if_neN C 84 (by decide) (by omega) dX10_record_63 (fun c18 => ?_) (fun c18 => ?_)
            · refine j_iload C 0 rfl dX10_record_84 ?_
              refine j_w (cX g kk (sI (sI (sF (sF (sF (sF (sF σ 28 w4) 29 w5) 30 w6) 31 w7) 51 w9) 437 w8) 803 (nI w10))) (congrArg (cX g kk) (show sI (sF (sI (sF (sF (sF (sF σ 28 w4) 29 w5) 30 w6) 31 w7) 437 w8) 51 w9) 803 (nI w10) = sI (sI (sF (sF (sF (sF (sF σ 28 w4) 29 w5) 30 w6) 31 w7) 51 w9) 437 w8) 803 (nI w10) from (wrI wrFI))) ?_
              exact j_iret C E (sI (sI (sF (sF (sF (sF (sF σ 28 w4) 29 w5) 30 w6) 31 w7) 51 w9) 437 w8) 803 (nI w10)) ⟨_, rfl, ⟨w4, w5, w6, w7, w9, w8, (nI w10), rfl, g12⟩⟩ rfl dX10_record_86
            · refine j_aload_n C 1 rfl dX10_record_66 ?_
              refine gX_0_2 C tb_430 dX10_record_67 ?_
              refine gX_27_4 C tb_212 dX10_record_70 ?_
              refine j_iload C 0 rfl dX10_record_73 ?_
              refine j_bipush C (nI 28) (by decide) dX10_record_75 ?_
              refine j_imulN C dX10_record_77 ?_
              refine j_iload_n C 3 rfl dX10_record_78 ?_
              refine j_iaddN C dX10_record_79 ?_
              refine rX_31 C ((b15 * 28) + yn) rfl (by omega) (w7 ((b15 * 28) + yn)) rfl dX10_record_80 ?_
              refine j_goto C 86 (by decide) dX10_record_81 ?_
              refine j_w (cX g kk (sI (sI (sF (sF (sF (sF (sF σ 28 w4) 29 w5) 30 w6) 31 w7) 51 w9) 437 w8) 803 (nI w10))) (congrArg (cX g kk) (show sI (sF (sI (sF (sF (sF (sF σ 28 w4) 29 w5) 30 w6) 31 w7) 437 w8) 51 w9) 803 (nI w10) = sI (sI (sF (sF (sF (sF (sF σ 28 w4) 29 w5) 30 w6) 31 w7) 51 w9) 437 w8) 803 (nI w10) from (wrI wrFI))) ?_
              exact j_iret C E (sI (sI (sF (sF (sF (sF (sF σ 28 w4) 29 w5) 30 w6) 31 w7) 51 w9) 437 w8) 803 (nI w10)) ⟨_, rfl, ⟨w4, w5, w6, w7, w9, w8, (nI w10), rfl, g12⟩⟩ rfl dX10_record_86
          · exact absurd c17 (nI_nm1 (by omega))
      · replace c3 := bI_f c3
        refine j_iconst C ((-1)) (by decide) dX10_record_26 ?_
        refine j_w (cX g kk (sF σ 28 (σ.2.1 28))) (congrArg (cX g kk) (wrFi (S := σ) (c := 28) (v := σ.2.1 28) rfl)) ?_
        refine j_w (cX g kk (sF (sF σ 28 (σ.2.1 28)) 29 (σ.2.1 29))) (congrArg (cX g kk) (wrFi (S := (sF σ 28 (σ.2.1 28))) (c := 29) (v := σ.2.1 29) (gtFF (by decide) rfl))) ?_
        refine j_w (cX g kk (sF (sF (sF σ 28 (σ.2.1 28)) 29 (σ.2.1 29)) 30 (σ.2.1 30))) (congrArg (cX g kk) (wrFi (S := (sF (sF σ 28 (σ.2.1 28)) 29 (σ.2.1 29))) (c := 30) (v := σ.2.1 30) (gtFF (by decide) (gtFF (by decide) rfl)))) ?_
        refine j_w (cX g kk (sF (sF (sF (sF σ 28 (σ.2.1 28)) 29 (σ.2.1 29)) 30 (σ.2.1 30)) 31 (σ.2.1 31))) (congrArg (cX g kk) (wrFi (S := (sF (sF (sF σ 28 (σ.2.1 28)) 29 (σ.2.1 29)) 30 (σ.2.1 30))) (c := 31) (v := σ.2.1 31) (gtFF (by decide) (gtFF (by decide) (gtFF (by decide) rfl))))) ?_
        refine j_w (cX g kk (sF (sF (sF (sF (sF σ 28 (σ.2.1 28)) 29 (σ.2.1 29)) 30 (σ.2.1 30)) 31 (σ.2.1 31)) 51 (σ.2.1 51))) (congrArg (cX g kk) (wrFi (S := (sF (sF (sF (sF σ 28 (σ.2.1 28)) 29 (σ.2.1 29)) 30 (σ.2.1 30)) 31 (σ.2.1 31))) (c := 51) (v := σ.2.1 51) (gtFF (by decide) (gtFF (by decide) (gtFF (by decide) (gtFF (by decide) rfl)))))) ?_
        refine j_w (cX g kk (sI (sF (sF (sF (sF (sF σ 28 (σ.2.1 28)) 29 (σ.2.1 29)) 30 (σ.2.1 30)) 31 (σ.2.1 31)) 51 (σ.2.1 51)) 437 (σ.1 437))) (congrArg (cX g kk) (wrIi (S := (sF (sF (sF (sF (sF σ 28 (σ.2.1 28)) 29 (σ.2.1 29)) 30 (σ.2.1 30)) 31 (σ.2.1 31)) 51 (σ.2.1 51))) (c := 437) (v := σ.1 437) (gtIF (gtIF (gtIF (gtIF (gtIF rfl))))))) ?_
        refine j_w (cX g kk (sI (sI (sF (sF (sF (sF (sF σ 28 (σ.2.1 28)) 29 (σ.2.1 29)) 30 (σ.2.1 30)) 31 (σ.2.1 31)) 51 (σ.2.1 51)) 437 (σ.1 437)) 803 (σ.1 803))) (congrArg (cX g kk) (wrIi (S := (sI (sF (sF (sF (sF (sF σ 28 (σ.2.1 28)) 29 (σ.2.1 29)) 30 (σ.2.1 30)) 31 (σ.2.1 31)) 51 (σ.2.1 51)) 437 (σ.1 437))) (c := 803) (v := σ.1 803) (gtII (by decide) (gtIF (gtIF (gtIF (gtIF (gtIF rfl)))))))) ?_
        exact j_iret C E (sI (sI (sF (sF (sF (sF (sF σ 28 (σ.2.1 28)) 29 (σ.2.1 29)) 30 (σ.2.1 30)) 31 (σ.2.1 31)) 51 (σ.2.1 51)) 437 (σ.1 437)) 803 (σ.1 803)) ⟨_, rfl, ⟨(σ.2.1 28), (σ.2.1 29), (σ.2.1 30), (σ.2.1 31), (σ.2.1 51), (σ.1 437), (σ.1 803), rfl, hO⟩⟩ rfl dX10_record_27
    · replace c2 := bI_f c2
      refine j_bipush C ((-2)) (by decide) dX10_record_16 ?_
      refine j_w (cX g kk (sF σ 28 (σ.2.1 28))) (congrArg (cX g kk) (wrFi (S := σ) (c := 28) (v := σ.2.1 28) rfl)) ?_
      refine j_w (cX g kk (sF (sF σ 28 (σ.2.1 28)) 29 (σ.2.1 29))) (congrArg (cX g kk) (wrFi (S := (sF σ 28 (σ.2.1 28))) (c := 29) (v := σ.2.1 29) (gtFF (by decide) rfl))) ?_
      refine j_w (cX g kk (sF (sF (sF σ 28 (σ.2.1 28)) 29 (σ.2.1 29)) 30 (σ.2.1 30))) (congrArg (cX g kk) (wrFi (S := (sF (sF σ 28 (σ.2.1 28)) 29 (σ.2.1 29))) (c := 30) (v := σ.2.1 30) (gtFF (by decide) (gtFF (by decide) rfl)))) ?_
      refine j_w (cX g kk (sF (sF (sF (sF σ 28 (σ.2.1 28)) 29 (σ.2.1 29)) 30 (σ.2.1 30)) 31 (σ.2.1 31))) (congrArg (cX g kk) (wrFi (S := (sF (sF (sF σ 28 (σ.2.1 28)) 29 (σ.2.1 29)) 30 (σ.2.1 30))) (c := 31) (v := σ.2.1 31) (gtFF (by decide) (gtFF (by decide) (gtFF (by decide) rfl))))) ?_
      refine j_w (cX g kk (sF (sF (sF (sF (sF σ 28 (σ.2.1 28)) 29 (σ.2.1 29)) 30 (σ.2.1 30)) 31 (σ.2.1 31)) 51 (σ.2.1 51))) (congrArg (cX g kk) (wrFi (S := (sF (sF (sF (sF σ 28 (σ.2.1 28)) 29 (σ.2.1 29)) 30 (σ.2.1 30)) 31 (σ.2.1 31))) (c := 51) (v := σ.2.1 51) (gtFF (by decide) (gtFF (by decide) (gtFF (by decide) (gtFF (by decide) rfl)))))) ?_
      refine j_w (cX g kk (sI (sF (sF (sF (sF (sF σ 28 (σ.2.1 28)) 29 (σ.2.1 29)) 30 (σ.2.1 30)) 31 (σ.2.1 31)) 51 (σ.2.1 51)) 437 (σ.1 437))) (congrArg (cX g kk) (wrIi (S := (sF (sF (sF (sF (sF σ 28 (σ.2.1 28)) 29 (σ.2.1 29)) 30 (σ.2.1 30)) 31 (σ.2.1 31)) 51 (σ.2.1 51))) (c := 437) (v := σ.1 437) (gtIF (gtIF (gtIF (gtIF (gtIF rfl))))))) ?_
      refine j_w (cX g kk (sI (sI (sF (sF (sF (sF (sF σ 28 (σ.2.1 28)) 29 (σ.2.1 29)) 30 (σ.2.1 30)) 31 (σ.2.1 31)) 51 (σ.2.1 51)) 437 (σ.1 437)) 803 (σ.1 803))) (congrArg (cX g kk) (wrIi (S := (sI (sF (sF (sF (sF (sF σ 28 (σ.2.1 28)) 29 (σ.2.1 29)) 30 (σ.2.1 30)) 31 (σ.2.1 31)) 51 (σ.2.1 51)) 437 (σ.1 437))) (c := 803) (v := σ.1 803) (gtII (by decide) (gtIF (gtIF (gtIF (gtIF (gtIF rfl)))))))) ?_
      exact j_iret C E (sI (sI (sF (sF (sF (sF (sF σ 28 (σ.2.1 28)) 29 (σ.2.1 29)) 30 (σ.2.1 30)) 31 (σ.2.1 31)) 51 (σ.2.1 51)) 437 (σ.1 437)) 803 (σ.1 803)) ⟨_, rfl, ⟨(σ.2.1 28), (σ.2.1 29), (σ.2.1 30), (σ.2.1 31), (σ.2.1 51), (σ.1 437), (σ.1 803), rfl, hO⟩⟩ rfl dX10_record_18
set_option maxRecDepth 100000 in
set_option maxHeartbeats 4000000 in
theorem d_seam (g kk : Nat → Nat) (σ : St) (k : Nat) (hk : σ.1 16 = nI k) (hk6 : k ≤ 6) (hI : iX σ) (hO : al_ 6 5 (σ.2.1 51)) (x : Int32) (y : Int32) : jM (S := St) yX10_seam cX10_seam 3 (some .int) { frames := 5, cells := 0, slots := 0, locals := 115 } kk (cX g kk σ) [.ref (g 0), .int x, .int y] (cX g kk) (rI (fun (r : Int32) (u : St) => ∃ (pF28 : Nat → Int32) (pF29 : Nat → Int32) (pF30 : Nat → Int32) (pF31 : Nat → Int32) (pF51 : Nat → Int32) (pF52 : Nat → Int32) (pI437 : Int32) (pI803 : Int32) (pI804 : Int32) (pI805 : Int32), u = sI (sI (sI (sI (sF (sF (sF (sF (sF (sF σ 28 pF28) 29 pF29) 30 pF30) 31 pF31) 51 pF51) 52 pF52) 437 pI437) 803 pI803) 804 pI804) 805 pI805 ∧ (al_ 6 5 pF51))) := by
  refine j_entry [(0, .ref (g 0)), (1, .int x), (2, .int y)] (by decide) (Nat.le_of_ble_eq_true rfl) rfl ?_
  intro X C E HI
  refine j_iload_n C 1 rfl dX10_seam_0 ?_
  refine j_S01 C (c_isRow x) kyX10_isRow tb_778 tb_779 rfl (Nat.le_of_ble_eq_true rfl) ⟨by decide, by decide⟩ ⟨by decide, by decide⟩ dX10_seam_1 rfl ?_
  refine j_if_ne C 10 (by decide) dX10_seam_4 (fun c1 => ?_) (fun c1 => ?_)
  · replace c1 := bI_t c1
    obtain ⟨xn, xn1, rfl⟩ := rowB_nat c1
    refine j_aload_n C 0 rfl dX10_seam_10 ?_
    refine gX_0_2 C tb_430 dX10_seam_11 ?_
    refine j_V1 C (d_refresh g kk σ k hk hk6 hI  ) kyX7_refresh tb_562 tb_563 tb_564 27 rfl (eX_27 g kk _) rfl (Nat.le_of_ble_eq_true rfl) ⟨by decide, by decide⟩ dX10_seam_14 rfl (fun vr ur hp => ?_)
    obtain ⟨rfl, w2, w3, w4, w5, w6, hu⟩ := hp
    replace hu := hu.symm
    subst hu
    refine j_aload_n C 0 rfl dX10_seam_17 ?_
    refine gX_0_6 C tb_434 dX10_seam_18 ?_
    refine j_iload_n C 1 rfl dX10_seam_21 ?_
    refine j_V1 C (d_rgather g kk (sI (sF (sF (sF (sF σ 28 w2) 29 w3) 30 w4) 31 w5) 437 w6) k hk hk6 hI hO xn (by first | assumption | omega)) kyX8_gather tb_782 tb_783 tb_784 50 rfl (eX_50 g kk _) rfl (Nat.le_of_ble_eq_true rfl) ⟨by decide, by decide⟩ dX10_seam_22 rfl (fun vr ur hp => ?_)
    obtain ⟨rfl, w7, w8, hu, g9, g10⟩ := hp
    replace hu := hu.symm
    subst hu
    refine j_aload_n C 0 rfl dX10_seam_25 ?_
    refine gX_0_6 C tb_434 dX10_seam_26 ?_
    refine j_V1 C (d_join g kk (sI (sF (sI (sF (sF (sF (sF σ 28 w2) 29 w3) 30 w4) 31 w5) 437 w6) 51 w7) 803 (nI w8)) k hk hk6 hI w8 rfl (by omega) g10 ) kyX8_join tb_795 tb_796 tb_797 50 rfl (eX_50 g kk _) rfl (Nat.le_of_ble_eq_true rfl) ⟨by decide, by decide⟩ dX10_seam_29 rfl (fun vr ur hp => ?_)
    obtain ⟨rfl, w11, w12, w13, hu, g14⟩ := hp
    replace hu := hu.symm
    subst hu
    refine j_iload_n C 2 rfl dX10_seam_32 ?_
    refine j_bipush C ((-2)) (by decide) dX10_seam_33 ?_
    refine j_icmp_ne C 46 (by decide) dX10_seam_35 (fun c15 => ?_) (fun c15 => ?_)
    · refine j_iload_n C 2 rfl dX10_seam_46 ?_
      refine j_iconst C ((-1)) (by decide) dX10_seam_47 ?_
      refine j_icmp_ne C 59 (by decide) dX10_seam_48 (fun c16 => ?_) (fun c16 => ?_)
      · refine j_iload_n C 2 rfl dX10_seam_59 ?_
        refine j_if_lt C 86 (by decide) dX10_seam_60 (fun c17 => ?_) (fun c17 => ?_)
        · refine j_bipush C ((-6)) (by decide) dX10_seam_86 ?_
          refine j_w (cX g kk (sI (sI (sI (sI (sF (sF (sF (sF (sF (sF σ 28 w2) 29 w3) 30 w4) 31 w5) 51 w7) 52 w11) 437 w6) 803 (nI w8)) 804 (nI w12)) 805 w13)) (congrArg (cX g kk) (show sI (sI (sF (sI (sF (sI (sF (sF (sF (sF σ 28 w2) 29 w3) 30 w4) 31 w5) 437 w6) 51 w7) 803 (nI w8)) 52 w11) 804 (nI w12)) 805 w13 = sI (sI (sI (sI (sF (sF (sF (sF (sF (sF σ 28 w2) 29 w3) 30 w4) 31 w5) 51 w7) 52 w11) 437 w6) 803 (nI w8)) 804 (nI w12)) 805 w13 from (wrI (wrI (Eq.trans (wrF (wrI wrFI)) (Eq.trans wrFI (wrI wrFI))))))) ?_
          exact j_iret C E (sI (sI (sI (sI (sF (sF (sF (sF (sF (sF σ 28 w2) 29 w3) 30 w4) 31 w5) 51 w7) 52 w11) 437 w6) 803 (nI w8)) 804 (nI w12)) 805 w13) ⟨_, rfl, ⟨w2, w3, w4, w5, w7, w11, w6, (nI w8), (nI w12), w13, rfl, g10⟩⟩ rfl dX10_seam_88
        · obtain ⟨yn, yn1, rfl⟩ := nI_of c17
          refine j_iload_n C 2 rfl dX10_seam_63 ?_
          refine j_aload_n C 0 rfl dX10_seam_64 ?_
          refine gX_0_6 C tb_434 dX10_seam_65 ?_
          refine gX_50_4 C tb_374 (nI w12) rfl dX10_seam_68 ?_
          refine j_icmp_geN C 86 (by decide) (by omega) (by omega) dX10_seam_71 (fun c18 => ?_) (fun c18 => ?_)
          · refine j_bipush C ((-6)) (by decide) dX10_seam_86 ?_
            refine j_w (cX g kk (sI (sI (sI (sI (sF (sF (sF (sF (sF (sF σ 28 w2) 29 w3) 30 w4) 31 w5) 51 w7) 52 w11) 437 w6) 803 (nI w8)) 804 (nI w12)) 805 w13)) (congrArg (cX g kk) (show sI (sI (sF (sI (sF (sI (sF (sF (sF (sF σ 28 w2) 29 w3) 30 w4) 31 w5) 437 w6) 51 w7) 803 (nI w8)) 52 w11) 804 (nI w12)) 805 w13 = sI (sI (sI (sI (sF (sF (sF (sF (sF (sF σ 28 w2) 29 w3) 30 w4) 31 w5) 51 w7) 52 w11) 437 w6) 803 (nI w8)) 804 (nI w12)) 805 w13 from (wrI (wrI (Eq.trans (wrF (wrI wrFI)) (Eq.trans wrFI (wrI wrFI))))))) ?_
            exact j_iret C E (sI (sI (sI (sI (sF (sF (sF (sF (sF (sF σ 28 w2) 29 w3) 30 w4) 31 w5) 51 w7) 52 w11) 437 w6) 803 (nI w8)) 804 (nI w12)) 805 w13) ⟨_, rfl, ⟨w2, w3, w4, w5, w7, w11, w6, (nI w8), (nI w12), w13, rfl, g10⟩⟩ rfl dX10_seam_88
          · refine j_aload_n C 0 rfl dX10_seam_74 ?_
            refine gX_0_6 C tb_434 dX10_seam_75 ?_
            refine gX_50_2 C tb_371 dX10_seam_78 ?_
            refine j_iload_n C 2 rfl dX10_seam_81 ?_
            refine rX_52 C yn rfl (by omega) (w11 yn) rfl dX10_seam_82 ?_
            refine j_goto C 88 (by decide) dX10_seam_83 ?_
            refine j_w (cX g kk (sI (sI (sI (sI (sF (sF (sF (sF (sF (sF σ 28 w2) 29 w3) 30 w4) 31 w5) 51 w7) 52 w11) 437 w6) 803 (nI w8)) 804 (nI w12)) 805 w13)) (congrArg (cX g kk) (show sI (sI (sF (sI (sF (sI (sF (sF (sF (sF σ 28 w2) 29 w3) 30 w4) 31 w5) 437 w6) 51 w7) 803 (nI w8)) 52 w11) 804 (nI w12)) 805 w13 = sI (sI (sI (sI (sF (sF (sF (sF (sF (sF σ 28 w2) 29 w3) 30 w4) 31 w5) 51 w7) 52 w11) 437 w6) 803 (nI w8)) 804 (nI w12)) 805 w13 from (wrI (wrI (Eq.trans (wrF (wrI wrFI)) (Eq.trans wrFI (wrI wrFI))))))) ?_
            exact j_iret C E (sI (sI (sI (sI (sF (sF (sF (sF (sF (sF σ 28 w2) 29 w3) 30 w4) 31 w5) 51 w7) 52 w11) 437 w6) 803 (nI w8)) 804 (nI w12)) 805 w13) ⟨_, rfl, ⟨w2, w3, w4, w5, w7, w11, w6, (nI w8), (nI w12), w13, rfl, g10⟩⟩ rfl dX10_seam_88
      · refine j_aload_n C 0 rfl dX10_seam_51 ?_
        refine gX_0_6 C tb_434 dX10_seam_52 ?_
        refine gX_50_4 C tb_374 (nI w12) rfl dX10_seam_55 ?_
        refine j_w (cX g kk (sI (sI (sI (sI (sF (sF (sF (sF (sF (sF σ 28 w2) 29 w3) 30 w4) 31 w5) 51 w7) 52 w11) 437 w6) 803 (nI w8)) 804 (nI w12)) 805 w13)) (congrArg (cX g kk) (show sI (sI (sF (sI (sF (sI (sF (sF (sF (sF σ 28 w2) 29 w3) 30 w4) 31 w5) 437 w6) 51 w7) 803 (nI w8)) 52 w11) 804 (nI w12)) 805 w13 = sI (sI (sI (sI (sF (sF (sF (sF (sF (sF σ 28 w2) 29 w3) 30 w4) 31 w5) 51 w7) 52 w11) 437 w6) 803 (nI w8)) 804 (nI w12)) 805 w13 from (wrI (wrI (Eq.trans (wrF (wrI wrFI)) (Eq.trans wrFI (wrI wrFI))))))) ?_
        exact j_iret C E (sI (sI (sI (sI (sF (sF (sF (sF (sF (sF σ 28 w2) 29 w3) 30 w4) 31 w5) 51 w7) 52 w11) 437 w6) 803 (nI w8)) 804 (nI w12)) 805 w13) ⟨_, rfl, ⟨w2, w3, w4, w5, w7, w11, w6, (nI w8), (nI w12), w13, rfl, g10⟩⟩ rfl dX10_seam_58
    · refine j_aload_n C 0 rfl dX10_seam_38 ?_
      refine gX_0_6 C tb_434 dX10_seam_39 ?_
      refine gX_50_5 C tb_376 (w13) rfl dX10_seam_42 ?_
      refine j_w (cX g kk (sI (sI (sI (sI (sF (sF (sF (sF (sF (sF σ 28 w2) 29 w3) 30 w4) 31 w5) 51 w7) 52 w11) 437 w6) 803 (nI w8)) 804 (nI w12)) 805 w13)) (congrArg (cX g kk) (show sI (sI (sF (sI (sF (sI (sF (sF (sF (sF σ 28 w2) 29 w3) 30 w4) 31 w5) 437 w6) 51 w7) 803 (nI w8)) 52 w11) 804 (nI w12)) 805 w13 = sI (sI (sI (sI (sF (sF (sF (sF (sF (sF σ 28 w2) 29 w3) 30 w4) 31 w5) 51 w7) 52 w11) 437 w6) 803 (nI w8)) 804 (nI w12)) 805 w13 from (wrI (wrI (Eq.trans (wrF (wrI wrFI)) (Eq.trans wrFI (wrI wrFI))))))) ?_
      exact j_iret C E (sI (sI (sI (sI (sF (sF (sF (sF (sF (sF σ 28 w2) 29 w3) 30 w4) 31 w5) 51 w7) 52 w11) 437 w6) 803 (nI w8)) 804 (nI w12)) 805 w13) ⟨_, rfl, ⟨w2, w3, w4, w5, w7, w11, w6, (nI w8), (nI w12), w13, rfl, g10⟩⟩ rfl dX10_seam_45
  · replace c1 := bI_f c1
    refine j_bipush C ((-2)) (by decide) dX10_seam_7 ?_
    refine j_w (cX g kk (sF σ 28 (σ.2.1 28))) (congrArg (cX g kk) (wrFi (S := σ) (c := 28) (v := σ.2.1 28) rfl)) ?_
    refine j_w (cX g kk (sF (sF σ 28 (σ.2.1 28)) 29 (σ.2.1 29))) (congrArg (cX g kk) (wrFi (S := (sF σ 28 (σ.2.1 28))) (c := 29) (v := σ.2.1 29) (gtFF (by decide) rfl))) ?_
    refine j_w (cX g kk (sF (sF (sF σ 28 (σ.2.1 28)) 29 (σ.2.1 29)) 30 (σ.2.1 30))) (congrArg (cX g kk) (wrFi (S := (sF (sF σ 28 (σ.2.1 28)) 29 (σ.2.1 29))) (c := 30) (v := σ.2.1 30) (gtFF (by decide) (gtFF (by decide) rfl)))) ?_
    refine j_w (cX g kk (sF (sF (sF (sF σ 28 (σ.2.1 28)) 29 (σ.2.1 29)) 30 (σ.2.1 30)) 31 (σ.2.1 31))) (congrArg (cX g kk) (wrFi (S := (sF (sF (sF σ 28 (σ.2.1 28)) 29 (σ.2.1 29)) 30 (σ.2.1 30))) (c := 31) (v := σ.2.1 31) (gtFF (by decide) (gtFF (by decide) (gtFF (by decide) rfl))))) ?_
    refine j_w (cX g kk (sF (sF (sF (sF (sF σ 28 (σ.2.1 28)) 29 (σ.2.1 29)) 30 (σ.2.1 30)) 31 (σ.2.1 31)) 51 (σ.2.1 51))) (congrArg (cX g kk) (wrFi (S := (sF (sF (sF (sF σ 28 (σ.2.1 28)) 29 (σ.2.1 29)) 30 (σ.2.1 30)) 31 (σ.2.1 31))) (c := 51) (v := σ.2.1 51) (gtFF (by decide) (gtFF (by decide) (gtFF (by decide) (gtFF (by decide) rfl)))))) ?_
    refine j_w (cX g kk (sF (sF (sF (sF (sF (sF σ 28 (σ.2.1 28)) 29 (σ.2.1 29)) 30 (σ.2.1 30)) 31 (σ.2.1 31)) 51 (σ.2.1 51)) 52 (σ.2.1 52))) (congrArg (cX g kk) (wrFi (S := (sF (sF (sF (sF (sF σ 28 (σ.2.1 28)) 29 (σ.2.1 29)) 30 (σ.2.1 30)) 31 (σ.2.1 31)) 51 (σ.2.1 51))) (c := 52) (v := σ.2.1 52) (gtFF (by decide) (gtFF (by decide) (gtFF (by decide) (gtFF (by decide) (gtFF (by decide) rfl))))))) ?_
    refine j_w (cX g kk (sI (sF (sF (sF (sF (sF (sF σ 28 (σ.2.1 28)) 29 (σ.2.1 29)) 30 (σ.2.1 30)) 31 (σ.2.1 31)) 51 (σ.2.1 51)) 52 (σ.2.1 52)) 437 (σ.1 437))) (congrArg (cX g kk) (wrIi (S := (sF (sF (sF (sF (sF (sF σ 28 (σ.2.1 28)) 29 (σ.2.1 29)) 30 (σ.2.1 30)) 31 (σ.2.1 31)) 51 (σ.2.1 51)) 52 (σ.2.1 52))) (c := 437) (v := σ.1 437) (gtIF (gtIF (gtIF (gtIF (gtIF (gtIF rfl)))))))) ?_
    refine j_w (cX g kk (sI (sI (sF (sF (sF (sF (sF (sF σ 28 (σ.2.1 28)) 29 (σ.2.1 29)) 30 (σ.2.1 30)) 31 (σ.2.1 31)) 51 (σ.2.1 51)) 52 (σ.2.1 52)) 437 (σ.1 437)) 803 (σ.1 803))) (congrArg (cX g kk) (wrIi (S := (sI (sF (sF (sF (sF (sF (sF σ 28 (σ.2.1 28)) 29 (σ.2.1 29)) 30 (σ.2.1 30)) 31 (σ.2.1 31)) 51 (σ.2.1 51)) 52 (σ.2.1 52)) 437 (σ.1 437))) (c := 803) (v := σ.1 803) (gtII (by decide) (gtIF (gtIF (gtIF (gtIF (gtIF (gtIF rfl))))))))) ?_
    refine j_w (cX g kk (sI (sI (sI (sF (sF (sF (sF (sF (sF σ 28 (σ.2.1 28)) 29 (σ.2.1 29)) 30 (σ.2.1 30)) 31 (σ.2.1 31)) 51 (σ.2.1 51)) 52 (σ.2.1 52)) 437 (σ.1 437)) 803 (σ.1 803)) 804 (σ.1 804))) (congrArg (cX g kk) (wrIi (S := (sI (sI (sF (sF (sF (sF (sF (sF σ 28 (σ.2.1 28)) 29 (σ.2.1 29)) 30 (σ.2.1 30)) 31 (σ.2.1 31)) 51 (σ.2.1 51)) 52 (σ.2.1 52)) 437 (σ.1 437)) 803 (σ.1 803))) (c := 804) (v := σ.1 804) (gtII (by decide) (gtII (by decide) (gtIF (gtIF (gtIF (gtIF (gtIF (gtIF rfl)))))))))) ?_
    refine j_w (cX g kk (sI (sI (sI (sI (sF (sF (sF (sF (sF (sF σ 28 (σ.2.1 28)) 29 (σ.2.1 29)) 30 (σ.2.1 30)) 31 (σ.2.1 31)) 51 (σ.2.1 51)) 52 (σ.2.1 52)) 437 (σ.1 437)) 803 (σ.1 803)) 804 (σ.1 804)) 805 (σ.1 805))) (congrArg (cX g kk) (wrIi (S := (sI (sI (sI (sF (sF (sF (sF (sF (sF σ 28 (σ.2.1 28)) 29 (σ.2.1 29)) 30 (σ.2.1 30)) 31 (σ.2.1 31)) 51 (σ.2.1 51)) 52 (σ.2.1 52)) 437 (σ.1 437)) 803 (σ.1 803)) 804 (σ.1 804))) (c := 805) (v := σ.1 805) (gtII (by decide) (gtII (by decide) (gtII (by decide) (gtIF (gtIF (gtIF (gtIF (gtIF (gtIF rfl))))))))))) ?_
    exact j_iret C E (sI (sI (sI (sI (sF (sF (sF (sF (sF (sF σ 28 (σ.2.1 28)) 29 (σ.2.1 29)) 30 (σ.2.1 30)) 31 (σ.2.1 31)) 51 (σ.2.1 51)) 52 (σ.2.1 52)) 437 (σ.1 437)) 803 (σ.1 803)) 804 (σ.1 804)) 805 (σ.1 805)) ⟨_, rfl, ⟨(σ.2.1 28), (σ.2.1 29), (σ.2.1 30), (σ.2.1 31), (σ.2.1 51), (σ.2.1 52), (σ.1 437), (σ.1 803), (σ.1 804), (σ.1 805), rfl, hO⟩⟩ rfl dX10_seam_9
set_option maxRecDepth 100000 in
set_option maxHeartbeats 4000000 in
theorem d_claim (g kk : Nat → Nat) (σ : St) (k : Nat) (hk : σ.1 16 = nI k) (hk6 : k ≤ 6) (hI : iX σ)  (x : Int32) (y : Int32) : jM (S := St) yX10_claim cX10_claim 4 (some .int) { frames := 5, cells := 0, slots := 0, locals := 115 } kk (cX g kk σ) [.ref (g 0), .int x, .int y] (cX g kk) (rI (fun (r : Int32) (u : St) => ∃ (pF28 : Nat → Int32) (pF29 : Nat → Int32) (pF30 : Nat → Int32) (pF31 : Nat → Int32) (pI437 : Int32), u = sI (sF (sF (sF (sF σ 28 pF28) 29 pF29) 30 pF30) 31 pF31) 437 pI437)) := by
  refine j_entry [(0, .ref (g 0)), (1, .int x), (2, .int y)] (by decide) (Nat.le_of_ble_eq_true rfl) rfl ?_
  intro X C E HI
  refine j_aload_n C 0 rfl dX10_claim_0 ?_
  refine j_iload_n C 1 rfl dX10_claim_1 ?_
  refine j_V1 C (c_isCan g kk σ k hk hk6 x) kyX10_isCan tb_478 tb_480 sp_0 0 rfl (eX_0 g kk _) rfl (Nat.le_of_ble_eq_true rfl) ⟨by decide, by decide⟩ dX10_claim_2 rfl (fun vr ur hp => ?_)
  obtain ⟨r, rfl, rfl, hu⟩ := hp
  replace hu := hu.symm
  subst hu
  refine j_if_eq C 15 (by decide) dX10_claim_5 (fun c1 => ?_) (fun c1 => ?_)
  · replace c1 := bI_f c1
    refine j_iconst C ((-1)) (by decide) dX10_claim_15 ?_
    refine j_w (cX g kk (sF σ 28 (σ.2.1 28))) (congrArg (cX g kk) (wrFi (S := σ) (c := 28) (v := σ.2.1 28) rfl)) ?_
    refine j_w (cX g kk (sF (sF σ 28 (σ.2.1 28)) 29 (σ.2.1 29))) (congrArg (cX g kk) (wrFi (S := (sF σ 28 (σ.2.1 28))) (c := 29) (v := σ.2.1 29) (gtFF (by decide) rfl))) ?_
    refine j_w (cX g kk (sF (sF (sF σ 28 (σ.2.1 28)) 29 (σ.2.1 29)) 30 (σ.2.1 30))) (congrArg (cX g kk) (wrFi (S := (sF (sF σ 28 (σ.2.1 28)) 29 (σ.2.1 29))) (c := 30) (v := σ.2.1 30) (gtFF (by decide) (gtFF (by decide) rfl)))) ?_
    refine j_w (cX g kk (sF (sF (sF (sF σ 28 (σ.2.1 28)) 29 (σ.2.1 29)) 30 (σ.2.1 30)) 31 (σ.2.1 31))) (congrArg (cX g kk) (wrFi (S := (sF (sF (sF σ 28 (σ.2.1 28)) 29 (σ.2.1 29)) 30 (σ.2.1 30))) (c := 31) (v := σ.2.1 31) (gtFF (by decide) (gtFF (by decide) (gtFF (by decide) rfl))))) ?_
    refine j_w (cX g kk (sI (sF (sF (sF (sF σ 28 (σ.2.1 28)) 29 (σ.2.1 29)) 30 (σ.2.1 30)) 31 (σ.2.1 31)) 437 (σ.1 437))) (congrArg (cX g kk) (wrIi (S := (sF (sF (sF (sF σ 28 (σ.2.1 28)) 29 (σ.2.1 29)) 30 (σ.2.1 30)) 31 (σ.2.1 31))) (c := 437) (v := σ.1 437) (gtIF (gtIF (gtIF (gtIF rfl)))))) ?_
    exact j_iret C E (sI (sF (sF (sF (sF σ 28 (σ.2.1 28)) 29 (σ.2.1 29)) 30 (σ.2.1 30)) 31 (σ.2.1 31)) 437 (σ.1 437)) ⟨_, rfl, ⟨(σ.2.1 28), (σ.2.1 29), (σ.2.1 30), (σ.2.1 31), (σ.1 437), rfl⟩⟩ rfl dX10_claim_16
  · replace c1 := bI_t c1
    obtain ⟨xn, xn1, rfl⟩ := cB_nat (by omega) c1
    refine j_iload_n C 2 rfl dX10_claim_8 ?_
    refine j_S01 C (c_isDay y) kyX10_isDay tb_486 tb_487 rfl (Nat.le_of_ble_eq_true rfl) ⟨by decide, by decide⟩ ⟨by decide, by decide⟩ dX10_claim_9 rfl ?_
    refine j_if_ne C 17 (by decide) dX10_claim_12 (fun c2 => ?_) (fun c2 => ?_)
    · replace c2 := bI_t c2
      obtain ⟨yn, yn1, yn2, rfl⟩ := wB_nat (by decide) (by decide) c2
      refine j_aload_n C 0 rfl dX10_claim_17 ?_
      refine gX_0_2 C tb_430 dX10_claim_18 ?_
      refine j_V1 C (d_refresh g kk σ k hk hk6 hI  ) kyX7_refresh tb_562 tb_563 tb_564 27 rfl (eX_27 g kk _) rfl (Nat.le_of_ble_eq_true rfl) ⟨by decide, by decide⟩ dX10_claim_21 rfl (fun vr ur hp => ?_)
      obtain ⟨rfl, w3, w4, w5, w6, w7, hu⟩ := hp
      replace hu := hu.symm
      subst hu
      refine j_iload_n C 1 rfl dX10_claim_24 ?_
      refine j_bipush C (nI 28) (by decide) dX10_claim_25 ?_
      refine j_imulN C dX10_claim_27 ?_
      refine j_iload_n C 2 rfl dX10_claim_28 ?_
      refine j_iaddN C dX10_claim_29 ?_
      refine j_istore_n C [(3, .int (nI ((xn * 28) + yn))), (0, .ref (g 0)), (1, .int (nI xn)), (2, .int (nI yn))] rfl (by decide) rfl dX10_claim_30 ?_
      refine j_aload_n C 1 rfl dX10_claim_31 ?_
      refine gX_0_2 C tb_430 dX10_claim_32 ?_
      refine gX_27_4 C tb_212 dX10_claim_35 ?_
      refine j_iload_n C 0 rfl dX10_claim_38 ?_
      refine rX_31 C ((xn * 28) + yn) rfl (by omega) (w6 ((xn * 28) + yn)) rfl dX10_claim_39 ?_
      refine j_iconst C ((-1)) (by decide) dX10_claim_40 ?_
      refine j_icmp_ne C 47 (by decide) dX10_claim_41 (fun c8 => ?_) (fun c8 => ?_)
      · refine j_aload_n C 1 rfl dX10_claim_47 ?_
        refine gX_0_6 C tb_434 dX10_claim_48 ?_
        refine j_iload_n C 0 rfl dX10_claim_51 ?_
        refine j_V1 C (d_judge g kk (sI (sF (sF (sF (sF σ 28 w3) 29 w4) 30 w5) 31 w6) 437 w7) k hk hk6 hI  ((xn * 28) + yn) (by first | assumption | omega)) kyX8_judge tb_804 tb_805 tb_806 50 rfl (eX_50 g kk _) rfl (Nat.le_of_ble_eq_true rfl) ⟨by decide, by decide⟩ dX10_claim_52 rfl (fun vr ur hp => ?_)
        obtain ⟨r9, rfl, hu⟩ := hp
        replace hu := hu.symm
        subst hu
        exact j_iret C E (sI (sF (sF (sF (sF σ 28 w3) 29 w4) 30 w5) 31 w6) 437 w7) ⟨_, rfl, ⟨w3, w4, w5, w6, w7, rfl⟩⟩ rfl dX10_claim_55
      · refine j_bipush C ((-3)) (by decide) dX10_claim_44 ?_
        exact j_iret C E (sI (sF (sF (sF (sF σ 28 w3) 29 w4) 30 w5) 31 w6) 437 w7) ⟨_, rfl, ⟨w3, w4, w5, w6, w7, rfl⟩⟩ rfl dX10_claim_46
    · replace c2 := bI_f c2
      refine j_iconst C ((-1)) (by decide) dX10_claim_15 ?_
      refine j_w (cX g kk (sF σ 28 (σ.2.1 28))) (congrArg (cX g kk) (wrFi (S := σ) (c := 28) (v := σ.2.1 28) rfl)) ?_
      refine j_w (cX g kk (sF (sF σ 28 (σ.2.1 28)) 29 (σ.2.1 29))) (congrArg (cX g kk) (wrFi (S := (sF σ 28 (σ.2.1 28))) (c := 29) (v := σ.2.1 29) (gtFF (by decide) rfl))) ?_
      refine j_w (cX g kk (sF (sF (sF σ 28 (σ.2.1 28)) 29 (σ.2.1 29)) 30 (σ.2.1 30))) (congrArg (cX g kk) (wrFi (S := (sF (sF σ 28 (σ.2.1 28)) 29 (σ.2.1 29))) (c := 30) (v := σ.2.1 30) (gtFF (by decide) (gtFF (by decide) rfl)))) ?_
      refine j_w (cX g kk (sF (sF (sF (sF σ 28 (σ.2.1 28)) 29 (σ.2.1 29)) 30 (σ.2.1 30)) 31 (σ.2.1 31))) (congrArg (cX g kk) (wrFi (S := (sF (sF (sF σ 28 (σ.2.1 28)) 29 (σ.2.1 29)) 30 (σ.2.1 30))) (c := 31) (v := σ.2.1 31) (gtFF (by decide) (gtFF (by decide) (gtFF (by decide) rfl))))) ?_
      refine j_w (cX g kk (sI (sF (sF (sF (sF σ 28 (σ.2.1 28)) 29 (σ.2.1 29)) 30 (σ.2.1 30)) 31 (σ.2.1 31)) 437 (σ.1 437))) (congrArg (cX g kk) (wrIi (S := (sF (sF (sF (sF σ 28 (σ.2.1 28)) 29 (σ.2.1 29)) 30 (σ.2.1 30)) 31 (σ.2.1 31))) (c := 437) (v := σ.1 437) (gtIF (gtIF (gtIF (gtIF rfl)))))) ?_
      exact j_iret C E (sI (sF (sF (sF (sF σ 28 (σ.2.1 28)) 29 (σ.2.1 29)) 30 (σ.2.1 30)) 31 (σ.2.1 31)) 437 (σ.1 437)) ⟨_, rfl, ⟨(σ.2.1 28), (σ.2.1 29), (σ.2.1 30), (σ.2.1 31), (σ.1 437), rfl⟩⟩ rfl dX10_claim_16
set_option maxRecDepth 100000 in
set_option maxHeartbeats 4000000 in
theorem d_fives (g kk : Nat → Nat) (σ : St) (k : Nat) (hk : σ.1 16 = nI k) (hk6 : k ≤ 6) (hI : iX σ)  (x : Int32) (y : Int32) : jM (S := St) yX10_fives cX10_fives 3 (some .int) { frames := 1, cells := 0, slots := 0, locals := 23 } kk (cX g kk σ) [.ref (g 0), .int x, .int y] (cX g kk) (rI (fun (r : Int32) (u : St) => ∃ (pI850 : Int32) (pI851 : Int32), u = sI (sI σ 850 pI850) 851 pI851)) := by
  refine j_entry [(0, .ref (g 0)), (1, .int x), (2, .int y)] (by decide) (Nat.le_of_ble_eq_true rfl) rfl ?_
  intro X C E HI
  refine j_aload_n C 0 rfl dX10_fives_0 ?_
  refine j_iload_n C 1 rfl dX10_fives_1 ?_
  refine j_V1 C (c_isCan g kk σ k hk hk6 x) kyX10_isCan tb_478 tb_480 sp_0 0 rfl (eX_0 g kk _) rfl (Nat.le_of_ble_eq_true rfl) ⟨by decide, by decide⟩ dX10_fives_2 rfl (fun vr ur hp => ?_)
  obtain ⟨r, rfl, rfl, hu⟩ := hp
  replace hu := hu.symm
  subst hu
  refine j_if_ne C 10 (by decide) dX10_fives_5 (fun c1 => ?_) (fun c1 => ?_)
  · replace c1 := bI_t c1
    obtain ⟨xn, xn1, rfl⟩ := cB_nat (by omega) c1
    refine j_iload_n C 2 rfl dX10_fives_10 ?_
    refine j_iconst C (nI 0) (by decide) dX10_fives_11 ?_
    refine j_iconst C (nI 1) (by decide) dX10_fives_12 ?_
    refine j_S01 C (c_isWithin y (nI 0) (nI 1)) kyX10_isWithin tb_467 tb_468 rfl (Nat.le_of_ble_eq_true rfl) ⟨by decide, by decide⟩ ⟨by decide, by decide⟩ dX10_fives_13 rfl ?_
    refine j_if_ne C 22 (by decide) dX10_fives_16 (fun c2 => ?_) (fun c2 => ?_)
    · replace c2 := bI_t c2
      obtain ⟨yn, yn1, yn2, rfl⟩ := wB_nat (by decide) (by decide) c2
      refine j_aload_n C 0 rfl dX10_fives_22 ?_
      refine gX_0_7 C tb_435 dX10_fives_23 ?_
      refine j_iload_n C 1 rfl dX10_fives_26 ?_
      refine j_V1 C (d_countFives g kk σ k hk hk6 hI  xn (by first | assumption | omega)) kyX3_countFives tb_816 tb_817 tb_818 53 rfl (eX_53 g kk _) rfl (Nat.le_of_ble_eq_true rfl) ⟨by decide, by decide⟩ dX10_fives_27 rfl (fun vr ur hp => ?_)
      obtain ⟨rfl, w3, w4, hu, g5⟩ := hp
      replace hu := hu.symm
      subst hu
      refine j_iload_n C 2 rfl dX10_fives_30 ?_
      refine j_if_neN C 44 (by decide) (by omega) dX10_fives_31 (fun c6 => ?_) (fun c6 => ?_)
      · refine j_aload_n C 0 rfl dX10_fives_44 ?_
        refine gX_0_7 C tb_435 dX10_fives_45 ?_
        refine gX_53_2 C tb_399 (nI w3) rfl dX10_fives_48 ?_
        exact j_iret C E (sI (sI σ 850 (nI w3)) 851 (nI w4)) ⟨_, rfl, ⟨(nI w3), (nI w4), rfl⟩⟩ rfl dX10_fives_51
      · refine j_aload_n C 0 rfl dX10_fives_34 ?_
        refine gX_0_7 C tb_435 dX10_fives_35 ?_
        refine gX_53_3 C tb_401 (nI w4) rfl dX10_fives_38 ?_
        refine j_goto C 51 (by decide) dX10_fives_41 ?_
        exact j_iret C E (sI (sI σ 850 (nI w3)) 851 (nI w4)) ⟨_, rfl, ⟨(nI w3), (nI w4), rfl⟩⟩ rfl dX10_fives_51
    · replace c2 := bI_f c2
      refine j_bipush C ((-2)) (by decide) dX10_fives_19 ?_
      refine j_w (cX g kk (sI σ 850 (σ.1 850))) (congrArg (cX g kk) (wrIi (S := σ) (c := 850) (v := σ.1 850) rfl)) ?_
      refine j_w (cX g kk (sI (sI σ 850 (σ.1 850)) 851 (σ.1 851))) (congrArg (cX g kk) (wrIi (S := (sI σ 850 (σ.1 850))) (c := 851) (v := σ.1 851) (gtII (by decide) rfl))) ?_
      exact j_iret C E (sI (sI σ 850 (σ.1 850)) 851 (σ.1 851)) ⟨_, rfl, ⟨(σ.1 850), (σ.1 851), rfl⟩⟩ rfl dX10_fives_21
  · replace c1 := bI_f c1
    refine j_iconst C ((-1)) (by decide) dX10_fives_8 ?_
    refine j_w (cX g kk (sI σ 850 (σ.1 850))) (congrArg (cX g kk) (wrIi (S := σ) (c := 850) (v := σ.1 850) rfl)) ?_
    refine j_w (cX g kk (sI (sI σ 850 (σ.1 850)) 851 (σ.1 851))) (congrArg (cX g kk) (wrIi (S := (sI σ 850 (σ.1 850))) (c := 851) (v := σ.1 851) (gtII (by decide) rfl))) ?_
    exact j_iret C E (sI (sI σ 850 (σ.1 850)) 851 (σ.1 851)) ⟨_, rfl, ⟨(σ.1 850), (σ.1 851), rfl⟩⟩ rfl dX10_fives_9
set_option maxRecDepth 100000 in
set_option maxHeartbeats 4000000 in
theorem d_odds (g kk : Nat → Nat) (σ : St) (k : Nat) (hk : σ.1 16 = nI k) (hk6 : k ≤ 6) (hI : iX σ)  (x : Int32) (y : Int32) : jM (S := St) yX10_odds cX10_odds 3 (some .long) { frames := 1, cells := 0, slots := 0, locals := 25 } kk (cX g kk σ) [.ref (g 0), .int x, .int y] (cX g kk) (rL (fun (r : Int64) (u : St) => ∃ (pI850 : Int32) (pI851 : Int32) (pL852 : Int64) (pL853 : Int64), u = sL (sL (sI (sI σ 850 pI850) 851 pI851) 852 pL852) 853 pL853)) := by
  refine j_entry [(0, .ref (g 0)), (1, .int x), (2, .int y)] (by decide) (Nat.le_of_ble_eq_true rfl) rfl ?_
  intro X C E HI
  refine j_aload_n C 0 rfl dX10_odds_0 ?_
  refine j_iload_n C 1 rfl dX10_odds_1 ?_
  refine j_V1 C (c_isCan g kk σ k hk hk6 x) kyX10_isCan tb_478 tb_480 sp_0 0 rfl (eX_0 g kk _) rfl (Nat.le_of_ble_eq_true rfl) ⟨by decide, by decide⟩ dX10_odds_2 rfl (fun vr ur hp => ?_)
  obtain ⟨r, rfl, rfl, hu⟩ := hp
  replace hu := hu.symm
  subst hu
  refine j_if_ne C 12 (by decide) dX10_odds_5 (fun c1 => ?_) (fun c1 => ?_)
  · replace c1 := bI_t c1
    obtain ⟨xn, xn1, rfl⟩ := cB_nat (by omega) c1
    refine j_iload_n C 2 rfl dX10_odds_12 ?_
    refine j_iconst C (nI 0) (by decide) dX10_odds_13 ?_
    refine j_iconst C (nI 1) (by decide) dX10_odds_14 ?_
    refine j_S01 C (c_isWithin y (nI 0) (nI 1)) kyX10_isWithin tb_467 tb_468 rfl (Nat.le_of_ble_eq_true rfl) ⟨by decide, by decide⟩ ⟨by decide, by decide⟩ dX10_odds_15 rfl ?_
    refine j_if_ne C 25 (by decide) dX10_odds_18 (fun c2 => ?_) (fun c2 => ?_)
    · replace c2 := bI_t c2
      obtain ⟨yn, yn1, yn2, rfl⟩ := wB_nat (by decide) (by decide) c2
      refine j_aload_n C 0 rfl dX10_odds_25 ?_
      refine gX_0_7 C tb_435 dX10_odds_26 ?_
      refine j_iload_n C 1 rfl dX10_odds_29 ?_
      refine j_V1 C (d_countFives g kk σ k hk hk6 hI  xn (by first | assumption | omega)) kyX3_countFives tb_816 tb_817 tb_818 53 rfl (eX_53 g kk _) rfl (Nat.le_of_ble_eq_true rfl) ⟨by decide, by decide⟩ dX10_odds_30 rfl (fun vr ur hp => ?_)
      obtain ⟨rfl, w3, w4, hu, g5⟩ := hp
      replace hu := hu.symm
      subst hu
      refine j_aload_n C 0 rfl dX10_odds_33 ?_
      refine gX_0_7 C tb_435 dX10_odds_34 ?_
      refine j_V1 C (d_weigh g kk (sI (sI σ 850 (nI w3)) 851 (nI w4)) k hk hk6 hI w3 rfl (by omega) w4 rfl (by omega)  ) kyX3_weighFives tb_826 tb_827 tb_828 53 rfl (eX_53 g kk _) rfl (Nat.le_of_ble_eq_true rfl) ⟨by decide, by decide⟩ dX10_odds_37 rfl (fun vr ur hp => ?_)
      obtain ⟨rfl, w6, w7, hu⟩ := hp
      replace hu := hu.symm
      subst hu
      refine j_iload_n C 2 rfl dX10_odds_40 ?_
      refine j_if_neN C 54 (by decide) (by omega) dX10_odds_41 (fun c8 => ?_) (fun c8 => ?_)
      · refine j_aload_n C 0 rfl dX10_odds_54 ?_
        refine gX_0_7 C tb_435 dX10_odds_55 ?_
        refine gX_53_5 C tb_405 (w7) rfl dX10_odds_58 ?_
        exact j_lret C E (sL (sL (sI (sI σ 850 (nI w3)) 851 (nI w4)) 852 w6) 853 w7) ⟨_, rfl, ⟨(nI w3), (nI w4), w6, w7, rfl⟩⟩ rfl dX10_odds_61
      · refine j_aload_n C 0 rfl dX10_odds_44 ?_
        refine gX_0_7 C tb_435 dX10_odds_45 ?_
        refine gX_53_4 C tb_403 (w6) rfl dX10_odds_48 ?_
        refine j_goto C 61 (by decide) dX10_odds_51 ?_
        exact j_lret C E (sL (sL (sI (sI σ 850 (nI w3)) 851 (nI w4)) 852 w6) 853 w7) ⟨_, rfl, ⟨(nI w3), (nI w4), w6, w7, rfl⟩⟩ rfl dX10_odds_61
    · replace c2 := bI_f c2
      refine j_ldc2 C tb_825 dX10_odds_21 ?_
      refine j_w (cX g kk (sI σ 850 (σ.1 850))) (congrArg (cX g kk) (wrIi (S := σ) (c := 850) (v := σ.1 850) rfl)) ?_
      refine j_w (cX g kk (sI (sI σ 850 (σ.1 850)) 851 (σ.1 851))) (congrArg (cX g kk) (wrIi (S := (sI σ 850 (σ.1 850))) (c := 851) (v := σ.1 851) (gtII (by decide) rfl))) ?_
      refine j_w (cX g kk (sL (sI (sI σ 850 (σ.1 850)) 851 (σ.1 851)) 852 (σ.2.2.1 852))) (congrArg (cX g kk) (wrLi (S := (sI (sI σ 850 (σ.1 850)) 851 (σ.1 851))) (c := 852) (v := σ.2.2.1 852) (gtLI (gtLI rfl)))) ?_
      refine j_w (cX g kk (sL (sL (sI (sI σ 850 (σ.1 850)) 851 (σ.1 851)) 852 (σ.2.2.1 852)) 853 (σ.2.2.1 853))) (congrArg (cX g kk) (wrLi (S := (sL (sI (sI σ 850 (σ.1 850)) 851 (σ.1 851)) 852 (σ.2.2.1 852))) (c := 853) (v := σ.2.2.1 853) (gtLL (by decide) (gtLI (gtLI rfl))))) ?_
      exact j_lret C E (sL (sL (sI (sI σ 850 (σ.1 850)) 851 (σ.1 851)) 852 (σ.2.2.1 852)) 853 (σ.2.2.1 853)) ⟨_, rfl, ⟨(σ.1 850), (σ.1 851), (σ.2.2.1 852), (σ.2.2.1 853), rfl⟩⟩ rfl dX10_odds_24
  · replace c1 := bI_f c1
    refine j_ldc2 C tb_824 dX10_odds_8 ?_
    refine j_w (cX g kk (sI σ 850 (σ.1 850))) (congrArg (cX g kk) (wrIi (S := σ) (c := 850) (v := σ.1 850) rfl)) ?_
    refine j_w (cX g kk (sI (sI σ 850 (σ.1 850)) 851 (σ.1 851))) (congrArg (cX g kk) (wrIi (S := (sI σ 850 (σ.1 850))) (c := 851) (v := σ.1 851) (gtII (by decide) rfl))) ?_
    refine j_w (cX g kk (sL (sI (sI σ 850 (σ.1 850)) 851 (σ.1 851)) 852 (σ.2.2.1 852))) (congrArg (cX g kk) (wrLi (S := (sI (sI σ 850 (σ.1 850)) 851 (σ.1 851))) (c := 852) (v := σ.2.2.1 852) (gtLI (gtLI rfl)))) ?_
    refine j_w (cX g kk (sL (sL (sI (sI σ 850 (σ.1 850)) 851 (σ.1 851)) 852 (σ.2.2.1 852)) 853 (σ.2.2.1 853))) (congrArg (cX g kk) (wrLi (S := (sL (sI (sI σ 850 (σ.1 850)) 851 (σ.1 851)) 852 (σ.2.2.1 852))) (c := 853) (v := σ.2.2.1 853) (gtLL (by decide) (gtLI (gtLI rfl))))) ?_
    exact j_lret C E (sL (sL (sI (sI σ 850 (σ.1 850)) 851 (σ.1 851)) 852 (σ.2.2.1 852)) 853 (σ.2.2.1 853)) ⟨_, rfl, ⟨(σ.1 850), (σ.1 851), (σ.2.2.1 852), (σ.2.2.1 853), rfl⟩⟩ rfl dX10_odds_11
set_option maxRecDepth 100000 in
set_option maxHeartbeats 4000000 in
theorem d_forgets (g kk : Nat → Nat) (σ : St) (k : Nat) (hk : σ.1 16 = nI k) (hk6 : k ≤ 6) (hI : iX σ)  (x : Int32) (y : Int32) : jM (S := St) yX10_forgets cX10_forgets 3 (some .int) { frames := 2, cells := 0, slots := 0, locals := 45 } kk (cX g kk σ) [.ref (g 0), .int x, .int y] (cX g kk) (rI (fun (r : Int32) (u : St) => ∃ (pF54 : Nat → Int32) (pI854 : Int32) (pI855 : Int32), u = sI (sI (sF σ 54 pF54) 854 pI854) 855 pI855)) := by
  refine j_entry [(0, .ref (g 0)), (1, .int x), (2, .int y)] (by decide) (Nat.le_of_ble_eq_true rfl) rfl ?_
  intro X C E HI
  refine j_aload_n C 0 rfl dX10_forgets_0 ?_
  refine j_iload_n C 1 rfl dX10_forgets_1 ?_
  refine j_V1 C (c_isCan g kk σ k hk hk6 x) kyX10_isCan tb_478 tb_480 sp_0 0 rfl (eX_0 g kk _) rfl (Nat.le_of_ble_eq_true rfl) ⟨by decide, by decide⟩ dX10_forgets_2 rfl (fun vr ur hp => ?_)
  obtain ⟨r, rfl, rfl, hu⟩ := hp
  replace hu := hu.symm
  subst hu
  refine j_if_ne C 10 (by decide) dX10_forgets_5 (fun c1 => ?_) (fun c1 => ?_)
  · replace c1 := bI_t c1
    obtain ⟨xn, xn1, rfl⟩ := cB_nat (by omega) c1
    refine j_iload_n C 2 rfl dX10_forgets_10 ?_
    refine j_iconst C (nI 0) (by decide) dX10_forgets_11 ?_
    refine j_iconst C (nI 1) (by decide) dX10_forgets_12 ?_
    refine j_S01 C (c_isWithin y (nI 0) (nI 1)) kyX10_isWithin tb_467 tb_468 rfl (Nat.le_of_ble_eq_true rfl) ⟨by decide, by decide⟩ ⟨by decide, by decide⟩ dX10_forgets_13 rfl ?_
    refine j_if_ne C 22 (by decide) dX10_forgets_16 (fun c2 => ?_) (fun c2 => ?_)
    · replace c2 := bI_t c2
      obtain ⟨yn, yn1, yn2, rfl⟩ := wB_nat (by decide) (by decide) c2
      refine j_aload_n C 0 rfl dX10_forgets_22 ?_
      refine gX_0_7 C tb_435 dX10_forgets_23 ?_
      refine j_iload_n C 1 rfl dX10_forgets_26 ?_
      refine j_V1 C (d_forgot g kk σ k hk hk6 hI  xn (by first | assumption | omega)) kyX3_findForgotten tb_836 tb_837 tb_838 53 rfl (eX_53 g kk _) rfl (Nat.le_of_ble_eq_true rfl) ⟨by decide, by decide⟩ dX10_forgets_27 rfl (fun vr ur hp => ?_)
      obtain ⟨rfl, w3, w4, w5, hu⟩ := hp
      replace hu := hu.symm
      subst hu
      refine j_iload_n C 2 rfl dX10_forgets_30 ?_
      refine j_if_neN C 44 (by decide) (by omega) dX10_forgets_31 (fun c6 => ?_) (fun c6 => ?_)
      · refine j_aload_n C 0 rfl dX10_forgets_44 ?_
        refine gX_0_7 C tb_435 dX10_forgets_45 ?_
        refine gX_53_7 C tb_409 (w5) rfl dX10_forgets_48 ?_
        exact j_iret C E (sI (sI (sF σ 54 w3) 854 w4) 855 w5) ⟨_, rfl, ⟨w3, w4, w5, rfl⟩⟩ rfl dX10_forgets_51
      · refine j_aload_n C 0 rfl dX10_forgets_34 ?_
        refine gX_0_7 C tb_435 dX10_forgets_35 ?_
        refine gX_53_6 C tb_407 (w4) rfl dX10_forgets_38 ?_
        refine j_goto C 51 (by decide) dX10_forgets_41 ?_
        exact j_iret C E (sI (sI (sF σ 54 w3) 854 w4) 855 w5) ⟨_, rfl, ⟨w3, w4, w5, rfl⟩⟩ rfl dX10_forgets_51
    · replace c2 := bI_f c2
      refine j_bipush C ((-2)) (by decide) dX10_forgets_19 ?_
      refine j_w (cX g kk (sF σ 54 (σ.2.1 54))) (congrArg (cX g kk) (wrFi (S := σ) (c := 54) (v := σ.2.1 54) rfl)) ?_
      refine j_w (cX g kk (sI (sF σ 54 (σ.2.1 54)) 854 (σ.1 854))) (congrArg (cX g kk) (wrIi (S := (sF σ 54 (σ.2.1 54))) (c := 854) (v := σ.1 854) (gtIF rfl))) ?_
      refine j_w (cX g kk (sI (sI (sF σ 54 (σ.2.1 54)) 854 (σ.1 854)) 855 (σ.1 855))) (congrArg (cX g kk) (wrIi (S := (sI (sF σ 54 (σ.2.1 54)) 854 (σ.1 854))) (c := 855) (v := σ.1 855) (gtII (by decide) (gtIF rfl)))) ?_
      exact j_iret C E (sI (sI (sF σ 54 (σ.2.1 54)) 854 (σ.1 854)) 855 (σ.1 855)) ⟨_, rfl, ⟨(σ.2.1 54), (σ.1 854), (σ.1 855), rfl⟩⟩ rfl dX10_forgets_21
  · replace c1 := bI_f c1
    refine j_iconst C ((-1)) (by decide) dX10_forgets_8 ?_
    refine j_w (cX g kk (sF σ 54 (σ.2.1 54))) (congrArg (cX g kk) (wrFi (S := σ) (c := 54) (v := σ.2.1 54) rfl)) ?_
    refine j_w (cX g kk (sI (sF σ 54 (σ.2.1 54)) 854 (σ.1 854))) (congrArg (cX g kk) (wrIi (S := (sF σ 54 (σ.2.1 54))) (c := 854) (v := σ.1 854) (gtIF rfl))) ?_
    refine j_w (cX g kk (sI (sI (sF σ 54 (σ.2.1 54)) 854 (σ.1 854)) 855 (σ.1 855))) (congrArg (cX g kk) (wrIi (S := (sI (sF σ 54 (σ.2.1 54)) 854 (σ.1 854))) (c := 855) (v := σ.1 855) (gtII (by decide) (gtIF rfl)))) ?_
    exact j_iret C E (sI (sI (sF σ 54 (σ.2.1 54)) 854 (σ.1 854)) 855 (σ.1 855)) ⟨_, rfl, ⟨(σ.2.1 54), (σ.1 854), (σ.1 855), rfl⟩⟩ rfl dX10_forgets_9
