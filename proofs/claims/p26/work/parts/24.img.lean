theorem pw_s {σ : St} {t n : Nat} : sI (sF (pw σ t n) 32 (upd ((pw σ t n).2.1 32) (t + n) (sv σ n))) 56 (nI (t + n + 1)) = pw σ t (n + 1) := by
  refine Prod.ext (funext fun j => ?_) (Prod.ext (funext fun c => ?_) rfl)
  · show (if j = 56 then _ else if j = 56 then _ else σ.1 j) = (if j = 56 then _ else σ.1 j)
    by_cases h : j = 56
    · rw [if_pos h, if_pos h]; rfl
    · rw [if_neg h, if_neg h, if_neg h]
  · show (if c = 32 then upd (cut (σ.2.1 32) t n (sv σ)) (t + n) (sv σ n) else if c = 32 then _ else σ.2.1 c) = (if c = 32 then _ else σ.2.1 c)
    by_cases h : c = 32
    · rw [if_pos h, if_pos h, cut_s]
    · rw [if_neg h, if_neg h, if_neg h]
theorem pw_0 {σ : St} {t : Nat} (h : σ.1 56 = nI t) : pw σ t 0 = σ := by
  unfold pw
  rw [cut_0]
  refine Prod.ext (funext fun j => ?_) (Prod.ext (funext fun c => ?_) rfl)
  · show (if j = 56 then nI (t + 0) else σ.1 j) = σ.1 j
    by_cases e : j = 56
    · rw [if_pos e, e, h]; rfl
    · rw [if_neg e]
  · show (if c = 32 then σ.2.1 32 else σ.2.1 c) = σ.2.1 c
    by_cases e : c = 32
    · rw [if_pos e, e]
    · rw [if_neg e]
theorem pr_57 {σ : St} {t n : Nat} (h : σ.1 57 = nI 0) (hn : n ≤ 1000) : (pr σ t n).1 57 = nI 0 := by
  show (if ips 57 < n then _ else σ.1 57) = _
  rw [if_neg (by show ¬ 2000 < n; omega), h]
theorem pr_32 (σ : St) (t n j : Nat) : (pr σ t n).2.1 32 j = σ.2.1 32 j := by
  show (if j < szp 32 ∧ (32 : Nat) ≠ 0 ∧ pos 32 j < n then σ.2.1 32 (t + pos 32 j) else σ.2.1 32 j) = σ.2.1 32 j
  rw [if_neg (fun q => Nat.not_lt_zero _ q.1)]
theorem pr_b {σ : St} {t : Nat} (h : σ.1 56 = nI t) : σ = pr σ t 0 := by rw [pr_0, sI_self h]
set_option maxRecDepth 100000 in
set_option maxHeartbeats 4000000 in
theorem m_pW (g kk : Nat → Nat) (σ : St) (t n : Nat) (h57 : σ.1 57 = nI 1) (hb : t + n < 1800) : jM (S := St) yX11_pass cX11_pass 3 (some .int) { frames := 0, cells := 0, slots := 0, locals := 0 } kk (cM g kk (pw σ t n)) [.ref (g 0), .int (sv σ n)] (cM g kk) (rI (fun r u => r = sv σ n ∧ u = pw σ t (n + 1))) := by
  refine j_entry [(0, .ref (g 0)), (1, .int (sv σ n))] (by decide) (Nat.le_of_ble_eq_true rfl) rfl ?_
  intro X C E HI
  refine j_aload_n C 0 rfl dX11_pass_0 ?_
  refine gM_0_57 C tb_930 (nI 1) h57 dX11_pass_1 ?_
  refine j_if_eqN C 11 (by decide) (by omega) dX11_pass_4 (fun c1 => ?_) (fun c1 => ?_)
  · exact absurd c1 (by decide)
  · refine j_iload_n C 1 rfl dX11_pass_7 ?_
    refine j_goto C 20 (by decide) dX11_pass_8 ?_
    refine j_istore_n C [(2, .int (sv σ n)), (0, .ref (g 0)), (1, .int (sv σ n))] rfl (by decide) rfl dX11_pass_20 ?_
    refine j_aload_n C 1 rfl dX11_pass_21 ?_
    refine gM_0_54 C tb_927 dX11_pass_22 ?_
    refine j_aload_n C 1 rfl dX11_pass_25 ?_
    refine gM_0_56 C tb_929 (nI (t + n)) rfl dX11_pass_26 ?_
    refine j_iload_n C 0 rfl dX11_pass_29 ?_
    refine tM_32 C (t + n) rfl (by omega) dX11_pass_30 ?_
    refine j_aload_n C 1 rfl dX11_pass_31 ?_
    refine j_dup C rfl dX11_pass_32 ?_
    refine gM_0_56 C tb_929 (nI (t + n)) rfl dX11_pass_33 ?_
    refine j_iconst C (nI 1) (by decide) dX11_pass_36 ?_
    refine j_iaddN C dX11_pass_37 ?_
    refine pM_0_56 C tb_929 dX11_pass_38 ?_
    refine j_iload_n C 0 rfl dX11_pass_41 ?_
    refine j_w (cM g kk (pw σ t (n + 1))) (congrArg (cM g kk) pw_s) ?_
    exact j_iret C E (pw σ t (n + 1)) ⟨_, rfl, rfl, rfl⟩ rfl dX11_pass_42
set_option maxRecDepth 100000 in
set_option maxHeartbeats 4000000 in
theorem m_pR (g kk : Nat → Nat) (σ : St) (t n : Nat) (h57 : σ.1 57 = nI 0) (hb : t + n < 1800) (hn : n ≤ 1000) (v : Int32) : jM (S := St) yX11_pass cX11_pass 3 (some .int) { frames := 0, cells := 0, slots := 0, locals := 0 } kk (cM g kk (pr σ t n)) [.ref (g 0), .int v] (cM g kk) (rI (fun r u => r = σ.2.1 32 (t + n) ∧ u = sI (pr σ t n) 56 (nI (t + (n + 1))))) := by
  refine j_entry [(0, .ref (g 0)), (1, .int v)] (by decide) (Nat.le_of_ble_eq_true rfl) rfl ?_
  intro X C E HI
  refine j_aload_n C 0 rfl dX11_pass_0 ?_
  refine gM_0_57 C tb_930 (nI 0) (pr_57 h57 hn) dX11_pass_1 ?_
  refine j_if_eqN C 11 (by decide) (by omega) dX11_pass_4 (fun c1 => ?_) (fun c1 => ?_)
  · refine j_aload_n C 0 rfl dX11_pass_11 ?_
    refine gM_0_54 C tb_927 dX11_pass_12 ?_
    refine j_aload_n C 0 rfl dX11_pass_15 ?_
    refine gM_0_56 C tb_929 (nI (t + n)) rfl dX11_pass_16 ?_
    refine rM_32 C (t + n) rfl (by omega) (σ.2.1 32 (t + n)) (pr_32 σ t n (t + n)) dX11_pass_19 ?_
    refine j_istore_n C [(2, .int (σ.2.1 32 (t + n))), (0, .ref (g 0)), (1, .int v)] rfl (by decide) rfl dX11_pass_20 ?_
    refine j_aload_n C 1 rfl dX11_pass_21 ?_
    refine gM_0_54 C tb_927 dX11_pass_22 ?_
    refine j_aload_n C 1 rfl dX11_pass_25 ?_
    refine gM_0_56 C tb_929 (nI (t + n)) rfl dX11_pass_26 ?_
    refine j_iload_n C 0 rfl dX11_pass_29 ?_
    refine tM_32 C (t + n) rfl (by omega) dX11_pass_30 ?_
    refine j_aload_n C 1 rfl dX11_pass_31 ?_
    refine j_dup C rfl dX11_pass_32 ?_
    refine gM_0_56 C tb_929 (nI (t + n)) rfl dX11_pass_33 ?_
    refine j_iconst C (nI 1) (by decide) dX11_pass_36 ?_
    refine j_iaddN C dX11_pass_37 ?_
    refine pM_0_56 C tb_929 dX11_pass_38 ?_
    refine j_iload_n C 0 rfl dX11_pass_41 ?_
    refine j_w (cM g kk (sI (pr σ t n) 56 (nI (t + (n + 1))))) (congrArg (fun z => cM g kk (sI z 56 (nI (t + (n + 1))))) (sF_self (σ := pr σ t n) (c := 32) (i := t + n) (v := σ.2.1 32 (t + n)) (pr_32 σ t n (t + n)))) ?_
    exact j_iret C E (sI (pr σ t n) 56 (nI (t + (n + 1)))) ⟨_, rfl, rfl, rfl⟩ rfl dX11_pass_42
  · exact absurd c1 (by decide)
set_option maxRecDepth 100000 in
set_option maxHeartbeats 4000000 in
theorem m_allW (g kk : Nat → Nat) (σ : St) (t : Nat) (h56 : σ.1 56 = nI t) (h57 : σ.1 57 = nI 1) (hb : t ≤ 900) : jM (S := St) yX11_passAll cX11_passAll 2 none { frames := 1, cells := 0, slots := 0, locals := 22 } kk (cM g kk σ) [.ref (g 0)] (cM g kk) (rV (fun u => u = pw σ t 827)) := by
  refine j_entry [(0, .ref (g 0))] (by decide) (Nat.le_of_ble_eq_true rfl) rfl ?_
  intro X C E HI
  refine j_w (cM g kk (pw σ t 0)) (congrArg (cM g kk) (pw_0 h56).symm) ?_
  refine j_aload_n C 0 rfl dX11_passAll_0 ?_
  refine j_aload_n C 0 rfl dX11_passAll_1 ?_
  refine j_aload_n C 0 rfl dX11_passAll_2 ?_
  refine gM_0_3 C tb_876 (sv σ 0) rfl dX11_passAll_3 ?_
  refine j_V1 C (m_pW g kk σ t 0 h57 (by omega)) kyX11_pass tb_1326 tb_1328 sp_47 0 rfl (eM_0 g kk _) rfl (Nat.le_of_ble_eq_true rfl) ⟨by decide, by decide⟩ dX11_passAll_6 rfl (fun vr ur hp => ?_)
  obtain ⟨r, rfl, rfl, hu⟩ := hp
  replace hu := hu.symm
  subst hu
  refine j_w (cM g kk (pw σ t 1)) rfl ?_
  refine pM_0_3 C tb_876 dX11_passAll_9 ?_
  refine j_w (cM g kk (pw σ t 1)) (congrArg (cM g kk) (sI_self (σ := pw σ t 1) (i := 3) (v := sv σ 0) rfl)) ?_
  refine j_aload_n C 0 rfl dX11_passAll_12 ?_
  refine j_aload_n C 0 rfl dX11_passAll_13 ?_
  refine j_aload_n C 0 rfl dX11_passAll_14 ?_
  refine gM_0_9 C tb_882 (sv σ 1) rfl dX11_passAll_15 ?_
  refine j_V1 C (m_pW g kk σ t 1 h57 (by omega)) kyX11_pass tb_1326 tb_1328 sp_47 0 rfl (eM_0 g kk _) rfl (Nat.le_of_ble_eq_true rfl) ⟨by decide, by decide⟩ dX11_passAll_18 rfl (fun vr ur hp => ?_)
  obtain ⟨r, rfl, rfl, hu⟩ := hp
  replace hu := hu.symm
  subst hu
  refine j_w (cM g kk (pw σ t 2)) rfl ?_
  refine pM_0_9 C tb_882 dX11_passAll_21 ?_
  refine j_w (cM g kk (pw σ t 2)) (congrArg (cM g kk) (sI_self (σ := pw σ t 2) (i := 9) (v := sv σ 1) rfl)) ?_
  refine j_aload_n C 0 rfl dX11_passAll_24 ?_
  refine j_aload_n C 0 rfl dX11_passAll_25 ?_
  refine j_aload_n C 0 rfl dX11_passAll_26 ?_
  refine gM_0_46 C tb_919 (sv σ 2) rfl dX11_passAll_27 ?_
  refine j_V1 C (m_pW g kk σ t 2 h57 (by omega)) kyX11_pass tb_1326 tb_1328 sp_47 0 rfl (eM_0 g kk _) rfl (Nat.le_of_ble_eq_true rfl) ⟨by decide, by decide⟩ dX11_passAll_30 rfl (fun vr ur hp => ?_)
  obtain ⟨r, rfl, rfl, hu⟩ := hp
  replace hu := hu.symm
  subst hu
  refine j_w (cM g kk (pw σ t 3)) rfl ?_
  refine pM_0_46 C tb_919 dX11_passAll_33 ?_
  refine j_w (cM g kk (pw σ t 3)) (congrArg (cM g kk) (sI_self (σ := pw σ t 3) (i := 46) (v := sv σ 2) rfl)) ?_
  refine j_aload_n C 0 rfl dX11_passAll_36 ?_
  refine j_aload_n C 0 rfl dX11_passAll_37 ?_
  refine j_aload_n C 0 rfl dX11_passAll_38 ?_
  refine gM_0_10 C tb_883 (sv σ 3) rfl dX11_passAll_39 ?_
  refine j_V1 C (m_pW g kk σ t 3 h57 (by omega)) kyX11_pass tb_1326 tb_1328 sp_47 0 rfl (eM_0 g kk _) rfl (Nat.le_of_ble_eq_true rfl) ⟨by decide, by decide⟩ dX11_passAll_42 rfl (fun vr ur hp => ?_)
  obtain ⟨r, rfl, rfl, hu⟩ := hp
  replace hu := hu.symm
  subst hu
  refine j_w (cM g kk (pw σ t 4)) rfl ?_
  refine pM_0_10 C tb_883 dX11_passAll_45 ?_
  refine j_w (cM g kk (pw σ t 4)) (congrArg (cM g kk) (sI_self (σ := pw σ t 4) (i := 10) (v := sv σ 3) rfl)) ?_
  refine j_aload_n C 0 rfl dX11_passAll_48 ?_
  refine j_aload_n C 0 rfl dX11_passAll_49 ?_
  refine j_aload_n C 0 rfl dX11_passAll_50 ?_
  refine gM_0_11 C tb_884 (sv σ 4) rfl dX11_passAll_51 ?_
  refine j_V1 C (m_pW g kk σ t 4 h57 (by omega)) kyX11_pass tb_1326 tb_1328 sp_47 0 rfl (eM_0 g kk _) rfl (Nat.le_of_ble_eq_true rfl) ⟨by decide, by decide⟩ dX11_passAll_54 rfl (fun vr ur hp => ?_)
  obtain ⟨r, rfl, rfl, hu⟩ := hp
  replace hu := hu.symm
  subst hu
  refine j_w (cM g kk (pw σ t 5)) rfl ?_
  refine pM_0_11 C tb_884 dX11_passAll_57 ?_
  refine j_w (cM g kk (pw σ t 5)) (congrArg (cM g kk) (sI_self (σ := pw σ t 5) (i := 11) (v := sv σ 4) rfl)) ?_
  refine j_aload_n C 0 rfl dX11_passAll_60 ?_
  refine j_aload_n C 0 rfl dX11_passAll_61 ?_
  refine j_aload_n C 0 rfl dX11_passAll_62 ?_
  refine gM_0_12 C tb_885 (sv σ 5) rfl dX11_passAll_63 ?_
  refine j_V1 C (m_pW g kk σ t 5 h57 (by omega)) kyX11_pass tb_1326 tb_1328 sp_47 0 rfl (eM_0 g kk _) rfl (Nat.le_of_ble_eq_true rfl) ⟨by decide, by decide⟩ dX11_passAll_66 rfl (fun vr ur hp => ?_)
  obtain ⟨r, rfl, rfl, hu⟩ := hp
  replace hu := hu.symm
  subst hu
  refine j_w (cM g kk (pw σ t 6)) rfl ?_
  refine pM_0_12 C tb_885 dX11_passAll_69 ?_
  refine j_w (cM g kk (pw σ t 6)) (congrArg (cM g kk) (sI_self (σ := pw σ t 6) (i := 12) (v := sv σ 5) rfl)) ?_
  refine j_aload_n C 0 rfl dX11_passAll_72 ?_
  refine j_aload_n C 0 rfl dX11_passAll_73 ?_
  refine j_aload_n C 0 rfl dX11_passAll_74 ?_
  refine gM_0_13 C tb_886 (sv σ 6) rfl dX11_passAll_75 ?_
  refine j_V1 C (m_pW g kk σ t 6 h57 (by omega)) kyX11_pass tb_1326 tb_1328 sp_47 0 rfl (eM_0 g kk _) rfl (Nat.le_of_ble_eq_true rfl) ⟨by decide, by decide⟩ dX11_passAll_78 rfl (fun vr ur hp => ?_)
  obtain ⟨r, rfl, rfl, hu⟩ := hp
  replace hu := hu.symm
  subst hu
  refine j_w (cM g kk (pw σ t 7)) rfl ?_
  refine pM_0_13 C tb_886 dX11_passAll_81 ?_
  refine j_w (cM g kk (pw σ t 7)) (congrArg (cM g kk) (sI_self (σ := pw σ t 7) (i := 13) (v := sv σ 6) rfl)) ?_
  refine j_iconst C (nI 0) (by decide) dX11_passAll_84 ?_
  refine j_istore_n C [(1, .int (nI 0)), (0, .ref (g 0))] rfl (by decide) rfl dX11_passAll_85 ?_
  have L86 : ∀ (n86 : Nat) (i : Nat) (i86_0 : i ≤ 6) (hm86 : 6 - i < n86), J X 0 0 (cM g kk (pw σ t (7 + 2 * i))) [(1, .int (nI i)), (0, .ref (g 0))] 86 [] := by
    intro n86
    induction n86 with
    | zero => intro i i86_0 hm; exact absurd hm (Nat.not_lt_zero _)
    | succ n86 ih86 =>
      intro i i86_0 hm86
      refine j_iload_n C 0 rfl dX11_passAll_86 ?_
      refine j_bipush C (nI 6) (by decide) dX11_passAll_87 ?_
      refine j_icmp_geN C 130 (by decide) (by omega) (by omega) dX11_passAll_89 (fun c1 => ?_) (fun c1 => ?_)
      · have ei : i = 6 := by omega
        subst ei
        refine j_w (cM g kk (pw σ t 19)) rfl ?_
        refine j_iconst C (nI 0) (by decide) dX11_passAll_130 ?_
        refine j_istore_n C [(1, .int (nI 0)), (0, .ref (g 0))] rfl (by decide) rfl dX11_passAll_131 ?_
        have L132 : ∀ (n132 : Nat) (i : Nat) (i132_0 : i ≤ 18) (hm132 : 18 - i < n132), J X 0 0 (cM g kk (pw σ t (19 + i))) [(1, .int (nI i)), (0, .ref (g 0))] 132 [] := by
          intro n132
          induction n132 with
          | zero => intro i i132_0 hm; exact absurd hm (Nat.not_lt_zero _)
          | succ n132 ih132 =>
            intro i i132_0 hm132
            refine j_iload_n C 0 rfl dX11_passAll_132 ?_
            refine j_bipush C (nI 18) (by decide) dX11_passAll_133 ?_
            refine j_icmp_geN C 160 (by decide) (by omega) (by omega) dX11_passAll_135 (fun c2 => ?_) (fun c2 => ?_)
            · have ei : i = 18 := by omega
              subst ei
              refine j_w (cM g kk (pw σ t 37)) rfl ?_
              refine j_iconst C (nI 0) (by decide) dX11_passAll_160 ?_
              refine j_istore_n C [(1, .int (nI 0)), (0, .ref (g 0))] rfl (by decide) rfl dX11_passAll_161 ?_
              have L162 : ∀ (n162 : Nat) (i : Nat) (i162_0 : i ≤ 28) (hm162 : 28 - i < n162), J X 0 0 (cM g kk (pw σ t (37 + i))) [(1, .int (nI i)), (0, .ref (g 0))] 162 [] := by
                intro n162
                induction n162 with
                | zero => intro i i162_0 hm; exact absurd hm (Nat.not_lt_zero _)
                | succ n162 ih162 =>
                  intro i i162_0 hm162
                  refine j_iload_n C 0 rfl dX11_passAll_162 ?_
                  refine j_bipush C (nI 28) (by decide) dX11_passAll_163 ?_
                  refine j_icmp_geN C 190 (by decide) (by omega) (by omega) dX11_passAll_165 (fun c3 => ?_) (fun c3 => ?_)
                  · have ei : i = 28 := by omega
                    subst ei
                    refine j_w (cM g kk (pw σ t 65)) rfl ?_
                    refine j_iconst C (nI 0) (by decide) dX11_passAll_190 ?_
                    refine j_istore_n C [(1, .int (nI 0)), (0, .ref (g 0))] rfl (by decide) rfl dX11_passAll_191 ?_
                    have L192 : ∀ (n192 : Nat) (i : Nat) (i192_0 : i ≤ 168) (hm192 : 168 - i < n192), J X 0 0 (cM g kk (pw σ t (65 + 4 * i))) [(1, .int (nI i)), (0, .ref (g 0))] 192 [] := by
                      intro n192
                      induction n192 with
                      | zero => intro i i192_0 hm; exact absurd hm (Nat.not_lt_zero _)
                      | succ n192 ih192 =>
                        intro i i192_0 hm192
                        refine j_iload_n C 0 rfl dX11_passAll_192 ?_
                        refine j_sipush C (nI 168) (by decide) dX11_passAll_193 ?_
                        refine j_icmp_geN C 269 (by decide) (by omega) (by omega) dX11_passAll_196 (fun c4 => ?_) (fun c4 => ?_)
                        · have ei : i = 168 := by omega
                          subst ei
                          refine j_w (cM g kk (pw σ t 737)) rfl ?_
                          refine j_iconst C (nI 0) (by decide) dX11_passAll_269 ?_
                          refine j_istore_n C [(1, .int (nI 0)), (0, .ref (g 0))] rfl (by decide) rfl dX11_passAll_270 ?_
                          have L271 : ∀ (n271 : Nat) (i : Nat) (i271_0 : i ≤ 20) (hm271 : 20 - i < n271), J X 0 0 (cM g kk (pw σ t (737 + 3 * i))) [(1, .int (nI i)), (0, .ref (g 0))] 271 [] := by
                            intro n271
                            induction n271 with
                            | zero => intro i i271_0 hm; exact absurd hm (Nat.not_lt_zero _)
                            | succ n271 ih271 =>
                              intro i i271_0 hm271
                              refine j_iload_n C 0 rfl dX11_passAll_271 ?_
                              refine j_bipush C (nI 20) (by decide) dX11_passAll_272 ?_
                              refine j_icmp_geN C 331 (by decide) (by omega) (by omega) dX11_passAll_274 (fun c5 => ?_) (fun c5 => ?_)
                              · have ei : i = 20 := by omega
                                subst ei
                                refine j_w (cM g kk (pw σ t 797)) rfl ?_
                                refine j_iconst C (nI 0) (by decide) dX11_passAll_331 ?_
                                refine j_istore_n C [(1, .int (nI 0)), (0, .ref (g 0))] rfl (by decide) rfl dX11_passAll_332 ?_
                                have L333 : ∀ (n333 : Nat) (i : Nat) (i333_0 : i ≤ 6) (hm333 : 6 - i < n333), J X 0 0 (cM g kk (pw σ t (797 + 5 * i))) [(1, .int (nI i)), (0, .ref (g 0))] 333 [] := by
                                  intro n333
                                  induction n333 with
                                  | zero => intro i i333_0 hm; exact absurd hm (Nat.not_lt_zero _)
                                  | succ n333 ih333 =>
                                    intro i i333_0 hm333
                                    refine j_iload_n C 0 rfl dX11_passAll_333 ?_
                                    refine j_bipush C (nI 6) (by decide) dX11_passAll_334 ?_
                                    refine j_icmp_geN C 425 (by decide) (by omega) (by omega) dX11_passAll_336 (fun c6 => ?_) (fun c6 => ?_)
                                    · have ei : i = 6 := by omega
                                      subst ei
                                      refine j_w (cM g kk (pw σ t 827)) rfl ?_
                                      exact j_vret C E (pw σ t 827) ⟨rfl, rfl⟩ rfl dX11_passAll_425
                                    · refine j_aload_n C 1 rfl dX11_passAll_339 ?_
                                      refine gM_0_41 C tb_914 dX11_passAll_340 ?_
                                      refine j_iload_n C 0 rfl dX11_passAll_343 ?_
                                      refine j_aload_n C 1 rfl dX11_passAll_344 ?_
                                      refine j_aload_n C 1 rfl dX11_passAll_345 ?_
                                      refine gM_0_41 C tb_914 dX11_passAll_346 ?_
                                      refine j_iload_n C 0 rfl dX11_passAll_349 ?_
                                      refine rM_26 C i rfl (by omega) (sv σ (797 + 5 * i)) (sv_26 σ (by omega)).symm dX11_passAll_350 ?_
                                      refine j_V1 C (m_pW g kk σ t (797 + 5 * i) h57 (by omega)) kyX11_pass tb_1326 tb_1328 sp_47 0 rfl (eM_0 g kk _) rfl (Nat.le_of_ble_eq_true rfl) ⟨by decide, by decide⟩ dX11_passAll_351 rfl (fun vr ur hp => ?_)
                                      obtain ⟨r, rfl, rfl, hu⟩ := hp
                                      replace hu := hu.symm
                                      subst hu
                                      refine tM_26 C i rfl (by omega) dX11_passAll_354 ?_
                                      refine j_w (cM g kk (pw σ t (797 + 5 * i + 1))) (congrArg (cM g kk) (sF_self (σ := pw σ t (797 + 5 * i + 1)) (c := 26) (i := i) (v := sv σ (797 + 5 * i)) (sv_26 σ (by omega)).symm)) ?_
                                      refine j_aload_n C 1 rfl dX11_passAll_355 ?_
                                      refine gM_0_42 C tb_915 dX11_passAll_356 ?_
                                      refine j_iload_n C 0 rfl dX11_passAll_359 ?_
                                      refine j_aload_n C 1 rfl dX11_passAll_360 ?_
                                      refine j_aload_n C 1 rfl dX11_passAll_361 ?_
                                      refine gM_0_42 C tb_915 dX11_passAll_362 ?_
                                      refine j_iload_n C 0 rfl dX11_passAll_365 ?_
                                      refine rM_27 C i rfl (by omega) (sv σ (797 + 5 * i + 1)) (sv_27 σ (by omega)).symm dX11_passAll_366 ?_
                                      refine j_V1 C (m_pW g kk σ t (797 + 5 * i + 1) h57 (by omega)) kyX11_pass tb_1326 tb_1328 sp_47 0 rfl (eM_0 g kk _) rfl (Nat.le_of_ble_eq_true rfl) ⟨by decide, by decide⟩ dX11_passAll_367 rfl (fun vr ur hp => ?_)
                                      obtain ⟨r, rfl, rfl, hu⟩ := hp
                                      replace hu := hu.symm
                                      subst hu
                                      refine j_w (cM g kk (pw σ t (797 + 5 * i + 2))) rfl ?_
                                      refine tM_27 C i rfl (by omega) dX11_passAll_370 ?_
                                      refine j_w (cM g kk (pw σ t (797 + 5 * i + 2))) (congrArg (cM g kk) (sF_self (σ := pw σ t (797 + 5 * i + 2)) (c := 27) (i := i) (v := sv σ (797 + 5 * i + 1)) (sv_27 σ (by omega)).symm)) ?_
                                      refine j_aload_n C 1 rfl dX11_passAll_371 ?_
                                      refine gM_0_43 C tb_916 dX11_passAll_372 ?_
                                      refine j_iload_n C 0 rfl dX11_passAll_375 ?_
                                      refine j_aload_n C 1 rfl dX11_passAll_376 ?_
                                      refine j_aload_n C 1 rfl dX11_passAll_377 ?_
                                      refine gM_0_43 C tb_916 dX11_passAll_378 ?_
                                      refine j_iload_n C 0 rfl dX11_passAll_381 ?_
                                      refine rM_28 C i rfl (by omega) (sv σ (797 + 5 * i + 2)) (sv_28 σ (by omega)).symm dX11_passAll_382 ?_
                                      refine j_V1 C (m_pW g kk σ t (797 + 5 * i + 2) h57 (by omega)) kyX11_pass tb_1326 tb_1328 sp_47 0 rfl (eM_0 g kk _) rfl (Nat.le_of_ble_eq_true rfl) ⟨by decide, by decide⟩ dX11_passAll_383 rfl (fun vr ur hp => ?_)
                                      obtain ⟨r, rfl, rfl, hu⟩ := hp
                                      replace hu := hu.symm
                                      subst hu
                                      refine j_w (cM g kk (pw σ t (797 + 5 * i + 3))) rfl ?_
                                      refine tM_28 C i rfl (by omega) dX11_passAll_386 ?_
                                      refine j_w (cM g kk (pw σ t (797 + 5 * i + 3))) (congrArg (cM g kk) (sF_self (σ := pw σ t (797 + 5 * i + 3)) (c := 28) (i := i) (v := sv σ (797 + 5 * i + 2)) (sv_28 σ (by omega)).symm)) ?_
                                      refine j_aload_n C 1 rfl dX11_passAll_387 ?_
                                      refine gM_0_44 C tb_917 dX11_passAll_388 ?_
                                      refine j_iload_n C 0 rfl dX11_passAll_391 ?_
                                      refine j_aload_n C 1 rfl dX11_passAll_392 ?_
                                      refine j_aload_n C 1 rfl dX11_passAll_393 ?_
                                      refine gM_0_44 C tb_917 dX11_passAll_394 ?_
                                      refine j_iload_n C 0 rfl dX11_passAll_397 ?_
                                      refine rM_29 C i rfl (by omega) (sv σ (797 + 5 * i + 3)) (sv_29 σ (by omega)).symm dX11_passAll_398 ?_
                                      refine j_V1 C (m_pW g kk σ t (797 + 5 * i + 3) h57 (by omega)) kyX11_pass tb_1326 tb_1328 sp_47 0 rfl (eM_0 g kk _) rfl (Nat.le_of_ble_eq_true rfl) ⟨by decide, by decide⟩ dX11_passAll_399 rfl (fun vr ur hp => ?_)
                                      obtain ⟨r, rfl, rfl, hu⟩ := hp
                                      replace hu := hu.symm
                                      subst hu
                                      refine j_w (cM g kk (pw σ t (797 + 5 * i + 4))) rfl ?_
                                      refine tM_29 C i rfl (by omega) dX11_passAll_402 ?_
                                      refine j_w (cM g kk (pw σ t (797 + 5 * i + 4))) (congrArg (cM g kk) (sF_self (σ := pw σ t (797 + 5 * i + 4)) (c := 29) (i := i) (v := sv σ (797 + 5 * i + 3)) (sv_29 σ (by omega)).symm)) ?_
                                      refine j_aload_n C 1 rfl dX11_passAll_403 ?_
                                      refine gM_0_45 C tb_918 dX11_passAll_404 ?_
                                      refine j_iload_n C 0 rfl dX11_passAll_407 ?_
                                      refine j_aload_n C 1 rfl dX11_passAll_408 ?_
                                      refine j_aload_n C 1 rfl dX11_passAll_409 ?_
                                      refine gM_0_45 C tb_918 dX11_passAll_410 ?_
                                      refine j_iload_n C 0 rfl dX11_passAll_413 ?_
                                      refine rM_30 C i rfl (by omega) (sv σ (797 + 5 * i + 4)) (sv_30 σ (by omega)).symm dX11_passAll_414 ?_
                                      refine j_V1 C (m_pW g kk σ t (797 + 5 * i + 4) h57 (by omega)) kyX11_pass tb_1326 tb_1328 sp_47 0 rfl (eM_0 g kk _) rfl (Nat.le_of_ble_eq_true rfl) ⟨by decide, by decide⟩ dX11_passAll_415 rfl (fun vr ur hp => ?_)
                                      obtain ⟨r, rfl, rfl, hu⟩ := hp
                                      replace hu := hu.symm
                                      subst hu
                                      refine j_w (cM g kk (pw σ t (797 + 5 * i + 5))) rfl ?_
                                      refine tM_30 C i rfl (by omega) dX11_passAll_418 ?_
                                      refine j_w (cM g kk (pw σ t (797 + 5 * i + 5))) (congrArg (cM g kk) (sF_self (σ := pw σ t (797 + 5 * i + 5)) (c := 30) (i := i) (v := sv σ (797 + 5 * i + 4)) (sv_30 σ (by omega)).symm)) ?_
                                      refine j_iinc C (nI (i + 1)) [(1, .int (nI (i + 1))), (0, .ref (g 0))] 0 rfl (by rw [show Int32.ofInt 1 = nI 1 from by decide, nI_add]) (by decide) rfl dX11_passAll_419 ?_
                                      refine j_goto C 333 (by decide) dX11_passAll_422 ?_
                                      refine j_w (cM g kk (pw σ t (797 + 5 * (i + 1)))) rfl ?_
                                      exact ih333 (i + 1) (by omega) (by omega)
                                refine j_w (cM g kk (pw σ t (797 + 5 * 0))) rfl ?_
                                exact L333 _ 0 (by omega) (Nat.lt_succ_self _)
                              · refine j_aload_n C 1 rfl dX11_passAll_277 ?_
                                refine gM_0_6 C tb_879 dX11_passAll_278 ?_
                                refine j_iload_n C 0 rfl dX11_passAll_281 ?_
                                refine j_aload_n C 1 rfl dX11_passAll_282 ?_
                                refine j_aload_n C 1 rfl dX11_passAll_283 ?_
                                refine gM_0_6 C tb_879 dX11_passAll_284 ?_
                                refine j_iload_n C 0 rfl dX11_passAll_287 ?_
                                refine rM_6 C i rfl (by omega) (sv σ (737 + 3 * i)) (sv_6 σ (by omega)).symm dX11_passAll_288 ?_
                                refine j_V1 C (m_pW g kk σ t (737 + 3 * i) h57 (by omega)) kyX11_pass tb_1326 tb_1328 sp_47 0 rfl (eM_0 g kk _) rfl (Nat.le_of_ble_eq_true rfl) ⟨by decide, by decide⟩ dX11_passAll_289 rfl (fun vr ur hp => ?_)
                                obtain ⟨r, rfl, rfl, hu⟩ := hp
                                replace hu := hu.symm
                                subst hu
                                refine tM_6 C i rfl (by omega) dX11_passAll_292 ?_
                                refine j_w (cM g kk (pw σ t (737 + 3 * i + 1))) (congrArg (cM g kk) (sF_self (σ := pw σ t (737 + 3 * i + 1)) (c := 6) (i := i) (v := sv σ (737 + 3 * i)) (sv_6 σ (by omega)).symm)) ?_
                                refine j_aload_n C 1 rfl dX11_passAll_293 ?_
                                refine gM_0_7 C tb_880 dX11_passAll_294 ?_
                                refine j_iload_n C 0 rfl dX11_passAll_297 ?_
                                refine j_aload_n C 1 rfl dX11_passAll_298 ?_
                                refine j_aload_n C 1 rfl dX11_passAll_299 ?_
                                refine gM_0_7 C tb_880 dX11_passAll_300 ?_
                                refine j_iload_n C 0 rfl dX11_passAll_303 ?_
                                refine rM_7 C i rfl (by omega) (sv σ (737 + 3 * i + 1)) (sv_7 σ (by omega)).symm dX11_passAll_304 ?_
                                refine j_V1 C (m_pW g kk σ t (737 + 3 * i + 1) h57 (by omega)) kyX11_pass tb_1326 tb_1328 sp_47 0 rfl (eM_0 g kk _) rfl (Nat.le_of_ble_eq_true rfl) ⟨by decide, by decide⟩ dX11_passAll_305 rfl (fun vr ur hp => ?_)
                                obtain ⟨r, rfl, rfl, hu⟩ := hp
                                replace hu := hu.symm
                                subst hu
                                refine j_w (cM g kk (pw σ t (737 + 3 * i + 2))) rfl ?_
                                refine tM_7 C i rfl (by omega) dX11_passAll_308 ?_
                                refine j_w (cM g kk (pw σ t (737 + 3 * i + 2))) (congrArg (cM g kk) (sF_self (σ := pw σ t (737 + 3 * i + 2)) (c := 7) (i := i) (v := sv σ (737 + 3 * i + 1)) (sv_7 σ (by omega)).symm)) ?_
                                refine j_aload_n C 1 rfl dX11_passAll_309 ?_
                                refine gM_0_8 C tb_881 dX11_passAll_310 ?_
                                refine j_iload_n C 0 rfl dX11_passAll_313 ?_
                                refine j_aload_n C 1 rfl dX11_passAll_314 ?_
                                refine j_aload_n C 1 rfl dX11_passAll_315 ?_
                                refine gM_0_8 C tb_881 dX11_passAll_316 ?_
                                refine j_iload_n C 0 rfl dX11_passAll_319 ?_
                                refine rM_8 C i rfl (by omega) (sv σ (737 + 3 * i + 2)) (sv_8 σ (by omega)).symm dX11_passAll_320 ?_
                                refine j_V1 C (m_pW g kk σ t (737 + 3 * i + 2) h57 (by omega)) kyX11_pass tb_1326 tb_1328 sp_47 0 rfl (eM_0 g kk _) rfl (Nat.le_of_ble_eq_true rfl) ⟨by decide, by decide⟩ dX11_passAll_321 rfl (fun vr ur hp => ?_)
                                obtain ⟨r, rfl, rfl, hu⟩ := hp
                                replace hu := hu.symm
                                subst hu
                                refine j_w (cM g kk (pw σ t (737 + 3 * i + 3))) rfl ?_
                                refine tM_8 C i rfl (by omega) dX11_passAll_324 ?_
                                refine j_w (cM g kk (pw σ t (737 + 3 * i + 3))) (congrArg (cM g kk) (sF_self (σ := pw σ t (737 + 3 * i + 3)) (c := 8) (i := i) (v := sv σ (737 + 3 * i + 2)) (sv_8 σ (by omega)).symm)) ?_
                                refine j_iinc C (nI (i + 1)) [(1, .int (nI (i + 1))), (0, .ref (g 0))] 0 rfl (by rw [show Int32.ofInt 1 = nI 1 from by decide, nI_add]) (by decide) rfl dX11_passAll_325 ?_
                                refine j_goto C 271 (by decide) dX11_passAll_328 ?_
                                refine j_w (cM g kk (pw σ t (737 + 3 * (i + 1)))) rfl ?_
                                exact ih271 (i + 1) (by omega) (by omega)
                          refine j_w (cM g kk (pw σ t (737 + 3 * 0))) rfl ?_
                          exact L271 _ 0 (by omega) (Nat.lt_succ_self _)
                        · refine j_aload_n C 1 rfl dX11_passAll_199 ?_
                          refine gM_0_5 C tb_878 dX11_passAll_200 ?_
                          refine j_iload_n C 0 rfl dX11_passAll_203 ?_
                          refine j_aload_n C 1 rfl dX11_passAll_204 ?_
                          refine j_aload_n C 1 rfl dX11_passAll_205 ?_
                          refine gM_0_5 C tb_878 dX11_passAll_206 ?_
                          refine j_iload_n C 0 rfl dX11_passAll_209 ?_
                          refine rM_5 C i rfl (by omega) (sv σ (65 + 4 * i)) (sv_5 σ (by omega)).symm dX11_passAll_210 ?_
                          refine j_V1 C (m_pW g kk σ t (65 + 4 * i) h57 (by omega)) kyX11_pass tb_1326 tb_1328 sp_47 0 rfl (eM_0 g kk _) rfl (Nat.le_of_ble_eq_true rfl) ⟨by decide, by decide⟩ dX11_passAll_211 rfl (fun vr ur hp => ?_)
                          obtain ⟨r, rfl, rfl, hu⟩ := hp
                          replace hu := hu.symm
                          subst hu
                          refine tM_5 C i rfl (by omega) dX11_passAll_214 ?_
                          refine j_w (cM g kk (pw σ t (65 + 4 * i + 1))) (congrArg (cM g kk) (sF_self (σ := pw σ t (65 + 4 * i + 1)) (c := 5) (i := i) (v := sv σ (65 + 4 * i)) (sv_5 σ (by omega)).symm)) ?_
                          refine j_aload_n C 1 rfl dX11_passAll_215 ?_
                          refine gM_0_16 C tb_889 dX11_passAll_216 ?_
                          refine j_iload_n C 0 rfl dX11_passAll_219 ?_
                          refine j_aload_n C 1 rfl dX11_passAll_220 ?_
                          refine j_aload_n C 1 rfl dX11_passAll_221 ?_
                          refine gM_0_16 C tb_889 dX11_passAll_222 ?_
                          refine j_iload_n C 0 rfl dX11_passAll_225 ?_
                          refine rM_10 C i rfl (by omega) (sv σ (65 + 4 * i + 1)) (sv_10 σ (by omega)).symm dX11_passAll_226 ?_
                          refine j_V1 C (m_pW g kk σ t (65 + 4 * i + 1) h57 (by omega)) kyX11_pass tb_1326 tb_1328 sp_47 0 rfl (eM_0 g kk _) rfl (Nat.le_of_ble_eq_true rfl) ⟨by decide, by decide⟩ dX11_passAll_227 rfl (fun vr ur hp => ?_)
                          obtain ⟨r, rfl, rfl, hu⟩ := hp
                          replace hu := hu.symm
                          subst hu
                          refine j_w (cM g kk (pw σ t (65 + 4 * i + 2))) rfl ?_
                          refine tM_10 C i rfl (by omega) dX11_passAll_230 ?_
                          refine j_w (cM g kk (pw σ t (65 + 4 * i + 2))) (congrArg (cM g kk) (sF_self (σ := pw σ t (65 + 4 * i + 2)) (c := 10) (i := i) (v := sv σ (65 + 4 * i + 1)) (sv_10 σ (by omega)).symm)) ?_
                          refine j_aload_n C 1 rfl dX11_passAll_231 ?_
                          refine gM_0_17 C tb_890 dX11_passAll_232 ?_
                          refine j_iload_n C 0 rfl dX11_passAll_235 ?_
                          refine j_aload_n C 1 rfl dX11_passAll_236 ?_
                          refine j_aload_n C 1 rfl dX11_passAll_237 ?_
                          refine gM_0_17 C tb_890 dX11_passAll_238 ?_
                          refine j_iload_n C 0 rfl dX11_passAll_241 ?_
                          refine rM_11 C i rfl (by omega) (sv σ (65 + 4 * i + 2)) (sv_11 σ (by omega)).symm dX11_passAll_242 ?_
                          refine j_V1 C (m_pW g kk σ t (65 + 4 * i + 2) h57 (by omega)) kyX11_pass tb_1326 tb_1328 sp_47 0 rfl (eM_0 g kk _) rfl (Nat.le_of_ble_eq_true rfl) ⟨by decide, by decide⟩ dX11_passAll_243 rfl (fun vr ur hp => ?_)
                          obtain ⟨r, rfl, rfl, hu⟩ := hp
                          replace hu := hu.symm
                          subst hu
                          refine j_w (cM g kk (pw σ t (65 + 4 * i + 3))) rfl ?_
                          refine tM_11 C i rfl (by omega) dX11_passAll_246 ?_
                          refine j_w (cM g kk (pw σ t (65 + 4 * i + 3))) (congrArg (cM g kk) (sF_self (σ := pw σ t (65 + 4 * i + 3)) (c := 11) (i := i) (v := sv σ (65 + 4 * i + 2)) (sv_11 σ (by omega)).symm)) ?_
                          refine j_aload_n C 1 rfl dX11_passAll_247 ?_
                          refine gM_0_18 C tb_891 dX11_passAll_248 ?_
                          refine j_iload_n C 0 rfl dX11_passAll_251 ?_
                          refine j_aload_n C 1 rfl dX11_passAll_252 ?_
                          refine j_aload_n C 1 rfl dX11_passAll_253 ?_
                          refine gM_0_18 C tb_891 dX11_passAll_254 ?_
                          refine j_iload_n C 0 rfl dX11_passAll_257 ?_
                          refine rM_12 C i rfl (by omega) (sv σ (65 + 4 * i + 3)) (sv_12 σ (by omega)).symm dX11_passAll_258 ?_
                          refine j_V1 C (m_pW g kk σ t (65 + 4 * i + 3) h57 (by omega)) kyX11_pass tb_1326 tb_1328 sp_47 0 rfl (eM_0 g kk _) rfl (Nat.le_of_ble_eq_true rfl) ⟨by decide, by decide⟩ dX11_passAll_259 rfl (fun vr ur hp => ?_)
                          obtain ⟨r, rfl, rfl, hu⟩ := hp
                          replace hu := hu.symm
                          subst hu
                          refine j_w (cM g kk (pw σ t (65 + 4 * i + 4))) rfl ?_
                          refine tM_12 C i rfl (by omega) dX11_passAll_262 ?_
                          refine j_w (cM g kk (pw σ t (65 + 4 * i + 4))) (congrArg (cM g kk) (sF_self (σ := pw σ t (65 + 4 * i + 4)) (c := 12) (i := i) (v := sv σ (65 + 4 * i + 3)) (sv_12 σ (by omega)).symm)) ?_
                          refine j_iinc C (nI (i + 1)) [(1, .int (nI (i + 1))), (0, .ref (g 0))] 0 rfl (by rw [show Int32.ofInt 1 = nI 1 from by decide, nI_add]) (by decide) rfl dX11_passAll_263 ?_
                          refine j_goto C 192 (by decide) dX11_passAll_266 ?_
                          refine j_w (cM g kk (pw σ t (65 + 4 * (i + 1)))) rfl ?_
                          exact ih192 (i + 1) (by omega) (by omega)
                    refine j_w (cM g kk (pw σ t (65 + 4 * 0))) rfl ?_
                    exact L192 _ 0 (by omega) (Nat.lt_succ_self _)
                  · refine j_aload_n C 1 rfl dX11_passAll_168 ?_
                    refine gM_0_4 C tb_877 dX11_passAll_169 ?_
                    refine j_iload_n C 0 rfl dX11_passAll_172 ?_
                    refine j_aload_n C 1 rfl dX11_passAll_173 ?_
                    refine j_aload_n C 1 rfl dX11_passAll_174 ?_
                    refine gM_0_4 C tb_877 dX11_passAll_175 ?_
                    refine j_iload_n C 0 rfl dX11_passAll_178 ?_
                    refine rM_4 C i rfl (by omega) (sv σ (37 + i)) (sv_4 σ (by omega)).symm dX11_passAll_179 ?_
                    refine j_V1 C (m_pW g kk σ t (37 + i) h57 (by omega)) kyX11_pass tb_1326 tb_1328 sp_47 0 rfl (eM_0 g kk _) rfl (Nat.le_of_ble_eq_true rfl) ⟨by decide, by decide⟩ dX11_passAll_180 rfl (fun vr ur hp => ?_)
                    obtain ⟨r, rfl, rfl, hu⟩ := hp
                    replace hu := hu.symm
                    subst hu
                    refine tM_4 C i rfl (by omega) dX11_passAll_183 ?_
                    refine j_w (cM g kk (pw σ t (37 + i + 1))) (congrArg (cM g kk) (sF_self (σ := pw σ t (37 + i + 1)) (c := 4) (i := i) (v := sv σ (37 + i)) (sv_4 σ (by omega)).symm)) ?_
                    refine j_iinc C (nI (i + 1)) [(1, .int (nI (i + 1))), (0, .ref (g 0))] 0 rfl (by rw [show Int32.ofInt 1 = nI 1 from by decide, nI_add]) (by decide) rfl dX11_passAll_184 ?_
                    refine j_goto C 162 (by decide) dX11_passAll_187 ?_
                    refine j_w (cM g kk (pw σ t (37 + (i + 1)))) rfl ?_
                    exact ih162 (i + 1) (by omega) (by omega)
              refine j_w (cM g kk (pw σ t (37 + 0))) rfl ?_
              exact L162 _ 0 (by omega) (Nat.lt_succ_self _)
            · refine j_aload_n C 1 rfl dX11_passAll_138 ?_
              refine gM_0_2 C tb_875 dX11_passAll_139 ?_
              refine j_iload_n C 0 rfl dX11_passAll_142 ?_
              refine j_aload_n C 1 rfl dX11_passAll_143 ?_
              refine j_aload_n C 1 rfl dX11_passAll_144 ?_
              refine gM_0_2 C tb_875 dX11_passAll_145 ?_
              refine j_iload_n C 0 rfl dX11_passAll_148 ?_
              refine rM_3 C i rfl (by omega) (sv σ (19 + i)) (sv_3 σ (by omega)).symm dX11_passAll_149 ?_
              refine j_V1 C (m_pW g kk σ t (19 + i) h57 (by omega)) kyX11_pass tb_1326 tb_1328 sp_47 0 rfl (eM_0 g kk _) rfl (Nat.le_of_ble_eq_true rfl) ⟨by decide, by decide⟩ dX11_passAll_150 rfl (fun vr ur hp => ?_)
              obtain ⟨r, rfl, rfl, hu⟩ := hp
              replace hu := hu.symm
              subst hu
              refine tM_3 C i rfl (by omega) dX11_passAll_153 ?_
              refine j_w (cM g kk (pw σ t (19 + i + 1))) (congrArg (cM g kk) (sF_self (σ := pw σ t (19 + i + 1)) (c := 3) (i := i) (v := sv σ (19 + i)) (sv_3 σ (by omega)).symm)) ?_
              refine j_iinc C (nI (i + 1)) [(1, .int (nI (i + 1))), (0, .ref (g 0))] 0 rfl (by rw [show Int32.ofInt 1 = nI 1 from by decide, nI_add]) (by decide) rfl dX11_passAll_154 ?_
              refine j_goto C 132 (by decide) dX11_passAll_157 ?_
              refine j_w (cM g kk (pw σ t (19 + (i + 1)))) rfl ?_
              exact ih132 (i + 1) (by omega) (by omega)
        refine j_w (cM g kk (pw σ t (19 + 0))) rfl ?_
        exact L132 _ 0 (by omega) (Nat.lt_succ_self _)
      · refine j_aload_n C 1 rfl dX11_passAll_92 ?_
        refine gM_0_0 C tb_873 dX11_passAll_93 ?_
        refine j_iload_n C 0 rfl dX11_passAll_96 ?_
        refine j_aload_n C 1 rfl dX11_passAll_97 ?_
        refine j_aload_n C 1 rfl dX11_passAll_98 ?_
        refine gM_0_0 C tb_873 dX11_passAll_99 ?_
        refine j_iload_n C 0 rfl dX11_passAll_102 ?_
        refine rM_1 C i rfl (by omega) (sv σ (7 + 2 * i)) (sv_1 σ (by omega)).symm dX11_passAll_103 ?_
        refine j_V1 C (m_pW g kk σ t (7 + 2 * i) h57 (by omega)) kyX11_pass tb_1326 tb_1328 sp_47 0 rfl (eM_0 g kk _) rfl (Nat.le_of_ble_eq_true rfl) ⟨by decide, by decide⟩ dX11_passAll_104 rfl (fun vr ur hp => ?_)
        obtain ⟨r, rfl, rfl, hu⟩ := hp
        replace hu := hu.symm
        subst hu
        refine tM_1 C i rfl (by omega) dX11_passAll_107 ?_
        refine j_w (cM g kk (pw σ t (7 + 2 * i + 1))) (congrArg (cM g kk) (sF_self (σ := pw σ t (7 + 2 * i + 1)) (c := 1) (i := i) (v := sv σ (7 + 2 * i)) (sv_1 σ (by omega)).symm)) ?_
        refine j_aload_n C 1 rfl dX11_passAll_108 ?_
        refine gM_0_1 C tb_874 dX11_passAll_109 ?_
        refine j_iload_n C 0 rfl dX11_passAll_112 ?_
        refine j_aload_n C 1 rfl dX11_passAll_113 ?_
        refine j_aload_n C 1 rfl dX11_passAll_114 ?_
        refine gM_0_1 C tb_874 dX11_passAll_115 ?_
        refine j_iload_n C 0 rfl dX11_passAll_118 ?_
        refine rM_2 C i rfl (by omega) (sv σ (7 + 2 * i + 1)) (sv_2 σ (by omega)).symm dX11_passAll_119 ?_
        refine j_V1 C (m_pW g kk σ t (7 + 2 * i + 1) h57 (by omega)) kyX11_pass tb_1326 tb_1328 sp_47 0 rfl (eM_0 g kk _) rfl (Nat.le_of_ble_eq_true rfl) ⟨by decide, by decide⟩ dX11_passAll_120 rfl (fun vr ur hp => ?_)
        obtain ⟨r, rfl, rfl, hu⟩ := hp
        replace hu := hu.symm
        subst hu
        refine j_w (cM g kk (pw σ t (7 + 2 * i + 2))) rfl ?_
        refine tM_2 C i rfl (by omega) dX11_passAll_123 ?_
        refine j_w (cM g kk (pw σ t (7 + 2 * i + 2))) (congrArg (cM g kk) (sF_self (σ := pw σ t (7 + 2 * i + 2)) (c := 2) (i := i) (v := sv σ (7 + 2 * i + 1)) (sv_2 σ (by omega)).symm)) ?_
        refine j_iinc C (nI (i + 1)) [(1, .int (nI (i + 1))), (0, .ref (g 0))] 0 rfl (by rw [show Int32.ofInt 1 = nI 1 from by decide, nI_add]) (by decide) rfl dX11_passAll_124 ?_
        refine j_goto C 86 (by decide) dX11_passAll_127 ?_
        refine j_w (cM g kk (pw σ t (7 + 2 * (i + 1)))) rfl ?_
        exact ih86 (i + 1) (by omega) (by omega)
  refine j_w (cM g kk (pw σ t (7 + 2 * 0))) rfl ?_
  exact L86 _ 0 (by omega) (Nat.lt_succ_self _)
set_option maxRecDepth 100000 in
set_option maxHeartbeats 4000000 in
theorem m_allR (g kk : Nat → Nat) (σ : St) (t : Nat) (h56 : σ.1 56 = nI t) (h57 : σ.1 57 = nI 0) (hb : t ≤ 900) : jM (S := St) yX11_passAll cX11_passAll 2 none { frames := 1, cells := 0, slots := 0, locals := 22 } kk (cM g kk σ) [.ref (g 0)] (cM g kk) (rV (fun u => u = pr σ t 827)) := by
  refine j_entry [(0, .ref (g 0))] (by decide) (Nat.le_of_ble_eq_true rfl) rfl ?_
  intro X C E HI
  refine j_w (cM g kk (pr σ t 0)) (congrArg (cM g kk) (pr_b h56)) ?_
  refine j_aload_n C 0 rfl dX11_passAll_0 ?_
  refine j_aload_n C 0 rfl dX11_passAll_1 ?_
  refine j_aload_n C 0 rfl dX11_passAll_2 ?_
  refine gM_0_3 C tb_876 ((pr σ t 0).1 3) rfl dX11_passAll_3 ?_
  refine j_V1 C (m_pR g kk σ t 0 h57 (by omega) (by omega) ((pr σ t 0).1 3)) kyX11_pass tb_1326 tb_1328 sp_47 0 rfl (eM_0 g kk _) rfl (Nat.le_of_ble_eq_true rfl) ⟨by decide, by decide⟩ dX11_passAll_6 rfl (fun vr ur hp => ?_)
  obtain ⟨r, rfl, rfl, hu⟩ := hp
  replace hu := hu.symm
  subst hu
  refine pM_0_3 C tb_876 dX11_passAll_9 ?_
  refine j_w (cM g kk (pr σ t 1)) (congrArg (cM g kk) (pr_I (σ := σ) (t := t) (n := 0) (s := 3) (by decide) rfl (by decide))) ?_
  refine j_aload_n C 0 rfl dX11_passAll_12 ?_
  refine j_aload_n C 0 rfl dX11_passAll_13 ?_
  refine j_aload_n C 0 rfl dX11_passAll_14 ?_
  refine gM_0_9 C tb_882 ((pr σ t 1).1 9) rfl dX11_passAll_15 ?_
  refine j_V1 C (m_pR g kk σ t 1 h57 (by omega) (by omega) ((pr σ t 1).1 9)) kyX11_pass tb_1326 tb_1328 sp_47 0 rfl (eM_0 g kk _) rfl (Nat.le_of_ble_eq_true rfl) ⟨by decide, by decide⟩ dX11_passAll_18 rfl (fun vr ur hp => ?_)
  obtain ⟨r, rfl, rfl, hu⟩ := hp
  replace hu := hu.symm
  subst hu
  refine pM_0_9 C tb_882 dX11_passAll_21 ?_
  refine j_w (cM g kk (pr σ t 2)) (congrArg (cM g kk) (pr_I (σ := σ) (t := t) (n := 1) (s := 9) (by decide) rfl (by decide))) ?_
  refine j_aload_n C 0 rfl dX11_passAll_24 ?_
  refine j_aload_n C 0 rfl dX11_passAll_25 ?_
  refine j_aload_n C 0 rfl dX11_passAll_26 ?_
  refine gM_0_46 C tb_919 ((pr σ t 2).1 46) rfl dX11_passAll_27 ?_
  refine j_V1 C (m_pR g kk σ t 2 h57 (by omega) (by omega) ((pr σ t 2).1 46)) kyX11_pass tb_1326 tb_1328 sp_47 0 rfl (eM_0 g kk _) rfl (Nat.le_of_ble_eq_true rfl) ⟨by decide, by decide⟩ dX11_passAll_30 rfl (fun vr ur hp => ?_)
  obtain ⟨r, rfl, rfl, hu⟩ := hp
  replace hu := hu.symm
  subst hu
  refine pM_0_46 C tb_919 dX11_passAll_33 ?_
  refine j_w (cM g kk (pr σ t 3)) (congrArg (cM g kk) (pr_I (σ := σ) (t := t) (n := 2) (s := 46) (by decide) rfl (by decide))) ?_
  refine j_aload_n C 0 rfl dX11_passAll_36 ?_
  refine j_aload_n C 0 rfl dX11_passAll_37 ?_
  refine j_aload_n C 0 rfl dX11_passAll_38 ?_
  refine gM_0_10 C tb_883 ((pr σ t 3).1 10) rfl dX11_passAll_39 ?_
  refine j_V1 C (m_pR g kk σ t 3 h57 (by omega) (by omega) ((pr σ t 3).1 10)) kyX11_pass tb_1326 tb_1328 sp_47 0 rfl (eM_0 g kk _) rfl (Nat.le_of_ble_eq_true rfl) ⟨by decide, by decide⟩ dX11_passAll_42 rfl (fun vr ur hp => ?_)
  obtain ⟨r, rfl, rfl, hu⟩ := hp
  replace hu := hu.symm
  subst hu
  refine pM_0_10 C tb_883 dX11_passAll_45 ?_
  refine j_w (cM g kk (pr σ t 4)) (congrArg (cM g kk) (pr_I (σ := σ) (t := t) (n := 3) (s := 10) (by decide) rfl (by decide))) ?_
  refine j_aload_n C 0 rfl dX11_passAll_48 ?_
  refine j_aload_n C 0 rfl dX11_passAll_49 ?_
  refine j_aload_n C 0 rfl dX11_passAll_50 ?_
  refine gM_0_11 C tb_884 ((pr σ t 4).1 11) rfl dX11_passAll_51 ?_
  refine j_V1 C (m_pR g kk σ t 4 h57 (by omega) (by omega) ((pr σ t 4).1 11)) kyX11_pass tb_1326 tb_1328 sp_47 0 rfl (eM_0 g kk _) rfl (Nat.le_of_ble_eq_true rfl) ⟨by decide, by decide⟩ dX11_passAll_54 rfl (fun vr ur hp => ?_)
  obtain ⟨r, rfl, rfl, hu⟩ := hp
  replace hu := hu.symm
  subst hu
  refine pM_0_11 C tb_884 dX11_passAll_57 ?_
  refine j_w (cM g kk (pr σ t 5)) (congrArg (cM g kk) (pr_I (σ := σ) (t := t) (n := 4) (s := 11) (by decide) rfl (by decide))) ?_
  refine j_aload_n C 0 rfl dX11_passAll_60 ?_
  refine j_aload_n C 0 rfl dX11_passAll_61 ?_
  refine j_aload_n C 0 rfl dX11_passAll_62 ?_
  refine gM_0_12 C tb_885 ((pr σ t 5).1 12) rfl dX11_passAll_63 ?_
  refine j_V1 C (m_pR g kk σ t 5 h57 (by omega) (by omega) ((pr σ t 5).1 12)) kyX11_pass tb_1326 tb_1328 sp_47 0 rfl (eM_0 g kk _) rfl (Nat.le_of_ble_eq_true rfl) ⟨by decide, by decide⟩ dX11_passAll_66 rfl (fun vr ur hp => ?_)
  obtain ⟨r, rfl, rfl, hu⟩ := hp
  replace hu := hu.symm
  subst hu
  refine pM_0_12 C tb_885 dX11_passAll_69 ?_
  refine j_w (cM g kk (pr σ t 6)) (congrArg (cM g kk) (pr_I (σ := σ) (t := t) (n := 5) (s := 12) (by decide) rfl (by decide))) ?_
  refine j_aload_n C 0 rfl dX11_passAll_72 ?_
  refine j_aload_n C 0 rfl dX11_passAll_73 ?_
  refine j_aload_n C 0 rfl dX11_passAll_74 ?_
  refine gM_0_13 C tb_886 ((pr σ t 6).1 13) rfl dX11_passAll_75 ?_
  refine j_V1 C (m_pR g kk σ t 6 h57 (by omega) (by omega) ((pr σ t 6).1 13)) kyX11_pass tb_1326 tb_1328 sp_47 0 rfl (eM_0 g kk _) rfl (Nat.le_of_ble_eq_true rfl) ⟨by decide, by decide⟩ dX11_passAll_78 rfl (fun vr ur hp => ?_)
  obtain ⟨r, rfl, rfl, hu⟩ := hp
  replace hu := hu.symm
  subst hu
  refine pM_0_13 C tb_886 dX11_passAll_81 ?_
  refine j_w (cM g kk (pr σ t 7)) (congrArg (cM g kk) (pr_I (σ := σ) (t := t) (n := 6) (s := 13) (by decide) rfl (by decide))) ?_
  refine j_iconst C (nI 0) (by decide) dX11_passAll_84 ?_
  refine j_istore_n C [(1, .int (nI 0)), (0, .ref (g 0))] rfl (by decide) rfl dX11_passAll_85 ?_
  have L86 : ∀ (n86 : Nat) (i : Nat) (i86_0 : i ≤ 6) (hm86 : 6 - i < n86), J X 0 0 (cM g kk (pr σ t (7 + 2 * i))) [(1, .int (nI i)), (0, .ref (g 0))] 86 [] := by
    intro n86
    induction n86 with
    | zero => intro i i86_0 hm; exact absurd hm (Nat.not_lt_zero _)
    | succ n86 ih86 =>
      intro i i86_0 hm86
      refine j_iload_n C 0 rfl dX11_passAll_86 ?_
      refine j_bipush C (nI 6) (by decide) dX11_passAll_87 ?_
      refine j_icmp_geN C 130 (by decide) (by omega) (by omega) dX11_passAll_89 (fun c1 => ?_) (fun c1 => ?_)
      · have ei : i = 6 := by omega
        subst ei
        refine j_w (cM g kk (pr σ t 19)) rfl ?_
        refine j_iconst C (nI 0) (by decide) dX11_passAll_130 ?_
        refine j_istore_n C [(1, .int (nI 0)), (0, .ref (g 0))] rfl (by decide) rfl dX11_passAll_131 ?_
        have L132 : ∀ (n132 : Nat) (i : Nat) (i132_0 : i ≤ 18) (hm132 : 18 - i < n132), J X 0 0 (cM g kk (pr σ t (19 + i))) [(1, .int (nI i)), (0, .ref (g 0))] 132 [] := by
          intro n132
          induction n132 with
          | zero => intro i i132_0 hm; exact absurd hm (Nat.not_lt_zero _)
          | succ n132 ih132 =>
            intro i i132_0 hm132
            refine j_iload_n C 0 rfl dX11_passAll_132 ?_
            refine j_bipush C (nI 18) (by decide) dX11_passAll_133 ?_
            refine j_icmp_geN C 160 (by decide) (by omega) (by omega) dX11_passAll_135 (fun c2 => ?_) (fun c2 => ?_)
            · have ei : i = 18 := by omega
              subst ei
              refine j_w (cM g kk (pr σ t 37)) rfl ?_
              refine j_iconst C (nI 0) (by decide) dX11_passAll_160 ?_
              refine j_istore_n C [(1, .int (nI 0)), (0, .ref (g 0))] rfl (by decide) rfl dX11_passAll_161 ?_
              have L162 : ∀ (n162 : Nat) (i : Nat) (i162_0 : i ≤ 28) (hm162 : 28 - i < n162), J X 0 0 (cM g kk (pr σ t (37 + i))) [(1, .int (nI i)), (0, .ref (g 0))] 162 [] := by
                intro n162
                induction n162 with
                | zero => intro i i162_0 hm; exact absurd hm (Nat.not_lt_zero _)
                | succ n162 ih162 =>
                  intro i i162_0 hm162
                  refine j_iload_n C 0 rfl dX11_passAll_162 ?_
                  refine j_bipush C (nI 28) (by decide) dX11_passAll_163 ?_
                  refine j_icmp_geN C 190 (by decide) (by omega) (by omega) dX11_passAll_165 (fun c3 => ?_) (fun c3 => ?_)
                  · have ei : i = 28 := by omega
                    subst ei
                    refine j_w (cM g kk (pr σ t 65)) rfl ?_
                    refine j_iconst C (nI 0) (by decide) dX11_passAll_190 ?_
                    refine j_istore_n C [(1, .int (nI 0)), (0, .ref (g 0))] rfl (by decide) rfl dX11_passAll_191 ?_
                    have L192 : ∀ (n192 : Nat) (i : Nat) (i192_0 : i ≤ 168) (hm192 : 168 - i < n192), J X 0 0 (cM g kk (pr σ t (65 + 4 * i))) [(1, .int (nI i)), (0, .ref (g 0))] 192 [] := by
                      intro n192
                      induction n192 with
                      | zero => intro i i192_0 hm; exact absurd hm (Nat.not_lt_zero _)
                      | succ n192 ih192 =>
                        intro i i192_0 hm192
                        refine j_iload_n C 0 rfl dX11_passAll_192 ?_
                        refine j_sipush C (nI 168) (by decide) dX11_passAll_193 ?_
                        refine j_icmp_geN C 269 (by decide) (by omega) (by omega) dX11_passAll_196 (fun c4 => ?_) (fun c4 => ?_)
                        · have ei : i = 168 := by omega
                          subst ei
                          refine j_w (cM g kk (pr σ t 737)) rfl ?_
                          refine j_iconst C (nI 0) (by decide) dX11_passAll_269 ?_
                          refine j_istore_n C [(1, .int (nI 0)), (0, .ref (g 0))] rfl (by decide) rfl dX11_passAll_270 ?_
                          have L271 : ∀ (n271 : Nat) (i : Nat) (i271_0 : i ≤ 20) (hm271 : 20 - i < n271), J X 0 0 (cM g kk (pr σ t (737 + 3 * i))) [(1, .int (nI i)), (0, .ref (g 0))] 271 [] := by
                            intro n271
                            induction n271 with
                            | zero => intro i i271_0 hm; exact absurd hm (Nat.not_lt_zero _)
                            | succ n271 ih271 =>
                              intro i i271_0 hm271
                              refine j_iload_n C 0 rfl dX11_passAll_271 ?_
                              refine j_bipush C (nI 20) (by decide) dX11_passAll_272 ?_
                              refine j_icmp_geN C 331 (by decide) (by omega) (by omega) dX11_passAll_274 (fun c5 => ?_) (fun c5 => ?_)
                              · have ei : i = 20 := by omega
                                subst ei
                                refine j_w (cM g kk (pr σ t 797)) rfl ?_
                                refine j_iconst C (nI 0) (by decide) dX11_passAll_331 ?_
                                refine j_istore_n C [(1, .int (nI 0)), (0, .ref (g 0))] rfl (by decide) rfl dX11_passAll_332 ?_
                                have L333 : ∀ (n333 : Nat) (i : Nat) (i333_0 : i ≤ 6) (hm333 : 6 - i < n333), J X 0 0 (cM g kk (pr σ t (797 + 5 * i))) [(1, .int (nI i)), (0, .ref (g 0))] 333 [] := by
                                  intro n333
                                  induction n333 with
                                  | zero => intro i i333_0 hm; exact absurd hm (Nat.not_lt_zero _)
                                  | succ n333 ih333 =>
                                    intro i i333_0 hm333
                                    refine j_iload_n C 0 rfl dX11_passAll_333 ?_
                                    refine j_bipush C (nI 6) (by decide) dX11_passAll_334 ?_
                                    refine j_icmp_geN C 425 (by decide) (by omega) (by omega) dX11_passAll_336 (fun c6 => ?_) (fun c6 => ?_)
                                    · have ei : i = 6 := by omega
                                      subst ei
                                      refine j_w (cM g kk (pr σ t 827)) rfl ?_
                                      exact j_vret C E (pr σ t 827) ⟨rfl, rfl⟩ rfl dX11_passAll_425
                                    · refine j_aload_n C 1 rfl dX11_passAll_339 ?_
                                      refine gM_0_41 C tb_914 dX11_passAll_340 ?_
                                      refine j_iload_n C 0 rfl dX11_passAll_343 ?_
                                      refine j_aload_n C 1 rfl dX11_passAll_344 ?_
                                      refine j_aload_n C 1 rfl dX11_passAll_345 ?_
                                      refine gM_0_41 C tb_914 dX11_passAll_346 ?_
                                      refine j_iload_n C 0 rfl dX11_passAll_349 ?_
                                      refine rM_26 C i rfl (by omega) (((pr σ t (797 + 5 * i)).2.1 26) i) rfl dX11_passAll_350 ?_
                                      refine j_V1 C (m_pR g kk σ t (797 + 5 * i) h57 (by omega) (by omega) (((pr σ t (797 + 5 * i)).2.1 26) i)) kyX11_pass tb_1326 tb_1328 sp_47 0 rfl (eM_0 g kk _) rfl (Nat.le_of_ble_eq_true rfl) ⟨by decide, by decide⟩ dX11_passAll_351 rfl (fun vr ur hp => ?_)
                                      obtain ⟨r, rfl, rfl, hu⟩ := hp
                                      replace hu := hu.symm
                                      subst hu
                                      refine tM_26 C i rfl (by omega) dX11_passAll_354 ?_
                                      refine j_w (cM g kk (pr σ t (797 + 5 * i + 1))) (congrArg (cM g kk) (pr_F (σ := σ) (t := t) (n := 797 + 5 * i) (c := 26) (i := i) (show i < 6 by omega) (by decide) (by omega) rfl (by decide))) ?_
                                      refine j_aload_n C 1 rfl dX11_passAll_355 ?_
                                      refine gM_0_42 C tb_915 dX11_passAll_356 ?_
                                      refine j_iload_n C 0 rfl dX11_passAll_359 ?_
                                      refine j_aload_n C 1 rfl dX11_passAll_360 ?_
                                      refine j_aload_n C 1 rfl dX11_passAll_361 ?_
                                      refine gM_0_42 C tb_915 dX11_passAll_362 ?_
                                      refine j_iload_n C 0 rfl dX11_passAll_365 ?_
                                      refine rM_27 C i rfl (by omega) (((pr σ t (797 + 5 * i + 1)).2.1 27) i) rfl dX11_passAll_366 ?_
                                      refine j_V1 C (m_pR g kk σ t (797 + 5 * i + 1) h57 (by omega) (by omega) (((pr σ t (797 + 5 * i + 1)).2.1 27) i)) kyX11_pass tb_1326 tb_1328 sp_47 0 rfl (eM_0 g kk _) rfl (Nat.le_of_ble_eq_true rfl) ⟨by decide, by decide⟩ dX11_passAll_367 rfl (fun vr ur hp => ?_)
                                      obtain ⟨r, rfl, rfl, hu⟩ := hp
                                      replace hu := hu.symm
                                      subst hu
                                      refine tM_27 C i rfl (by omega) dX11_passAll_370 ?_
                                      refine j_w (cM g kk (pr σ t (797 + 5 * i + 2))) (congrArg (cM g kk) (pr_F (σ := σ) (t := t) (n := 797 + 5 * i + 1) (c := 27) (i := i) (show i < 6 by omega) (by decide) (by omega) rfl (by decide))) ?_
                                      refine j_aload_n C 1 rfl dX11_passAll_371 ?_
                                      refine gM_0_43 C tb_916 dX11_passAll_372 ?_
                                      refine j_iload_n C 0 rfl dX11_passAll_375 ?_
                                      refine j_aload_n C 1 rfl dX11_passAll_376 ?_
                                      refine j_aload_n C 1 rfl dX11_passAll_377 ?_
                                      refine gM_0_43 C tb_916 dX11_passAll_378 ?_
                                      refine j_iload_n C 0 rfl dX11_passAll_381 ?_
                                      refine rM_28 C i rfl (by omega) (((pr σ t (797 + 5 * i + 2)).2.1 28) i) rfl dX11_passAll_382 ?_
                                      refine j_V1 C (m_pR g kk σ t (797 + 5 * i + 2) h57 (by omega) (by omega) (((pr σ t (797 + 5 * i + 2)).2.1 28) i)) kyX11_pass tb_1326 tb_1328 sp_47 0 rfl (eM_0 g kk _) rfl (Nat.le_of_ble_eq_true rfl) ⟨by decide, by decide⟩ dX11_passAll_383 rfl (fun vr ur hp => ?_)
                                      obtain ⟨r, rfl, rfl, hu⟩ := hp
                                      replace hu := hu.symm
                                      subst hu
                                      refine tM_28 C i rfl (by omega) dX11_passAll_386 ?_
                                      refine j_w (cM g kk (pr σ t (797 + 5 * i + 3))) (congrArg (cM g kk) (pr_F (σ := σ) (t := t) (n := 797 + 5 * i + 2) (c := 28) (i := i) (show i < 6 by omega) (by decide) (by omega) rfl (by decide))) ?_
                                      refine j_aload_n C 1 rfl dX11_passAll_387 ?_
                                      refine gM_0_44 C tb_917 dX11_passAll_388 ?_
                                      refine j_iload_n C 0 rfl dX11_passAll_391 ?_
                                      refine j_aload_n C 1 rfl dX11_passAll_392 ?_
                                      refine j_aload_n C 1 rfl dX11_passAll_393 ?_
                                      refine gM_0_44 C tb_917 dX11_passAll_394 ?_
                                      refine j_iload_n C 0 rfl dX11_passAll_397 ?_
                                      refine rM_29 C i rfl (by omega) (((pr σ t (797 + 5 * i + 3)).2.1 29) i) rfl dX11_passAll_398 ?_
                                      refine j_V1 C (m_pR g kk σ t (797 + 5 * i + 3) h57 (by omega) (by omega) (((pr σ t (797 + 5 * i + 3)).2.1 29) i)) kyX11_pass tb_1326 tb_1328 sp_47 0 rfl (eM_0 g kk _) rfl (Nat.le_of_ble_eq_true rfl) ⟨by decide, by decide⟩ dX11_passAll_399 rfl (fun vr ur hp => ?_)
                                      obtain ⟨r, rfl, rfl, hu⟩ := hp
                                      replace hu := hu.symm
                                      subst hu
                                      refine tM_29 C i rfl (by omega) dX11_passAll_402 ?_
                                      refine j_w (cM g kk (pr σ t (797 + 5 * i + 4))) (congrArg (cM g kk) (pr_F (σ := σ) (t := t) (n := 797 + 5 * i + 3) (c := 29) (i := i) (show i < 6 by omega) (by decide) (by omega) rfl (by decide))) ?_
                                      refine j_aload_n C 1 rfl dX11_passAll_403 ?_
                                      refine gM_0_45 C tb_918 dX11_passAll_404 ?_
                                      refine j_iload_n C 0 rfl dX11_passAll_407 ?_
                                      refine j_aload_n C 1 rfl dX11_passAll_408 ?_
                                      refine j_aload_n C 1 rfl dX11_passAll_409 ?_
                                      refine gM_0_45 C tb_918 dX11_passAll_410 ?_
                                      refine j_iload_n C 0 rfl dX11_passAll_413 ?_
                                      refine rM_30 C i rfl (by omega) (((pr σ t (797 + 5 * i + 4)).2.1 30) i) rfl dX11_passAll_414 ?_
                                      refine j_V1 C (m_pR g kk σ t (797 + 5 * i + 4) h57 (by omega) (by omega) (((pr σ t (797 + 5 * i + 4)).2.1 30) i)) kyX11_pass tb_1326 tb_1328 sp_47 0 rfl (eM_0 g kk _) rfl (Nat.le_of_ble_eq_true rfl) ⟨by decide, by decide⟩ dX11_passAll_415 rfl (fun vr ur hp => ?_)
                                      obtain ⟨r, rfl, rfl, hu⟩ := hp
                                      replace hu := hu.symm
                                      subst hu
                                      refine tM_30 C i rfl (by omega) dX11_passAll_418 ?_
                                      refine j_w (cM g kk (pr σ t (797 + 5 * i + 5))) (congrArg (cM g kk) (pr_F (σ := σ) (t := t) (n := 797 + 5 * i + 4) (c := 30) (i := i) (show i < 6 by omega) (by decide) (by omega) rfl (by decide))) ?_
                                      refine j_iinc C (nI (i + 1)) [(1, .int (nI (i + 1))), (0, .ref (g 0))] 0 rfl (by rw [show Int32.ofInt 1 = nI 1 from by decide, nI_add]) (by decide) rfl dX11_passAll_419 ?_
                                      refine j_goto C 333 (by decide) dX11_passAll_422 ?_
                                      refine j_w (cM g kk (pr σ t (797 + 5 * (i + 1)))) rfl ?_
                                      exact ih333 (i + 1) (by omega) (by omega)
                                refine j_w (cM g kk (pr σ t (797 + 5 * 0))) rfl ?_
                                exact L333 _ 0 (by omega) (Nat.lt_succ_self _)
                              · refine j_aload_n C 1 rfl dX11_passAll_277 ?_
                                refine gM_0_6 C tb_879 dX11_passAll_278 ?_
                                refine j_iload_n C 0 rfl dX11_passAll_281 ?_
                                refine j_aload_n C 1 rfl dX11_passAll_282 ?_
                                refine j_aload_n C 1 rfl dX11_passAll_283 ?_
                                refine gM_0_6 C tb_879 dX11_passAll_284 ?_
                                refine j_iload_n C 0 rfl dX11_passAll_287 ?_
                                refine rM_6 C i rfl (by omega) (((pr σ t (737 + 3 * i)).2.1 6) i) rfl dX11_passAll_288 ?_
                                refine j_V1 C (m_pR g kk σ t (737 + 3 * i) h57 (by omega) (by omega) (((pr σ t (737 + 3 * i)).2.1 6) i)) kyX11_pass tb_1326 tb_1328 sp_47 0 rfl (eM_0 g kk _) rfl (Nat.le_of_ble_eq_true rfl) ⟨by decide, by decide⟩ dX11_passAll_289 rfl (fun vr ur hp => ?_)
                                obtain ⟨r, rfl, rfl, hu⟩ := hp
                                replace hu := hu.symm
                                subst hu
                                refine tM_6 C i rfl (by omega) dX11_passAll_292 ?_
                                refine j_w (cM g kk (pr σ t (737 + 3 * i + 1))) (congrArg (cM g kk) (pr_F (σ := σ) (t := t) (n := 737 + 3 * i) (c := 6) (i := i) (show i < 20 by omega) (by decide) (by omega) rfl (by decide))) ?_
                                refine j_aload_n C 1 rfl dX11_passAll_293 ?_
                                refine gM_0_7 C tb_880 dX11_passAll_294 ?_
                                refine j_iload_n C 0 rfl dX11_passAll_297 ?_
                                refine j_aload_n C 1 rfl dX11_passAll_298 ?_
                                refine j_aload_n C 1 rfl dX11_passAll_299 ?_
                                refine gM_0_7 C tb_880 dX11_passAll_300 ?_
                                refine j_iload_n C 0 rfl dX11_passAll_303 ?_
                                refine rM_7 C i rfl (by omega) (((pr σ t (737 + 3 * i + 1)).2.1 7) i) rfl dX11_passAll_304 ?_
                                refine j_V1 C (m_pR g kk σ t (737 + 3 * i + 1) h57 (by omega) (by omega) (((pr σ t (737 + 3 * i + 1)).2.1 7) i)) kyX11_pass tb_1326 tb_1328 sp_47 0 rfl (eM_0 g kk _) rfl (Nat.le_of_ble_eq_true rfl) ⟨by decide, by decide⟩ dX11_passAll_305 rfl (fun vr ur hp => ?_)
                                obtain ⟨r, rfl, rfl, hu⟩ := hp
                                replace hu := hu.symm
                                subst hu
                                refine tM_7 C i rfl (by omega) dX11_passAll_308 ?_
                                refine j_w (cM g kk (pr σ t (737 + 3 * i + 2))) (congrArg (cM g kk) (pr_F (σ := σ) (t := t) (n := 737 + 3 * i + 1) (c := 7) (i := i) (show i < 20 by omega) (by decide) (by omega) rfl (by decide))) ?_
                                refine j_aload_n C 1 rfl dX11_passAll_309 ?_
                                refine gM_0_8 C tb_881 dX11_passAll_310 ?_
                                refine j_iload_n C 0 rfl dX11_passAll_313 ?_
                                refine j_aload_n C 1 rfl dX11_passAll_314 ?_
                                refine j_aload_n C 1 rfl dX11_passAll_315 ?_
                                refine gM_0_8 C tb_881 dX11_passAll_316 ?_
                                refine j_iload_n C 0 rfl dX11_passAll_319 ?_
                                refine rM_8 C i rfl (by omega) (((pr σ t (737 + 3 * i + 2)).2.1 8) i) rfl dX11_passAll_320 ?_
                                refine j_V1 C (m_pR g kk σ t (737 + 3 * i + 2) h57 (by omega) (by omega) (((pr σ t (737 + 3 * i + 2)).2.1 8) i)) kyX11_pass tb_1326 tb_1328 sp_47 0 rfl (eM_0 g kk _) rfl (Nat.le_of_ble_eq_true rfl) ⟨by decide, by decide⟩ dX11_passAll_321 rfl (fun vr ur hp => ?_)
                                obtain ⟨r, rfl, rfl, hu⟩ := hp
                                replace hu := hu.symm
                                subst hu
                                refine tM_8 C i rfl (by omega) dX11_passAll_324 ?_
                                refine j_w (cM g kk (pr σ t (737 + 3 * i + 3))) (congrArg (cM g kk) (pr_F (σ := σ) (t := t) (n := 737 + 3 * i + 2) (c := 8) (i := i) (show i < 20 by omega) (by decide) (by omega) rfl (by decide))) ?_
                                refine j_iinc C (nI (i + 1)) [(1, .int (nI (i + 1))), (0, .ref (g 0))] 0 rfl (by rw [show Int32.ofInt 1 = nI 1 from by decide, nI_add]) (by decide) rfl dX11_passAll_325 ?_
                                refine j_goto C 271 (by decide) dX11_passAll_328 ?_
                                refine j_w (cM g kk (pr σ t (737 + 3 * (i + 1)))) rfl ?_
                                exact ih271 (i + 1) (by omega) (by omega)
                          refine j_w (cM g kk (pr σ t (737 + 3 * 0))) rfl ?_
                          exact L271 _ 0 (by omega) (Nat.lt_succ_self _)
                        · refine j_aload_n C 1 rfl dX11_passAll_199 ?_
                          refine gM_0_5 C tb_878 dX11_passAll_200 ?_
                          refine j_iload_n C 0 rfl dX11_passAll_203 ?_
                          refine j_aload_n C 1 rfl dX11_passAll_204 ?_
                          refine j_aload_n C 1 rfl dX11_passAll_205 ?_
                          refine gM_0_5 C tb_878 dX11_passAll_206 ?_
                          refine j_iload_n C 0 rfl dX11_passAll_209 ?_
                          refine rM_5 C i rfl (by omega) (((pr σ t (65 + 4 * i)).2.1 5) i) rfl dX11_passAll_210 ?_
                          refine j_V1 C (m_pR g kk σ t (65 + 4 * i) h57 (by omega) (by omega) (((pr σ t (65 + 4 * i)).2.1 5) i)) kyX11_pass tb_1326 tb_1328 sp_47 0 rfl (eM_0 g kk _) rfl (Nat.le_of_ble_eq_true rfl) ⟨by decide, by decide⟩ dX11_passAll_211 rfl (fun vr ur hp => ?_)
                          obtain ⟨r, rfl, rfl, hu⟩ := hp
                          replace hu := hu.symm
                          subst hu
                          refine tM_5 C i rfl (by omega) dX11_passAll_214 ?_
                          refine j_w (cM g kk (pr σ t (65 + 4 * i + 1))) (congrArg (cM g kk) (pr_F (σ := σ) (t := t) (n := 65 + 4 * i) (c := 5) (i := i) (show i < 168 by omega) (by decide) (by omega) rfl (by decide))) ?_
                          refine j_aload_n C 1 rfl dX11_passAll_215 ?_
                          refine gM_0_16 C tb_889 dX11_passAll_216 ?_
                          refine j_iload_n C 0 rfl dX11_passAll_219 ?_
                          refine j_aload_n C 1 rfl dX11_passAll_220 ?_
                          refine j_aload_n C 1 rfl dX11_passAll_221 ?_
                          refine gM_0_16 C tb_889 dX11_passAll_222 ?_
                          refine j_iload_n C 0 rfl dX11_passAll_225 ?_
                          refine rM_10 C i rfl (by omega) (((pr σ t (65 + 4 * i + 1)).2.1 10) i) rfl dX11_passAll_226 ?_
                          refine j_V1 C (m_pR g kk σ t (65 + 4 * i + 1) h57 (by omega) (by omega) (((pr σ t (65 + 4 * i + 1)).2.1 10) i)) kyX11_pass tb_1326 tb_1328 sp_47 0 rfl (eM_0 g kk _) rfl (Nat.le_of_ble_eq_true rfl) ⟨by decide, by decide⟩ dX11_passAll_227 rfl (fun vr ur hp => ?_)
                          obtain ⟨r, rfl, rfl, hu⟩ := hp
                          replace hu := hu.symm
                          subst hu
                          refine tM_10 C i rfl (by omega) dX11_passAll_230 ?_
                          refine j_w (cM g kk (pr σ t (65 + 4 * i + 2))) (congrArg (cM g kk) (pr_F (σ := σ) (t := t) (n := 65 + 4 * i + 1) (c := 10) (i := i) (show i < 168 by omega) (by decide) (by omega) rfl (by decide))) ?_
                          refine j_aload_n C 1 rfl dX11_passAll_231 ?_
                          refine gM_0_17 C tb_890 dX11_passAll_232 ?_
                          refine j_iload_n C 0 rfl dX11_passAll_235 ?_
                          refine j_aload_n C 1 rfl dX11_passAll_236 ?_
                          refine j_aload_n C 1 rfl dX11_passAll_237 ?_
                          refine gM_0_17 C tb_890 dX11_passAll_238 ?_
                          refine j_iload_n C 0 rfl dX11_passAll_241 ?_
                          refine rM_11 C i rfl (by omega) (((pr σ t (65 + 4 * i + 2)).2.1 11) i) rfl dX11_passAll_242 ?_
                          refine j_V1 C (m_pR g kk σ t (65 + 4 * i + 2) h57 (by omega) (by omega) (((pr σ t (65 + 4 * i + 2)).2.1 11) i)) kyX11_pass tb_1326 tb_1328 sp_47 0 rfl (eM_0 g kk _) rfl (Nat.le_of_ble_eq_true rfl) ⟨by decide, by decide⟩ dX11_passAll_243 rfl (fun vr ur hp => ?_)
                          obtain ⟨r, rfl, rfl, hu⟩ := hp
                          replace hu := hu.symm
                          subst hu
                          refine tM_11 C i rfl (by omega) dX11_passAll_246 ?_
                          refine j_w (cM g kk (pr σ t (65 + 4 * i + 3))) (congrArg (cM g kk) (pr_F (σ := σ) (t := t) (n := 65 + 4 * i + 2) (c := 11) (i := i) (show i < 168 by omega) (by decide) (by omega) rfl (by decide))) ?_
                          refine j_aload_n C 1 rfl dX11_passAll_247 ?_
                          refine gM_0_18 C tb_891 dX11_passAll_248 ?_
                          refine j_iload_n C 0 rfl dX11_passAll_251 ?_
                          refine j_aload_n C 1 rfl dX11_passAll_252 ?_
                          refine j_aload_n C 1 rfl dX11_passAll_253 ?_
                          refine gM_0_18 C tb_891 dX11_passAll_254 ?_
                          refine j_iload_n C 0 rfl dX11_passAll_257 ?_
                          refine rM_12 C i rfl (by omega) (((pr σ t (65 + 4 * i + 3)).2.1 12) i) rfl dX11_passAll_258 ?_
                          refine j_V1 C (m_pR g kk σ t (65 + 4 * i + 3) h57 (by omega) (by omega) (((pr σ t (65 + 4 * i + 3)).2.1 12) i)) kyX11_pass tb_1326 tb_1328 sp_47 0 rfl (eM_0 g kk _) rfl (Nat.le_of_ble_eq_true rfl) ⟨by decide, by decide⟩ dX11_passAll_259 rfl (fun vr ur hp => ?_)
                          obtain ⟨r, rfl, rfl, hu⟩ := hp
                          replace hu := hu.symm
                          subst hu
                          refine tM_12 C i rfl (by omega) dX11_passAll_262 ?_
                          refine j_w (cM g kk (pr σ t (65 + 4 * i + 4))) (congrArg (cM g kk) (pr_F (σ := σ) (t := t) (n := 65 + 4 * i + 3) (c := 12) (i := i) (show i < 168 by omega) (by decide) (by omega) rfl (by decide))) ?_
                          refine j_iinc C (nI (i + 1)) [(1, .int (nI (i + 1))), (0, .ref (g 0))] 0 rfl (by rw [show Int32.ofInt 1 = nI 1 from by decide, nI_add]) (by decide) rfl dX11_passAll_263 ?_
                          refine j_goto C 192 (by decide) dX11_passAll_266 ?_
                          refine j_w (cM g kk (pr σ t (65 + 4 * (i + 1)))) rfl ?_
                          exact ih192 (i + 1) (by omega) (by omega)
                    refine j_w (cM g kk (pr σ t (65 + 4 * 0))) rfl ?_
                    exact L192 _ 0 (by omega) (Nat.lt_succ_self _)
                  · refine j_aload_n C 1 rfl dX11_passAll_168 ?_
                    refine gM_0_4 C tb_877 dX11_passAll_169 ?_
                    refine j_iload_n C 0 rfl dX11_passAll_172 ?_
                    refine j_aload_n C 1 rfl dX11_passAll_173 ?_
                    refine j_aload_n C 1 rfl dX11_passAll_174 ?_
                    refine gM_0_4 C tb_877 dX11_passAll_175 ?_
                    refine j_iload_n C 0 rfl dX11_passAll_178 ?_
                    refine rM_4 C i rfl (by omega) (((pr σ t (37 + i)).2.1 4) i) rfl dX11_passAll_179 ?_
                    refine j_V1 C (m_pR g kk σ t (37 + i) h57 (by omega) (by omega) (((pr σ t (37 + i)).2.1 4) i)) kyX11_pass tb_1326 tb_1328 sp_47 0 rfl (eM_0 g kk _) rfl (Nat.le_of_ble_eq_true rfl) ⟨by decide, by decide⟩ dX11_passAll_180 rfl (fun vr ur hp => ?_)
                    obtain ⟨r, rfl, rfl, hu⟩ := hp
                    replace hu := hu.symm
                    subst hu
                    refine tM_4 C i rfl (by omega) dX11_passAll_183 ?_
                    refine j_w (cM g kk (pr σ t (37 + i + 1))) (congrArg (cM g kk) (pr_F (σ := σ) (t := t) (n := 37 + i) (c := 4) (i := i) (show i < 28 by omega) (by decide) (by omega) rfl (by decide))) ?_
                    refine j_iinc C (nI (i + 1)) [(1, .int (nI (i + 1))), (0, .ref (g 0))] 0 rfl (by rw [show Int32.ofInt 1 = nI 1 from by decide, nI_add]) (by decide) rfl dX11_passAll_184 ?_
                    refine j_goto C 162 (by decide) dX11_passAll_187 ?_
                    refine j_w (cM g kk (pr σ t (37 + (i + 1)))) rfl ?_
                    exact ih162 (i + 1) (by omega) (by omega)
              refine j_w (cM g kk (pr σ t (37 + 0))) rfl ?_
              exact L162 _ 0 (by omega) (Nat.lt_succ_self _)
            · refine j_aload_n C 1 rfl dX11_passAll_138 ?_
              refine gM_0_2 C tb_875 dX11_passAll_139 ?_
              refine j_iload_n C 0 rfl dX11_passAll_142 ?_
              refine j_aload_n C 1 rfl dX11_passAll_143 ?_
              refine j_aload_n C 1 rfl dX11_passAll_144 ?_
              refine gM_0_2 C tb_875 dX11_passAll_145 ?_
              refine j_iload_n C 0 rfl dX11_passAll_148 ?_
              refine rM_3 C i rfl (by omega) (((pr σ t (19 + i)).2.1 3) i) rfl dX11_passAll_149 ?_
              refine j_V1 C (m_pR g kk σ t (19 + i) h57 (by omega) (by omega) (((pr σ t (19 + i)).2.1 3) i)) kyX11_pass tb_1326 tb_1328 sp_47 0 rfl (eM_0 g kk _) rfl (Nat.le_of_ble_eq_true rfl) ⟨by decide, by decide⟩ dX11_passAll_150 rfl (fun vr ur hp => ?_)
              obtain ⟨r, rfl, rfl, hu⟩ := hp
              replace hu := hu.symm
              subst hu
              refine tM_3 C i rfl (by omega) dX11_passAll_153 ?_
              refine j_w (cM g kk (pr σ t (19 + i + 1))) (congrArg (cM g kk) (pr_F (σ := σ) (t := t) (n := 19 + i) (c := 3) (i := i) (show i < 18 by omega) (by decide) (by omega) rfl (by decide))) ?_
              refine j_iinc C (nI (i + 1)) [(1, .int (nI (i + 1))), (0, .ref (g 0))] 0 rfl (by rw [show Int32.ofInt 1 = nI 1 from by decide, nI_add]) (by decide) rfl dX11_passAll_154 ?_
              refine j_goto C 132 (by decide) dX11_passAll_157 ?_
              refine j_w (cM g kk (pr σ t (19 + (i + 1)))) rfl ?_
              exact ih132 (i + 1) (by omega) (by omega)
        refine j_w (cM g kk (pr σ t (19 + 0))) rfl ?_
        exact L132 _ 0 (by omega) (Nat.lt_succ_self _)
      · refine j_aload_n C 1 rfl dX11_passAll_92 ?_
        refine gM_0_0 C tb_873 dX11_passAll_93 ?_
        refine j_iload_n C 0 rfl dX11_passAll_96 ?_
        refine j_aload_n C 1 rfl dX11_passAll_97 ?_
        refine j_aload_n C 1 rfl dX11_passAll_98 ?_
        refine gM_0_0 C tb_873 dX11_passAll_99 ?_
        refine j_iload_n C 0 rfl dX11_passAll_102 ?_
        refine rM_1 C i rfl (by omega) (((pr σ t (7 + 2 * i)).2.1 1) i) rfl dX11_passAll_103 ?_
        refine j_V1 C (m_pR g kk σ t (7 + 2 * i) h57 (by omega) (by omega) (((pr σ t (7 + 2 * i)).2.1 1) i)) kyX11_pass tb_1326 tb_1328 sp_47 0 rfl (eM_0 g kk _) rfl (Nat.le_of_ble_eq_true rfl) ⟨by decide, by decide⟩ dX11_passAll_104 rfl (fun vr ur hp => ?_)
        obtain ⟨r, rfl, rfl, hu⟩ := hp
        replace hu := hu.symm
        subst hu
        refine tM_1 C i rfl (by omega) dX11_passAll_107 ?_
        refine j_w (cM g kk (pr σ t (7 + 2 * i + 1))) (congrArg (cM g kk) (pr_F (σ := σ) (t := t) (n := 7 + 2 * i) (c := 1) (i := i) (show i < 6 by omega) (by decide) (by omega) rfl (by decide))) ?_
        refine j_aload_n C 1 rfl dX11_passAll_108 ?_
        refine gM_0_1 C tb_874 dX11_passAll_109 ?_
        refine j_iload_n C 0 rfl dX11_passAll_112 ?_
        refine j_aload_n C 1 rfl dX11_passAll_113 ?_
        refine j_aload_n C 1 rfl dX11_passAll_114 ?_
        refine gM_0_1 C tb_874 dX11_passAll_115 ?_
        refine j_iload_n C 0 rfl dX11_passAll_118 ?_
        refine rM_2 C i rfl (by omega) (((pr σ t (7 + 2 * i + 1)).2.1 2) i) rfl dX11_passAll_119 ?_
        refine j_V1 C (m_pR g kk σ t (7 + 2 * i + 1) h57 (by omega) (by omega) (((pr σ t (7 + 2 * i + 1)).2.1 2) i)) kyX11_pass tb_1326 tb_1328 sp_47 0 rfl (eM_0 g kk _) rfl (Nat.le_of_ble_eq_true rfl) ⟨by decide, by decide⟩ dX11_passAll_120 rfl (fun vr ur hp => ?_)
        obtain ⟨r, rfl, rfl, hu⟩ := hp
        replace hu := hu.symm
        subst hu
        refine tM_2 C i rfl (by omega) dX11_passAll_123 ?_
        refine j_w (cM g kk (pr σ t (7 + 2 * i + 2))) (congrArg (cM g kk) (pr_F (σ := σ) (t := t) (n := 7 + 2 * i + 1) (c := 2) (i := i) (show i < 6 by omega) (by decide) (by omega) rfl (by decide))) ?_
        refine j_iinc C (nI (i + 1)) [(1, .int (nI (i + 1))), (0, .ref (g 0))] 0 rfl (by rw [show Int32.ofInt 1 = nI 1 from by decide, nI_add]) (by decide) rfl dX11_passAll_124 ?_
        refine j_goto C 86 (by decide) dX11_passAll_127 ?_
        refine j_w (cM g kk (pr σ t (7 + 2 * (i + 1)))) rfl ?_
        exact ih86 (i + 1) (by omega) (by omega)
  refine j_w (cM g kk (pr σ t (7 + 2 * 0))) rfl ?_
  exact L86 _ 0 (by omega) (Nat.lt_succ_self _)
set_option maxRecDepth 100000 in
set_option maxHeartbeats 4000000 in
theorem m_image (g kk : Nat → Nat) (σ : St) (x : Int32) : jM (S := St) yX11_image cX11_image 2 (some .int) { frames := 2, cells := 0, slots := 0, locals := 43 } kk (cM g kk σ) [.ref (g 0), .int x] (cM g kk) (rI (fun (r : Int32) (u : St) => (∃ n : Nat, ((wB x (nI 0) (nI 1)) = true) ∧ (0 ≤ n) ∧ (n ≤ 1) ∧ (x = nI n) ∧ r = (nI 1) ∧ u = sF (pw (sI (sI σ 56 (nI (900 * n))) 57 (nI 1)) (900 * n) 827) 33 (upd ((pw (sI (sI σ 56 (nI (900 * n))) 57 (nI 1)) (900 * n) 827).2.1 33) n (vp_nar .boolean (nI 1)))) ∨ (((wB x (nI 0) (nI 1)) = false) ∧ r = (-2) ∧ u = σ))) := by
  refine j_entry [(0, .ref (g 0)), (1, .int x)] (by decide) (Nat.le_of_ble_eq_true rfl) rfl ?_
  intro X C E HI
  refine j_iload_n C 1 rfl dX11_image_0 ?_
  refine j_i2l C dX11_image_1 ?_
  refine j_lconst C 0 (by decide) dX11_image_2 ?_
  refine j_lconst C 1 (by decide) dX11_image_3 ?_
  refine j_S01 C (m_inB x (nI 0) (nI 1) 0 1 (by decide) (by decide)) kyX11_in tb_1057 tb_1058 rfl (Nat.le_of_ble_eq_true rfl) ⟨by decide, by decide⟩ ⟨by decide, by decide⟩ dX11_image_4 rfl ?_
  refine j_if_ne C 13 (by decide) dX11_image_7 (fun c1 => ?_) (fun c1 => ?_)
  · replace c1 := bI_t c1
    obtain ⟨n, n1, n2, ne⟩ := wB_nat (by decide) (by decide) c1
    rw [ne]
    refine j_aload_n C 0 rfl dX11_image_13 ?_
    refine j_sipush C (nI 900) (by decide) dX11_image_14 ?_
    refine j_iload_n C 1 rfl dX11_image_17 ?_
    refine j_imulN C dX11_image_18 ?_
    refine pM_0_56 C tb_929 dX11_image_19 ?_
    refine j_aload_n C 0 rfl dX11_image_22 ?_
    refine j_iconst C (nI 1) (by decide) dX11_image_23 ?_
    refine pM_0_57 C tb_930 rfl rfl dX11_image_24 ?_
    refine j_aload_n C 0 rfl dX11_image_27 ?_
    refine j_V1 C (m_allW g kk (sI (sI σ 56 (nI (900 * n))) 57 (nI 1)) (900 * n) rfl rfl (by omega)) kyX11_passAll tb_1322 tb_1324 sp_46 0 rfl (eM_0 g kk _) rfl (Nat.le_of_ble_eq_true rfl) ⟨by decide, by decide⟩ dX11_image_28 rfl (fun vr ur hp => ?_)
    obtain ⟨rfl, hu⟩ := hp
    replace hu := hu.symm
    subst hu
    refine j_aload_n C 0 rfl dX11_image_31 ?_
    refine gM_0_55 C tb_928 dX11_image_32 ?_
    refine j_iload_n C 1 rfl dX11_image_35 ?_
    refine j_iconst C (nI 1) (by decide) dX11_image_36 ?_
    refine tM_33 C n rfl (by omega) dX11_image_37 ?_
    refine j_iconst C (nI 1) (by decide) dX11_image_38 ?_
    exact j_iret C E (sF (pw (sI (sI σ 56 (nI (900 * n))) 57 (nI 1)) (900 * n) 827) 33 (upd ((pw (sI (sI σ 56 (nI (900 * n))) 57 (nI 1)) (900 * n) 827).2.1 33) n (vp_nar .boolean (nI 1)))) ⟨_, rfl, Or.inl ⟨n, c1, n1, n2, ne, rfl, rfl⟩⟩ rfl dX11_image_39
  · replace c1 := bI_f c1
    refine j_bipush C ((-2)) (by decide) dX11_image_10 ?_
    exact j_iret C E (σ) ⟨_, rfl, Or.inr (⟨c1, rfl, rfl⟩)⟩ rfl dX11_image_12
set_option maxRecDepth 100000 in
set_option maxHeartbeats 4000000 in
theorem m_restore (g kk : Nat → Nat) (σ : St) (x : Int32) : jM (S := St) yX11_restore cX11_restore 2 (some .int) { frames := 2, cells := 0, slots := 0, locals := 43 } kk (cM g kk σ) [.ref (g 0), .int x] (cM g kk) (rI (fun (r : Int32) (u : St) => (∃ n : Nat, ((wB x (nI 0) (nI 1)) = true) ∧ (0 ≤ n) ∧ (n ≤ 1) ∧ (x = nI n) ∧ (¬ ((σ.2.1 33) n) = 0) ∧ r = (nI 1) ∧ u = pr (sI (sI σ 56 (nI (900 * n))) 57 (nI 0)) (900 * n) 827) ∨ (∃ n : Nat, ((wB x (nI 0) (nI 1)) = true) ∧ (0 ≤ n) ∧ (n ≤ 1) ∧ (x = nI n) ∧ (((σ.2.1 33) n) = 0) ∧ r = (-3) ∧ u = σ) ∨ (((wB x (nI 0) (nI 1)) = false) ∧ r = (-2) ∧ u = σ))) := by
  refine j_entry [(0, .ref (g 0)), (1, .int x)] (by decide) (Nat.le_of_ble_eq_true rfl) rfl ?_
  intro X C E HI
  refine j_iload_n C 1 rfl dX11_restore_0 ?_
  refine j_i2l C dX11_restore_1 ?_
  refine j_lconst C 0 (by decide) dX11_restore_2 ?_
  refine j_lconst C 1 (by decide) dX11_restore_3 ?_
  refine j_S01 C (m_inB x (nI 0) (nI 1) 0 1 (by decide) (by decide)) kyX11_in tb_1057 tb_1058 rfl (Nat.le_of_ble_eq_true rfl) ⟨by decide, by decide⟩ ⟨by decide, by decide⟩ dX11_restore_4 rfl ?_
  refine j_if_ne C 13 (by decide) dX11_restore_7 (fun c1 => ?_) (fun c1 => ?_)
  · replace c1 := bI_t c1
    obtain ⟨n, n1, n2, ne⟩ := wB_nat (by decide) (by decide) c1
    rw [ne]
    refine j_aload_n C 0 rfl dX11_restore_13 ?_
    refine gM_0_55 C tb_928 dX11_restore_14 ?_
    refine j_iload_n C 1 rfl dX11_restore_17 ?_
    refine rM_33 C n rfl (by omega) ((σ.2.1 33) n) rfl dX11_restore_18 ?_
    refine j_if_ne C 25 (by decide) dX11_restore_19 (fun c2 => ?_) (fun c2 => ?_)
    · refine j_aload_n C 0 rfl dX11_restore_25 ?_
      refine j_sipush C (nI 900) (by decide) dX11_restore_26 ?_
      refine j_iload_n C 1 rfl dX11_restore_29 ?_
      refine j_imulN C dX11_restore_30 ?_
      refine pM_0_56 C tb_929 dX11_restore_31 ?_
      refine j_aload_n C 0 rfl dX11_restore_34 ?_
      refine j_iconst C (nI 0) (by decide) dX11_restore_35 ?_
      refine pM_0_57 C tb_930 rfl rfl dX11_restore_36 ?_
      refine j_aload_n C 0 rfl dX11_restore_39 ?_
      refine j_V1 C (m_allR g kk (sI (sI σ 56 (nI (900 * n))) 57 (nI 0)) (900 * n) rfl rfl (by omega)) kyX11_passAll tb_1322 tb_1324 sp_46 0 rfl (eM_0 g kk _) rfl (Nat.le_of_ble_eq_true rfl) ⟨by decide, by decide⟩ dX11_restore_40 rfl (fun vr ur hp => ?_)
      obtain ⟨rfl, hu⟩ := hp
      replace hu := hu.symm
      subst hu
      refine j_iconst C (nI 1) (by decide) dX11_restore_43 ?_
      exact j_iret C E (pr (sI (sI σ 56 (nI (900 * n))) 57 (nI 0)) (900 * n) 827) ⟨_, rfl, Or.inl ⟨n, c1, n1, n2, ne, c2, rfl, rfl⟩⟩ rfl dX11_restore_44
    · refine j_bipush C ((-3)) (by decide) dX11_restore_22 ?_
      exact j_iret C E (σ) ⟨_, rfl, Or.inr (Or.inl ⟨n, c1, n1, n2, ne, c2, rfl, rfl⟩)⟩ rfl dX11_restore_24
  · replace c1 := bI_f c1
    refine j_bipush C ((-2)) (by decide) dX11_restore_10 ?_
    exact j_iret C E (σ) ⟨_, rfl, Or.inr (Or.inr (⟨c1, rfl, rfl⟩))⟩ rfl dX11_restore_12
set_option maxRecDepth 100000 in
set_option maxHeartbeats 4000000 in
theorem c_fcopy_56_1 (g kk : Nat → Nat) (σ : St) : jM (S := St) yX1_copyFrom cX1_copyFrom 2 none { frames := 1, cells := 0, slots := 0, locals := 60 } kk (cX g kk σ) [.ref (g 66), .ref (g 11)] (cX g kk) (rV (fun u : St => (u = sF (sF (sF (sF (sI σ 1056 (σ.1 176)) 67 (va_cpy (σ.2.1 12) (σ.2.1 67) 0 0 20)) 68 (va_cpy (σ.2.1 13) (σ.2.1 68) 0 0 20)) 69 (va_cpy (σ.2.1 14) (σ.2.1 69) 0 0 20)) 70 (va_cpy (σ.2.1 15) (σ.2.1 70) 0 0 168)))) := by
  refine j_entry [(0, .ref (g 66)), (1, .ref (g 11))] (by decide) (Nat.le_of_ble_eq_true rfl) rfl ?_
  intro X C E HI
  refine j_aload_n C 0 rfl dX1_copyFrom_0 ?_
  refine j_aload_n C 1 rfl dX1_copyFrom_1 ?_
  refine gX_11_0 C tb_39 (σ.1 176) rfl dX1_copyFrom_2 ?_
  refine pX_66_0 C tb_39 dX1_copyFrom_5 ?_
  refine j_aload_n C 1 rfl dX1_copyFrom_8 ?_
  refine gX_11_1 C tb_41 dX1_copyFrom_9 ?_
  refine j_iconst C (nI 0) (by decide) dX1_copyFrom_12 ?_
  refine j_aload_n C 0 rfl dX1_copyFrom_13 ?_
  refine gX_66_1 C tb_41 dX1_copyFrom_14 ?_
  refine j_iconst C (nI 0) (by decide) dX1_copyFrom_17 ?_
  refine j_bipush C (nI 20) (by decide) dX1_copyFrom_18 ?_
  refine j_copy C tb_853 tb_96 tb_95 tb_6 12 67 rfl rfl 0 0 20 rfl rfl rfl (by omega) (by omega) (by decide) (by decide) (by decide) (Nat.le_of_ble_eq_true rfl) (w' := (cX g kk (sF (sI σ 1056 (σ.1 176)) 67 (va_cpy (σ.2.1 12) (σ.2.1 67) 0 0 20)))) rfl dX1_copyFrom_20 ?_
  refine j_aload_n C 1 rfl dX1_copyFrom_23 ?_
  refine gX_11_2 C tb_42 dX1_copyFrom_24 ?_
  refine j_iconst C (nI 0) (by decide) dX1_copyFrom_27 ?_
  refine j_aload_n C 0 rfl dX1_copyFrom_28 ?_
  refine gX_66_2 C tb_42 dX1_copyFrom_29 ?_
  refine j_iconst C (nI 0) (by decide) dX1_copyFrom_32 ?_
  refine j_bipush C (nI 20) (by decide) dX1_copyFrom_33 ?_
  refine j_copy C tb_853 tb_96 tb_95 tb_6 13 68 rfl rfl 0 0 20 rfl rfl rfl (by omega) (by omega) (by decide) (by decide) (by decide) (Nat.le_of_ble_eq_true rfl) (w' := (cX g kk (sF (sF (sI σ 1056 (σ.1 176)) 67 (va_cpy (σ.2.1 12) (σ.2.1 67) 0 0 20)) 68 (va_cpy (σ.2.1 13) (σ.2.1 68) 0 0 20)))) rfl dX1_copyFrom_35 ?_
  refine j_aload_n C 1 rfl dX1_copyFrom_38 ?_
  refine gX_11_3 C tb_44 dX1_copyFrom_39 ?_
  refine j_iconst C (nI 0) (by decide) dX1_copyFrom_42 ?_
  refine j_aload_n C 0 rfl dX1_copyFrom_43 ?_
  refine gX_66_3 C tb_44 dX1_copyFrom_44 ?_
  refine j_iconst C (nI 0) (by decide) dX1_copyFrom_47 ?_
  refine j_bipush C (nI 20) (by decide) dX1_copyFrom_48 ?_
  refine j_copy C tb_853 tb_96 tb_95 tb_6 14 69 rfl rfl 0 0 20 rfl rfl rfl (by omega) (by omega) (by decide) (by decide) (by decide) (Nat.le_of_ble_eq_true rfl) (w' := (cX g kk (sF (sF (sF (sI σ 1056 (σ.1 176)) 67 (va_cpy (σ.2.1 12) (σ.2.1 67) 0 0 20)) 68 (va_cpy (σ.2.1 13) (σ.2.1 68) 0 0 20)) 69 (va_cpy (σ.2.1 14) (σ.2.1 69) 0 0 20)))) rfl dX1_copyFrom_50 ?_
  refine j_aload_n C 1 rfl dX1_copyFrom_53 ?_
  refine gX_11_4 C tb_45 dX1_copyFrom_54 ?_
  refine j_iconst C (nI 0) (by decide) dX1_copyFrom_57 ?_
  refine j_aload_n C 0 rfl dX1_copyFrom_58 ?_
  refine gX_66_4 C tb_45 dX1_copyFrom_59 ?_
  refine j_iconst C (nI 0) (by decide) dX1_copyFrom_62 ?_
  refine j_sipush C (nI 168) (by decide) dX1_copyFrom_63 ?_
  refine j_copy C tb_853 tb_96 tb_95 tb_6 15 70 rfl rfl 0 0 168 rfl rfl rfl (by omega) (by omega) (by decide) (by decide) (by decide) (Nat.le_of_ble_eq_true rfl) (w' := (cX g kk (sF (sF (sF (sF (sI σ 1056 (σ.1 176)) 67 (va_cpy (σ.2.1 12) (σ.2.1 67) 0 0 20)) 68 (va_cpy (σ.2.1 13) (σ.2.1 68) 0 0 20)) 69 (va_cpy (σ.2.1 14) (σ.2.1 69) 0 0 20)) 70 (va_cpy (σ.2.1 15) (σ.2.1 70) 0 0 168)))) rfl dX1_copyFrom_66 ?_
  exact j_vret C E (sF (sF (sF (sF (sI σ 1056 (σ.1 176)) 67 (va_cpy (σ.2.1 12) (σ.2.1 67) 0 0 20)) 68 (va_cpy (σ.2.1 13) (σ.2.1 68) 0 0 20)) 69 (va_cpy (σ.2.1 14) (σ.2.1 69) 0 0 20)) 70 (va_cpy (σ.2.1 15) (σ.2.1 70) 0 0 168)) ⟨rfl, rfl⟩ rfl dX1_copyFrom_69
set_option maxRecDepth 100000 in
set_option maxHeartbeats 4000000 in
theorem c_rcopy_56_1 (g kk : Nat → Nat) (σ : St) : jM (S := St) yX6_copyFrom cX6_copyFrom 2 none { frames := 1, cells := 0, slots := 0, locals := 60 } kk (cX g kk σ) [.ref (g 71), .ref (g 16)] (cX g kk) (rV (fun u : St => (u = sF (sF (sF (sF (sF (sI σ 1136 (σ.1 256)) 72 (va_cpy (σ.2.1 17) (σ.2.1 72) 0 0 6)) 73 (va_cpy (σ.2.1 18) (σ.2.1 73) 0 0 6)) 74 (va_cpy (σ.2.1 19) (σ.2.1 74) 0 0 6)) 75 (va_cpy (σ.2.1 20) (σ.2.1 75) 0 0 6)) 76 (va_cpy (σ.2.1 21) (σ.2.1 76) 0 0 6)))) := by
  refine j_entry [(0, .ref (g 71)), (1, .ref (g 16))] (by decide) (Nat.le_of_ble_eq_true rfl) rfl ?_
  intro X C E HI
  refine j_aload_n C 0 rfl dX6_copyFrom_0 ?_
  refine j_aload_n C 1 rfl dX6_copyFrom_1 ?_
  refine gX_16_0 C tb_65 (σ.1 256) rfl dX6_copyFrom_2 ?_
  refine pX_71_0 C tb_65 dX6_copyFrom_5 ?_
  refine j_aload_n C 1 rfl dX6_copyFrom_8 ?_
  refine gX_16_1 C tb_68 dX6_copyFrom_9 ?_
  refine j_iconst C (nI 0) (by decide) dX6_copyFrom_12 ?_
  refine j_aload_n C 0 rfl dX6_copyFrom_13 ?_
  refine gX_71_1 C tb_68 dX6_copyFrom_14 ?_
  refine j_iconst C (nI 0) (by decide) dX6_copyFrom_17 ?_
  refine j_bipush C (nI 6) (by decide) dX6_copyFrom_18 ?_
  refine j_copy C tb_858 tb_96 tb_95 tb_6 17 72 rfl rfl 0 0 6 rfl rfl rfl (by omega) (by omega) (by decide) (by decide) (by decide) (Nat.le_of_ble_eq_true rfl) (w' := (cX g kk (sF (sI σ 1136 (σ.1 256)) 72 (va_cpy (σ.2.1 17) (σ.2.1 72) 0 0 6)))) rfl dX6_copyFrom_20 ?_
  refine j_aload_n C 1 rfl dX6_copyFrom_23 ?_
  refine gX_16_2 C tb_70 dX6_copyFrom_24 ?_
  refine j_iconst C (nI 0) (by decide) dX6_copyFrom_27 ?_
  refine j_aload_n C 0 rfl dX6_copyFrom_28 ?_
  refine gX_71_2 C tb_70 dX6_copyFrom_29 ?_
  refine j_iconst C (nI 0) (by decide) dX6_copyFrom_32 ?_
  refine j_bipush C (nI 6) (by decide) dX6_copyFrom_33 ?_
  refine j_copy C tb_858 tb_96 tb_95 tb_6 18 73 rfl rfl 0 0 6 rfl rfl rfl (by omega) (by omega) (by decide) (by decide) (by decide) (Nat.le_of_ble_eq_true rfl) (w' := (cX g kk (sF (sF (sI σ 1136 (σ.1 256)) 72 (va_cpy (σ.2.1 17) (σ.2.1 72) 0 0 6)) 73 (va_cpy (σ.2.1 18) (σ.2.1 73) 0 0 6)))) rfl dX6_copyFrom_35 ?_
  refine j_aload_n C 1 rfl dX6_copyFrom_38 ?_
  refine gX_16_3 C tb_72 dX6_copyFrom_39 ?_
  refine j_iconst C (nI 0) (by decide) dX6_copyFrom_42 ?_
  refine j_aload_n C 0 rfl dX6_copyFrom_43 ?_
  refine gX_71_3 C tb_72 dX6_copyFrom_44 ?_
  refine j_iconst C (nI 0) (by decide) dX6_copyFrom_47 ?_
  refine j_bipush C (nI 6) (by decide) dX6_copyFrom_48 ?_
  refine j_copy C tb_858 tb_96 tb_95 tb_6 19 74 rfl rfl 0 0 6 rfl rfl rfl (by omega) (by omega) (by decide) (by decide) (by decide) (Nat.le_of_ble_eq_true rfl) (w' := (cX g kk (sF (sF (sF (sI σ 1136 (σ.1 256)) 72 (va_cpy (σ.2.1 17) (σ.2.1 72) 0 0 6)) 73 (va_cpy (σ.2.1 18) (σ.2.1 73) 0 0 6)) 74 (va_cpy (σ.2.1 19) (σ.2.1 74) 0 0 6)))) rfl dX6_copyFrom_50 ?_
  refine j_aload_n C 1 rfl dX6_copyFrom_53 ?_
  refine gX_16_4 C tb_74 dX6_copyFrom_54 ?_
  refine j_iconst C (nI 0) (by decide) dX6_copyFrom_57 ?_
  refine j_aload_n C 0 rfl dX6_copyFrom_58 ?_
  refine gX_71_4 C tb_74 dX6_copyFrom_59 ?_
  refine j_iconst C (nI 0) (by decide) dX6_copyFrom_62 ?_
  refine j_bipush C (nI 6) (by decide) dX6_copyFrom_63 ?_
  refine j_copy C tb_858 tb_96 tb_95 tb_6 20 75 rfl rfl 0 0 6 rfl rfl rfl (by omega) (by omega) (by decide) (by decide) (by decide) (Nat.le_of_ble_eq_true rfl) (w' := (cX g kk (sF (sF (sF (sF (sI σ 1136 (σ.1 256)) 72 (va_cpy (σ.2.1 17) (σ.2.1 72) 0 0 6)) 73 (va_cpy (σ.2.1 18) (σ.2.1 73) 0 0 6)) 74 (va_cpy (σ.2.1 19) (σ.2.1 74) 0 0 6)) 75 (va_cpy (σ.2.1 20) (σ.2.1 75) 0 0 6)))) rfl dX6_copyFrom_65 ?_
  refine j_aload_n C 1 rfl dX6_copyFrom_68 ?_
  refine gX_16_5 C tb_76 dX6_copyFrom_69 ?_
  refine j_iconst C (nI 0) (by decide) dX6_copyFrom_72 ?_
  refine j_aload_n C 0 rfl dX6_copyFrom_73 ?_
  refine gX_71_5 C tb_76 dX6_copyFrom_74 ?_
  refine j_iconst C (nI 0) (by decide) dX6_copyFrom_77 ?_
  refine j_bipush C (nI 6) (by decide) dX6_copyFrom_78 ?_
  refine j_copy C tb_858 tb_96 tb_95 tb_6 21 76 rfl rfl 0 0 6 rfl rfl rfl (by omega) (by omega) (by decide) (by decide) (by decide) (Nat.le_of_ble_eq_true rfl) (w' := (cX g kk (sF (sF (sF (sF (sF (sI σ 1136 (σ.1 256)) 72 (va_cpy (σ.2.1 17) (σ.2.1 72) 0 0 6)) 73 (va_cpy (σ.2.1 18) (σ.2.1 73) 0 0 6)) 74 (va_cpy (σ.2.1 19) (σ.2.1 74) 0 0 6)) 75 (va_cpy (σ.2.1 20) (σ.2.1 75) 0 0 6)) 76 (va_cpy (σ.2.1 21) (σ.2.1 76) 0 0 6)))) rfl dX6_copyFrom_80 ?_
  exact j_vret C E (sF (sF (sF (sF (sF (sI σ 1136 (σ.1 256)) 72 (va_cpy (σ.2.1 17) (σ.2.1 72) 0 0 6)) 73 (va_cpy (σ.2.1 18) (σ.2.1 73) 0 0 6)) 74 (va_cpy (σ.2.1 19) (σ.2.1 74) 0 0 6)) 75 (va_cpy (σ.2.1 20) (σ.2.1 75) 0 0 6)) 76 (va_cpy (σ.2.1 21) (σ.2.1 76) 0 0 6)) ⟨rfl, rfl⟩ rfl dX6_copyFrom_83
set_option maxRecDepth 100000 in
set_option maxHeartbeats 4000000 in
theorem c_gcopy_56_1 (g kk : Nat → Nat) (σ : St) : jM (S := St) yX2_copyFrom cX2_copyFrom 2 none { frames := 2, cells := 0, slots := 0, locals := 81 } kk (cX g kk σ) [.ref (g 56), .ref (g 1)] (cX g kk) (rV (fun u : St => (u = sF (sF (sF (sF (sF (sI (sF (sF (sF (sF (sI (sF (sF (sF (sF (sF (sF (sF (sF (sF (sI σ 896 (σ.1 16)) 57 (va_cpy (σ.2.1 2) (σ.2.1 57) 0 0 6)) 58 (va_cpy (σ.2.1 3) (σ.2.1 58) 0 0 6)) 59 (va_cpy (σ.2.1 4) (σ.2.1 59) 0 0 18)) 60 (va_cpy (σ.2.1 5) (σ.2.1 60) 0 0 28)) 61 (va_cpy (σ.2.1 6) (σ.2.1 61) 0 0 168)) 62 (va_cpy (σ.2.1 7) (σ.2.1 62) 0 0 168)) 63 (va_cpy (σ.2.1 8) (σ.2.1 63) 0 0 168)) 64 (va_cpy (σ.2.1 9) (σ.2.1 64) 0 0 168)) 65 (va_cpy (σ.2.1 10) (σ.2.1 65) 0 0 4)) 1056 (σ.1 176)) 67 (va_cpy (σ.2.1 12) (σ.2.1 67) 0 0 20)) 68 (va_cpy (σ.2.1 13) (σ.2.1 68) 0 0 20)) 69 (va_cpy (σ.2.1 14) (σ.2.1 69) 0 0 20)) 70 (va_cpy (σ.2.1 15) (σ.2.1 70) 0 0 168)) 1136 (σ.1 256)) 72 (va_cpy (σ.2.1 17) (σ.2.1 72) 0 0 6)) 73 (va_cpy (σ.2.1 18) (σ.2.1 73) 0 0 6)) 74 (va_cpy (σ.2.1 19) (σ.2.1 74) 0 0 6)) 75 (va_cpy (σ.2.1 20) (σ.2.1 75) 0 0 6)) 76 (va_cpy (σ.2.1 21) (σ.2.1 76) 0 0 6)))) := by
  refine j_entry [(0, .ref (g 56)), (1, .ref (g 1))] (by decide) (Nat.le_of_ble_eq_true rfl) rfl ?_
  intro X C E HI
  refine j_aload_n C 0 rfl dX2_copyFrom_0 ?_
  refine j_aload_n C 1 rfl dX2_copyFrom_1 ?_
  refine gX_1_0 C tb_97 (σ.1 16) rfl dX2_copyFrom_2 ?_
  refine pX_56_0 C tb_97 dX2_copyFrom_5 ?_
  refine j_aload_n C 1 rfl dX2_copyFrom_8 ?_
  refine gX_1_1 C tb_102 dX2_copyFrom_9 ?_
  refine j_iconst C (nI 0) (by decide) dX2_copyFrom_12 ?_
  refine j_aload_n C 0 rfl dX2_copyFrom_13 ?_
  refine gX_56_1 C tb_102 dX2_copyFrom_14 ?_
  refine j_iconst C (nI 0) (by decide) dX2_copyFrom_17 ?_
  refine j_bipush C (nI 6) (by decide) dX2_copyFrom_18 ?_
  refine j_copy C tb_94 tb_96 tb_95 tb_6 2 57 rfl rfl 0 0 6 rfl rfl rfl (by omega) (by omega) (by decide) (by decide) (by decide) (Nat.le_of_ble_eq_true rfl) (w' := (cX g kk (sF (sI σ 896 (σ.1 16)) 57 (va_cpy (σ.2.1 2) (σ.2.1 57) 0 0 6)))) rfl dX2_copyFrom_20 ?_
  refine j_aload_n C 1 rfl dX2_copyFrom_23 ?_
  refine gX_1_2 C tb_106 dX2_copyFrom_24 ?_
  refine j_iconst C (nI 0) (by decide) dX2_copyFrom_27 ?_
  refine j_aload_n C 0 rfl dX2_copyFrom_28 ?_
  refine gX_56_2 C tb_106 dX2_copyFrom_29 ?_
  refine j_iconst C (nI 0) (by decide) dX2_copyFrom_32 ?_
  refine j_bipush C (nI 6) (by decide) dX2_copyFrom_33 ?_
  refine j_copy C tb_94 tb_96 tb_95 tb_6 3 58 rfl rfl 0 0 6 rfl rfl rfl (by omega) (by omega) (by decide) (by decide) (by decide) (Nat.le_of_ble_eq_true rfl) (w' := (cX g kk (sF (sF (sI σ 896 (σ.1 16)) 57 (va_cpy (σ.2.1 2) (σ.2.1 57) 0 0 6)) 58 (va_cpy (σ.2.1 3) (σ.2.1 58) 0 0 6)))) rfl dX2_copyFrom_35 ?_
  refine j_aload_n C 1 rfl dX2_copyFrom_38 ?_
  refine gX_1_3 C tb_110 dX2_copyFrom_39 ?_
  refine j_iconst C (nI 0) (by decide) dX2_copyFrom_42 ?_
  refine j_aload_n C 0 rfl dX2_copyFrom_43 ?_
  refine gX_56_3 C tb_110 dX2_copyFrom_44 ?_
  refine j_iconst C (nI 0) (by decide) dX2_copyFrom_47 ?_
  refine j_bipush C (nI 18) (by decide) dX2_copyFrom_48 ?_
  refine j_copy C tb_94 tb_96 tb_95 tb_6 4 59 rfl rfl 0 0 18 rfl rfl rfl (by omega) (by omega) (by decide) (by decide) (by decide) (Nat.le_of_ble_eq_true rfl) (w' := (cX g kk (sF (sF (sF (sI σ 896 (σ.1 16)) 57 (va_cpy (σ.2.1 2) (σ.2.1 57) 0 0 6)) 58 (va_cpy (σ.2.1 3) (σ.2.1 58) 0 0 6)) 59 (va_cpy (σ.2.1 4) (σ.2.1 59) 0 0 18)))) rfl dX2_copyFrom_50 ?_
  refine j_aload_n C 1 rfl dX2_copyFrom_53 ?_
  refine gX_1_4 C tb_113 dX2_copyFrom_54 ?_
  refine j_iconst C (nI 0) (by decide) dX2_copyFrom_57 ?_
  refine j_aload_n C 0 rfl dX2_copyFrom_58 ?_
  refine gX_56_4 C tb_113 dX2_copyFrom_59 ?_
  refine j_iconst C (nI 0) (by decide) dX2_copyFrom_62 ?_
  refine j_bipush C (nI 28) (by decide) dX2_copyFrom_63 ?_
  refine j_copy C tb_94 tb_96 tb_95 tb_6 5 60 rfl rfl 0 0 28 rfl rfl rfl (by omega) (by omega) (by decide) (by decide) (by decide) (Nat.le_of_ble_eq_true rfl) (w' := (cX g kk (sF (sF (sF (sF (sI σ 896 (σ.1 16)) 57 (va_cpy (σ.2.1 2) (σ.2.1 57) 0 0 6)) 58 (va_cpy (σ.2.1 3) (σ.2.1 58) 0 0 6)) 59 (va_cpy (σ.2.1 4) (σ.2.1 59) 0 0 18)) 60 (va_cpy (σ.2.1 5) (σ.2.1 60) 0 0 28)))) rfl dX2_copyFrom_65 ?_
  refine j_aload_n C 1 rfl dX2_copyFrom_68 ?_
  refine gX_1_5 C tb_116 dX2_copyFrom_69 ?_
  refine j_iconst C (nI 0) (by decide) dX2_copyFrom_72 ?_
  refine j_aload_n C 0 rfl dX2_copyFrom_73 ?_
  refine gX_56_5 C tb_116 dX2_copyFrom_74 ?_
  refine j_iconst C (nI 0) (by decide) dX2_copyFrom_77 ?_
  refine j_sipush C (nI 168) (by decide) dX2_copyFrom_78 ?_
  refine j_copy C tb_94 tb_96 tb_95 tb_6 6 61 rfl rfl 0 0 168 rfl rfl rfl (by omega) (by omega) (by decide) (by decide) (by decide) (Nat.le_of_ble_eq_true rfl) (w' := (cX g kk (sF (sF (sF (sF (sF (sI σ 896 (σ.1 16)) 57 (va_cpy (σ.2.1 2) (σ.2.1 57) 0 0 6)) 58 (va_cpy (σ.2.1 3) (σ.2.1 58) 0 0 6)) 59 (va_cpy (σ.2.1 4) (σ.2.1 59) 0 0 18)) 60 (va_cpy (σ.2.1 5) (σ.2.1 60) 0 0 28)) 61 (va_cpy (σ.2.1 6) (σ.2.1 61) 0 0 168)))) rfl dX2_copyFrom_81 ?_
  refine j_aload_n C 1 rfl dX2_copyFrom_84 ?_
  refine gX_1_6 C tb_120 dX2_copyFrom_85 ?_
  refine j_iconst C (nI 0) (by decide) dX2_copyFrom_88 ?_
  refine j_aload_n C 0 rfl dX2_copyFrom_89 ?_
  refine gX_56_6 C tb_120 dX2_copyFrom_90 ?_
  refine j_iconst C (nI 0) (by decide) dX2_copyFrom_93 ?_
  refine j_sipush C (nI 168) (by decide) dX2_copyFrom_94 ?_
  refine j_copy C tb_94 tb_96 tb_95 tb_6 7 62 rfl rfl 0 0 168 rfl rfl rfl (by omega) (by omega) (by decide) (by decide) (by decide) (Nat.le_of_ble_eq_true rfl) (w' := (cX g kk (sF (sF (sF (sF (sF (sF (sI σ 896 (σ.1 16)) 57 (va_cpy (σ.2.1 2) (σ.2.1 57) 0 0 6)) 58 (va_cpy (σ.2.1 3) (σ.2.1 58) 0 0 6)) 59 (va_cpy (σ.2.1 4) (σ.2.1 59) 0 0 18)) 60 (va_cpy (σ.2.1 5) (σ.2.1 60) 0 0 28)) 61 (va_cpy (σ.2.1 6) (σ.2.1 61) 0 0 168)) 62 (va_cpy (σ.2.1 7) (σ.2.1 62) 0 0 168)))) rfl dX2_copyFrom_97 ?_
  refine j_aload_n C 1 rfl dX2_copyFrom_100 ?_
  refine gX_1_7 C tb_122 dX2_copyFrom_101 ?_
  refine j_iconst C (nI 0) (by decide) dX2_copyFrom_104 ?_
  refine j_aload_n C 0 rfl dX2_copyFrom_105 ?_
  refine gX_56_7 C tb_122 dX2_copyFrom_106 ?_
  refine j_iconst C (nI 0) (by decide) dX2_copyFrom_109 ?_
  refine j_sipush C (nI 168) (by decide) dX2_copyFrom_110 ?_
  refine j_copy C tb_94 tb_96 tb_95 tb_6 8 63 rfl rfl 0 0 168 rfl rfl rfl (by omega) (by omega) (by decide) (by decide) (by decide) (Nat.le_of_ble_eq_true rfl) (w' := (cX g kk (sF (sF (sF (sF (sF (sF (sF (sI σ 896 (σ.1 16)) 57 (va_cpy (σ.2.1 2) (σ.2.1 57) 0 0 6)) 58 (va_cpy (σ.2.1 3) (σ.2.1 58) 0 0 6)) 59 (va_cpy (σ.2.1 4) (σ.2.1 59) 0 0 18)) 60 (va_cpy (σ.2.1 5) (σ.2.1 60) 0 0 28)) 61 (va_cpy (σ.2.1 6) (σ.2.1 61) 0 0 168)) 62 (va_cpy (σ.2.1 7) (σ.2.1 62) 0 0 168)) 63 (va_cpy (σ.2.1 8) (σ.2.1 63) 0 0 168)))) rfl dX2_copyFrom_113 ?_
  refine j_aload_n C 1 rfl dX2_copyFrom_116 ?_
  refine gX_1_8 C tb_124 dX2_copyFrom_117 ?_
  refine j_iconst C (nI 0) (by decide) dX2_copyFrom_120 ?_
  refine j_aload_n C 0 rfl dX2_copyFrom_121 ?_
  refine gX_56_8 C tb_124 dX2_copyFrom_122 ?_
  refine j_iconst C (nI 0) (by decide) dX2_copyFrom_125 ?_
  refine j_sipush C (nI 168) (by decide) dX2_copyFrom_126 ?_
  refine j_copy C tb_94 tb_96 tb_95 tb_6 9 64 rfl rfl 0 0 168 rfl rfl rfl (by omega) (by omega) (by decide) (by decide) (by decide) (Nat.le_of_ble_eq_true rfl) (w' := (cX g kk (sF (sF (sF (sF (sF (sF (sF (sF (sI σ 896 (σ.1 16)) 57 (va_cpy (σ.2.1 2) (σ.2.1 57) 0 0 6)) 58 (va_cpy (σ.2.1 3) (σ.2.1 58) 0 0 6)) 59 (va_cpy (σ.2.1 4) (σ.2.1 59) 0 0 18)) 60 (va_cpy (σ.2.1 5) (σ.2.1 60) 0 0 28)) 61 (va_cpy (σ.2.1 6) (σ.2.1 61) 0 0 168)) 62 (va_cpy (σ.2.1 7) (σ.2.1 62) 0 0 168)) 63 (va_cpy (σ.2.1 8) (σ.2.1 63) 0 0 168)) 64 (va_cpy (σ.2.1 9) (σ.2.1 64) 0 0 168)))) rfl dX2_copyFrom_129 ?_
  refine j_aload_n C 1 rfl dX2_copyFrom_132 ?_
  refine gX_1_9 C tb_126 dX2_copyFrom_133 ?_
  refine j_iconst C (nI 0) (by decide) dX2_copyFrom_136 ?_
  refine j_aload_n C 0 rfl dX2_copyFrom_137 ?_
  refine gX_56_9 C tb_126 dX2_copyFrom_138 ?_
  refine j_iconst C (nI 0) (by decide) dX2_copyFrom_141 ?_
  refine j_iconst C (nI 4) (by decide) dX2_copyFrom_142 ?_
  refine j_copy C tb_94 tb_96 tb_95 tb_6 10 65 rfl rfl 0 0 4 rfl rfl rfl (by omega) (by omega) (by decide) (by decide) (by decide) (Nat.le_of_ble_eq_true rfl) (w' := (cX g kk (sF (sF (sF (sF (sF (sF (sF (sF (sF (sI σ 896 (σ.1 16)) 57 (va_cpy (σ.2.1 2) (σ.2.1 57) 0 0 6)) 58 (va_cpy (σ.2.1 3) (σ.2.1 58) 0 0 6)) 59 (va_cpy (σ.2.1 4) (σ.2.1 59) 0 0 18)) 60 (va_cpy (σ.2.1 5) (σ.2.1 60) 0 0 28)) 61 (va_cpy (σ.2.1 6) (σ.2.1 61) 0 0 168)) 62 (va_cpy (σ.2.1 7) (σ.2.1 62) 0 0 168)) 63 (va_cpy (σ.2.1 8) (σ.2.1 63) 0 0 168)) 64 (va_cpy (σ.2.1 9) (σ.2.1 64) 0 0 168)) 65 (va_cpy (σ.2.1 10) (σ.2.1 65) 0 0 4)))) rfl dX2_copyFrom_143 ?_
  refine j_aload_n C 0 rfl dX2_copyFrom_146 ?_
  refine gX_56_10 C tb_132 dX2_copyFrom_147 ?_
  refine j_aload_n C 1 rfl dX2_copyFrom_150 ?_
  refine gX_1_10 C tb_132 dX2_copyFrom_151 ?_
  refine j_V1 C (c_fcopy_56_1 g kk (sF (sF (sF (sF (sF (sF (sF (sF (sF (sI σ 896 (σ.1 16)) 57 (va_cpy (σ.2.1 2) (σ.2.1 57) 0 0 6)) 58 (va_cpy (σ.2.1 3) (σ.2.1 58) 0 0 6)) 59 (va_cpy (σ.2.1 4) (σ.2.1 59) 0 0 18)) 60 (va_cpy (σ.2.1 5) (σ.2.1 60) 0 0 28)) 61 (va_cpy (σ.2.1 6) (σ.2.1 61) 0 0 168)) 62 (va_cpy (σ.2.1 7) (σ.2.1 62) 0 0 168)) 63 (va_cpy (σ.2.1 8) (σ.2.1 63) 0 0 168)) 64 (va_cpy (σ.2.1 9) (σ.2.1 64) 0 0 168)) 65 (va_cpy (σ.2.1 10) (σ.2.1 65) 0 0 4))) kyX1_copyFrom tb_849 tb_850 tb_851 66 rfl (eX_66 g kk _) rfl (Nat.le_of_ble_eq_true rfl) ⟨by decide, by decide⟩ dX2_copyFrom_154 rfl (fun vr ur hp => ?_)
  obtain ⟨rfl, hu⟩ := hp
  replace hu := hu.symm
  subst hu
  refine j_aload_n C 0 rfl dX2_copyFrom_157 ?_
  refine gX_56_11 C tb_134 dX2_copyFrom_158 ?_
  refine j_aload_n C 1 rfl dX2_copyFrom_161 ?_
  refine gX_1_11 C tb_134 dX2_copyFrom_162 ?_
  refine j_V1 C (c_rcopy_56_1 g kk (sF (sF (sF (sF (sI (sF (sF (sF (sF (sF (sF (sF (sF (sF (sI σ 896 (σ.1 16)) 57 (va_cpy (σ.2.1 2) (σ.2.1 57) 0 0 6)) 58 (va_cpy (σ.2.1 3) (σ.2.1 58) 0 0 6)) 59 (va_cpy (σ.2.1 4) (σ.2.1 59) 0 0 18)) 60 (va_cpy (σ.2.1 5) (σ.2.1 60) 0 0 28)) 61 (va_cpy (σ.2.1 6) (σ.2.1 61) 0 0 168)) 62 (va_cpy (σ.2.1 7) (σ.2.1 62) 0 0 168)) 63 (va_cpy (σ.2.1 8) (σ.2.1 63) 0 0 168)) 64 (va_cpy (σ.2.1 9) (σ.2.1 64) 0 0 168)) 65 (va_cpy (σ.2.1 10) (σ.2.1 65) 0 0 4)) 1056 (σ.1 176)) 67 (va_cpy (σ.2.1 12) (σ.2.1 67) 0 0 20)) 68 (va_cpy (σ.2.1 13) (σ.2.1 68) 0 0 20)) 69 (va_cpy (σ.2.1 14) (σ.2.1 69) 0 0 20)) 70 (va_cpy (σ.2.1 15) (σ.2.1 70) 0 0 168))) kyX6_copyFrom tb_854 tb_855 tb_856 71 rfl (eX_71 g kk _) rfl (Nat.le_of_ble_eq_true rfl) ⟨by decide, by decide⟩ dX2_copyFrom_165 rfl (fun vr ur hp => ?_)
  obtain ⟨rfl, hu⟩ := hp
  replace hu := hu.symm
  subst hu
  exact j_vret C E (sF (sF (sF (sF (sF (sI (sF (sF (sF (sF (sI (sF (sF (sF (sF (sF (sF (sF (sF (sF (sI σ 896 (σ.1 16)) 57 (va_cpy (σ.2.1 2) (σ.2.1 57) 0 0 6)) 58 (va_cpy (σ.2.1 3) (σ.2.1 58) 0 0 6)) 59 (va_cpy (σ.2.1 4) (σ.2.1 59) 0 0 18)) 60 (va_cpy (σ.2.1 5) (σ.2.1 60) 0 0 28)) 61 (va_cpy (σ.2.1 6) (σ.2.1 61) 0 0 168)) 62 (va_cpy (σ.2.1 7) (σ.2.1 62) 0 0 168)) 63 (va_cpy (σ.2.1 8) (σ.2.1 63) 0 0 168)) 64 (va_cpy (σ.2.1 9) (σ.2.1 64) 0 0 168)) 65 (va_cpy (σ.2.1 10) (σ.2.1 65) 0 0 4)) 1056 (σ.1 176)) 67 (va_cpy (σ.2.1 12) (σ.2.1 67) 0 0 20)) 68 (va_cpy (σ.2.1 13) (σ.2.1 68) 0 0 20)) 69 (va_cpy (σ.2.1 14) (σ.2.1 69) 0 0 20)) 70 (va_cpy (σ.2.1 15) (σ.2.1 70) 0 0 168)) 1136 (σ.1 256)) 72 (va_cpy (σ.2.1 17) (σ.2.1 72) 0 0 6)) 73 (va_cpy (σ.2.1 18) (σ.2.1 73) 0 0 6)) 74 (va_cpy (σ.2.1 19) (σ.2.1 74) 0 0 6)) 75 (va_cpy (σ.2.1 20) (σ.2.1 75) 0 0 6)) 76 (va_cpy (σ.2.1 21) (σ.2.1 76) 0 0 6)) ⟨rfl, rfl⟩ rfl dX2_copyFrom_168
set_option maxRecDepth 100000 in
set_option maxHeartbeats 4000000 in
theorem c_fcopy_77_1 (g kk : Nat → Nat) (σ : St) : jM (S := St) yX1_copyFrom cX1_copyFrom 2 none { frames := 1, cells := 0, slots := 0, locals := 60 } kk (cX g kk σ) [.ref (g 87), .ref (g 11)] (cX g kk) (rV (fun u : St => (u = sF (sF (sF (sF (sI σ 1392 (σ.1 176)) 88 (va_cpy (σ.2.1 12) (σ.2.1 88) 0 0 20)) 89 (va_cpy (σ.2.1 13) (σ.2.1 89) 0 0 20)) 90 (va_cpy (σ.2.1 14) (σ.2.1 90) 0 0 20)) 91 (va_cpy (σ.2.1 15) (σ.2.1 91) 0 0 168)))) := by
  refine j_entry [(0, .ref (g 87)), (1, .ref (g 11))] (by decide) (Nat.le_of_ble_eq_true rfl) rfl ?_
  intro X C E HI
  refine j_aload_n C 0 rfl dX1_copyFrom_0 ?_
  refine j_aload_n C 1 rfl dX1_copyFrom_1 ?_
  refine gX_11_0 C tb_39 (σ.1 176) rfl dX1_copyFrom_2 ?_
  refine pX_87_0 C tb_39 dX1_copyFrom_5 ?_
  refine j_aload_n C 1 rfl dX1_copyFrom_8 ?_
  refine gX_11_1 C tb_41 dX1_copyFrom_9 ?_
  refine j_iconst C (nI 0) (by decide) dX1_copyFrom_12 ?_
  refine j_aload_n C 0 rfl dX1_copyFrom_13 ?_
  refine gX_87_1 C tb_41 dX1_copyFrom_14 ?_
  refine j_iconst C (nI 0) (by decide) dX1_copyFrom_17 ?_
  refine j_bipush C (nI 20) (by decide) dX1_copyFrom_18 ?_
  refine j_copy C tb_853 tb_96 tb_95 tb_6 12 88 rfl rfl 0 0 20 rfl rfl rfl (by omega) (by omega) (by decide) (by decide) (by decide) (Nat.le_of_ble_eq_true rfl) (w' := (cX g kk (sF (sI σ 1392 (σ.1 176)) 88 (va_cpy (σ.2.1 12) (σ.2.1 88) 0 0 20)))) rfl dX1_copyFrom_20 ?_
  refine j_aload_n C 1 rfl dX1_copyFrom_23 ?_
  refine gX_11_2 C tb_42 dX1_copyFrom_24 ?_
  refine j_iconst C (nI 0) (by decide) dX1_copyFrom_27 ?_
  refine j_aload_n C 0 rfl dX1_copyFrom_28 ?_
  refine gX_87_2 C tb_42 dX1_copyFrom_29 ?_
  refine j_iconst C (nI 0) (by decide) dX1_copyFrom_32 ?_
  refine j_bipush C (nI 20) (by decide) dX1_copyFrom_33 ?_
  refine j_copy C tb_853 tb_96 tb_95 tb_6 13 89 rfl rfl 0 0 20 rfl rfl rfl (by omega) (by omega) (by decide) (by decide) (by decide) (Nat.le_of_ble_eq_true rfl) (w' := (cX g kk (sF (sF (sI σ 1392 (σ.1 176)) 88 (va_cpy (σ.2.1 12) (σ.2.1 88) 0 0 20)) 89 (va_cpy (σ.2.1 13) (σ.2.1 89) 0 0 20)))) rfl dX1_copyFrom_35 ?_
  refine j_aload_n C 1 rfl dX1_copyFrom_38 ?_
  refine gX_11_3 C tb_44 dX1_copyFrom_39 ?_
  refine j_iconst C (nI 0) (by decide) dX1_copyFrom_42 ?_
  refine j_aload_n C 0 rfl dX1_copyFrom_43 ?_
  refine gX_87_3 C tb_44 dX1_copyFrom_44 ?_
  refine j_iconst C (nI 0) (by decide) dX1_copyFrom_47 ?_
  refine j_bipush C (nI 20) (by decide) dX1_copyFrom_48 ?_
  refine j_copy C tb_853 tb_96 tb_95 tb_6 14 90 rfl rfl 0 0 20 rfl rfl rfl (by omega) (by omega) (by decide) (by decide) (by decide) (Nat.le_of_ble_eq_true rfl) (w' := (cX g kk (sF (sF (sF (sI σ 1392 (σ.1 176)) 88 (va_cpy (σ.2.1 12) (σ.2.1 88) 0 0 20)) 89 (va_cpy (σ.2.1 13) (σ.2.1 89) 0 0 20)) 90 (va_cpy (σ.2.1 14) (σ.2.1 90) 0 0 20)))) rfl dX1_copyFrom_50 ?_
  refine j_aload_n C 1 rfl dX1_copyFrom_53 ?_
  refine gX_11_4 C tb_45 dX1_copyFrom_54 ?_
  refine j_iconst C (nI 0) (by decide) dX1_copyFrom_57 ?_
  refine j_aload_n C 0 rfl dX1_copyFrom_58 ?_
  refine gX_87_4 C tb_45 dX1_copyFrom_59 ?_
  refine j_iconst C (nI 0) (by decide) dX1_copyFrom_62 ?_
  refine j_sipush C (nI 168) (by decide) dX1_copyFrom_63 ?_
  refine j_copy C tb_853 tb_96 tb_95 tb_6 15 91 rfl rfl 0 0 168 rfl rfl rfl (by omega) (by omega) (by decide) (by decide) (by decide) (Nat.le_of_ble_eq_true rfl) (w' := (cX g kk (sF (sF (sF (sF (sI σ 1392 (σ.1 176)) 88 (va_cpy (σ.2.1 12) (σ.2.1 88) 0 0 20)) 89 (va_cpy (σ.2.1 13) (σ.2.1 89) 0 0 20)) 90 (va_cpy (σ.2.1 14) (σ.2.1 90) 0 0 20)) 91 (va_cpy (σ.2.1 15) (σ.2.1 91) 0 0 168)))) rfl dX1_copyFrom_66 ?_
  exact j_vret C E (sF (sF (sF (sF (sI σ 1392 (σ.1 176)) 88 (va_cpy (σ.2.1 12) (σ.2.1 88) 0 0 20)) 89 (va_cpy (σ.2.1 13) (σ.2.1 89) 0 0 20)) 90 (va_cpy (σ.2.1 14) (σ.2.1 90) 0 0 20)) 91 (va_cpy (σ.2.1 15) (σ.2.1 91) 0 0 168)) ⟨rfl, rfl⟩ rfl dX1_copyFrom_69
set_option maxRecDepth 100000 in
set_option maxHeartbeats 4000000 in
theorem c_rcopy_77_1 (g kk : Nat → Nat) (σ : St) : jM (S := St) yX6_copyFrom cX6_copyFrom 2 none { frames := 1, cells := 0, slots := 0, locals := 60 } kk (cX g kk σ) [.ref (g 92), .ref (g 16)] (cX g kk) (rV (fun u : St => (u = sF (sF (sF (sF (sF (sI σ 1472 (σ.1 256)) 93 (va_cpy (σ.2.1 17) (σ.2.1 93) 0 0 6)) 94 (va_cpy (σ.2.1 18) (σ.2.1 94) 0 0 6)) 95 (va_cpy (σ.2.1 19) (σ.2.1 95) 0 0 6)) 96 (va_cpy (σ.2.1 20) (σ.2.1 96) 0 0 6)) 97 (va_cpy (σ.2.1 21) (σ.2.1 97) 0 0 6)))) := by
  refine j_entry [(0, .ref (g 92)), (1, .ref (g 16))] (by decide) (Nat.le_of_ble_eq_true rfl) rfl ?_
  intro X C E HI
  refine j_aload_n C 0 rfl dX6_copyFrom_0 ?_
  refine j_aload_n C 1 rfl dX6_copyFrom_1 ?_
  refine gX_16_0 C tb_65 (σ.1 256) rfl dX6_copyFrom_2 ?_
  refine pX_92_0 C tb_65 dX6_copyFrom_5 ?_
  refine j_aload_n C 1 rfl dX6_copyFrom_8 ?_
  refine gX_16_1 C tb_68 dX6_copyFrom_9 ?_
  refine j_iconst C (nI 0) (by decide) dX6_copyFrom_12 ?_
  refine j_aload_n C 0 rfl dX6_copyFrom_13 ?_
  refine gX_92_1 C tb_68 dX6_copyFrom_14 ?_
  refine j_iconst C (nI 0) (by decide) dX6_copyFrom_17 ?_
  refine j_bipush C (nI 6) (by decide) dX6_copyFrom_18 ?_
  refine j_copy C tb_858 tb_96 tb_95 tb_6 17 93 rfl rfl 0 0 6 rfl rfl rfl (by omega) (by omega) (by decide) (by decide) (by decide) (Nat.le_of_ble_eq_true rfl) (w' := (cX g kk (sF (sI σ 1472 (σ.1 256)) 93 (va_cpy (σ.2.1 17) (σ.2.1 93) 0 0 6)))) rfl dX6_copyFrom_20 ?_
  refine j_aload_n C 1 rfl dX6_copyFrom_23 ?_
  refine gX_16_2 C tb_70 dX6_copyFrom_24 ?_
  refine j_iconst C (nI 0) (by decide) dX6_copyFrom_27 ?_
  refine j_aload_n C 0 rfl dX6_copyFrom_28 ?_
  refine gX_92_2 C tb_70 dX6_copyFrom_29 ?_
  refine j_iconst C (nI 0) (by decide) dX6_copyFrom_32 ?_
  refine j_bipush C (nI 6) (by decide) dX6_copyFrom_33 ?_
  refine j_copy C tb_858 tb_96 tb_95 tb_6 18 94 rfl rfl 0 0 6 rfl rfl rfl (by omega) (by omega) (by decide) (by decide) (by decide) (Nat.le_of_ble_eq_true rfl) (w' := (cX g kk (sF (sF (sI σ 1472 (σ.1 256)) 93 (va_cpy (σ.2.1 17) (σ.2.1 93) 0 0 6)) 94 (va_cpy (σ.2.1 18) (σ.2.1 94) 0 0 6)))) rfl dX6_copyFrom_35 ?_
  refine j_aload_n C 1 rfl dX6_copyFrom_38 ?_
  refine gX_16_3 C tb_72 dX6_copyFrom_39 ?_
  refine j_iconst C (nI 0) (by decide) dX6_copyFrom_42 ?_
  refine j_aload_n C 0 rfl dX6_copyFrom_43 ?_
  refine gX_92_3 C tb_72 dX6_copyFrom_44 ?_
  refine j_iconst C (nI 0) (by decide) dX6_copyFrom_47 ?_
  refine j_bipush C (nI 6) (by decide) dX6_copyFrom_48 ?_
  refine j_copy C tb_858 tb_96 tb_95 tb_6 19 95 rfl rfl 0 0 6 rfl rfl rfl (by omega) (by omega) (by decide) (by decide) (by decide) (Nat.le_of_ble_eq_true rfl) (w' := (cX g kk (sF (sF (sF (sI σ 1472 (σ.1 256)) 93 (va_cpy (σ.2.1 17) (σ.2.1 93) 0 0 6)) 94 (va_cpy (σ.2.1 18) (σ.2.1 94) 0 0 6)) 95 (va_cpy (σ.2.1 19) (σ.2.1 95) 0 0 6)))) rfl dX6_copyFrom_50 ?_
  refine j_aload_n C 1 rfl dX6_copyFrom_53 ?_
  refine gX_16_4 C tb_74 dX6_copyFrom_54 ?_
  refine j_iconst C (nI 0) (by decide) dX6_copyFrom_57 ?_
  refine j_aload_n C 0 rfl dX6_copyFrom_58 ?_
  refine gX_92_4 C tb_74 dX6_copyFrom_59 ?_
  refine j_iconst C (nI 0) (by decide) dX6_copyFrom_62 ?_
  refine j_bipush C (nI 6) (by decide) dX6_copyFrom_63 ?_
  refine j_copy C tb_858 tb_96 tb_95 tb_6 20 96 rfl rfl 0 0 6 rfl rfl rfl (by omega) (by omega) (by decide) (by decide) (by decide) (Nat.le_of_ble_eq_true rfl) (w' := (cX g kk (sF (sF (sF (sF (sI σ 1472 (σ.1 256)) 93 (va_cpy (σ.2.1 17) (σ.2.1 93) 0 0 6)) 94 (va_cpy (σ.2.1 18) (σ.2.1 94) 0 0 6)) 95 (va_cpy (σ.2.1 19) (σ.2.1 95) 0 0 6)) 96 (va_cpy (σ.2.1 20) (σ.2.1 96) 0 0 6)))) rfl dX6_copyFrom_65 ?_
  refine j_aload_n C 1 rfl dX6_copyFrom_68 ?_
  refine gX_16_5 C tb_76 dX6_copyFrom_69 ?_
  refine j_iconst C (nI 0) (by decide) dX6_copyFrom_72 ?_
  refine j_aload_n C 0 rfl dX6_copyFrom_73 ?_
  refine gX_92_5 C tb_76 dX6_copyFrom_74 ?_
  refine j_iconst C (nI 0) (by decide) dX6_copyFrom_77 ?_
  refine j_bipush C (nI 6) (by decide) dX6_copyFrom_78 ?_
  refine j_copy C tb_858 tb_96 tb_95 tb_6 21 97 rfl rfl 0 0 6 rfl rfl rfl (by omega) (by omega) (by decide) (by decide) (by decide) (Nat.le_of_ble_eq_true rfl) (w' := (cX g kk (sF (sF (sF (sF (sF (sI σ 1472 (σ.1 256)) 93 (va_cpy (σ.2.1 17) (σ.2.1 93) 0 0 6)) 94 (va_cpy (σ.2.1 18) (σ.2.1 94) 0 0 6)) 95 (va_cpy (σ.2.1 19) (σ.2.1 95) 0 0 6)) 96 (va_cpy (σ.2.1 20) (σ.2.1 96) 0 0 6)) 97 (va_cpy (σ.2.1 21) (σ.2.1 97) 0 0 6)))) rfl dX6_copyFrom_80 ?_
  exact j_vret C E (sF (sF (sF (sF (sF (sI σ 1472 (σ.1 256)) 93 (va_cpy (σ.2.1 17) (σ.2.1 93) 0 0 6)) 94 (va_cpy (σ.2.1 18) (σ.2.1 94) 0 0 6)) 95 (va_cpy (σ.2.1 19) (σ.2.1 95) 0 0 6)) 96 (va_cpy (σ.2.1 20) (σ.2.1 96) 0 0 6)) 97 (va_cpy (σ.2.1 21) (σ.2.1 97) 0 0 6)) ⟨rfl, rfl⟩ rfl dX6_copyFrom_83
set_option maxRecDepth 100000 in
set_option maxHeartbeats 4000000 in
theorem c_gcopy_77_1 (g kk : Nat → Nat) (σ : St) : jM (S := St) yX2_copyFrom cX2_copyFrom 2 none { frames := 2, cells := 0, slots := 0, locals := 81 } kk (cX g kk σ) [.ref (g 77), .ref (g 1)] (cX g kk) (rV (fun u : St => (u = sF (sF (sF (sF (sF (sI (sF (sF (sF (sF (sI (sF (sF (sF (sF (sF (sF (sF (sF (sF (sI σ 1232 (σ.1 16)) 78 (va_cpy (σ.2.1 2) (σ.2.1 78) 0 0 6)) 79 (va_cpy (σ.2.1 3) (σ.2.1 79) 0 0 6)) 80 (va_cpy (σ.2.1 4) (σ.2.1 80) 0 0 18)) 81 (va_cpy (σ.2.1 5) (σ.2.1 81) 0 0 28)) 82 (va_cpy (σ.2.1 6) (σ.2.1 82) 0 0 168)) 83 (va_cpy (σ.2.1 7) (σ.2.1 83) 0 0 168)) 84 (va_cpy (σ.2.1 8) (σ.2.1 84) 0 0 168)) 85 (va_cpy (σ.2.1 9) (σ.2.1 85) 0 0 168)) 86 (va_cpy (σ.2.1 10) (σ.2.1 86) 0 0 4)) 1392 (σ.1 176)) 88 (va_cpy (σ.2.1 12) (σ.2.1 88) 0 0 20)) 89 (va_cpy (σ.2.1 13) (σ.2.1 89) 0 0 20)) 90 (va_cpy (σ.2.1 14) (σ.2.1 90) 0 0 20)) 91 (va_cpy (σ.2.1 15) (σ.2.1 91) 0 0 168)) 1472 (σ.1 256)) 93 (va_cpy (σ.2.1 17) (σ.2.1 93) 0 0 6)) 94 (va_cpy (σ.2.1 18) (σ.2.1 94) 0 0 6)) 95 (va_cpy (σ.2.1 19) (σ.2.1 95) 0 0 6)) 96 (va_cpy (σ.2.1 20) (σ.2.1 96) 0 0 6)) 97 (va_cpy (σ.2.1 21) (σ.2.1 97) 0 0 6)))) := by
  refine j_entry [(0, .ref (g 77)), (1, .ref (g 1))] (by decide) (Nat.le_of_ble_eq_true rfl) rfl ?_
  intro X C E HI
  refine j_aload_n C 0 rfl dX2_copyFrom_0 ?_
  refine j_aload_n C 1 rfl dX2_copyFrom_1 ?_
  refine gX_1_0 C tb_97 (σ.1 16) rfl dX2_copyFrom_2 ?_
  refine pX_77_0 C tb_97 dX2_copyFrom_5 ?_
  refine j_aload_n C 1 rfl dX2_copyFrom_8 ?_
  refine gX_1_1 C tb_102 dX2_copyFrom_9 ?_
  refine j_iconst C (nI 0) (by decide) dX2_copyFrom_12 ?_
  refine j_aload_n C 0 rfl dX2_copyFrom_13 ?_
  refine gX_77_1 C tb_102 dX2_copyFrom_14 ?_
  refine j_iconst C (nI 0) (by decide) dX2_copyFrom_17 ?_
  refine j_bipush C (nI 6) (by decide) dX2_copyFrom_18 ?_
  refine j_copy C tb_94 tb_96 tb_95 tb_6 2 78 rfl rfl 0 0 6 rfl rfl rfl (by omega) (by omega) (by decide) (by decide) (by decide) (Nat.le_of_ble_eq_true rfl) (w' := (cX g kk (sF (sI σ 1232 (σ.1 16)) 78 (va_cpy (σ.2.1 2) (σ.2.1 78) 0 0 6)))) rfl dX2_copyFrom_20 ?_
  refine j_aload_n C 1 rfl dX2_copyFrom_23 ?_
  refine gX_1_2 C tb_106 dX2_copyFrom_24 ?_
  refine j_iconst C (nI 0) (by decide) dX2_copyFrom_27 ?_
  refine j_aload_n C 0 rfl dX2_copyFrom_28 ?_
  refine gX_77_2 C tb_106 dX2_copyFrom_29 ?_
  refine j_iconst C (nI 0) (by decide) dX2_copyFrom_32 ?_
  refine j_bipush C (nI 6) (by decide) dX2_copyFrom_33 ?_
  refine j_copy C tb_94 tb_96 tb_95 tb_6 3 79 rfl rfl 0 0 6 rfl rfl rfl (by omega) (by omega) (by decide) (by decide) (by decide) (Nat.le_of_ble_eq_true rfl) (w' := (cX g kk (sF (sF (sI σ 1232 (σ.1 16)) 78 (va_cpy (σ.2.1 2) (σ.2.1 78) 0 0 6)) 79 (va_cpy (σ.2.1 3) (σ.2.1 79) 0 0 6)))) rfl dX2_copyFrom_35 ?_
  refine j_aload_n C 1 rfl dX2_copyFrom_38 ?_
  refine gX_1_3 C tb_110 dX2_copyFrom_39 ?_
  refine j_iconst C (nI 0) (by decide) dX2_copyFrom_42 ?_
  refine j_aload_n C 0 rfl dX2_copyFrom_43 ?_
  refine gX_77_3 C tb_110 dX2_copyFrom_44 ?_
  refine j_iconst C (nI 0) (by decide) dX2_copyFrom_47 ?_
  refine j_bipush C (nI 18) (by decide) dX2_copyFrom_48 ?_
  refine j_copy C tb_94 tb_96 tb_95 tb_6 4 80 rfl rfl 0 0 18 rfl rfl rfl (by omega) (by omega) (by decide) (by decide) (by decide) (Nat.le_of_ble_eq_true rfl) (w' := (cX g kk (sF (sF (sF (sI σ 1232 (σ.1 16)) 78 (va_cpy (σ.2.1 2) (σ.2.1 78) 0 0 6)) 79 (va_cpy (σ.2.1 3) (σ.2.1 79) 0 0 6)) 80 (va_cpy (σ.2.1 4) (σ.2.1 80) 0 0 18)))) rfl dX2_copyFrom_50 ?_
  refine j_aload_n C 1 rfl dX2_copyFrom_53 ?_
  refine gX_1_4 C tb_113 dX2_copyFrom_54 ?_
  refine j_iconst C (nI 0) (by decide) dX2_copyFrom_57 ?_
  refine j_aload_n C 0 rfl dX2_copyFrom_58 ?_
  refine gX_77_4 C tb_113 dX2_copyFrom_59 ?_
  refine j_iconst C (nI 0) (by decide) dX2_copyFrom_62 ?_
  refine j_bipush C (nI 28) (by decide) dX2_copyFrom_63 ?_
  refine j_copy C tb_94 tb_96 tb_95 tb_6 5 81 rfl rfl 0 0 28 rfl rfl rfl (by omega) (by omega) (by decide) (by decide) (by decide) (Nat.le_of_ble_eq_true rfl) (w' := (cX g kk (sF (sF (sF (sF (sI σ 1232 (σ.1 16)) 78 (va_cpy (σ.2.1 2) (σ.2.1 78) 0 0 6)) 79 (va_cpy (σ.2.1 3) (σ.2.1 79) 0 0 6)) 80 (va_cpy (σ.2.1 4) (σ.2.1 80) 0 0 18)) 81 (va_cpy (σ.2.1 5) (σ.2.1 81) 0 0 28)))) rfl dX2_copyFrom_65 ?_
  refine j_aload_n C 1 rfl dX2_copyFrom_68 ?_
  refine gX_1_5 C tb_116 dX2_copyFrom_69 ?_
  refine j_iconst C (nI 0) (by decide) dX2_copyFrom_72 ?_
  refine j_aload_n C 0 rfl dX2_copyFrom_73 ?_
  refine gX_77_5 C tb_116 dX2_copyFrom_74 ?_
  refine j_iconst C (nI 0) (by decide) dX2_copyFrom_77 ?_
  refine j_sipush C (nI 168) (by decide) dX2_copyFrom_78 ?_
  refine j_copy C tb_94 tb_96 tb_95 tb_6 6 82 rfl rfl 0 0 168 rfl rfl rfl (by omega) (by omega) (by decide) (by decide) (by decide) (Nat.le_of_ble_eq_true rfl) (w' := (cX g kk (sF (sF (sF (sF (sF (sI σ 1232 (σ.1 16)) 78 (va_cpy (σ.2.1 2) (σ.2.1 78) 0 0 6)) 79 (va_cpy (σ.2.1 3) (σ.2.1 79) 0 0 6)) 80 (va_cpy (σ.2.1 4) (σ.2.1 80) 0 0 18)) 81 (va_cpy (σ.2.1 5) (σ.2.1 81) 0 0 28)) 82 (va_cpy (σ.2.1 6) (σ.2.1 82) 0 0 168)))) rfl dX2_copyFrom_81 ?_
  refine j_aload_n C 1 rfl dX2_copyFrom_84 ?_
  refine gX_1_6 C tb_120 dX2_copyFrom_85 ?_
  refine j_iconst C (nI 0) (by decide) dX2_copyFrom_88 ?_
  refine j_aload_n C 0 rfl dX2_copyFrom_89 ?_
  refine gX_77_6 C tb_120 dX2_copyFrom_90 ?_
  refine j_iconst C (nI 0) (by decide) dX2_copyFrom_93 ?_
  refine j_sipush C (nI 168) (by decide) dX2_copyFrom_94 ?_
  refine j_copy C tb_94 tb_96 tb_95 tb_6 7 83 rfl rfl 0 0 168 rfl rfl rfl (by omega) (by omega) (by decide) (by decide) (by decide) (Nat.le_of_ble_eq_true rfl) (w' := (cX g kk (sF (sF (sF (sF (sF (sF (sI σ 1232 (σ.1 16)) 78 (va_cpy (σ.2.1 2) (σ.2.1 78) 0 0 6)) 79 (va_cpy (σ.2.1 3) (σ.2.1 79) 0 0 6)) 80 (va_cpy (σ.2.1 4) (σ.2.1 80) 0 0 18)) 81 (va_cpy (σ.2.1 5) (σ.2.1 81) 0 0 28)) 82 (va_cpy (σ.2.1 6) (σ.2.1 82) 0 0 168)) 83 (va_cpy (σ.2.1 7) (σ.2.1 83) 0 0 168)))) rfl dX2_copyFrom_97 ?_
  refine j_aload_n C 1 rfl dX2_copyFrom_100 ?_
  refine gX_1_7 C tb_122 dX2_copyFrom_101 ?_
  refine j_iconst C (nI 0) (by decide) dX2_copyFrom_104 ?_
  refine j_aload_n C 0 rfl dX2_copyFrom_105 ?_
  refine gX_77_7 C tb_122 dX2_copyFrom_106 ?_
  refine j_iconst C (nI 0) (by decide) dX2_copyFrom_109 ?_
  refine j_sipush C (nI 168) (by decide) dX2_copyFrom_110 ?_
  refine j_copy C tb_94 tb_96 tb_95 tb_6 8 84 rfl rfl 0 0 168 rfl rfl rfl (by omega) (by omega) (by decide) (by decide) (by decide) (Nat.le_of_ble_eq_true rfl) (w' := (cX g kk (sF (sF (sF (sF (sF (sF (sF (sI σ 1232 (σ.1 16)) 78 (va_cpy (σ.2.1 2) (σ.2.1 78) 0 0 6)) 79 (va_cpy (σ.2.1 3) (σ.2.1 79) 0 0 6)) 80 (va_cpy (σ.2.1 4) (σ.2.1 80) 0 0 18)) 81 (va_cpy (σ.2.1 5) (σ.2.1 81) 0 0 28)) 82 (va_cpy (σ.2.1 6) (σ.2.1 82) 0 0 168)) 83 (va_cpy (σ.2.1 7) (σ.2.1 83) 0 0 168)) 84 (va_cpy (σ.2.1 8) (σ.2.1 84) 0 0 168)))) rfl dX2_copyFrom_113 ?_
  refine j_aload_n C 1 rfl dX2_copyFrom_116 ?_
  refine gX_1_8 C tb_124 dX2_copyFrom_117 ?_
  refine j_iconst C (nI 0) (by decide) dX2_copyFrom_120 ?_
  refine j_aload_n C 0 rfl dX2_copyFrom_121 ?_
  refine gX_77_8 C tb_124 dX2_copyFrom_122 ?_
  refine j_iconst C (nI 0) (by decide) dX2_copyFrom_125 ?_
  refine j_sipush C (nI 168) (by decide) dX2_copyFrom_126 ?_
  refine j_copy C tb_94 tb_96 tb_95 tb_6 9 85 rfl rfl 0 0 168 rfl rfl rfl (by omega) (by omega) (by decide) (by decide) (by decide) (Nat.le_of_ble_eq_true rfl) (w' := (cX g kk (sF (sF (sF (sF (sF (sF (sF (sF (sI σ 1232 (σ.1 16)) 78 (va_cpy (σ.2.1 2) (σ.2.1 78) 0 0 6)) 79 (va_cpy (σ.2.1 3) (σ.2.1 79) 0 0 6)) 80 (va_cpy (σ.2.1 4) (σ.2.1 80) 0 0 18)) 81 (va_cpy (σ.2.1 5) (σ.2.1 81) 0 0 28)) 82 (va_cpy (σ.2.1 6) (σ.2.1 82) 0 0 168)) 83 (va_cpy (σ.2.1 7) (σ.2.1 83) 0 0 168)) 84 (va_cpy (σ.2.1 8) (σ.2.1 84) 0 0 168)) 85 (va_cpy (σ.2.1 9) (σ.2.1 85) 0 0 168)))) rfl dX2_copyFrom_129 ?_
  refine j_aload_n C 1 rfl dX2_copyFrom_132 ?_
  refine gX_1_9 C tb_126 dX2_copyFrom_133 ?_
  refine j_iconst C (nI 0) (by decide) dX2_copyFrom_136 ?_
  refine j_aload_n C 0 rfl dX2_copyFrom_137 ?_
  refine gX_77_9 C tb_126 dX2_copyFrom_138 ?_
  refine j_iconst C (nI 0) (by decide) dX2_copyFrom_141 ?_
  refine j_iconst C (nI 4) (by decide) dX2_copyFrom_142 ?_
  refine j_copy C tb_94 tb_96 tb_95 tb_6 10 86 rfl rfl 0 0 4 rfl rfl rfl (by omega) (by omega) (by decide) (by decide) (by decide) (Nat.le_of_ble_eq_true rfl) (w' := (cX g kk (sF (sF (sF (sF (sF (sF (sF (sF (sF (sI σ 1232 (σ.1 16)) 78 (va_cpy (σ.2.1 2) (σ.2.1 78) 0 0 6)) 79 (va_cpy (σ.2.1 3) (σ.2.1 79) 0 0 6)) 80 (va_cpy (σ.2.1 4) (σ.2.1 80) 0 0 18)) 81 (va_cpy (σ.2.1 5) (σ.2.1 81) 0 0 28)) 82 (va_cpy (σ.2.1 6) (σ.2.1 82) 0 0 168)) 83 (va_cpy (σ.2.1 7) (σ.2.1 83) 0 0 168)) 84 (va_cpy (σ.2.1 8) (σ.2.1 84) 0 0 168)) 85 (va_cpy (σ.2.1 9) (σ.2.1 85) 0 0 168)) 86 (va_cpy (σ.2.1 10) (σ.2.1 86) 0 0 4)))) rfl dX2_copyFrom_143 ?_
  refine j_aload_n C 0 rfl dX2_copyFrom_146 ?_
  refine gX_77_10 C tb_132 dX2_copyFrom_147 ?_
  refine j_aload_n C 1 rfl dX2_copyFrom_150 ?_
  refine gX_1_10 C tb_132 dX2_copyFrom_151 ?_
  refine j_V1 C (c_fcopy_77_1 g kk (sF (sF (sF (sF (sF (sF (sF (sF (sF (sI σ 1232 (σ.1 16)) 78 (va_cpy (σ.2.1 2) (σ.2.1 78) 0 0 6)) 79 (va_cpy (σ.2.1 3) (σ.2.1 79) 0 0 6)) 80 (va_cpy (σ.2.1 4) (σ.2.1 80) 0 0 18)) 81 (va_cpy (σ.2.1 5) (σ.2.1 81) 0 0 28)) 82 (va_cpy (σ.2.1 6) (σ.2.1 82) 0 0 168)) 83 (va_cpy (σ.2.1 7) (σ.2.1 83) 0 0 168)) 84 (va_cpy (σ.2.1 8) (σ.2.1 84) 0 0 168)) 85 (va_cpy (σ.2.1 9) (σ.2.1 85) 0 0 168)) 86 (va_cpy (σ.2.1 10) (σ.2.1 86) 0 0 4))) kyX1_copyFrom tb_849 tb_850 tb_851 87 rfl (eX_87 g kk _) rfl (Nat.le_of_ble_eq_true rfl) ⟨by decide, by decide⟩ dX2_copyFrom_154 rfl (fun vr ur hp => ?_)
  obtain ⟨rfl, hu⟩ := hp
  replace hu := hu.symm
  subst hu
  refine j_aload_n C 0 rfl dX2_copyFrom_157 ?_
  refine gX_77_11 C tb_134 dX2_copyFrom_158 ?_
  refine j_aload_n C 1 rfl dX2_copyFrom_161 ?_
  refine gX_1_11 C tb_134 dX2_copyFrom_162 ?_
  refine j_V1 C (c_rcopy_77_1 g kk (sF (sF (sF (sF (sI (sF (sF (sF (sF (sF (sF (sF (sF (sF (sI σ 1232 (σ.1 16)) 78 (va_cpy (σ.2.1 2) (σ.2.1 78) 0 0 6)) 79 (va_cpy (σ.2.1 3) (σ.2.1 79) 0 0 6)) 80 (va_cpy (σ.2.1 4) (σ.2.1 80) 0 0 18)) 81 (va_cpy (σ.2.1 5) (σ.2.1 81) 0 0 28)) 82 (va_cpy (σ.2.1 6) (σ.2.1 82) 0 0 168)) 83 (va_cpy (σ.2.1 7) (σ.2.1 83) 0 0 168)) 84 (va_cpy (σ.2.1 8) (σ.2.1 84) 0 0 168)) 85 (va_cpy (σ.2.1 9) (σ.2.1 85) 0 0 168)) 86 (va_cpy (σ.2.1 10) (σ.2.1 86) 0 0 4)) 1392 (σ.1 176)) 88 (va_cpy (σ.2.1 12) (σ.2.1 88) 0 0 20)) 89 (va_cpy (σ.2.1 13) (σ.2.1 89) 0 0 20)) 90 (va_cpy (σ.2.1 14) (σ.2.1 90) 0 0 20)) 91 (va_cpy (σ.2.1 15) (σ.2.1 91) 0 0 168))) kyX6_copyFrom tb_854 tb_855 tb_856 92 rfl (eX_92 g kk _) rfl (Nat.le_of_ble_eq_true rfl) ⟨by decide, by decide⟩ dX2_copyFrom_165 rfl (fun vr ur hp => ?_)
  obtain ⟨rfl, hu⟩ := hp
  replace hu := hu.symm
  subst hu
  exact j_vret C E (sF (sF (sF (sF (sF (sI (sF (sF (sF (sF (sI (sF (sF (sF (sF (sF (sF (sF (sF (sF (sI σ 1232 (σ.1 16)) 78 (va_cpy (σ.2.1 2) (σ.2.1 78) 0 0 6)) 79 (va_cpy (σ.2.1 3) (σ.2.1 79) 0 0 6)) 80 (va_cpy (σ.2.1 4) (σ.2.1 80) 0 0 18)) 81 (va_cpy (σ.2.1 5) (σ.2.1 81) 0 0 28)) 82 (va_cpy (σ.2.1 6) (σ.2.1 82) 0 0 168)) 83 (va_cpy (σ.2.1 7) (σ.2.1 83) 0 0 168)) 84 (va_cpy (σ.2.1 8) (σ.2.1 84) 0 0 168)) 85 (va_cpy (σ.2.1 9) (σ.2.1 85) 0 0 168)) 86 (va_cpy (σ.2.1 10) (σ.2.1 86) 0 0 4)) 1392 (σ.1 176)) 88 (va_cpy (σ.2.1 12) (σ.2.1 88) 0 0 20)) 89 (va_cpy (σ.2.1 13) (σ.2.1 89) 0 0 20)) 90 (va_cpy (σ.2.1 14) (σ.2.1 90) 0 0 20)) 91 (va_cpy (σ.2.1 15) (σ.2.1 91) 0 0 168)) 1472 (σ.1 256)) 93 (va_cpy (σ.2.1 17) (σ.2.1 93) 0 0 6)) 94 (va_cpy (σ.2.1 18) (σ.2.1 94) 0 0 6)) 95 (va_cpy (σ.2.1 19) (σ.2.1 95) 0 0 6)) 96 (va_cpy (σ.2.1 20) (σ.2.1 96) 0 0 6)) 97 (va_cpy (σ.2.1 21) (σ.2.1 97) 0 0 6)) ⟨rfl, rfl⟩ rfl dX2_copyFrom_168
set_option maxRecDepth 100000 in
set_option maxHeartbeats 4000000 in
theorem c_fcopy_1_56 (g kk : Nat → Nat) (σ : St) : jM (S := St) yX1_copyFrom cX1_copyFrom 2 none { frames := 1, cells := 0, slots := 0, locals := 60 } kk (cX g kk σ) [.ref (g 11), .ref (g 66)] (cX g kk) (rV (fun u : St => (u = sF (sF (sF (sF (sI σ 176 (σ.1 1056)) 12 (va_cpy (σ.2.1 67) (σ.2.1 12) 0 0 20)) 13 (va_cpy (σ.2.1 68) (σ.2.1 13) 0 0 20)) 14 (va_cpy (σ.2.1 69) (σ.2.1 14) 0 0 20)) 15 (va_cpy (σ.2.1 70) (σ.2.1 15) 0 0 168)))) := by
  refine j_entry [(0, .ref (g 11)), (1, .ref (g 66))] (by decide) (Nat.le_of_ble_eq_true rfl) rfl ?_
  intro X C E HI
  refine j_aload_n C 0 rfl dX1_copyFrom_0 ?_
  refine j_aload_n C 1 rfl dX1_copyFrom_1 ?_
  refine gX_66_0 C tb_39 (σ.1 1056) rfl dX1_copyFrom_2 ?_
  refine pX_11_0 C tb_39 dX1_copyFrom_5 ?_
  refine j_aload_n C 1 rfl dX1_copyFrom_8 ?_
  refine gX_66_1 C tb_41 dX1_copyFrom_9 ?_
  refine j_iconst C (nI 0) (by decide) dX1_copyFrom_12 ?_
  refine j_aload_n C 0 rfl dX1_copyFrom_13 ?_
  refine gX_11_1 C tb_41 dX1_copyFrom_14 ?_
  refine j_iconst C (nI 0) (by decide) dX1_copyFrom_17 ?_
  refine j_bipush C (nI 20) (by decide) dX1_copyFrom_18 ?_
  refine j_copy C tb_853 tb_96 tb_95 tb_6 67 12 rfl rfl 0 0 20 rfl rfl rfl (by omega) (by omega) (by decide) (by decide) (by decide) (Nat.le_of_ble_eq_true rfl) (w' := (cX g kk (sF (sI σ 176 (σ.1 1056)) 12 (va_cpy (σ.2.1 67) (σ.2.1 12) 0 0 20)))) rfl dX1_copyFrom_20 ?_
  refine j_aload_n C 1 rfl dX1_copyFrom_23 ?_
  refine gX_66_2 C tb_42 dX1_copyFrom_24 ?_
  refine j_iconst C (nI 0) (by decide) dX1_copyFrom_27 ?_
  refine j_aload_n C 0 rfl dX1_copyFrom_28 ?_
  refine gX_11_2 C tb_42 dX1_copyFrom_29 ?_
  refine j_iconst C (nI 0) (by decide) dX1_copyFrom_32 ?_
  refine j_bipush C (nI 20) (by decide) dX1_copyFrom_33 ?_
  refine j_copy C tb_853 tb_96 tb_95 tb_6 68 13 rfl rfl 0 0 20 rfl rfl rfl (by omega) (by omega) (by decide) (by decide) (by decide) (Nat.le_of_ble_eq_true rfl) (w' := (cX g kk (sF (sF (sI σ 176 (σ.1 1056)) 12 (va_cpy (σ.2.1 67) (σ.2.1 12) 0 0 20)) 13 (va_cpy (σ.2.1 68) (σ.2.1 13) 0 0 20)))) rfl dX1_copyFrom_35 ?_
  refine j_aload_n C 1 rfl dX1_copyFrom_38 ?_
  refine gX_66_3 C tb_44 dX1_copyFrom_39 ?_
  refine j_iconst C (nI 0) (by decide) dX1_copyFrom_42 ?_
  refine j_aload_n C 0 rfl dX1_copyFrom_43 ?_
  refine gX_11_3 C tb_44 dX1_copyFrom_44 ?_
  refine j_iconst C (nI 0) (by decide) dX1_copyFrom_47 ?_
  refine j_bipush C (nI 20) (by decide) dX1_copyFrom_48 ?_
  refine j_copy C tb_853 tb_96 tb_95 tb_6 69 14 rfl rfl 0 0 20 rfl rfl rfl (by omega) (by omega) (by decide) (by decide) (by decide) (Nat.le_of_ble_eq_true rfl) (w' := (cX g kk (sF (sF (sF (sI σ 176 (σ.1 1056)) 12 (va_cpy (σ.2.1 67) (σ.2.1 12) 0 0 20)) 13 (va_cpy (σ.2.1 68) (σ.2.1 13) 0 0 20)) 14 (va_cpy (σ.2.1 69) (σ.2.1 14) 0 0 20)))) rfl dX1_copyFrom_50 ?_
  refine j_aload_n C 1 rfl dX1_copyFrom_53 ?_
  refine gX_66_4 C tb_45 dX1_copyFrom_54 ?_
  refine j_iconst C (nI 0) (by decide) dX1_copyFrom_57 ?_
  refine j_aload_n C 0 rfl dX1_copyFrom_58 ?_
  refine gX_11_4 C tb_45 dX1_copyFrom_59 ?_
  refine j_iconst C (nI 0) (by decide) dX1_copyFrom_62 ?_
  refine j_sipush C (nI 168) (by decide) dX1_copyFrom_63 ?_
  refine j_copy C tb_853 tb_96 tb_95 tb_6 70 15 rfl rfl 0 0 168 rfl rfl rfl (by omega) (by omega) (by decide) (by decide) (by decide) (Nat.le_of_ble_eq_true rfl) (w' := (cX g kk (sF (sF (sF (sF (sI σ 176 (σ.1 1056)) 12 (va_cpy (σ.2.1 67) (σ.2.1 12) 0 0 20)) 13 (va_cpy (σ.2.1 68) (σ.2.1 13) 0 0 20)) 14 (va_cpy (σ.2.1 69) (σ.2.1 14) 0 0 20)) 15 (va_cpy (σ.2.1 70) (σ.2.1 15) 0 0 168)))) rfl dX1_copyFrom_66 ?_
  exact j_vret C E (sF (sF (sF (sF (sI σ 176 (σ.1 1056)) 12 (va_cpy (σ.2.1 67) (σ.2.1 12) 0 0 20)) 13 (va_cpy (σ.2.1 68) (σ.2.1 13) 0 0 20)) 14 (va_cpy (σ.2.1 69) (σ.2.1 14) 0 0 20)) 15 (va_cpy (σ.2.1 70) (σ.2.1 15) 0 0 168)) ⟨rfl, rfl⟩ rfl dX1_copyFrom_69
set_option maxRecDepth 100000 in
set_option maxHeartbeats 4000000 in
theorem c_rcopy_1_56 (g kk : Nat → Nat) (σ : St) : jM (S := St) yX6_copyFrom cX6_copyFrom 2 none { frames := 1, cells := 0, slots := 0, locals := 60 } kk (cX g kk σ) [.ref (g 16), .ref (g 71)] (cX g kk) (rV (fun u : St => (u = sF (sF (sF (sF (sF (sI σ 256 (σ.1 1136)) 17 (va_cpy (σ.2.1 72) (σ.2.1 17) 0 0 6)) 18 (va_cpy (σ.2.1 73) (σ.2.1 18) 0 0 6)) 19 (va_cpy (σ.2.1 74) (σ.2.1 19) 0 0 6)) 20 (va_cpy (σ.2.1 75) (σ.2.1 20) 0 0 6)) 21 (va_cpy (σ.2.1 76) (σ.2.1 21) 0 0 6)))) := by
  refine j_entry [(0, .ref (g 16)), (1, .ref (g 71))] (by decide) (Nat.le_of_ble_eq_true rfl) rfl ?_
  intro X C E HI
  refine j_aload_n C 0 rfl dX6_copyFrom_0 ?_
  refine j_aload_n C 1 rfl dX6_copyFrom_1 ?_
  refine gX_71_0 C tb_65 (σ.1 1136) rfl dX6_copyFrom_2 ?_
  refine pX_16_0 C tb_65 dX6_copyFrom_5 ?_
  refine j_aload_n C 1 rfl dX6_copyFrom_8 ?_
  refine gX_71_1 C tb_68 dX6_copyFrom_9 ?_
  refine j_iconst C (nI 0) (by decide) dX6_copyFrom_12 ?_
  refine j_aload_n C 0 rfl dX6_copyFrom_13 ?_
  refine gX_16_1 C tb_68 dX6_copyFrom_14 ?_
  refine j_iconst C (nI 0) (by decide) dX6_copyFrom_17 ?_
  refine j_bipush C (nI 6) (by decide) dX6_copyFrom_18 ?_
  refine j_copy C tb_858 tb_96 tb_95 tb_6 72 17 rfl rfl 0 0 6 rfl rfl rfl (by omega) (by omega) (by decide) (by decide) (by decide) (Nat.le_of_ble_eq_true rfl) (w' := (cX g kk (sF (sI σ 256 (σ.1 1136)) 17 (va_cpy (σ.2.1 72) (σ.2.1 17) 0 0 6)))) rfl dX6_copyFrom_20 ?_
  refine j_aload_n C 1 rfl dX6_copyFrom_23 ?_
  refine gX_71_2 C tb_70 dX6_copyFrom_24 ?_
  refine j_iconst C (nI 0) (by decide) dX6_copyFrom_27 ?_
  refine j_aload_n C 0 rfl dX6_copyFrom_28 ?_
  refine gX_16_2 C tb_70 dX6_copyFrom_29 ?_
  refine j_iconst C (nI 0) (by decide) dX6_copyFrom_32 ?_
  refine j_bipush C (nI 6) (by decide) dX6_copyFrom_33 ?_
  refine j_copy C tb_858 tb_96 tb_95 tb_6 73 18 rfl rfl 0 0 6 rfl rfl rfl (by omega) (by omega) (by decide) (by decide) (by decide) (Nat.le_of_ble_eq_true rfl) (w' := (cX g kk (sF (sF (sI σ 256 (σ.1 1136)) 17 (va_cpy (σ.2.1 72) (σ.2.1 17) 0 0 6)) 18 (va_cpy (σ.2.1 73) (σ.2.1 18) 0 0 6)))) rfl dX6_copyFrom_35 ?_
  refine j_aload_n C 1 rfl dX6_copyFrom_38 ?_
  refine gX_71_3 C tb_72 dX6_copyFrom_39 ?_
  refine j_iconst C (nI 0) (by decide) dX6_copyFrom_42 ?_
  refine j_aload_n C 0 rfl dX6_copyFrom_43 ?_
  refine gX_16_3 C tb_72 dX6_copyFrom_44 ?_
  refine j_iconst C (nI 0) (by decide) dX6_copyFrom_47 ?_
  refine j_bipush C (nI 6) (by decide) dX6_copyFrom_48 ?_
  refine j_copy C tb_858 tb_96 tb_95 tb_6 74 19 rfl rfl 0 0 6 rfl rfl rfl (by omega) (by omega) (by decide) (by decide) (by decide) (Nat.le_of_ble_eq_true rfl) (w' := (cX g kk (sF (sF (sF (sI σ 256 (σ.1 1136)) 17 (va_cpy (σ.2.1 72) (σ.2.1 17) 0 0 6)) 18 (va_cpy (σ.2.1 73) (σ.2.1 18) 0 0 6)) 19 (va_cpy (σ.2.1 74) (σ.2.1 19) 0 0 6)))) rfl dX6_copyFrom_50 ?_
  refine j_aload_n C 1 rfl dX6_copyFrom_53 ?_
  refine gX_71_4 C tb_74 dX6_copyFrom_54 ?_
  refine j_iconst C (nI 0) (by decide) dX6_copyFrom_57 ?_
  refine j_aload_n C 0 rfl dX6_copyFrom_58 ?_
  refine gX_16_4 C tb_74 dX6_copyFrom_59 ?_
  refine j_iconst C (nI 0) (by decide) dX6_copyFrom_62 ?_
  refine j_bipush C (nI 6) (by decide) dX6_copyFrom_63 ?_
  refine j_copy C tb_858 tb_96 tb_95 tb_6 75 20 rfl rfl 0 0 6 rfl rfl rfl (by omega) (by omega) (by decide) (by decide) (by decide) (Nat.le_of_ble_eq_true rfl) (w' := (cX g kk (sF (sF (sF (sF (sI σ 256 (σ.1 1136)) 17 (va_cpy (σ.2.1 72) (σ.2.1 17) 0 0 6)) 18 (va_cpy (σ.2.1 73) (σ.2.1 18) 0 0 6)) 19 (va_cpy (σ.2.1 74) (σ.2.1 19) 0 0 6)) 20 (va_cpy (σ.2.1 75) (σ.2.1 20) 0 0 6)))) rfl dX6_copyFrom_65 ?_
  refine j_aload_n C 1 rfl dX6_copyFrom_68 ?_
  refine gX_71_5 C tb_76 dX6_copyFrom_69 ?_
  refine j_iconst C (nI 0) (by decide) dX6_copyFrom_72 ?_
  refine j_aload_n C 0 rfl dX6_copyFrom_73 ?_
  refine gX_16_5 C tb_76 dX6_copyFrom_74 ?_
  refine j_iconst C (nI 0) (by decide) dX6_copyFrom_77 ?_
  refine j_bipush C (nI 6) (by decide) dX6_copyFrom_78 ?_
  refine j_copy C tb_858 tb_96 tb_95 tb_6 76 21 rfl rfl 0 0 6 rfl rfl rfl (by omega) (by omega) (by decide) (by decide) (by decide) (Nat.le_of_ble_eq_true rfl) (w' := (cX g kk (sF (sF (sF (sF (sF (sI σ 256 (σ.1 1136)) 17 (va_cpy (σ.2.1 72) (σ.2.1 17) 0 0 6)) 18 (va_cpy (σ.2.1 73) (σ.2.1 18) 0 0 6)) 19 (va_cpy (σ.2.1 74) (σ.2.1 19) 0 0 6)) 20 (va_cpy (σ.2.1 75) (σ.2.1 20) 0 0 6)) 21 (va_cpy (σ.2.1 76) (σ.2.1 21) 0 0 6)))) rfl dX6_copyFrom_80 ?_
  exact j_vret C E (sF (sF (sF (sF (sF (sI σ 256 (σ.1 1136)) 17 (va_cpy (σ.2.1 72) (σ.2.1 17) 0 0 6)) 18 (va_cpy (σ.2.1 73) (σ.2.1 18) 0 0 6)) 19 (va_cpy (σ.2.1 74) (σ.2.1 19) 0 0 6)) 20 (va_cpy (σ.2.1 75) (σ.2.1 20) 0 0 6)) 21 (va_cpy (σ.2.1 76) (σ.2.1 21) 0 0 6)) ⟨rfl, rfl⟩ rfl dX6_copyFrom_83
set_option maxRecDepth 100000 in
set_option maxHeartbeats 4000000 in
theorem c_gcopy_1_56 (g kk : Nat → Nat) (σ : St) : jM (S := St) yX2_copyFrom cX2_copyFrom 2 none { frames := 2, cells := 0, slots := 0, locals := 81 } kk (cX g kk σ) [.ref (g 1), .ref (g 56)] (cX g kk) (rV (fun u : St => (u = sF (sF (sF (sF (sF (sI (sF (sF (sF (sF (sI (sF (sF (sF (sF (sF (sF (sF (sF (sF (sI σ 16 (σ.1 896)) 2 (va_cpy (σ.2.1 57) (σ.2.1 2) 0 0 6)) 3 (va_cpy (σ.2.1 58) (σ.2.1 3) 0 0 6)) 4 (va_cpy (σ.2.1 59) (σ.2.1 4) 0 0 18)) 5 (va_cpy (σ.2.1 60) (σ.2.1 5) 0 0 28)) 6 (va_cpy (σ.2.1 61) (σ.2.1 6) 0 0 168)) 7 (va_cpy (σ.2.1 62) (σ.2.1 7) 0 0 168)) 8 (va_cpy (σ.2.1 63) (σ.2.1 8) 0 0 168)) 9 (va_cpy (σ.2.1 64) (σ.2.1 9) 0 0 168)) 10 (va_cpy (σ.2.1 65) (σ.2.1 10) 0 0 4)) 176 (σ.1 1056)) 12 (va_cpy (σ.2.1 67) (σ.2.1 12) 0 0 20)) 13 (va_cpy (σ.2.1 68) (σ.2.1 13) 0 0 20)) 14 (va_cpy (σ.2.1 69) (σ.2.1 14) 0 0 20)) 15 (va_cpy (σ.2.1 70) (σ.2.1 15) 0 0 168)) 256 (σ.1 1136)) 17 (va_cpy (σ.2.1 72) (σ.2.1 17) 0 0 6)) 18 (va_cpy (σ.2.1 73) (σ.2.1 18) 0 0 6)) 19 (va_cpy (σ.2.1 74) (σ.2.1 19) 0 0 6)) 20 (va_cpy (σ.2.1 75) (σ.2.1 20) 0 0 6)) 21 (va_cpy (σ.2.1 76) (σ.2.1 21) 0 0 6)))) := by
  refine j_entry [(0, .ref (g 1)), (1, .ref (g 56))] (by decide) (Nat.le_of_ble_eq_true rfl) rfl ?_
  intro X C E HI
  refine j_aload_n C 0 rfl dX2_copyFrom_0 ?_
  refine j_aload_n C 1 rfl dX2_copyFrom_1 ?_
  refine gX_56_0 C tb_97 (σ.1 896) rfl dX2_copyFrom_2 ?_
  refine pX_1_0 C tb_97 dX2_copyFrom_5 ?_
  refine j_aload_n C 1 rfl dX2_copyFrom_8 ?_
  refine gX_56_1 C tb_102 dX2_copyFrom_9 ?_
  refine j_iconst C (nI 0) (by decide) dX2_copyFrom_12 ?_
  refine j_aload_n C 0 rfl dX2_copyFrom_13 ?_
  refine gX_1_1 C tb_102 dX2_copyFrom_14 ?_
  refine j_iconst C (nI 0) (by decide) dX2_copyFrom_17 ?_
  refine j_bipush C (nI 6) (by decide) dX2_copyFrom_18 ?_
  refine j_copy C tb_94 tb_96 tb_95 tb_6 57 2 rfl rfl 0 0 6 rfl rfl rfl (by omega) (by omega) (by decide) (by decide) (by decide) (Nat.le_of_ble_eq_true rfl) (w' := (cX g kk (sF (sI σ 16 (σ.1 896)) 2 (va_cpy (σ.2.1 57) (σ.2.1 2) 0 0 6)))) rfl dX2_copyFrom_20 ?_
  refine j_aload_n C 1 rfl dX2_copyFrom_23 ?_
  refine gX_56_2 C tb_106 dX2_copyFrom_24 ?_
  refine j_iconst C (nI 0) (by decide) dX2_copyFrom_27 ?_
  refine j_aload_n C 0 rfl dX2_copyFrom_28 ?_
  refine gX_1_2 C tb_106 dX2_copyFrom_29 ?_
  refine j_iconst C (nI 0) (by decide) dX2_copyFrom_32 ?_
  refine j_bipush C (nI 6) (by decide) dX2_copyFrom_33 ?_
  refine j_copy C tb_94 tb_96 tb_95 tb_6 58 3 rfl rfl 0 0 6 rfl rfl rfl (by omega) (by omega) (by decide) (by decide) (by decide) (Nat.le_of_ble_eq_true rfl) (w' := (cX g kk (sF (sF (sI σ 16 (σ.1 896)) 2 (va_cpy (σ.2.1 57) (σ.2.1 2) 0 0 6)) 3 (va_cpy (σ.2.1 58) (σ.2.1 3) 0 0 6)))) rfl dX2_copyFrom_35 ?_
  refine j_aload_n C 1 rfl dX2_copyFrom_38 ?_
  refine gX_56_3 C tb_110 dX2_copyFrom_39 ?_
  refine j_iconst C (nI 0) (by decide) dX2_copyFrom_42 ?_
  refine j_aload_n C 0 rfl dX2_copyFrom_43 ?_
  refine gX_1_3 C tb_110 dX2_copyFrom_44 ?_
  refine j_iconst C (nI 0) (by decide) dX2_copyFrom_47 ?_
  refine j_bipush C (nI 18) (by decide) dX2_copyFrom_48 ?_
  refine j_copy C tb_94 tb_96 tb_95 tb_6 59 4 rfl rfl 0 0 18 rfl rfl rfl (by omega) (by omega) (by decide) (by decide) (by decide) (Nat.le_of_ble_eq_true rfl) (w' := (cX g kk (sF (sF (sF (sI σ 16 (σ.1 896)) 2 (va_cpy (σ.2.1 57) (σ.2.1 2) 0 0 6)) 3 (va_cpy (σ.2.1 58) (σ.2.1 3) 0 0 6)) 4 (va_cpy (σ.2.1 59) (σ.2.1 4) 0 0 18)))) rfl dX2_copyFrom_50 ?_
  refine j_aload_n C 1 rfl dX2_copyFrom_53 ?_
  refine gX_56_4 C tb_113 dX2_copyFrom_54 ?_
  refine j_iconst C (nI 0) (by decide) dX2_copyFrom_57 ?_
  refine j_aload_n C 0 rfl dX2_copyFrom_58 ?_
  refine gX_1_4 C tb_113 dX2_copyFrom_59 ?_
  refine j_iconst C (nI 0) (by decide) dX2_copyFrom_62 ?_
  refine j_bipush C (nI 28) (by decide) dX2_copyFrom_63 ?_
  refine j_copy C tb_94 tb_96 tb_95 tb_6 60 5 rfl rfl 0 0 28 rfl rfl rfl (by omega) (by omega) (by decide) (by decide) (by decide) (Nat.le_of_ble_eq_true rfl) (w' := (cX g kk (sF (sF (sF (sF (sI σ 16 (σ.1 896)) 2 (va_cpy (σ.2.1 57) (σ.2.1 2) 0 0 6)) 3 (va_cpy (σ.2.1 58) (σ.2.1 3) 0 0 6)) 4 (va_cpy (σ.2.1 59) (σ.2.1 4) 0 0 18)) 5 (va_cpy (σ.2.1 60) (σ.2.1 5) 0 0 28)))) rfl dX2_copyFrom_65 ?_
  refine j_aload_n C 1 rfl dX2_copyFrom_68 ?_
  refine gX_56_5 C tb_116 dX2_copyFrom_69 ?_
  refine j_iconst C (nI 0) (by decide) dX2_copyFrom_72 ?_
  refine j_aload_n C 0 rfl dX2_copyFrom_73 ?_
  refine gX_1_5 C tb_116 dX2_copyFrom_74 ?_
  refine j_iconst C (nI 0) (by decide) dX2_copyFrom_77 ?_
  refine j_sipush C (nI 168) (by decide) dX2_copyFrom_78 ?_
  refine j_copy C tb_94 tb_96 tb_95 tb_6 61 6 rfl rfl 0 0 168 rfl rfl rfl (by omega) (by omega) (by decide) (by decide) (by decide) (Nat.le_of_ble_eq_true rfl) (w' := (cX g kk (sF (sF (sF (sF (sF (sI σ 16 (σ.1 896)) 2 (va_cpy (σ.2.1 57) (σ.2.1 2) 0 0 6)) 3 (va_cpy (σ.2.1 58) (σ.2.1 3) 0 0 6)) 4 (va_cpy (σ.2.1 59) (σ.2.1 4) 0 0 18)) 5 (va_cpy (σ.2.1 60) (σ.2.1 5) 0 0 28)) 6 (va_cpy (σ.2.1 61) (σ.2.1 6) 0 0 168)))) rfl dX2_copyFrom_81 ?_
  refine j_aload_n C 1 rfl dX2_copyFrom_84 ?_
  refine gX_56_6 C tb_120 dX2_copyFrom_85 ?_
  refine j_iconst C (nI 0) (by decide) dX2_copyFrom_88 ?_
  refine j_aload_n C 0 rfl dX2_copyFrom_89 ?_
  refine gX_1_6 C tb_120 dX2_copyFrom_90 ?_
  refine j_iconst C (nI 0) (by decide) dX2_copyFrom_93 ?_
  refine j_sipush C (nI 168) (by decide) dX2_copyFrom_94 ?_
  refine j_copy C tb_94 tb_96 tb_95 tb_6 62 7 rfl rfl 0 0 168 rfl rfl rfl (by omega) (by omega) (by decide) (by decide) (by decide) (Nat.le_of_ble_eq_true rfl) (w' := (cX g kk (sF (sF (sF (sF (sF (sF (sI σ 16 (σ.1 896)) 2 (va_cpy (σ.2.1 57) (σ.2.1 2) 0 0 6)) 3 (va_cpy (σ.2.1 58) (σ.2.1 3) 0 0 6)) 4 (va_cpy (σ.2.1 59) (σ.2.1 4) 0 0 18)) 5 (va_cpy (σ.2.1 60) (σ.2.1 5) 0 0 28)) 6 (va_cpy (σ.2.1 61) (σ.2.1 6) 0 0 168)) 7 (va_cpy (σ.2.1 62) (σ.2.1 7) 0 0 168)))) rfl dX2_copyFrom_97 ?_
  refine j_aload_n C 1 rfl dX2_copyFrom_100 ?_
  refine gX_56_7 C tb_122 dX2_copyFrom_101 ?_
  refine j_iconst C (nI 0) (by decide) dX2_copyFrom_104 ?_
  refine j_aload_n C 0 rfl dX2_copyFrom_105 ?_
  refine gX_1_7 C tb_122 dX2_copyFrom_106 ?_
  refine j_iconst C (nI 0) (by decide) dX2_copyFrom_109 ?_
  refine j_sipush C (nI 168) (by decide) dX2_copyFrom_110 ?_
  refine j_copy C tb_94 tb_96 tb_95 tb_6 63 8 rfl rfl 0 0 168 rfl rfl rfl (by omega) (by omega) (by decide) (by decide) (by decide) (Nat.le_of_ble_eq_true rfl) (w' := (cX g kk (sF (sF (sF (sF (sF (sF (sF (sI σ 16 (σ.1 896)) 2 (va_cpy (σ.2.1 57) (σ.2.1 2) 0 0 6)) 3 (va_cpy (σ.2.1 58) (σ.2.1 3) 0 0 6)) 4 (va_cpy (σ.2.1 59) (σ.2.1 4) 0 0 18)) 5 (va_cpy (σ.2.1 60) (σ.2.1 5) 0 0 28)) 6 (va_cpy (σ.2.1 61) (σ.2.1 6) 0 0 168)) 7 (va_cpy (σ.2.1 62) (σ.2.1 7) 0 0 168)) 8 (va_cpy (σ.2.1 63) (σ.2.1 8) 0 0 168)))) rfl dX2_copyFrom_113 ?_
  refine j_aload_n C 1 rfl dX2_copyFrom_116 ?_
  refine gX_56_8 C tb_124 dX2_copyFrom_117 ?_
  refine j_iconst C (nI 0) (by decide) dX2_copyFrom_120 ?_
  refine j_aload_n C 0 rfl dX2_copyFrom_121 ?_
  refine gX_1_8 C tb_124 dX2_copyFrom_122 ?_
  refine j_iconst C (nI 0) (by decide) dX2_copyFrom_125 ?_
  refine j_sipush C (nI 168) (by decide) dX2_copyFrom_126 ?_
  refine j_copy C tb_94 tb_96 tb_95 tb_6 64 9 rfl rfl 0 0 168 rfl rfl rfl (by omega) (by omega) (by decide) (by decide) (by decide) (Nat.le_of_ble_eq_true rfl) (w' := (cX g kk (sF (sF (sF (sF (sF (sF (sF (sF (sI σ 16 (σ.1 896)) 2 (va_cpy (σ.2.1 57) (σ.2.1 2) 0 0 6)) 3 (va_cpy (σ.2.1 58) (σ.2.1 3) 0 0 6)) 4 (va_cpy (σ.2.1 59) (σ.2.1 4) 0 0 18)) 5 (va_cpy (σ.2.1 60) (σ.2.1 5) 0 0 28)) 6 (va_cpy (σ.2.1 61) (σ.2.1 6) 0 0 168)) 7 (va_cpy (σ.2.1 62) (σ.2.1 7) 0 0 168)) 8 (va_cpy (σ.2.1 63) (σ.2.1 8) 0 0 168)) 9 (va_cpy (σ.2.1 64) (σ.2.1 9) 0 0 168)))) rfl dX2_copyFrom_129 ?_
  refine j_aload_n C 1 rfl dX2_copyFrom_132 ?_
  refine gX_56_9 C tb_126 dX2_copyFrom_133 ?_
  refine j_iconst C (nI 0) (by decide) dX2_copyFrom_136 ?_
  refine j_aload_n C 0 rfl dX2_copyFrom_137 ?_
  refine gX_1_9 C tb_126 dX2_copyFrom_138 ?_
  refine j_iconst C (nI 0) (by decide) dX2_copyFrom_141 ?_
  refine j_iconst C (nI 4) (by decide) dX2_copyFrom_142 ?_
  refine j_copy C tb_94 tb_96 tb_95 tb_6 65 10 rfl rfl 0 0 4 rfl rfl rfl (by omega) (by omega) (by decide) (by decide) (by decide) (Nat.le_of_ble_eq_true rfl) (w' := (cX g kk (sF (sF (sF (sF (sF (sF (sF (sF (sF (sI σ 16 (σ.1 896)) 2 (va_cpy (σ.2.1 57) (σ.2.1 2) 0 0 6)) 3 (va_cpy (σ.2.1 58) (σ.2.1 3) 0 0 6)) 4 (va_cpy (σ.2.1 59) (σ.2.1 4) 0 0 18)) 5 (va_cpy (σ.2.1 60) (σ.2.1 5) 0 0 28)) 6 (va_cpy (σ.2.1 61) (σ.2.1 6) 0 0 168)) 7 (va_cpy (σ.2.1 62) (σ.2.1 7) 0 0 168)) 8 (va_cpy (σ.2.1 63) (σ.2.1 8) 0 0 168)) 9 (va_cpy (σ.2.1 64) (σ.2.1 9) 0 0 168)) 10 (va_cpy (σ.2.1 65) (σ.2.1 10) 0 0 4)))) rfl dX2_copyFrom_143 ?_
  refine j_aload_n C 0 rfl dX2_copyFrom_146 ?_
  refine gX_1_10 C tb_132 dX2_copyFrom_147 ?_
  refine j_aload_n C 1 rfl dX2_copyFrom_150 ?_
  refine gX_56_10 C tb_132 dX2_copyFrom_151 ?_
  refine j_V1 C (c_fcopy_1_56 g kk (sF (sF (sF (sF (sF (sF (sF (sF (sF (sI σ 16 (σ.1 896)) 2 (va_cpy (σ.2.1 57) (σ.2.1 2) 0 0 6)) 3 (va_cpy (σ.2.1 58) (σ.2.1 3) 0 0 6)) 4 (va_cpy (σ.2.1 59) (σ.2.1 4) 0 0 18)) 5 (va_cpy (σ.2.1 60) (σ.2.1 5) 0 0 28)) 6 (va_cpy (σ.2.1 61) (σ.2.1 6) 0 0 168)) 7 (va_cpy (σ.2.1 62) (σ.2.1 7) 0 0 168)) 8 (va_cpy (σ.2.1 63) (σ.2.1 8) 0 0 168)) 9 (va_cpy (σ.2.1 64) (σ.2.1 9) 0 0 168)) 10 (va_cpy (σ.2.1 65) (σ.2.1 10) 0 0 4))) kyX1_copyFrom tb_849 tb_850 tb_851 11 rfl (eX_11 g kk _) rfl (Nat.le_of_ble_eq_true rfl) ⟨by decide, by decide⟩ dX2_copyFrom_154 rfl (fun vr ur hp => ?_)
  obtain ⟨rfl, hu⟩ := hp
  replace hu := hu.symm
  subst hu
  refine j_aload_n C 0 rfl dX2_copyFrom_157 ?_
  refine gX_1_11 C tb_134 dX2_copyFrom_158 ?_
  refine j_aload_n C 1 rfl dX2_copyFrom_161 ?_
  refine gX_56_11 C tb_134 dX2_copyFrom_162 ?_
  refine j_V1 C (c_rcopy_1_56 g kk (sF (sF (sF (sF (sI (sF (sF (sF (sF (sF (sF (sF (sF (sF (sI σ 16 (σ.1 896)) 2 (va_cpy (σ.2.1 57) (σ.2.1 2) 0 0 6)) 3 (va_cpy (σ.2.1 58) (σ.2.1 3) 0 0 6)) 4 (va_cpy (σ.2.1 59) (σ.2.1 4) 0 0 18)) 5 (va_cpy (σ.2.1 60) (σ.2.1 5) 0 0 28)) 6 (va_cpy (σ.2.1 61) (σ.2.1 6) 0 0 168)) 7 (va_cpy (σ.2.1 62) (σ.2.1 7) 0 0 168)) 8 (va_cpy (σ.2.1 63) (σ.2.1 8) 0 0 168)) 9 (va_cpy (σ.2.1 64) (σ.2.1 9) 0 0 168)) 10 (va_cpy (σ.2.1 65) (σ.2.1 10) 0 0 4)) 176 (σ.1 1056)) 12 (va_cpy (σ.2.1 67) (σ.2.1 12) 0 0 20)) 13 (va_cpy (σ.2.1 68) (σ.2.1 13) 0 0 20)) 14 (va_cpy (σ.2.1 69) (σ.2.1 14) 0 0 20)) 15 (va_cpy (σ.2.1 70) (σ.2.1 15) 0 0 168))) kyX6_copyFrom tb_854 tb_855 tb_856 16 rfl (eX_16 g kk _) rfl (Nat.le_of_ble_eq_true rfl) ⟨by decide, by decide⟩ dX2_copyFrom_165 rfl (fun vr ur hp => ?_)
  obtain ⟨rfl, hu⟩ := hp
  replace hu := hu.symm
  subst hu
  exact j_vret C E (sF (sF (sF (sF (sF (sI (sF (sF (sF (sF (sI (sF (sF (sF (sF (sF (sF (sF (sF (sF (sI σ 16 (σ.1 896)) 2 (va_cpy (σ.2.1 57) (σ.2.1 2) 0 0 6)) 3 (va_cpy (σ.2.1 58) (σ.2.1 3) 0 0 6)) 4 (va_cpy (σ.2.1 59) (σ.2.1 4) 0 0 18)) 5 (va_cpy (σ.2.1 60) (σ.2.1 5) 0 0 28)) 6 (va_cpy (σ.2.1 61) (σ.2.1 6) 0 0 168)) 7 (va_cpy (σ.2.1 62) (σ.2.1 7) 0 0 168)) 8 (va_cpy (σ.2.1 63) (σ.2.1 8) 0 0 168)) 9 (va_cpy (σ.2.1 64) (σ.2.1 9) 0 0 168)) 10 (va_cpy (σ.2.1 65) (σ.2.1 10) 0 0 4)) 176 (σ.1 1056)) 12 (va_cpy (σ.2.1 67) (σ.2.1 12) 0 0 20)) 13 (va_cpy (σ.2.1 68) (σ.2.1 13) 0 0 20)) 14 (va_cpy (σ.2.1 69) (σ.2.1 14) 0 0 20)) 15 (va_cpy (σ.2.1 70) (σ.2.1 15) 0 0 168)) 256 (σ.1 1136)) 17 (va_cpy (σ.2.1 72) (σ.2.1 17) 0 0 6)) 18 (va_cpy (σ.2.1 73) (σ.2.1 18) 0 0 6)) 19 (va_cpy (σ.2.1 74) (σ.2.1 19) 0 0 6)) 20 (va_cpy (σ.2.1 75) (σ.2.1 20) 0 0 6)) 21 (va_cpy (σ.2.1 76) (σ.2.1 21) 0 0 6)) ⟨rfl, rfl⟩ rfl dX2_copyFrom_168
set_option maxRecDepth 100000 in
set_option maxHeartbeats 4000000 in
theorem c_fcopy_1_77 (g kk : Nat → Nat) (σ : St) : jM (S := St) yX1_copyFrom cX1_copyFrom 2 none { frames := 1, cells := 0, slots := 0, locals := 60 } kk (cX g kk σ) [.ref (g 11), .ref (g 87)] (cX g kk) (rV (fun u : St => (u = sF (sF (sF (sF (sI σ 176 (σ.1 1392)) 12 (va_cpy (σ.2.1 88) (σ.2.1 12) 0 0 20)) 13 (va_cpy (σ.2.1 89) (σ.2.1 13) 0 0 20)) 14 (va_cpy (σ.2.1 90) (σ.2.1 14) 0 0 20)) 15 (va_cpy (σ.2.1 91) (σ.2.1 15) 0 0 168)))) := by
  refine j_entry [(0, .ref (g 11)), (1, .ref (g 87))] (by decide) (Nat.le_of_ble_eq_true rfl) rfl ?_
  intro X C E HI
  refine j_aload_n C 0 rfl dX1_copyFrom_0 ?_
  refine j_aload_n C 1 rfl dX1_copyFrom_1 ?_
  refine gX_87_0 C tb_39 (σ.1 1392) rfl dX1_copyFrom_2 ?_
  refine pX_11_0 C tb_39 dX1_copyFrom_5 ?_
  refine j_aload_n C 1 rfl dX1_copyFrom_8 ?_
  refine gX_87_1 C tb_41 dX1_copyFrom_9 ?_
  refine j_iconst C (nI 0) (by decide) dX1_copyFrom_12 ?_
  refine j_aload_n C 0 rfl dX1_copyFrom_13 ?_
  refine gX_11_1 C tb_41 dX1_copyFrom_14 ?_
  refine j_iconst C (nI 0) (by decide) dX1_copyFrom_17 ?_
  refine j_bipush C (nI 20) (by decide) dX1_copyFrom_18 ?_
  refine j_copy C tb_853 tb_96 tb_95 tb_6 88 12 rfl rfl 0 0 20 rfl rfl rfl (by omega) (by omega) (by decide) (by decide) (by decide) (Nat.le_of_ble_eq_true rfl) (w' := (cX g kk (sF (sI σ 176 (σ.1 1392)) 12 (va_cpy (σ.2.1 88) (σ.2.1 12) 0 0 20)))) rfl dX1_copyFrom_20 ?_
  refine j_aload_n C 1 rfl dX1_copyFrom_23 ?_
  refine gX_87_2 C tb_42 dX1_copyFrom_24 ?_
  refine j_iconst C (nI 0) (by decide) dX1_copyFrom_27 ?_
  refine j_aload_n C 0 rfl dX1_copyFrom_28 ?_
  refine gX_11_2 C tb_42 dX1_copyFrom_29 ?_
  refine j_iconst C (nI 0) (by decide) dX1_copyFrom_32 ?_
  refine j_bipush C (nI 20) (by decide) dX1_copyFrom_33 ?_
  refine j_copy C tb_853 tb_96 tb_95 tb_6 89 13 rfl rfl 0 0 20 rfl rfl rfl (by omega) (by omega) (by decide) (by decide) (by decide) (Nat.le_of_ble_eq_true rfl) (w' := (cX g kk (sF (sF (sI σ 176 (σ.1 1392)) 12 (va_cpy (σ.2.1 88) (σ.2.1 12) 0 0 20)) 13 (va_cpy (σ.2.1 89) (σ.2.1 13) 0 0 20)))) rfl dX1_copyFrom_35 ?_
  refine j_aload_n C 1 rfl dX1_copyFrom_38 ?_
  refine gX_87_3 C tb_44 dX1_copyFrom_39 ?_
  refine j_iconst C (nI 0) (by decide) dX1_copyFrom_42 ?_
  refine j_aload_n C 0 rfl dX1_copyFrom_43 ?_
  refine gX_11_3 C tb_44 dX1_copyFrom_44 ?_
  refine j_iconst C (nI 0) (by decide) dX1_copyFrom_47 ?_
  refine j_bipush C (nI 20) (by decide) dX1_copyFrom_48 ?_
  refine j_copy C tb_853 tb_96 tb_95 tb_6 90 14 rfl rfl 0 0 20 rfl rfl rfl (by omega) (by omega) (by decide) (by decide) (by decide) (Nat.le_of_ble_eq_true rfl) (w' := (cX g kk (sF (sF (sF (sI σ 176 (σ.1 1392)) 12 (va_cpy (σ.2.1 88) (σ.2.1 12) 0 0 20)) 13 (va_cpy (σ.2.1 89) (σ.2.1 13) 0 0 20)) 14 (va_cpy (σ.2.1 90) (σ.2.1 14) 0 0 20)))) rfl dX1_copyFrom_50 ?_
  refine j_aload_n C 1 rfl dX1_copyFrom_53 ?_
  refine gX_87_4 C tb_45 dX1_copyFrom_54 ?_
  refine j_iconst C (nI 0) (by decide) dX1_copyFrom_57 ?_
  refine j_aload_n C 0 rfl dX1_copyFrom_58 ?_
  refine gX_11_4 C tb_45 dX1_copyFrom_59 ?_
  refine j_iconst C (nI 0) (by decide) dX1_copyFrom_62 ?_
  refine j_sipush C (nI 168) (by decide) dX1_copyFrom_63 ?_
  refine j_copy C tb_853 tb_96 tb_95 tb_6 91 15 rfl rfl 0 0 168 rfl rfl rfl (by omega) (by omega) (by decide) (by decide) (by decide) (Nat.le_of_ble_eq_true rfl) (w' := (cX g kk (sF (sF (sF (sF (sI σ 176 (σ.1 1392)) 12 (va_cpy (σ.2.1 88) (σ.2.1 12) 0 0 20)) 13 (va_cpy (σ.2.1 89) (σ.2.1 13) 0 0 20)) 14 (va_cpy (σ.2.1 90) (σ.2.1 14) 0 0 20)) 15 (va_cpy (σ.2.1 91) (σ.2.1 15) 0 0 168)))) rfl dX1_copyFrom_66 ?_
  exact j_vret C E (sF (sF (sF (sF (sI σ 176 (σ.1 1392)) 12 (va_cpy (σ.2.1 88) (σ.2.1 12) 0 0 20)) 13 (va_cpy (σ.2.1 89) (σ.2.1 13) 0 0 20)) 14 (va_cpy (σ.2.1 90) (σ.2.1 14) 0 0 20)) 15 (va_cpy (σ.2.1 91) (σ.2.1 15) 0 0 168)) ⟨rfl, rfl⟩ rfl dX1_copyFrom_69
set_option maxRecDepth 100000 in
set_option maxHeartbeats 4000000 in
theorem c_rcopy_1_77 (g kk : Nat → Nat) (σ : St) : jM (S := St) yX6_copyFrom cX6_copyFrom 2 none { frames := 1, cells := 0, slots := 0, locals := 60 } kk (cX g kk σ) [.ref (g 16), .ref (g 92)] (cX g kk) (rV (fun u : St => (u = sF (sF (sF (sF (sF (sI σ 256 (σ.1 1472)) 17 (va_cpy (σ.2.1 93) (σ.2.1 17) 0 0 6)) 18 (va_cpy (σ.2.1 94) (σ.2.1 18) 0 0 6)) 19 (va_cpy (σ.2.1 95) (σ.2.1 19) 0 0 6)) 20 (va_cpy (σ.2.1 96) (σ.2.1 20) 0 0 6)) 21 (va_cpy (σ.2.1 97) (σ.2.1 21) 0 0 6)))) := by
  refine j_entry [(0, .ref (g 16)), (1, .ref (g 92))] (by decide) (Nat.le_of_ble_eq_true rfl) rfl ?_
  intro X C E HI
  refine j_aload_n C 0 rfl dX6_copyFrom_0 ?_
  refine j_aload_n C 1 rfl dX6_copyFrom_1 ?_
  refine gX_92_0 C tb_65 (σ.1 1472) rfl dX6_copyFrom_2 ?_
  refine pX_16_0 C tb_65 dX6_copyFrom_5 ?_
  refine j_aload_n C 1 rfl dX6_copyFrom_8 ?_
  refine gX_92_1 C tb_68 dX6_copyFrom_9 ?_
  refine j_iconst C (nI 0) (by decide) dX6_copyFrom_12 ?_
  refine j_aload_n C 0 rfl dX6_copyFrom_13 ?_
  refine gX_16_1 C tb_68 dX6_copyFrom_14 ?_
  refine j_iconst C (nI 0) (by decide) dX6_copyFrom_17 ?_
  refine j_bipush C (nI 6) (by decide) dX6_copyFrom_18 ?_
  refine j_copy C tb_858 tb_96 tb_95 tb_6 93 17 rfl rfl 0 0 6 rfl rfl rfl (by omega) (by omega) (by decide) (by decide) (by decide) (Nat.le_of_ble_eq_true rfl) (w' := (cX g kk (sF (sI σ 256 (σ.1 1472)) 17 (va_cpy (σ.2.1 93) (σ.2.1 17) 0 0 6)))) rfl dX6_copyFrom_20 ?_
  refine j_aload_n C 1 rfl dX6_copyFrom_23 ?_
  refine gX_92_2 C tb_70 dX6_copyFrom_24 ?_
  refine j_iconst C (nI 0) (by decide) dX6_copyFrom_27 ?_
  refine j_aload_n C 0 rfl dX6_copyFrom_28 ?_
  refine gX_16_2 C tb_70 dX6_copyFrom_29 ?_
  refine j_iconst C (nI 0) (by decide) dX6_copyFrom_32 ?_
  refine j_bipush C (nI 6) (by decide) dX6_copyFrom_33 ?_
  refine j_copy C tb_858 tb_96 tb_95 tb_6 94 18 rfl rfl 0 0 6 rfl rfl rfl (by omega) (by omega) (by decide) (by decide) (by decide) (Nat.le_of_ble_eq_true rfl) (w' := (cX g kk (sF (sF (sI σ 256 (σ.1 1472)) 17 (va_cpy (σ.2.1 93) (σ.2.1 17) 0 0 6)) 18 (va_cpy (σ.2.1 94) (σ.2.1 18) 0 0 6)))) rfl dX6_copyFrom_35 ?_
  refine j_aload_n C 1 rfl dX6_copyFrom_38 ?_
  refine gX_92_3 C tb_72 dX6_copyFrom_39 ?_
  refine j_iconst C (nI 0) (by decide) dX6_copyFrom_42 ?_
  refine j_aload_n C 0 rfl dX6_copyFrom_43 ?_
  refine gX_16_3 C tb_72 dX6_copyFrom_44 ?_
  refine j_iconst C (nI 0) (by decide) dX6_copyFrom_47 ?_
  refine j_bipush C (nI 6) (by decide) dX6_copyFrom_48 ?_
  refine j_copy C tb_858 tb_96 tb_95 tb_6 95 19 rfl rfl 0 0 6 rfl rfl rfl (by omega) (by omega) (by decide) (by decide) (by decide) (Nat.le_of_ble_eq_true rfl) (w' := (cX g kk (sF (sF (sF (sI σ 256 (σ.1 1472)) 17 (va_cpy (σ.2.1 93) (σ.2.1 17) 0 0 6)) 18 (va_cpy (σ.2.1 94) (σ.2.1 18) 0 0 6)) 19 (va_cpy (σ.2.1 95) (σ.2.1 19) 0 0 6)))) rfl dX6_copyFrom_50 ?_
  refine j_aload_n C 1 rfl dX6_copyFrom_53 ?_
  refine gX_92_4 C tb_74 dX6_copyFrom_54 ?_
  refine j_iconst C (nI 0) (by decide) dX6_copyFrom_57 ?_
  refine j_aload_n C 0 rfl dX6_copyFrom_58 ?_
  refine gX_16_4 C tb_74 dX6_copyFrom_59 ?_
  refine j_iconst C (nI 0) (by decide) dX6_copyFrom_62 ?_
  refine j_bipush C (nI 6) (by decide) dX6_copyFrom_63 ?_
  refine j_copy C tb_858 tb_96 tb_95 tb_6 96 20 rfl rfl 0 0 6 rfl rfl rfl (by omega) (by omega) (by decide) (by decide) (by decide) (Nat.le_of_ble_eq_true rfl) (w' := (cX g kk (sF (sF (sF (sF (sI σ 256 (σ.1 1472)) 17 (va_cpy (σ.2.1 93) (σ.2.1 17) 0 0 6)) 18 (va_cpy (σ.2.1 94) (σ.2.1 18) 0 0 6)) 19 (va_cpy (σ.2.1 95) (σ.2.1 19) 0 0 6)) 20 (va_cpy (σ.2.1 96) (σ.2.1 20) 0 0 6)))) rfl dX6_copyFrom_65 ?_
  refine j_aload_n C 1 rfl dX6_copyFrom_68 ?_
  refine gX_92_5 C tb_76 dX6_copyFrom_69 ?_
  refine j_iconst C (nI 0) (by decide) dX6_copyFrom_72 ?_
  refine j_aload_n C 0 rfl dX6_copyFrom_73 ?_
  refine gX_16_5 C tb_76 dX6_copyFrom_74 ?_
  refine j_iconst C (nI 0) (by decide) dX6_copyFrom_77 ?_
  refine j_bipush C (nI 6) (by decide) dX6_copyFrom_78 ?_
  refine j_copy C tb_858 tb_96 tb_95 tb_6 97 21 rfl rfl 0 0 6 rfl rfl rfl (by omega) (by omega) (by decide) (by decide) (by decide) (Nat.le_of_ble_eq_true rfl) (w' := (cX g kk (sF (sF (sF (sF (sF (sI σ 256 (σ.1 1472)) 17 (va_cpy (σ.2.1 93) (σ.2.1 17) 0 0 6)) 18 (va_cpy (σ.2.1 94) (σ.2.1 18) 0 0 6)) 19 (va_cpy (σ.2.1 95) (σ.2.1 19) 0 0 6)) 20 (va_cpy (σ.2.1 96) (σ.2.1 20) 0 0 6)) 21 (va_cpy (σ.2.1 97) (σ.2.1 21) 0 0 6)))) rfl dX6_copyFrom_80 ?_
  exact j_vret C E (sF (sF (sF (sF (sF (sI σ 256 (σ.1 1472)) 17 (va_cpy (σ.2.1 93) (σ.2.1 17) 0 0 6)) 18 (va_cpy (σ.2.1 94) (σ.2.1 18) 0 0 6)) 19 (va_cpy (σ.2.1 95) (σ.2.1 19) 0 0 6)) 20 (va_cpy (σ.2.1 96) (σ.2.1 20) 0 0 6)) 21 (va_cpy (σ.2.1 97) (σ.2.1 21) 0 0 6)) ⟨rfl, rfl⟩ rfl dX6_copyFrom_83
set_option maxRecDepth 100000 in
set_option maxHeartbeats 4000000 in
theorem c_gcopy_1_77 (g kk : Nat → Nat) (σ : St) : jM (S := St) yX2_copyFrom cX2_copyFrom 2 none { frames := 2, cells := 0, slots := 0, locals := 81 } kk (cX g kk σ) [.ref (g 1), .ref (g 77)] (cX g kk) (rV (fun u : St => (u = sF (sF (sF (sF (sF (sI (sF (sF (sF (sF (sI (sF (sF (sF (sF (sF (sF (sF (sF (sF (sI σ 16 (σ.1 1232)) 2 (va_cpy (σ.2.1 78) (σ.2.1 2) 0 0 6)) 3 (va_cpy (σ.2.1 79) (σ.2.1 3) 0 0 6)) 4 (va_cpy (σ.2.1 80) (σ.2.1 4) 0 0 18)) 5 (va_cpy (σ.2.1 81) (σ.2.1 5) 0 0 28)) 6 (va_cpy (σ.2.1 82) (σ.2.1 6) 0 0 168)) 7 (va_cpy (σ.2.1 83) (σ.2.1 7) 0 0 168)) 8 (va_cpy (σ.2.1 84) (σ.2.1 8) 0 0 168)) 9 (va_cpy (σ.2.1 85) (σ.2.1 9) 0 0 168)) 10 (va_cpy (σ.2.1 86) (σ.2.1 10) 0 0 4)) 176 (σ.1 1392)) 12 (va_cpy (σ.2.1 88) (σ.2.1 12) 0 0 20)) 13 (va_cpy (σ.2.1 89) (σ.2.1 13) 0 0 20)) 14 (va_cpy (σ.2.1 90) (σ.2.1 14) 0 0 20)) 15 (va_cpy (σ.2.1 91) (σ.2.1 15) 0 0 168)) 256 (σ.1 1472)) 17 (va_cpy (σ.2.1 93) (σ.2.1 17) 0 0 6)) 18 (va_cpy (σ.2.1 94) (σ.2.1 18) 0 0 6)) 19 (va_cpy (σ.2.1 95) (σ.2.1 19) 0 0 6)) 20 (va_cpy (σ.2.1 96) (σ.2.1 20) 0 0 6)) 21 (va_cpy (σ.2.1 97) (σ.2.1 21) 0 0 6)))) := by
  refine j_entry [(0, .ref (g 1)), (1, .ref (g 77))] (by decide) (Nat.le_of_ble_eq_true rfl) rfl ?_
  intro X C E HI
  refine j_aload_n C 0 rfl dX2_copyFrom_0 ?_
  refine j_aload_n C 1 rfl dX2_copyFrom_1 ?_
  refine gX_77_0 C tb_97 (σ.1 1232) rfl dX2_copyFrom_2 ?_
  refine pX_1_0 C tb_97 dX2_copyFrom_5 ?_
  refine j_aload_n C 1 rfl dX2_copyFrom_8 ?_
  refine gX_77_1 C tb_102 dX2_copyFrom_9 ?_
  refine j_iconst C (nI 0) (by decide) dX2_copyFrom_12 ?_
  refine j_aload_n C 0 rfl dX2_copyFrom_13 ?_
  refine gX_1_1 C tb_102 dX2_copyFrom_14 ?_
  refine j_iconst C (nI 0) (by decide) dX2_copyFrom_17 ?_
  refine j_bipush C (nI 6) (by decide) dX2_copyFrom_18 ?_
  refine j_copy C tb_94 tb_96 tb_95 tb_6 78 2 rfl rfl 0 0 6 rfl rfl rfl (by omega) (by omega) (by decide) (by decide) (by decide) (Nat.le_of_ble_eq_true rfl) (w' := (cX g kk (sF (sI σ 16 (σ.1 1232)) 2 (va_cpy (σ.2.1 78) (σ.2.1 2) 0 0 6)))) rfl dX2_copyFrom_20 ?_
  refine j_aload_n C 1 rfl dX2_copyFrom_23 ?_
  refine gX_77_2 C tb_106 dX2_copyFrom_24 ?_
  refine j_iconst C (nI 0) (by decide) dX2_copyFrom_27 ?_
  refine j_aload_n C 0 rfl dX2_copyFrom_28 ?_
  refine gX_1_2 C tb_106 dX2_copyFrom_29 ?_
  refine j_iconst C (nI 0) (by decide) dX2_copyFrom_32 ?_
  refine j_bipush C (nI 6) (by decide) dX2_copyFrom_33 ?_
  refine j_copy C tb_94 tb_96 tb_95 tb_6 79 3 rfl rfl 0 0 6 rfl rfl rfl (by omega) (by omega) (by decide) (by decide) (by decide) (Nat.le_of_ble_eq_true rfl) (w' := (cX g kk (sF (sF (sI σ 16 (σ.1 1232)) 2 (va_cpy (σ.2.1 78) (σ.2.1 2) 0 0 6)) 3 (va_cpy (σ.2.1 79) (σ.2.1 3) 0 0 6)))) rfl dX2_copyFrom_35 ?_
  refine j_aload_n C 1 rfl dX2_copyFrom_38 ?_
  refine gX_77_3 C tb_110 dX2_copyFrom_39 ?_
  refine j_iconst C (nI 0) (by decide) dX2_copyFrom_42 ?_
  refine j_aload_n C 0 rfl dX2_copyFrom_43 ?_
  refine gX_1_3 C tb_110 dX2_copyFrom_44 ?_
  refine j_iconst C (nI 0) (by decide) dX2_copyFrom_47 ?_
  refine j_bipush C (nI 18) (by decide) dX2_copyFrom_48 ?_
  refine j_copy C tb_94 tb_96 tb_95 tb_6 80 4 rfl rfl 0 0 18 rfl rfl rfl (by omega) (by omega) (by decide) (by decide) (by decide) (Nat.le_of_ble_eq_true rfl) (w' := (cX g kk (sF (sF (sF (sI σ 16 (σ.1 1232)) 2 (va_cpy (σ.2.1 78) (σ.2.1 2) 0 0 6)) 3 (va_cpy (σ.2.1 79) (σ.2.1 3) 0 0 6)) 4 (va_cpy (σ.2.1 80) (σ.2.1 4) 0 0 18)))) rfl dX2_copyFrom_50 ?_
  refine j_aload_n C 1 rfl dX2_copyFrom_53 ?_
  refine gX_77_4 C tb_113 dX2_copyFrom_54 ?_
  refine j_iconst C (nI 0) (by decide) dX2_copyFrom_57 ?_
  refine j_aload_n C 0 rfl dX2_copyFrom_58 ?_
  refine gX_1_4 C tb_113 dX2_copyFrom_59 ?_
  refine j_iconst C (nI 0) (by decide) dX2_copyFrom_62 ?_
  refine j_bipush C (nI 28) (by decide) dX2_copyFrom_63 ?_
  refine j_copy C tb_94 tb_96 tb_95 tb_6 81 5 rfl rfl 0 0 28 rfl rfl rfl (by omega) (by omega) (by decide) (by decide) (by decide) (Nat.le_of_ble_eq_true rfl) (w' := (cX g kk (sF (sF (sF (sF (sI σ 16 (σ.1 1232)) 2 (va_cpy (σ.2.1 78) (σ.2.1 2) 0 0 6)) 3 (va_cpy (σ.2.1 79) (σ.2.1 3) 0 0 6)) 4 (va_cpy (σ.2.1 80) (σ.2.1 4) 0 0 18)) 5 (va_cpy (σ.2.1 81) (σ.2.1 5) 0 0 28)))) rfl dX2_copyFrom_65 ?_
  refine j_aload_n C 1 rfl dX2_copyFrom_68 ?_
  refine gX_77_5 C tb_116 dX2_copyFrom_69 ?_
  refine j_iconst C (nI 0) (by decide) dX2_copyFrom_72 ?_
  refine j_aload_n C 0 rfl dX2_copyFrom_73 ?_
  refine gX_1_5 C tb_116 dX2_copyFrom_74 ?_
  refine j_iconst C (nI 0) (by decide) dX2_copyFrom_77 ?_
  refine j_sipush C (nI 168) (by decide) dX2_copyFrom_78 ?_
  refine j_copy C tb_94 tb_96 tb_95 tb_6 82 6 rfl rfl 0 0 168 rfl rfl rfl (by omega) (by omega) (by decide) (by decide) (by decide) (Nat.le_of_ble_eq_true rfl) (w' := (cX g kk (sF (sF (sF (sF (sF (sI σ 16 (σ.1 1232)) 2 (va_cpy (σ.2.1 78) (σ.2.1 2) 0 0 6)) 3 (va_cpy (σ.2.1 79) (σ.2.1 3) 0 0 6)) 4 (va_cpy (σ.2.1 80) (σ.2.1 4) 0 0 18)) 5 (va_cpy (σ.2.1 81) (σ.2.1 5) 0 0 28)) 6 (va_cpy (σ.2.1 82) (σ.2.1 6) 0 0 168)))) rfl dX2_copyFrom_81 ?_
  refine j_aload_n C 1 rfl dX2_copyFrom_84 ?_
  refine gX_77_6 C tb_120 dX2_copyFrom_85 ?_
  refine j_iconst C (nI 0) (by decide) dX2_copyFrom_88 ?_
  refine j_aload_n C 0 rfl dX2_copyFrom_89 ?_
  refine gX_1_6 C tb_120 dX2_copyFrom_90 ?_
  refine j_iconst C (nI 0) (by decide) dX2_copyFrom_93 ?_
  refine j_sipush C (nI 168) (by decide) dX2_copyFrom_94 ?_
  refine j_copy C tb_94 tb_96 tb_95 tb_6 83 7 rfl rfl 0 0 168 rfl rfl rfl (by omega) (by omega) (by decide) (by decide) (by decide) (Nat.le_of_ble_eq_true rfl) (w' := (cX g kk (sF (sF (sF (sF (sF (sF (sI σ 16 (σ.1 1232)) 2 (va_cpy (σ.2.1 78) (σ.2.1 2) 0 0 6)) 3 (va_cpy (σ.2.1 79) (σ.2.1 3) 0 0 6)) 4 (va_cpy (σ.2.1 80) (σ.2.1 4) 0 0 18)) 5 (va_cpy (σ.2.1 81) (σ.2.1 5) 0 0 28)) 6 (va_cpy (σ.2.1 82) (σ.2.1 6) 0 0 168)) 7 (va_cpy (σ.2.1 83) (σ.2.1 7) 0 0 168)))) rfl dX2_copyFrom_97 ?_
  refine j_aload_n C 1 rfl dX2_copyFrom_100 ?_
  refine gX_77_7 C tb_122 dX2_copyFrom_101 ?_
  refine j_iconst C (nI 0) (by decide) dX2_copyFrom_104 ?_
  refine j_aload_n C 0 rfl dX2_copyFrom_105 ?_
  refine gX_1_7 C tb_122 dX2_copyFrom_106 ?_
  refine j_iconst C (nI 0) (by decide) dX2_copyFrom_109 ?_
  refine j_sipush C (nI 168) (by decide) dX2_copyFrom_110 ?_
  refine j_copy C tb_94 tb_96 tb_95 tb_6 84 8 rfl rfl 0 0 168 rfl rfl rfl (by omega) (by omega) (by decide) (by decide) (by decide) (Nat.le_of_ble_eq_true rfl) (w' := (cX g kk (sF (sF (sF (sF (sF (sF (sF (sI σ 16 (σ.1 1232)) 2 (va_cpy (σ.2.1 78) (σ.2.1 2) 0 0 6)) 3 (va_cpy (σ.2.1 79) (σ.2.1 3) 0 0 6)) 4 (va_cpy (σ.2.1 80) (σ.2.1 4) 0 0 18)) 5 (va_cpy (σ.2.1 81) (σ.2.1 5) 0 0 28)) 6 (va_cpy (σ.2.1 82) (σ.2.1 6) 0 0 168)) 7 (va_cpy (σ.2.1 83) (σ.2.1 7) 0 0 168)) 8 (va_cpy (σ.2.1 84) (σ.2.1 8) 0 0 168)))) rfl dX2_copyFrom_113 ?_
  refine j_aload_n C 1 rfl dX2_copyFrom_116 ?_
  refine gX_77_8 C tb_124 dX2_copyFrom_117 ?_
  refine j_iconst C (nI 0) (by decide) dX2_copyFrom_120 ?_
  refine j_aload_n C 0 rfl dX2_copyFrom_121 ?_
  refine gX_1_8 C tb_124 dX2_copyFrom_122 ?_
  refine j_iconst C (nI 0) (by decide) dX2_copyFrom_125 ?_
  refine j_sipush C (nI 168) (by decide) dX2_copyFrom_126 ?_
  refine j_copy C tb_94 tb_96 tb_95 tb_6 85 9 rfl rfl 0 0 168 rfl rfl rfl (by omega) (by omega) (by decide) (by decide) (by decide) (Nat.le_of_ble_eq_true rfl) (w' := (cX g kk (sF (sF (sF (sF (sF (sF (sF (sF (sI σ 16 (σ.1 1232)) 2 (va_cpy (σ.2.1 78) (σ.2.1 2) 0 0 6)) 3 (va_cpy (σ.2.1 79) (σ.2.1 3) 0 0 6)) 4 (va_cpy (σ.2.1 80) (σ.2.1 4) 0 0 18)) 5 (va_cpy (σ.2.1 81) (σ.2.1 5) 0 0 28)) 6 (va_cpy (σ.2.1 82) (σ.2.1 6) 0 0 168)) 7 (va_cpy (σ.2.1 83) (σ.2.1 7) 0 0 168)) 8 (va_cpy (σ.2.1 84) (σ.2.1 8) 0 0 168)) 9 (va_cpy (σ.2.1 85) (σ.2.1 9) 0 0 168)))) rfl dX2_copyFrom_129 ?_
  refine j_aload_n C 1 rfl dX2_copyFrom_132 ?_
  refine gX_77_9 C tb_126 dX2_copyFrom_133 ?_
  refine j_iconst C (nI 0) (by decide) dX2_copyFrom_136 ?_
  refine j_aload_n C 0 rfl dX2_copyFrom_137 ?_
  refine gX_1_9 C tb_126 dX2_copyFrom_138 ?_
  refine j_iconst C (nI 0) (by decide) dX2_copyFrom_141 ?_
  refine j_iconst C (nI 4) (by decide) dX2_copyFrom_142 ?_
  refine j_copy C tb_94 tb_96 tb_95 tb_6 86 10 rfl rfl 0 0 4 rfl rfl rfl (by omega) (by omega) (by decide) (by decide) (by decide) (Nat.le_of_ble_eq_true rfl) (w' := (cX g kk (sF (sF (sF (sF (sF (sF (sF (sF (sF (sI σ 16 (σ.1 1232)) 2 (va_cpy (σ.2.1 78) (σ.2.1 2) 0 0 6)) 3 (va_cpy (σ.2.1 79) (σ.2.1 3) 0 0 6)) 4 (va_cpy (σ.2.1 80) (σ.2.1 4) 0 0 18)) 5 (va_cpy (σ.2.1 81) (σ.2.1 5) 0 0 28)) 6 (va_cpy (σ.2.1 82) (σ.2.1 6) 0 0 168)) 7 (va_cpy (σ.2.1 83) (σ.2.1 7) 0 0 168)) 8 (va_cpy (σ.2.1 84) (σ.2.1 8) 0 0 168)) 9 (va_cpy (σ.2.1 85) (σ.2.1 9) 0 0 168)) 10 (va_cpy (σ.2.1 86) (σ.2.1 10) 0 0 4)))) rfl dX2_copyFrom_143 ?_
  refine j_aload_n C 0 rfl dX2_copyFrom_146 ?_
  refine gX_1_10 C tb_132 dX2_copyFrom_147 ?_
  refine j_aload_n C 1 rfl dX2_copyFrom_150 ?_
  refine gX_77_10 C tb_132 dX2_copyFrom_151 ?_
  refine j_V1 C (c_fcopy_1_77 g kk (sF (sF (sF (sF (sF (sF (sF (sF (sF (sI σ 16 (σ.1 1232)) 2 (va_cpy (σ.2.1 78) (σ.2.1 2) 0 0 6)) 3 (va_cpy (σ.2.1 79) (σ.2.1 3) 0 0 6)) 4 (va_cpy (σ.2.1 80) (σ.2.1 4) 0 0 18)) 5 (va_cpy (σ.2.1 81) (σ.2.1 5) 0 0 28)) 6 (va_cpy (σ.2.1 82) (σ.2.1 6) 0 0 168)) 7 (va_cpy (σ.2.1 83) (σ.2.1 7) 0 0 168)) 8 (va_cpy (σ.2.1 84) (σ.2.1 8) 0 0 168)) 9 (va_cpy (σ.2.1 85) (σ.2.1 9) 0 0 168)) 10 (va_cpy (σ.2.1 86) (σ.2.1 10) 0 0 4))) kyX1_copyFrom tb_849 tb_850 tb_851 11 rfl (eX_11 g kk _) rfl (Nat.le_of_ble_eq_true rfl) ⟨by decide, by decide⟩ dX2_copyFrom_154 rfl (fun vr ur hp => ?_)
  obtain ⟨rfl, hu⟩ := hp
  replace hu := hu.symm
  subst hu
  refine j_aload_n C 0 rfl dX2_copyFrom_157 ?_
  refine gX_1_11 C tb_134 dX2_copyFrom_158 ?_
  refine j_aload_n C 1 rfl dX2_copyFrom_161 ?_
  refine gX_77_11 C tb_134 dX2_copyFrom_162 ?_
  refine j_V1 C (c_rcopy_1_77 g kk (sF (sF (sF (sF (sI (sF (sF (sF (sF (sF (sF (sF (sF (sF (sI σ 16 (σ.1 1232)) 2 (va_cpy (σ.2.1 78) (σ.2.1 2) 0 0 6)) 3 (va_cpy (σ.2.1 79) (σ.2.1 3) 0 0 6)) 4 (va_cpy (σ.2.1 80) (σ.2.1 4) 0 0 18)) 5 (va_cpy (σ.2.1 81) (σ.2.1 5) 0 0 28)) 6 (va_cpy (σ.2.1 82) (σ.2.1 6) 0 0 168)) 7 (va_cpy (σ.2.1 83) (σ.2.1 7) 0 0 168)) 8 (va_cpy (σ.2.1 84) (σ.2.1 8) 0 0 168)) 9 (va_cpy (σ.2.1 85) (σ.2.1 9) 0 0 168)) 10 (va_cpy (σ.2.1 86) (σ.2.1 10) 0 0 4)) 176 (σ.1 1392)) 12 (va_cpy (σ.2.1 88) (σ.2.1 12) 0 0 20)) 13 (va_cpy (σ.2.1 89) (σ.2.1 13) 0 0 20)) 14 (va_cpy (σ.2.1 90) (σ.2.1 14) 0 0 20)) 15 (va_cpy (σ.2.1 91) (σ.2.1 15) 0 0 168))) kyX6_copyFrom tb_854 tb_855 tb_856 16 rfl (eX_16 g kk _) rfl (Nat.le_of_ble_eq_true rfl) ⟨by decide, by decide⟩ dX2_copyFrom_165 rfl (fun vr ur hp => ?_)
  obtain ⟨rfl, hu⟩ := hp
  replace hu := hu.symm
  subst hu
  exact j_vret C E (sF (sF (sF (sF (sF (sI (sF (sF (sF (sF (sI (sF (sF (sF (sF (sF (sF (sF (sF (sF (sI σ 16 (σ.1 1232)) 2 (va_cpy (σ.2.1 78) (σ.2.1 2) 0 0 6)) 3 (va_cpy (σ.2.1 79) (σ.2.1 3) 0 0 6)) 4 (va_cpy (σ.2.1 80) (σ.2.1 4) 0 0 18)) 5 (va_cpy (σ.2.1 81) (σ.2.1 5) 0 0 28)) 6 (va_cpy (σ.2.1 82) (σ.2.1 6) 0 0 168)) 7 (va_cpy (σ.2.1 83) (σ.2.1 7) 0 0 168)) 8 (va_cpy (σ.2.1 84) (σ.2.1 8) 0 0 168)) 9 (va_cpy (σ.2.1 85) (σ.2.1 9) 0 0 168)) 10 (va_cpy (σ.2.1 86) (σ.2.1 10) 0 0 4)) 176 (σ.1 1392)) 12 (va_cpy (σ.2.1 88) (σ.2.1 12) 0 0 20)) 13 (va_cpy (σ.2.1 89) (σ.2.1 13) 0 0 20)) 14 (va_cpy (σ.2.1 90) (σ.2.1 14) 0 0 20)) 15 (va_cpy (σ.2.1 91) (σ.2.1 15) 0 0 168)) 256 (σ.1 1472)) 17 (va_cpy (σ.2.1 93) (σ.2.1 17) 0 0 6)) 18 (va_cpy (σ.2.1 94) (σ.2.1 18) 0 0 6)) 19 (va_cpy (σ.2.1 95) (σ.2.1 19) 0 0 6)) 20 (va_cpy (σ.2.1 96) (σ.2.1 20) 0 0 6)) 21 (va_cpy (σ.2.1 97) (σ.2.1 21) 0 0 6)) ⟨rfl, rfl⟩ rfl dX2_copyFrom_168
set_option maxRecDepth 100000 in
set_option maxHeartbeats 4000000 in
theorem c_image0 (g kk : Nat → Nat) (σ : St)  : jM (S := St) yX10_image cX10_image 2 (some .int) { frames := 3, cells := 0, slots := 0, locals := 102 } kk (cX g kk σ) [.ref (g 0), .int (nI 0)] (cX g kk) (rI (fun (r : Int32) (u : St) => (((wB (nI 0) (nI 0) (nI 1)) = true) ∧ r = (nI 1) ∧ u = sF (sF (sF (sF (sF (sF (sI (sF (sF (sF (sF (sI (sF (sF (sF (sF (sF (sF (sF (sF (sF (sI σ 896 (σ.1 16)) 57 (va_cpy (σ.2.1 2) (σ.2.1 57) 0 0 6)) 58 (va_cpy (σ.2.1 3) (σ.2.1 58) 0 0 6)) 59 (va_cpy (σ.2.1 4) (σ.2.1 59) 0 0 18)) 60 (va_cpy (σ.2.1 5) (σ.2.1 60) 0 0 28)) 61 (va_cpy (σ.2.1 6) (σ.2.1 61) 0 0 168)) 62 (va_cpy (σ.2.1 7) (σ.2.1 62) 0 0 168)) 63 (va_cpy (σ.2.1 8) (σ.2.1 63) 0 0 168)) 64 (va_cpy (σ.2.1 9) (σ.2.1 64) 0 0 168)) 65 (va_cpy (σ.2.1 10) (σ.2.1 65) 0 0 4)) 1056 (σ.1 176)) 67 (va_cpy (σ.2.1 12) (σ.2.1 67) 0 0 20)) 68 (va_cpy (σ.2.1 13) (σ.2.1 68) 0 0 20)) 69 (va_cpy (σ.2.1 14) (σ.2.1 69) 0 0 20)) 70 (va_cpy (σ.2.1 15) (σ.2.1 70) 0 0 168)) 1136 (σ.1 256)) 72 (va_cpy (σ.2.1 17) (σ.2.1 72) 0 0 6)) 73 (va_cpy (σ.2.1 18) (σ.2.1 73) 0 0 6)) 74 (va_cpy (σ.2.1 19) (σ.2.1 74) 0 0 6)) 75 (va_cpy (σ.2.1 20) (σ.2.1 75) 0 0 6)) 76 (va_cpy (σ.2.1 21) (σ.2.1 76) 0 0 6)) 98 (upd (σ.2.1 98) 0 (vp_nar .boolean (nI 1)))))) := by
  refine j_entry [(0, .ref (g 0)), (1, .int (nI 0))] (by decide) (Nat.le_of_ble_eq_true rfl) rfl ?_
  intro X C E HI
  refine j_iload_n C 1 rfl dX10_image_0 ?_
  refine j_iconst C (nI 0) (by decide) dX10_image_1 ?_
  refine j_iconst C (nI 1) (by decide) dX10_image_2 ?_
  refine j_S01 C (c_isWithin (nI 0) (nI 0) (nI 1)) kyX10_isWithin tb_467 tb_468 rfl (Nat.le_of_ble_eq_true rfl) ⟨by decide, by decide⟩ ⟨by decide, by decide⟩ dX10_image_3 rfl ?_
  refine j_if_ne C 12 (by decide) dX10_image_6 (fun c1 => ?_) (fun c1 => ?_)
  · replace c1 := bI_t c1
    refine j_aload_n C 0 rfl dX10_image_12 ?_
    refine gX_0_8 C tb_436 dX10_image_13 ?_
    refine j_iload_n C 1 rfl dX10_image_16 ?_
    refine rX_55 C 0 rfl (by omega) dX10_image_17 ?_
    refine j_aload_n C 0 rfl dX10_image_18 ?_
    refine gX_0_0 C tb_428 dX10_image_19 ?_
    refine j_V1 C (c_gcopy_56_1 g kk σ) kyX2_copyFrom tb_845 tb_846 tb_847 56 rfl (eX_56 g kk _) rfl (Nat.le_of_ble_eq_true rfl) ⟨by decide, by decide⟩ dX10_image_22 rfl (fun vr ur hp => ?_)
    obtain ⟨rfl, hu⟩ := hp
    replace hu := hu.symm
    subst hu
    refine j_aload_n C 0 rfl dX10_image_25 ?_
    refine gX_0_9 C tb_437 dX10_image_26 ?_
    refine j_iload_n C 1 rfl dX10_image_29 ?_
    refine j_iconst C (nI 1) (by decide) dX10_image_30 ?_
    refine tX_98 C 0 rfl (by omega) dX10_image_31 ?_
    refine j_iconst C (nI 1) (by decide) dX10_image_32 ?_
    exact j_iret C E (sF (sF (sF (sF (sF (sF (sI (sF (sF (sF (sF (sI (sF (sF (sF (sF (sF (sF (sF (sF (sF (sI σ 896 (σ.1 16)) 57 (va_cpy (σ.2.1 2) (σ.2.1 57) 0 0 6)) 58 (va_cpy (σ.2.1 3) (σ.2.1 58) 0 0 6)) 59 (va_cpy (σ.2.1 4) (σ.2.1 59) 0 0 18)) 60 (va_cpy (σ.2.1 5) (σ.2.1 60) 0 0 28)) 61 (va_cpy (σ.2.1 6) (σ.2.1 61) 0 0 168)) 62 (va_cpy (σ.2.1 7) (σ.2.1 62) 0 0 168)) 63 (va_cpy (σ.2.1 8) (σ.2.1 63) 0 0 168)) 64 (va_cpy (σ.2.1 9) (σ.2.1 64) 0 0 168)) 65 (va_cpy (σ.2.1 10) (σ.2.1 65) 0 0 4)) 1056 (σ.1 176)) 67 (va_cpy (σ.2.1 12) (σ.2.1 67) 0 0 20)) 68 (va_cpy (σ.2.1 13) (σ.2.1 68) 0 0 20)) 69 (va_cpy (σ.2.1 14) (σ.2.1 69) 0 0 20)) 70 (va_cpy (σ.2.1 15) (σ.2.1 70) 0 0 168)) 1136 (σ.1 256)) 72 (va_cpy (σ.2.1 17) (σ.2.1 72) 0 0 6)) 73 (va_cpy (σ.2.1 18) (σ.2.1 73) 0 0 6)) 74 (va_cpy (σ.2.1 19) (σ.2.1 74) 0 0 6)) 75 (va_cpy (σ.2.1 20) (σ.2.1 75) 0 0 6)) 76 (va_cpy (σ.2.1 21) (σ.2.1 76) 0 0 6)) 98 (upd (σ.2.1 98) 0 (vp_nar .boolean (nI 1)))) ⟨_, rfl, ⟨c1, rfl, rfl⟩⟩ rfl dX10_image_33
  · replace c1 := bI_f c1
    exact absurd c1 (by decide)
set_option maxRecDepth 100000 in
set_option maxHeartbeats 4000000 in
theorem c_restore0 (g kk : Nat → Nat) (σ : St)  : jM (S := St) yX10_restore cX10_restore 2 (some .int) { frames := 3, cells := 0, slots := 0, locals := 102 } kk (cX g kk σ) [.ref (g 0), .int (nI 0)] (cX g kk) (rI (fun (r : Int32) (u : St) => (((wB (nI 0) (nI 0) (nI 1)) = true) ∧ (¬ ((σ.2.1 98) 0) = 0) ∧ r = (nI 1) ∧ u = sI (sF (sF (sF (sF (sF (sI (sF (sF (sF (sF (sI (sF (sF (sF (sF (sF (sF (sF (sF (sF (sI σ 16 (σ.1 896)) 2 (va_cpy (σ.2.1 57) (σ.2.1 2) 0 0 6)) 3 (va_cpy (σ.2.1 58) (σ.2.1 3) 0 0 6)) 4 (va_cpy (σ.2.1 59) (σ.2.1 4) 0 0 18)) 5 (va_cpy (σ.2.1 60) (σ.2.1 5) 0 0 28)) 6 (va_cpy (σ.2.1 61) (σ.2.1 6) 0 0 168)) 7 (va_cpy (σ.2.1 62) (σ.2.1 7) 0 0 168)) 8 (va_cpy (σ.2.1 63) (σ.2.1 8) 0 0 168)) 9 (va_cpy (σ.2.1 64) (σ.2.1 9) 0 0 168)) 10 (va_cpy (σ.2.1 65) (σ.2.1 10) 0 0 4)) 176 (σ.1 1056)) 12 (va_cpy (σ.2.1 67) (σ.2.1 12) 0 0 20)) 13 (va_cpy (σ.2.1 68) (σ.2.1 13) 0 0 20)) 14 (va_cpy (σ.2.1 69) (σ.2.1 14) 0 0 20)) 15 (va_cpy (σ.2.1 70) (σ.2.1 15) 0 0 168)) 256 (σ.1 1136)) 17 (va_cpy (σ.2.1 72) (σ.2.1 17) 0 0 6)) 18 (va_cpy (σ.2.1 73) (σ.2.1 18) 0 0 6)) 19 (va_cpy (σ.2.1 74) (σ.2.1 19) 0 0 6)) 20 (va_cpy (σ.2.1 75) (σ.2.1 20) 0 0 6)) 21 (va_cpy (σ.2.1 76) (σ.2.1 21) 0 0 6)) 437 (nI 1)) ∨ (((wB (nI 0) (nI 0) (nI 1)) = true) ∧ (((σ.2.1 98) 0) = 0) ∧ r = (-3) ∧ u = σ))) := by
  refine j_entry [(0, .ref (g 0)), (1, .int (nI 0))] (by decide) (Nat.le_of_ble_eq_true rfl) rfl ?_
  intro X C E HI
  refine j_iload_n C 1 rfl dX10_restore_0 ?_
  refine j_iconst C (nI 0) (by decide) dX10_restore_1 ?_
  refine j_iconst C (nI 1) (by decide) dX10_restore_2 ?_
  refine j_S01 C (c_isWithin (nI 0) (nI 0) (nI 1)) kyX10_isWithin tb_467 tb_468 rfl (Nat.le_of_ble_eq_true rfl) ⟨by decide, by decide⟩ ⟨by decide, by decide⟩ dX10_restore_3 rfl ?_
  refine j_if_ne C 12 (by decide) dX10_restore_6 (fun c1 => ?_) (fun c1 => ?_)
  · replace c1 := bI_t c1
    refine j_aload_n C 0 rfl dX10_restore_12 ?_
    refine gX_0_9 C tb_437 dX10_restore_13 ?_
    refine j_iload_n C 1 rfl dX10_restore_16 ?_
    refine rX_98 C 0 rfl (by omega) ((σ.2.1 98) 0) rfl dX10_restore_17 ?_
    refine j_if_ne C 24 (by decide) dX10_restore_18 (fun c2 => ?_) (fun c2 => ?_)
    · refine j_aload_n C 0 rfl dX10_restore_24 ?_
      refine gX_0_0 C tb_428 dX10_restore_25 ?_
      refine j_aload_n C 0 rfl dX10_restore_28 ?_
      refine gX_0_8 C tb_436 dX10_restore_29 ?_
      refine j_iload_n C 1 rfl dX10_restore_32 ?_
      refine rX_55 C 0 rfl (by omega) dX10_restore_33 ?_
      refine j_V1 C (c_gcopy_1_56 g kk σ) kyX2_copyFrom tb_845 tb_846 tb_847 1 rfl (eX_1 g kk _) rfl (Nat.le_of_ble_eq_true rfl) ⟨by decide, by decide⟩ dX10_restore_34 rfl (fun vr ur hp => ?_)
      obtain ⟨rfl, hu⟩ := hp
      replace hu := hu.symm
      subst hu
      refine j_aload_n C 0 rfl dX10_restore_37 ?_
      refine gX_0_2 C tb_430 dX10_restore_38 ?_
      refine j_iconst C (nI 1) (by decide) dX10_restore_41 ?_
      refine pX_27_5 C tb_214 rfl rfl dX10_restore_42 ?_
      refine j_iconst C (nI 1) (by decide) dX10_restore_45 ?_
      exact j_iret C E (sI (sF (sF (sF (sF (sF (sI (sF (sF (sF (sF (sI (sF (sF (sF (sF (sF (sF (sF (sF (sF (sI σ 16 (σ.1 896)) 2 (va_cpy (σ.2.1 57) (σ.2.1 2) 0 0 6)) 3 (va_cpy (σ.2.1 58) (σ.2.1 3) 0 0 6)) 4 (va_cpy (σ.2.1 59) (σ.2.1 4) 0 0 18)) 5 (va_cpy (σ.2.1 60) (σ.2.1 5) 0 0 28)) 6 (va_cpy (σ.2.1 61) (σ.2.1 6) 0 0 168)) 7 (va_cpy (σ.2.1 62) (σ.2.1 7) 0 0 168)) 8 (va_cpy (σ.2.1 63) (σ.2.1 8) 0 0 168)) 9 (va_cpy (σ.2.1 64) (σ.2.1 9) 0 0 168)) 10 (va_cpy (σ.2.1 65) (σ.2.1 10) 0 0 4)) 176 (σ.1 1056)) 12 (va_cpy (σ.2.1 67) (σ.2.1 12) 0 0 20)) 13 (va_cpy (σ.2.1 68) (σ.2.1 13) 0 0 20)) 14 (va_cpy (σ.2.1 69) (σ.2.1 14) 0 0 20)) 15 (va_cpy (σ.2.1 70) (σ.2.1 15) 0 0 168)) 256 (σ.1 1136)) 17 (va_cpy (σ.2.1 72) (σ.2.1 17) 0 0 6)) 18 (va_cpy (σ.2.1 73) (σ.2.1 18) 0 0 6)) 19 (va_cpy (σ.2.1 74) (σ.2.1 19) 0 0 6)) 20 (va_cpy (σ.2.1 75) (σ.2.1 20) 0 0 6)) 21 (va_cpy (σ.2.1 76) (σ.2.1 21) 0 0 6)) 437 (nI 1)) ⟨_, rfl, Or.inl ⟨c1, c2, rfl, rfl⟩⟩ rfl dX10_restore_46
    · refine j_bipush C ((-3)) (by decide) dX10_restore_21 ?_
      exact j_iret C E (σ) ⟨_, rfl, Or.inr (⟨c1, c2, rfl, rfl⟩)⟩ rfl dX10_restore_23
  · replace c1 := bI_f c1
    exact absurd c1 (by decide)
set_option maxRecDepth 100000 in
set_option maxHeartbeats 4000000 in
theorem c_image1 (g kk : Nat → Nat) (σ : St)  : jM (S := St) yX10_image cX10_image 2 (some .int) { frames := 3, cells := 0, slots := 0, locals := 102 } kk (cX g kk σ) [.ref (g 0), .int (nI 1)] (cX g kk) (rI (fun (r : Int32) (u : St) => (((wB (nI 1) (nI 0) (nI 1)) = true) ∧ r = (nI 1) ∧ u = sF (sF (sF (sF (sF (sF (sI (sF (sF (sF (sF (sI (sF (sF (sF (sF (sF (sF (sF (sF (sF (sI σ 1232 (σ.1 16)) 78 (va_cpy (σ.2.1 2) (σ.2.1 78) 0 0 6)) 79 (va_cpy (σ.2.1 3) (σ.2.1 79) 0 0 6)) 80 (va_cpy (σ.2.1 4) (σ.2.1 80) 0 0 18)) 81 (va_cpy (σ.2.1 5) (σ.2.1 81) 0 0 28)) 82 (va_cpy (σ.2.1 6) (σ.2.1 82) 0 0 168)) 83 (va_cpy (σ.2.1 7) (σ.2.1 83) 0 0 168)) 84 (va_cpy (σ.2.1 8) (σ.2.1 84) 0 0 168)) 85 (va_cpy (σ.2.1 9) (σ.2.1 85) 0 0 168)) 86 (va_cpy (σ.2.1 10) (σ.2.1 86) 0 0 4)) 1392 (σ.1 176)) 88 (va_cpy (σ.2.1 12) (σ.2.1 88) 0 0 20)) 89 (va_cpy (σ.2.1 13) (σ.2.1 89) 0 0 20)) 90 (va_cpy (σ.2.1 14) (σ.2.1 90) 0 0 20)) 91 (va_cpy (σ.2.1 15) (σ.2.1 91) 0 0 168)) 1472 (σ.1 256)) 93 (va_cpy (σ.2.1 17) (σ.2.1 93) 0 0 6)) 94 (va_cpy (σ.2.1 18) (σ.2.1 94) 0 0 6)) 95 (va_cpy (σ.2.1 19) (σ.2.1 95) 0 0 6)) 96 (va_cpy (σ.2.1 20) (σ.2.1 96) 0 0 6)) 97 (va_cpy (σ.2.1 21) (σ.2.1 97) 0 0 6)) 98 (upd (σ.2.1 98) 1 (vp_nar .boolean (nI 1)))))) := by
  refine j_entry [(0, .ref (g 0)), (1, .int (nI 1))] (by decide) (Nat.le_of_ble_eq_true rfl) rfl ?_
  intro X C E HI
  refine j_iload_n C 1 rfl dX10_image_0 ?_
  refine j_iconst C (nI 0) (by decide) dX10_image_1 ?_
  refine j_iconst C (nI 1) (by decide) dX10_image_2 ?_
  refine j_S01 C (c_isWithin (nI 1) (nI 0) (nI 1)) kyX10_isWithin tb_467 tb_468 rfl (Nat.le_of_ble_eq_true rfl) ⟨by decide, by decide⟩ ⟨by decide, by decide⟩ dX10_image_3 rfl ?_
  refine j_if_ne C 12 (by decide) dX10_image_6 (fun c1 => ?_) (fun c1 => ?_)
  · replace c1 := bI_t c1
    refine j_aload_n C 0 rfl dX10_image_12 ?_
    refine gX_0_8 C tb_436 dX10_image_13 ?_
    refine j_iload_n C 1 rfl dX10_image_16 ?_
    refine rX_55 C 1 rfl (by omega) dX10_image_17 ?_
    refine j_aload_n C 0 rfl dX10_image_18 ?_
    refine gX_0_0 C tb_428 dX10_image_19 ?_
    refine j_V1 C (c_gcopy_77_1 g kk σ) kyX2_copyFrom tb_845 tb_846 tb_847 77 rfl (eX_77 g kk _) rfl (Nat.le_of_ble_eq_true rfl) ⟨by decide, by decide⟩ dX10_image_22 rfl (fun vr ur hp => ?_)
    obtain ⟨rfl, hu⟩ := hp
    replace hu := hu.symm
    subst hu
    refine j_aload_n C 0 rfl dX10_image_25 ?_
    refine gX_0_9 C tb_437 dX10_image_26 ?_
    refine j_iload_n C 1 rfl dX10_image_29 ?_
    refine j_iconst C (nI 1) (by decide) dX10_image_30 ?_
    refine tX_98 C 1 rfl (by omega) dX10_image_31 ?_
    refine j_iconst C (nI 1) (by decide) dX10_image_32 ?_
    exact j_iret C E (sF (sF (sF (sF (sF (sF (sI (sF (sF (sF (sF (sI (sF (sF (sF (sF (sF (sF (sF (sF (sF (sI σ 1232 (σ.1 16)) 78 (va_cpy (σ.2.1 2) (σ.2.1 78) 0 0 6)) 79 (va_cpy (σ.2.1 3) (σ.2.1 79) 0 0 6)) 80 (va_cpy (σ.2.1 4) (σ.2.1 80) 0 0 18)) 81 (va_cpy (σ.2.1 5) (σ.2.1 81) 0 0 28)) 82 (va_cpy (σ.2.1 6) (σ.2.1 82) 0 0 168)) 83 (va_cpy (σ.2.1 7) (σ.2.1 83) 0 0 168)) 84 (va_cpy (σ.2.1 8) (σ.2.1 84) 0 0 168)) 85 (va_cpy (σ.2.1 9) (σ.2.1 85) 0 0 168)) 86 (va_cpy (σ.2.1 10) (σ.2.1 86) 0 0 4)) 1392 (σ.1 176)) 88 (va_cpy (σ.2.1 12) (σ.2.1 88) 0 0 20)) 89 (va_cpy (σ.2.1 13) (σ.2.1 89) 0 0 20)) 90 (va_cpy (σ.2.1 14) (σ.2.1 90) 0 0 20)) 91 (va_cpy (σ.2.1 15) (σ.2.1 91) 0 0 168)) 1472 (σ.1 256)) 93 (va_cpy (σ.2.1 17) (σ.2.1 93) 0 0 6)) 94 (va_cpy (σ.2.1 18) (σ.2.1 94) 0 0 6)) 95 (va_cpy (σ.2.1 19) (σ.2.1 95) 0 0 6)) 96 (va_cpy (σ.2.1 20) (σ.2.1 96) 0 0 6)) 97 (va_cpy (σ.2.1 21) (σ.2.1 97) 0 0 6)) 98 (upd (σ.2.1 98) 1 (vp_nar .boolean (nI 1)))) ⟨_, rfl, ⟨c1, rfl, rfl⟩⟩ rfl dX10_image_33
  · replace c1 := bI_f c1
    exact absurd c1 (by decide)
set_option maxRecDepth 100000 in
set_option maxHeartbeats 4000000 in
theorem c_restore1 (g kk : Nat → Nat) (σ : St)  : jM (S := St) yX10_restore cX10_restore 2 (some .int) { frames := 3, cells := 0, slots := 0, locals := 102 } kk (cX g kk σ) [.ref (g 0), .int (nI 1)] (cX g kk) (rI (fun (r : Int32) (u : St) => (((wB (nI 1) (nI 0) (nI 1)) = true) ∧ (¬ ((σ.2.1 98) 1) = 0) ∧ r = (nI 1) ∧ u = sI (sF (sF (sF (sF (sF (sI (sF (sF (sF (sF (sI (sF (sF (sF (sF (sF (sF (sF (sF (sF (sI σ 16 (σ.1 1232)) 2 (va_cpy (σ.2.1 78) (σ.2.1 2) 0 0 6)) 3 (va_cpy (σ.2.1 79) (σ.2.1 3) 0 0 6)) 4 (va_cpy (σ.2.1 80) (σ.2.1 4) 0 0 18)) 5 (va_cpy (σ.2.1 81) (σ.2.1 5) 0 0 28)) 6 (va_cpy (σ.2.1 82) (σ.2.1 6) 0 0 168)) 7 (va_cpy (σ.2.1 83) (σ.2.1 7) 0 0 168)) 8 (va_cpy (σ.2.1 84) (σ.2.1 8) 0 0 168)) 9 (va_cpy (σ.2.1 85) (σ.2.1 9) 0 0 168)) 10 (va_cpy (σ.2.1 86) (σ.2.1 10) 0 0 4)) 176 (σ.1 1392)) 12 (va_cpy (σ.2.1 88) (σ.2.1 12) 0 0 20)) 13 (va_cpy (σ.2.1 89) (σ.2.1 13) 0 0 20)) 14 (va_cpy (σ.2.1 90) (σ.2.1 14) 0 0 20)) 15 (va_cpy (σ.2.1 91) (σ.2.1 15) 0 0 168)) 256 (σ.1 1472)) 17 (va_cpy (σ.2.1 93) (σ.2.1 17) 0 0 6)) 18 (va_cpy (σ.2.1 94) (σ.2.1 18) 0 0 6)) 19 (va_cpy (σ.2.1 95) (σ.2.1 19) 0 0 6)) 20 (va_cpy (σ.2.1 96) (σ.2.1 20) 0 0 6)) 21 (va_cpy (σ.2.1 97) (σ.2.1 21) 0 0 6)) 437 (nI 1)) ∨ (((wB (nI 1) (nI 0) (nI 1)) = true) ∧ (((σ.2.1 98) 1) = 0) ∧ r = (-3) ∧ u = σ))) := by
  refine j_entry [(0, .ref (g 0)), (1, .int (nI 1))] (by decide) (Nat.le_of_ble_eq_true rfl) rfl ?_
  intro X C E HI
  refine j_iload_n C 1 rfl dX10_restore_0 ?_
  refine j_iconst C (nI 0) (by decide) dX10_restore_1 ?_
  refine j_iconst C (nI 1) (by decide) dX10_restore_2 ?_
  refine j_S01 C (c_isWithin (nI 1) (nI 0) (nI 1)) kyX10_isWithin tb_467 tb_468 rfl (Nat.le_of_ble_eq_true rfl) ⟨by decide, by decide⟩ ⟨by decide, by decide⟩ dX10_restore_3 rfl ?_
  refine j_if_ne C 12 (by decide) dX10_restore_6 (fun c1 => ?_) (fun c1 => ?_)
  · replace c1 := bI_t c1
    refine j_aload_n C 0 rfl dX10_restore_12 ?_
    refine gX_0_9 C tb_437 dX10_restore_13 ?_
    refine j_iload_n C 1 rfl dX10_restore_16 ?_
    refine rX_98 C 1 rfl (by omega) ((σ.2.1 98) 1) rfl dX10_restore_17 ?_
    refine j_if_ne C 24 (by decide) dX10_restore_18 (fun c2 => ?_) (fun c2 => ?_)
    · refine j_aload_n C 0 rfl dX10_restore_24 ?_
      refine gX_0_0 C tb_428 dX10_restore_25 ?_
      refine j_aload_n C 0 rfl dX10_restore_28 ?_
      refine gX_0_8 C tb_436 dX10_restore_29 ?_
      refine j_iload_n C 1 rfl dX10_restore_32 ?_
      refine rX_55 C 1 rfl (by omega) dX10_restore_33 ?_
      refine j_V1 C (c_gcopy_1_77 g kk σ) kyX2_copyFrom tb_845 tb_846 tb_847 1 rfl (eX_1 g kk _) rfl (Nat.le_of_ble_eq_true rfl) ⟨by decide, by decide⟩ dX10_restore_34 rfl (fun vr ur hp => ?_)
      obtain ⟨rfl, hu⟩ := hp
      replace hu := hu.symm
      subst hu
      refine j_aload_n C 0 rfl dX10_restore_37 ?_
      refine gX_0_2 C tb_430 dX10_restore_38 ?_
      refine j_iconst C (nI 1) (by decide) dX10_restore_41 ?_
      refine pX_27_5 C tb_214 rfl rfl dX10_restore_42 ?_
      refine j_iconst C (nI 1) (by decide) dX10_restore_45 ?_
      exact j_iret C E (sI (sF (sF (sF (sF (sF (sI (sF (sF (sF (sF (sI (sF (sF (sF (sF (sF (sF (sF (sF (sF (sI σ 16 (σ.1 1232)) 2 (va_cpy (σ.2.1 78) (σ.2.1 2) 0 0 6)) 3 (va_cpy (σ.2.1 79) (σ.2.1 3) 0 0 6)) 4 (va_cpy (σ.2.1 80) (σ.2.1 4) 0 0 18)) 5 (va_cpy (σ.2.1 81) (σ.2.1 5) 0 0 28)) 6 (va_cpy (σ.2.1 82) (σ.2.1 6) 0 0 168)) 7 (va_cpy (σ.2.1 83) (σ.2.1 7) 0 0 168)) 8 (va_cpy (σ.2.1 84) (σ.2.1 8) 0 0 168)) 9 (va_cpy (σ.2.1 85) (σ.2.1 9) 0 0 168)) 10 (va_cpy (σ.2.1 86) (σ.2.1 10) 0 0 4)) 176 (σ.1 1392)) 12 (va_cpy (σ.2.1 88) (σ.2.1 12) 0 0 20)) 13 (va_cpy (σ.2.1 89) (σ.2.1 13) 0 0 20)) 14 (va_cpy (σ.2.1 90) (σ.2.1 14) 0 0 20)) 15 (va_cpy (σ.2.1 91) (σ.2.1 15) 0 0 168)) 256 (σ.1 1472)) 17 (va_cpy (σ.2.1 93) (σ.2.1 17) 0 0 6)) 18 (va_cpy (σ.2.1 94) (σ.2.1 18) 0 0 6)) 19 (va_cpy (σ.2.1 95) (σ.2.1 19) 0 0 6)) 20 (va_cpy (σ.2.1 96) (σ.2.1 20) 0 0 6)) 21 (va_cpy (σ.2.1 97) (σ.2.1 21) 0 0 6)) 437 (nI 1)) ⟨_, rfl, Or.inl ⟨c1, c2, rfl, rfl⟩⟩ rfl dX10_restore_46
    · refine j_bipush C ((-3)) (by decide) dX10_restore_21 ?_
      exact j_iret C E (σ) ⟨_, rfl, Or.inr (⟨c1, c2, rfl, rfl⟩)⟩ rfl dX10_restore_23
  · replace c1 := bI_f c1
    exact absurd c1 (by decide)
set_option maxRecDepth 100000 in
set_option maxHeartbeats 4000000 in
theorem c_imageO (g kk : Nat → Nat) (σ : St) (x : Int32) (hx : wB x (nI 0) (nI 1) = false) : jM (S := St) yX10_image cX10_image 2 (some .int) { frames := 3, cells := 0, slots := 0, locals := 102 } kk (cX g kk σ) [.ref (g 0), .int x] (cX g kk) (rI (fun (r : Int32) (u : St) => (((wB x (nI 0) (nI 1)) = false) ∧ r = (-2) ∧ u = σ))) := by
  refine j_entry [(0, .ref (g 0)), (1, .int x)] (by decide) (Nat.le_of_ble_eq_true rfl) rfl ?_
  intro X C E HI
  refine j_iload_n C 1 rfl dX10_image_0 ?_
  refine j_iconst C (nI 0) (by decide) dX10_image_1 ?_
  refine j_iconst C (nI 1) (by decide) dX10_image_2 ?_
  refine j_S01 C (c_isWithin x (nI 0) (nI 1)) kyX10_isWithin tb_467 tb_468 rfl (Nat.le_of_ble_eq_true rfl) ⟨by decide, by decide⟩ ⟨by decide, by decide⟩ dX10_image_3 rfl ?_
  refine j_if_ne C 12 (by decide) dX10_image_6 (fun c1 => ?_) (fun c1 => ?_)
  · replace c1 := bI_t c1
    rw [hx] at c1
    cases c1
  · replace c1 := bI_f c1
    refine j_bipush C ((-2)) (by decide) dX10_image_9 ?_
    exact j_iret C E (σ) ⟨_, rfl, ⟨c1, rfl, rfl⟩⟩ rfl dX10_image_11
set_option maxRecDepth 100000 in
set_option maxHeartbeats 4000000 in
theorem c_restoreO (g kk : Nat → Nat) (σ : St) (x : Int32) (hx : wB x (nI 0) (nI 1) = false) : jM (S := St) yX10_restore cX10_restore 2 (some .int) { frames := 3, cells := 0, slots := 0, locals := 102 } kk (cX g kk σ) [.ref (g 0), .int x] (cX g kk) (rI (fun (r : Int32) (u : St) => (((wB x (nI 0) (nI 1)) = false) ∧ r = (-2) ∧ u = σ))) := by
  refine j_entry [(0, .ref (g 0)), (1, .int x)] (by decide) (Nat.le_of_ble_eq_true rfl) rfl ?_
  intro X C E HI
  refine j_iload_n C 1 rfl dX10_restore_0 ?_
  refine j_iconst C (nI 0) (by decide) dX10_restore_1 ?_
  refine j_iconst C (nI 1) (by decide) dX10_restore_2 ?_
  refine j_S01 C (c_isWithin x (nI 0) (nI 1)) kyX10_isWithin tb_467 tb_468 rfl (Nat.le_of_ble_eq_true rfl) ⟨by decide, by decide⟩ ⟨by decide, by decide⟩ dX10_restore_3 rfl ?_
  refine j_if_ne C 12 (by decide) dX10_restore_6 (fun c1 => ?_) (fun c1 => ?_)
  · replace c1 := bI_t c1
    rw [hx] at c1
    cases c1
  · replace c1 := bI_f c1
    refine j_bipush C ((-2)) (by decide) dX10_restore_9 ?_
    exact j_iret C E (σ) ⟨_, rfl, ⟨c1, rfl, rfl⟩⟩ rfl dX10_restore_11
