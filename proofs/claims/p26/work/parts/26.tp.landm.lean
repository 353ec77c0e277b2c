theorem hd_1 {lo l g : Nat} (h1 : lo ≤ 9990) (h2 : l ≤ 9990) (h3 : g ≤ 3960) (h : nI l - nI g ≤ nI lo) : nI lo = nI (max lo (l - g)) := by
  rw [← mxs h1 h2 h3, if_neg (Int32.not_lt.mpr h)]
theorem hd_2 {lo l g : Nat} (h1 : lo ≤ 9990) (h2 : l ≤ 9990) (h3 : g ≤ 3960) (h : ¬ nI l - nI g ≤ nI lo) : nI l - nI g = nI (max lo (l - g)) := by
  rw [← mxs h1 h2 h3, if_pos (Int32.not_le.mp h)]
set_option maxRecDepth 100000 in
set_option maxHeartbeats 4000000 in
theorem o_hold (g kk : Nat → Nat) (σ : St) (k : Nat) (hk : σ.1 3 = nI k) (hk6 : k ≤ 6) (hI : iM σ) (nf : Nat) (hnf : σ.1 9 = nI nf) (hnfb : nf ≤ 20) (G : GD) (hM : HM G k nf σ) (lo : Nat) (hlo : σ.1 47 = nI lo) (hlob : lo ≤ 9990) (hi : Nat) (hhi : σ.1 48 = nI hi) (hhib : hi ≤ 9999) (l : Nat) (hl0 : l ≤ 9990) (h : Nat) (hh0 : h ≤ 9990) (f : Nat) (hf0 : f ≤ 40) : jM (S := St) yX11_hold cX11_hold 6 none { frames := 0, cells := 0, slots := 0, locals := 0 } kk (cM g kk σ) [.ref (g 0), .int (nI l), .int (nI h), .int (nI f)] (cM g kk) (rV (fun u : St => ∃ (pI47 : Int32) (pI48 : Int32), u = sI (sI σ 47 pI47) 48 pI48 ∧ (pI47 = nI (max lo (l - zS G 2 * f))) ∧ (pI48 = nI (min hi (h + zS G 2 * f))))) := by
  refine j_entry [(0, .ref (g 0)), (1, .int (nI l)), (2, .int (nI h)), (3, .int (nI f))] (by decide) (Nat.le_of_ble_eq_true rfl) rfl ?_
  intro X C E HI
  have hs9 : zS G 2 ≤ 99 := hM.W.2.2.2.2.2.1
  have hgv := gvb hs9 hf0
  refine j_iload_n C 1 rfl dX11_hold_0 ?_
  refine j_aload_n C 0 rfl dX11_hold_1 ?_
  refine gM_0_12 C tb_885 (nI (zS G 2)) hM.S2 dX11_hold_2 ?_
  refine j_iload_n C 3 rfl dX11_hold_5 ?_
  refine j_imulN C dX11_hold_6 ?_
  refine j_isub C dX11_hold_7 ?_
  refine j_istore C [(4, .int ((nI l) - (nI ((zS G 2) * f)))), (0, .ref (g 0)), (1, .int (nI l)), (2, .int (nI h)), (3, .int (nI f))] (by decide) rfl dX11_hold_8 ?_
  refine j_iload_n C 3 rfl dX11_hold_10 ?_
  refine j_aload_n C 1 rfl dX11_hold_11 ?_
  refine gM_0_12 C tb_885 (nI (zS G 2)) hM.S2 dX11_hold_12 ?_
  refine j_iload_n C 4 rfl dX11_hold_15 ?_
  refine j_imulN C dX11_hold_16 ?_
  refine j_iaddN C dX11_hold_17 ?_
  refine j_istore C [(5, .int (nI (h + ((zS G 2) * f)))), (4, .int ((nI l) - (nI ((zS G 2) * f)))), (0, .ref (g 0)), (1, .int (nI l)), (2, .int (nI h)), (3, .int (nI f))] (by decide) rfl dX11_hold_18 ?_
  refine j_aload_n C 2 rfl dX11_hold_20 ?_
  refine j_iload C 1 rfl dX11_hold_21 ?_
  refine j_aload_n C 2 rfl dX11_hold_23 ?_
  refine gM_0_47 C tb_920 (nI lo) hlo dX11_hold_24 ?_
  refine j_icmp_le C 35 (by decide) dX11_hold_27 (fun c1 => ?_) (fun c1 => ?_)
  · refine j_aload_n C 2 rfl dX11_hold_35 ?_
    refine gM_0_47 C tb_920 (nI lo) hlo dX11_hold_36 ?_
    refine pM_0_47 C tb_920 dX11_hold_39 ?_
    refine j_aload_n C 2 rfl dX11_hold_42 ?_
    refine j_iload C 0 rfl dX11_hold_43 ?_
    refine j_aload_n C 2 rfl dX11_hold_45 ?_
    refine gM_0_48 C tb_921 (nI hi) hhi dX11_hold_46 ?_
    refine j_icmp_geN C 57 (by decide) (by omega) (by omega) dX11_hold_49 (fun c2 => ?_) (fun c2 => ?_)
    · refine j_aload_n C 2 rfl dX11_hold_57 ?_
      refine gM_0_48 C tb_921 (nI hi) hhi dX11_hold_58 ?_
      refine pM_0_48 C tb_921 dX11_hold_61 ?_
      exact j_vret C E (sI (sI σ 47 (nI lo)) 48 (nI hi)) ⟨rfl, ⟨(nI lo), (nI hi), rfl, (hd_1 (by omega) hl0 hgv c1), (congrArg nI (by omega))⟩⟩ rfl dX11_hold_64
    · refine j_iload C 0 rfl dX11_hold_52 ?_
      refine j_goto C 61 (by decide) dX11_hold_54 ?_
      refine pM_0_48 C tb_921 dX11_hold_61 ?_
      exact j_vret C E (sI (sI σ 47 (nI lo)) 48 (nI (h + ((zS G 2) * f)))) ⟨rfl, ⟨(nI lo), (nI (h + ((zS G 2) * f))), rfl, (hd_1 (by omega) hl0 hgv c1), (congrArg nI (by omega))⟩⟩ rfl dX11_hold_64
  · refine j_iload C 1 rfl dX11_hold_30 ?_
    refine j_goto C 39 (by decide) dX11_hold_32 ?_
    refine pM_0_47 C tb_920 dX11_hold_39 ?_
    refine j_aload_n C 2 rfl dX11_hold_42 ?_
    refine j_iload C 0 rfl dX11_hold_43 ?_
    refine j_aload_n C 2 rfl dX11_hold_45 ?_
    refine gM_0_48 C tb_921 (nI hi) hhi dX11_hold_46 ?_
    refine j_icmp_geN C 57 (by decide) (by omega) (by omega) dX11_hold_49 (fun c3 => ?_) (fun c3 => ?_)
    · refine j_aload_n C 2 rfl dX11_hold_57 ?_
      refine gM_0_48 C tb_921 (nI hi) hhi dX11_hold_58 ?_
      refine pM_0_48 C tb_921 dX11_hold_61 ?_
      exact j_vret C E (sI (sI σ 47 ((nI l) - (nI ((zS G 2) * f)))) 48 (nI hi)) ⟨rfl, ⟨((nI l) - (nI ((zS G 2) * f))), (nI hi), rfl, (hd_2 (by omega) hl0 hgv c1), (congrArg nI (by omega))⟩⟩ rfl dX11_hold_64
    · refine j_iload C 0 rfl dX11_hold_52 ?_
      refine j_goto C 61 (by decide) dX11_hold_54 ?_
      refine pM_0_48 C tb_921 dX11_hold_61 ?_
      exact j_vret C E (sI (sI σ 47 ((nI l) - (nI ((zS G 2) * f)))) 48 (nI (h + ((zS G 2) * f)))) ⟨rfl, ⟨((nI l) - (nI ((zS G 2) * f))), (nI (h + ((zS G 2) * f))), rfl, (hd_2 (by omega) hl0 hgv c1), (congrArg nI (by omega))⟩⟩ rfl dX11_hold_64
set_option maxRecDepth 100000 in
set_option maxHeartbeats 4000000 in
theorem o_findBound (g kk : Nat → Nat) (σ : St) (k : Nat) (hk : σ.1 3 = nI k) (hk6 : k ≤ 6) (hI : iM σ) (nf : Nat) (hnf : σ.1 9 = nI nf) (hnfb : nf ≤ 20) (G : GD) (hM : HM G k nf σ) (ra : Nat) (hra : σ.1 46 = nI ra) (hrab : ra ≤ 6) (Q : RQ) (hQ : HN Q ra σ) (hC : CMf G k (σ.2.1 16) (σ.2.1 17) (σ.2.1 18)) (d : Nat) (hd0 : d < 28) (x : Nat) (hx0 : x ≤ 20) (y : Nat) (hy0 : y ≤ 20) : jM (S := St) yX11_findBound cX11_findBound 6 (some .boolean) { frames := 1, cells := 0, slots := 0, locals := 25 } kk (cM g kk σ) [.ref (g 0), .int (nI d), .int (nI x), .int (nI y)] (cM g kk) (rI (fun (r : Int32) (u : St) => ∃ (lo : Nat) (hi : Nat), u = sI (sI σ 47 (nI lo)) 48 (nI hi) ∧ ((lo, hi) = bdR G k Q d x y ra ∧ lo ≤ 9990 ∧ hi ≤ 9999) ∧ (r = bI (decide (lo ≤ hi))))) := by
  refine j_entry [(0, .ref (g 0)), (1, .int (nI d)), (2, .int (nI x)), (3, .int (nI y))] (by decide) (Nat.le_of_ble_eq_true rfl) rfl ?_
  intro X C E HI
  have hs9 : zS G 2 ≤ 99 := hM.W.2.2.2.2.2.1
  refine j_aload_n C 0 rfl dX11_findBound_0 ?_
  refine j_iconst C (nI 0) (by decide) dX11_findBound_1 ?_
  refine pM_0_47 C tb_920 dX11_findBound_2 ?_
  refine j_aload_n C 0 rfl dX11_findBound_5 ?_
  refine j_sipush C (nI 9999) (by decide) dX11_findBound_6 ?_
  refine pM_0_48 C tb_921 dX11_findBound_9 ?_
  refine j_iconst C (nI 0) (by decide) dX11_findBound_12 ?_
  refine j_istore C [(4, .int (nI 0)), (0, .ref (g 0)), (1, .int (nI d)), (2, .int (nI x)), (3, .int (nI y))] (by decide) rfl dX11_findBound_13 ?_
  have L15 : ∀ (n15 : Nat) (a : Nat) (lo : Nat) (hi : Nat) (i15_0 : a ≤ k) (i15_1 : lo ≤ 9990) (i15_2 : hi ≤ 9999) (he : (lo, hi) = bdK G k d x y a) (hm15 : k - a < n15), J X 0 0 (cM g kk (sI (sI σ 47 (nI lo)) 48 (nI hi))) [(4, .int (nI a)), (0, .ref (g 0)), (1, .int (nI d)), (2, .int (nI x)), (3, .int (nI y))] 15 [] := by
    intro n15
    induction n15 with
    | zero => intro a lo hi i15_0 i15_1 i15_2 he hm; exact absurd hm (Nat.not_lt_zero _)
    | succ n15 ih15 =>
      intro a lo hi i15_0 i15_1 i15_2 he hm15
      refine j_iload C 0 rfl dX11_findBound_15 ?_
      refine j_aload_n C 1 rfl dX11_findBound_17 ?_
      refine gM_0_3 C tb_876 (nI k) hk dX11_findBound_18 ?_
      refine j_icmp_geN C 79 (by decide) (by omega) (by omega) dX11_findBound_21 (fun c1 => ?_) (fun c1 => ?_)
      · refine j_iconst C (nI 0) (by decide) dX11_findBound_79 ?_
        refine j_istore C [(4, .int (nI 0)), (0, .ref (g 0)), (1, .int (nI d)), (2, .int (nI x)), (3, .int (nI y))] (by decide) rfl dX11_findBound_80 ?_
        have L82 : ∀ (n82 : Nat) (b : Nat) (l2 : Nat) (h2 : Nat) (i82_0 : b ≤ ra) (i82_1 : l2 ≤ 9990) (i82_2 : h2 ≤ 9999) (he2 : (l2, h2) = bdR G k Q d x y b) (hm82 : ra - b < n82), J X 0 0 (cM g kk (sI (sI σ 47 (nI l2)) 48 (nI h2))) [(4, .int (nI b)), (0, .ref (g 0)), (1, .int (nI d)), (2, .int (nI x)), (3, .int (nI y))] 82 [] := by
          intro n82
          induction n82 with
          | zero => intro b l2 h2 i82_0 i82_1 i82_2 he2 hm; exact absurd hm (Nat.not_lt_zero _)
          | succ n82 ih82 =>
            intro b l2 h2 i82_0 i82_1 i82_2 he2 hm82
            refine j_iload C 0 rfl dX11_findBound_82 ?_
            refine j_aload_n C 1 rfl dX11_findBound_84 ?_
            refine gM_0_46 C tb_919 (nI ra) hra dX11_findBound_85 ?_
            refine j_icmp_geN C 149 (by decide) (by omega) (by omega) dX11_findBound_88 (fun c2 => ?_) (fun c2 => ?_)
            · refine j_aload_n C 1 rfl dX11_findBound_149 ?_
              refine gM_0_47 C tb_920 (nI l2) rfl dX11_findBound_150 ?_
              refine j_aload_n C 1 rfl dX11_findBound_153 ?_
              refine gM_0_48 C tb_921 (nI h2) rfl dX11_findBound_154 ?_
              refine j_icmp_gtN C 164 (by decide) (by omega) (by omega) dX11_findBound_157 (fun c3 => ?_) (fun c3 => ?_)
              · refine j_iconst C (nI 0) (by decide) dX11_findBound_164 ?_
                exact j_zret C E (by first | rfl | decide) (sI (sI σ 47 (nI l2)) 48 (nI h2)) ⟨_, rfl, ⟨l2, h2, rfl, ⟨by have z := he2; rw [show b = ra by omega] at z; exact z, by omega, by omega⟩, (bI_0 (decide_eq_false (by omega)))⟩⟩ rfl dX11_findBound_165
              · refine j_iconst C (nI 1) (by decide) dX11_findBound_160 ?_
                refine j_goto C 165 (by decide) dX11_findBound_161 ?_
                exact j_zret C E (by first | rfl | decide) (sI (sI σ 47 (nI l2)) 48 (nI h2)) ⟨_, rfl, ⟨l2, h2, rfl, ⟨by have z := he2; rw [show b = ra by omega] at z; exact z, by omega, by omega⟩, (bI_1 (decide_eq_true (by omega)))⟩⟩ rfl dX11_findBound_165
            · have hq9 := hQ.1 b (by omega)
              refine j_aload_n C 1 rfl dX11_findBound_91 ?_
              refine gM_0_41 C tb_914 dX11_findBound_92 ?_
              refine j_iload C 0 rfl dX11_findBound_95 ?_
              refine rM_26 C b rfl (by omega) (nI (Q.1 b)) (hQ.2 b (by omega)).1 dX11_findBound_97 ?_
              refine j_iload_n C 2 rfl dX11_findBound_98 ?_
              refine j_icmp_neN C 143 (by decide) (by omega) (by omega) dX11_findBound_99 (fun c4 => ?_) (fun c4 => ?_)
              · refine j_iinc C (nI (b + 1)) [(4, .int (nI (b + 1))), (0, .ref (g 0)), (1, .int (nI d)), (2, .int (nI x)), (3, .int (nI y))] 0 rfl (by rw [show Int32.ofInt 1 = nI 1 from by decide, nI_add]) (by decide) rfl dX11_findBound_143 ?_
                refine j_goto C 82 (by decide) dX11_findBound_146 ?_
                exact ih82 (b + 1) l2 h2 (by omega) (by omega) (by omega) (he2.trans (bdR_n c4).symm) (by omega)
              · refine j_aload_n C 1 rfl dX11_findBound_102 ?_
                refine j_aload_n C 1 rfl dX11_findBound_103 ?_
                refine gM_0_44 C tb_917 dX11_findBound_104 ?_
                refine j_iload C 0 rfl dX11_findBound_107 ?_
                refine rM_29 C b rfl (by omega) (nI (Q.2.2.2.1 b)) (hQ.2 b (by omega)).2.2.2.1 dX11_findBound_109 ?_
                refine j_aload_n C 1 rfl dX11_findBound_110 ?_
                refine gM_0_45 C tb_918 dX11_findBound_111 ?_
                refine j_iload C 0 rfl dX11_findBound_114 ?_
                refine rM_30 C b rfl (by omega) (nI (Q.2.2.2.2 b)) (hQ.2 b (by omega)).2.2.2.2 dX11_findBound_116 ?_
                refine j_aload_n C 1 rfl dX11_findBound_117 ?_
                refine gM_0_42 C tb_915 dX11_findBound_118 ?_
                refine j_iload C 0 rfl dX11_findBound_121 ?_
                refine rM_27 C b rfl (by omega) (nI (Q.2.1 b)) (hQ.2 b (by omega)).2.1 dX11_findBound_123 ?_
                refine j_iload_n C 3 rfl dX11_findBound_124 ?_
                refine j_S01 C (m_off (nI (Q.2.1 b)) (nI x)) kyX11_off tb_1155 tb_1156 rfl (Nat.le_of_ble_eq_true rfl) ⟨by decide, by decide⟩ ⟨by decide, by decide⟩ dX11_findBound_125 rfl ?_
                rw [off_n (by omega) (by omega)]
                refine j_aload_n C 1 rfl dX11_findBound_128 ?_
                refine gM_0_43 C tb_916 dX11_findBound_129 ?_
                refine j_iload C 0 rfl dX11_findBound_132 ?_
                refine rM_28 C b rfl (by omega) (nI (Q.2.2.1 b)) (hQ.2 b (by omega)).2.2.1 dX11_findBound_134 ?_
                refine j_iload_n C 4 rfl dX11_findBound_135 ?_
                refine j_S01 C (m_off (nI (Q.2.2.1 b)) (nI y)) kyX11_off tb_1155 tb_1156 rfl (Nat.le_of_ble_eq_true rfl) ⟨by decide, by decide⟩ ⟨by decide, by decide⟩ dX11_findBound_136 rfl ?_
                rw [off_n (by omega) (by omega)]
                refine j_iaddN C dX11_findBound_139 ?_
                refine j_V1 C (o_hold g kk (sI (sI σ 47 (nI l2)) 48 (nI h2)) k hk hk6 hI nf hnf (by omega) G hM l2 rfl (by omega) h2 rfl (by omega) (Q.2.2.2.1 b) (by first | assumption | omega) (Q.2.2.2.2 b) (by first | assumption | omega) (((Q.2.1 b - x) + (x - Q.2.1 b)) + ((Q.2.2.1 b - y) + (y - Q.2.2.1 b))) (by first | assumption | omega)) kyX11_hold tb_1241 tb_1243 sp_40 0 rfl (eM_0 g kk _) rfl (Nat.le_of_ble_eq_true rfl) ⟨by decide, by decide⟩ dX11_findBound_140 rfl (fun vr ur hp => ?_)
                obtain ⟨rfl, w5, w6, hu, g7, g8⟩ := hp
                replace hu := hu.symm
                subst hu
                have ea := g7
                have eb := g8
                subst ea eb
                refine j_iinc C (nI (b + 1)) [(4, .int (nI (b + 1))), (0, .ref (g 0)), (1, .int (nI d)), (2, .int (nI x)), (3, .int (nI y))] 0 rfl (by rw [show Int32.ofInt 1 = nI 1 from by decide, nI_add]) (by decide) rfl dX11_findBound_143 ?_
                refine j_goto C 82 (by decide) dX11_findBound_146 ?_
                refine j_w (cM g kk (sI (sI σ 47 (nI (max l2 ((Q.2.2.2.1 b) - zS G 2 * (((Q.2.1 b - x) + (x - Q.2.1 b)) + ((Q.2.2.1 b - y) + (y - Q.2.2.1 b))))))) 48 (nI (min h2 ((Q.2.2.2.2 b) + zS G 2 * (((Q.2.1 b - x) + (x - Q.2.1 b)) + ((Q.2.2.1 b - y) + (y - Q.2.2.1 b)))))))) (congrArg (cM g kk) (show sI (sI (sI (sI σ 47 (nI l2)) 48 (nI h2)) 47 (nI (max l2 ((Q.2.2.2.1 b) - zS G 2 * (((Q.2.1 b - x) + (x - Q.2.1 b)) + ((Q.2.2.1 b - y) + (y - Q.2.2.1 b))))))) 48 (nI (min h2 ((Q.2.2.2.2 b) + zS G 2 * (((Q.2.1 b - x) + (x - Q.2.1 b)) + ((Q.2.2.1 b - y) + (y - Q.2.2.1 b)))))) = sI (sI σ 47 (nI (max l2 ((Q.2.2.2.1 b) - zS G 2 * (((Q.2.1 b - x) + (x - Q.2.1 b)) + ((Q.2.2.1 b - y) + (y - Q.2.2.1 b))))))) 48 (nI (min h2 ((Q.2.2.2.2 b) + zS G 2 * (((Q.2.1 b - x) + (x - Q.2.1 b)) + ((Q.2.2.1 b - y) + (y - Q.2.2.1 b)))))) from (Eq.trans (wrI (Eq.trans (wrIc (by decide)) (wrI wrIs))) wrIs))) ?_
                exact ih82 (b + 1) (max l2 ((Q.2.2.2.1 b) - zS G 2 * (((Q.2.1 b - x) + (x - Q.2.1 b)) + ((Q.2.2.1 b - y) + (y - Q.2.2.1 b))))) (min h2 ((Q.2.2.2.2 b) + zS G 2 * (((Q.2.1 b - x) + (x - Q.2.1 b)) + ((Q.2.2.1 b - y) + (y - Q.2.2.1 b))))) (by omega) (by omega) (by omega) (by rw [bdR_y c4, ← he2, frN_sym]; rfl) (by omega)
        exact L82 _ 0 lo hi (by omega) (by omega) (by omega) (by have z := he; rw [show a = k by omega] at z; exact z) (Nat.lt_succ_self _)
      · refine j_aload_n C 1 rfl dX11_findBound_24 ?_
        refine gM_0_24 C tb_897 dX11_findBound_25 ?_
        refine j_iload C 0 rfl dX11_findBound_28 ?_
        refine j_iload_n C 2 rfl dX11_findBound_30 ?_
        refine j_S01 C (m_at a d) kyX11_at tb_1060 tb_1061 rfl (Nat.le_of_ble_eq_true rfl) ⟨by decide, by decide⟩ ⟨by decide, by decide⟩ dX11_findBound_31 rfl ?_
        refine rM_18 C (28 * a + d) rfl (by omega) (tr (vaV G k a d)) (hC a d (by omega) (by omega)).2.2 dX11_findBound_34 ?_
        refine j_istore C [(5, .int (tr (vaV G k a d))), (4, .int (nI a)), (0, .ref (g 0)), (1, .int (nI d)), (2, .int (nI x)), (3, .int (nI y))] (by decide) rfl dX11_findBound_35 ?_
        rcases va_lm hM.W (show a < k by omega) hd0 with ev9 | ⟨v9, hv9, ev9⟩
        · rw [ev9, tr_m]
          refine j_iload C 0 rfl dX11_findBound_37 ?_
          refine j_if_lt C 73 (by decide) dX11_findBound_39 (fun c9 => ?_) (fun c9 => ?_)
          · refine j_iinc C (nI (a + 1)) [(4, .int (nI (a + 1))), (5, .int (-6)), (0, .ref (g 0)), (1, .int (nI d)), (2, .int (nI x)), (3, .int (nI y))] 1 rfl (by rw [show Int32.ofInt 1 = nI 1 from by decide, nI_add]) (by decide) rfl dX11_findBound_73 ?_
            refine j_goto C 15 (by decide) dX11_findBound_76 ?_
            refine j_sub (lv' := [(4, .int (nI (a + 1))), (0, .ref (g 0)), (1, .int (nI d)), (2, .int (nI x)), (3, .int (nI y))]) [0, 2, 3, 4, 5] rfl ?_
            exact ih15 (a + 1) lo hi (by omega) (by omega) (by omega) (he.trans (bdK_n ev9).symm) (by omega)
          · exact absurd c9 (by decide)
        · rw [ev9, tr_n (by omega)]
          refine j_iload C 0 rfl dX11_findBound_37 ?_
          refine j_if_ltN C 73 (by decide) (by omega) dX11_findBound_39 (fun c10 => ?_) (fun c10 => ?_)
          · exact absurd c10 (Nat.not_lt_zero _)
          · have hxy := hM.W.XY (show a < k by omega)
            refine j_aload_n C 2 rfl dX11_findBound_42 ?_
            refine j_iload C 0 rfl dX11_findBound_43 ?_
            refine j_iload C 0 rfl dX11_findBound_45 ?_
            refine j_aload_n C 2 rfl dX11_findBound_47 ?_
            refine gM_0_0 C tb_873 dX11_findBound_48 ?_
            refine j_iload C 1 rfl dX11_findBound_51 ?_
            refine rM_1 C a rfl (by omega) (nI (zX G a)) (hM.P (by omega)).1 dX11_findBound_53 ?_
            refine j_iload_n C 4 rfl dX11_findBound_54 ?_
            refine j_S01 C (m_off (nI (zX G a)) (nI x)) kyX11_off tb_1155 tb_1156 rfl (Nat.le_of_ble_eq_true rfl) ⟨by decide, by decide⟩ ⟨by decide, by decide⟩ dX11_findBound_55 rfl ?_
            rw [off_n (by omega) (by omega)]
            refine j_aload_n C 2 rfl dX11_findBound_58 ?_
            refine gM_0_1 C tb_874 dX11_findBound_59 ?_
            refine j_iload C 1 rfl dX11_findBound_62 ?_
            refine rM_2 C a rfl (by omega) (nI (zY G a)) (hM.P (by omega)).2 dX11_findBound_64 ?_
            refine j_iload_n C 5 rfl dX11_findBound_65 ?_
            refine j_S01 C (m_off (nI (zY G a)) (nI y)) kyX11_off tb_1155 tb_1156 rfl (Nat.le_of_ble_eq_true rfl) ⟨by decide, by decide⟩ ⟨by decide, by decide⟩ dX11_findBound_66 rfl ?_
            rw [off_n (by omega) (by omega)]
            refine j_iaddN C dX11_findBound_69 ?_
            refine j_V1 C (o_hold g kk (sI (sI σ 47 (nI lo)) 48 (nI hi)) k hk hk6 hI nf hnf (by omega) G hM lo rfl (by omega) hi rfl (by omega) v9 (by first | assumption | omega) v9 (by first | assumption | omega) (((zX G a - x) + (x - zX G a)) + ((zY G a - y) + (y - zY G a))) (by first | assumption | omega)) kyX11_hold tb_1241 tb_1243 sp_40 0 rfl (eM_0 g kk _) rfl (Nat.le_of_ble_eq_true rfl) ⟨by decide, by decide⟩ dX11_findBound_70 rfl (fun vr ur hp => ?_)
            obtain ⟨rfl, w11, w12, hu, g13, g14⟩ := hp
            replace hu := hu.symm
            subst hu
            have ea := g13
            have eb := g14
            subst ea eb
            refine j_iinc C (nI (a + 1)) [(4, .int (nI (a + 1))), (5, .int (nI v9)), (0, .ref (g 0)), (1, .int (nI d)), (2, .int (nI x)), (3, .int (nI y))] 1 rfl (by rw [show Int32.ofInt 1 = nI 1 from by decide, nI_add]) (by decide) rfl dX11_findBound_73 ?_
            refine j_goto C 15 (by decide) dX11_findBound_76 ?_
            refine j_sub (lv' := [(4, .int (nI (a + 1))), (0, .ref (g 0)), (1, .int (nI d)), (2, .int (nI x)), (3, .int (nI y))]) [0, 2, 3, 4, 5] rfl ?_
            refine j_w (cM g kk (sI (sI σ 47 (nI (max lo (v9 - zS G 2 * (((zX G a - x) + (x - zX G a)) + ((zY G a - y) + (y - zY G a))))))) 48 (nI (min hi (v9 + zS G 2 * (((zX G a - x) + (x - zX G a)) + ((zY G a - y) + (y - zY G a)))))))) (congrArg (cM g kk) (show sI (sI (sI (sI σ 47 (nI lo)) 48 (nI hi)) 47 (nI (max lo (v9 - zS G 2 * (((zX G a - x) + (x - zX G a)) + ((zY G a - y) + (y - zY G a))))))) 48 (nI (min hi (v9 + zS G 2 * (((zX G a - x) + (x - zX G a)) + ((zY G a - y) + (y - zY G a)))))) = sI (sI σ 47 (nI (max lo (v9 - zS G 2 * (((zX G a - x) + (x - zX G a)) + ((zY G a - y) + (y - zY G a))))))) 48 (nI (min hi (v9 + zS G 2 * (((zX G a - x) + (x - zX G a)) + ((zY G a - y) + (y - zY G a)))))) from (Eq.trans (wrI (Eq.trans (wrIc (by decide)) (wrI wrIs))) wrIs))) ?_
            exact ih15 (a + 1) (max lo (v9 - zS G 2 * (((zX G a - x) + (x - zX G a)) + ((zY G a - y) + (y - zY G a))))) (min hi (v9 + zS G 2 * (((zX G a - x) + (x - zX G a)) + ((zY G a - y) + (y - zY G a))))) (by omega) (by omega) (by omega) (by rw [bdK_y (by omega) ev9, ← he, frN_sym]; rfl) (by omega)
  exact L15 _ 0 0 9999 (by omega) (by omega) (by omega) rfl (Nat.lt_succ_self _)
set_option maxRecDepth 100000 in
set_option maxHeartbeats 4000000 in
theorem o_bound (g kk : Nat → Nat) (σ : St) (k : Nat) (hk : σ.1 3 = nI k) (hk6 : k ≤ 6) (hI : iM σ) (nf : Nat) (hnf : σ.1 9 = nI nf) (hnfb : nf ≤ 20) (G : GD) (hM : HM G k nf σ) (ra : Nat) (hra : σ.1 46 = nI ra) (hrab : ra ≤ 6) (Q : RQ) (hQ : HN Q ra σ) (x : Int32) (y : Int32) (z : Int32) (w : Int32) : jM (S := St) yX11_bound cX11_bound 5 (some .int) { frames := 6, cells := 0, slots := 0, locals := 141 } kk (cM g kk σ) [.ref (g 0), .int x, .int y, .int z, .int w] (cM g kk) (rI (fun (r : Int32) (u : St) => ∃ (pF16 : Nat → Int32) (pF17 : Nat → Int32) (pF18 : Nat → Int32) (pI47 : Int32) (pI48 : Int32), u = sI (sI (sF (sF (sF σ 16 pF16) 17 pF17) 18 pF18) 47 pI47) 48 pI48 ∧ (r = bnF (fun d x y => bdR G k Q d x y ra) x y z w))) := by
  refine j_entry [(0, .ref (g 0)), (1, .int x), (2, .int y), (3, .int z), (4, .int w)] (by decide) (Nat.le_of_ble_eq_true rfl) rfl ?_
  intro X C E HI
  refine j_iload_n C 1 rfl dX11_bound_0 ?_
  refine j_S01 C (m_isDay x) kyX11_isDay tb_1077 tb_1078 rfl (Nat.le_of_ble_eq_true rfl) ⟨by decide, by decide⟩ ⟨by decide, by decide⟩ dX11_bound_1 rfl ?_
  refine j_if_ne C 9 (by decide) dX11_bound_4 (fun c1 => ?_) (fun c1 => ?_)
  · replace c1 := bI_t c1
    obtain ⟨xn, xn1, xn2, rfl⟩ := wB_nat (by decide) (by decide) c1
    refine j_iload_n C 2 rfl dX11_bound_9 ?_
    refine j_iload_n C 3 rfl dX11_bound_10 ?_
    refine j_S01 C (m_isPlace y z) kyX11_isPlace tb_1053 tb_1054 rfl (Nat.le_of_ble_eq_true rfl) ⟨by decide, by decide⟩ ⟨by decide, by decide⟩ dX11_bound_11 rfl ?_
    refine j_if_eq C 25 (by decide) dX11_bound_14 (fun c2 => ?_) (fun c2 => ?_)
    · replace c2 := bI_f c2
      refine j_bipush C ((-2)) (by decide) dX11_bound_25 ?_
      refine j_w (cM g kk (sF σ 16 (σ.2.1 16))) (congrArg (cM g kk) (wrFi (S := σ) (c := 16) (v := σ.2.1 16) rfl)) ?_
      refine j_w (cM g kk (sF (sF σ 16 (σ.2.1 16)) 17 (σ.2.1 17))) (congrArg (cM g kk) (wrFi (S := (sF σ 16 (σ.2.1 16))) (c := 17) (v := σ.2.1 17) (gtFF (by decide) rfl))) ?_
      refine j_w (cM g kk (sF (sF (sF σ 16 (σ.2.1 16)) 17 (σ.2.1 17)) 18 (σ.2.1 18))) (congrArg (cM g kk) (wrFi (S := (sF (sF σ 16 (σ.2.1 16)) 17 (σ.2.1 17))) (c := 18) (v := σ.2.1 18) (gtFF (by decide) (gtFF (by decide) rfl)))) ?_
      refine j_w (cM g kk (sI (sF (sF (sF σ 16 (σ.2.1 16)) 17 (σ.2.1 17)) 18 (σ.2.1 18)) 47 (σ.1 47))) (congrArg (cM g kk) (wrIi (S := (sF (sF (sF σ 16 (σ.2.1 16)) 17 (σ.2.1 17)) 18 (σ.2.1 18))) (c := 47) (v := σ.1 47) (gtIF (gtIF (gtIF rfl))))) ?_
      refine j_w (cM g kk (sI (sI (sF (sF (sF σ 16 (σ.2.1 16)) 17 (σ.2.1 17)) 18 (σ.2.1 18)) 47 (σ.1 47)) 48 (σ.1 48))) (congrArg (cM g kk) (wrIi (S := (sI (sF (sF (sF σ 16 (σ.2.1 16)) 17 (σ.2.1 17)) 18 (σ.2.1 18)) 47 (σ.1 47))) (c := 48) (v := σ.1 48) (gtII (by decide) (gtIF (gtIF (gtIF rfl)))))) ?_
      exact j_iret C E (sI (sI (sF (sF (sF σ 16 (σ.2.1 16)) 17 (σ.2.1 17)) 18 (σ.2.1 18)) 47 (σ.1 47)) 48 (σ.1 48)) ⟨_, rfl, ⟨(σ.2.1 16), (σ.2.1 17), (σ.2.1 18), (σ.1 47), (σ.1 48), rfl, (bnF_2 c1 (Or.inl c2))⟩⟩ rfl dX11_bound_27
    · replace c2 := bI_t c2
      obtain ⟨yn, yn1, yn2, rfl⟩ := wB_nat (by decide) (by decide) (andL c2)
      obtain ⟨zn, zn1, zn2, rfl⟩ := wB_nat (by decide) (by decide) (andR c2)
      refine j_iload C 4 rfl dX11_bound_17 ?_
      refine j_S01 C (m_isEnd w) kyX11_isEnd tb_1234 tb_1235 rfl (Nat.le_of_ble_eq_true rfl) ⟨by decide, by decide⟩ ⟨by decide, by decide⟩ dX11_bound_19 rfl ?_
      refine j_if_ne C 28 (by decide) dX11_bound_22 (fun c3 => ?_) (fun c3 => ?_)
      · replace c3 := bI_t c3
        obtain ⟨wn, wn1, wn2, rfl⟩ := wB_nat (by decide) (by decide) c3
        refine j_aload_n C 0 rfl dX11_bound_28 ?_
        refine j_V1 C (o_findAll g kk σ k hk hk6 hI nf hnf (by omega) G hM ) kyX11_findAll tb_1131 tb_1133 sp_24 0 rfl (eM_0 g kk _) rfl (Nat.le_of_ble_eq_true rfl) ⟨by decide, by decide⟩ dX11_bound_29 rfl (fun vr ur hp => ?_)
        obtain ⟨rfl, w4, w5, w6, hu, g7⟩ := hp
        replace hu := hu.symm
        subst hu
        refine j_aload_n C 0 rfl dX11_bound_32 ?_
        refine j_iload_n C 1 rfl dX11_bound_33 ?_
        refine j_iload_n C 2 rfl dX11_bound_34 ?_
        refine j_iload_n C 3 rfl dX11_bound_35 ?_
        refine j_V1 C (o_findBound g kk (sF (sF (sF σ 16 w4) 17 w5) 18 w6) k hk hk6 hI nf hnf (by omega) G hM ra hra (by omega) Q hQ g7 xn (by first | assumption | omega) yn (by first | assumption | omega) zn (by first | assumption | omega)) kyX11_findBound tb_1237 tb_1239 sp_39 0 rfl (eM_0 g kk _) rfl (Nat.le_of_ble_eq_true rfl) ⟨by decide, by decide⟩ dX11_bound_36 rfl (fun vr ur hp => ?_)
        obtain ⟨r12, rfl, w8, w9, hu, g10, g11⟩ := hp
        replace hu := hu.symm
        subst hu
        have er12 := g11
        subst er12
        refine j_if_ne C 47 (by decide) dX11_bound_39 (fun c13 => ?_) (fun c13 => ?_)
        · replace c13 := bI_t c13
          refine j_iload C 4 rfl dX11_bound_47 ?_
          refine j_if_neN C 59 (by decide) (by omega) dX11_bound_49 (fun c14 => ?_) (fun c14 => ?_)
          · refine j_aload_n C 0 rfl dX11_bound_59 ?_
            refine gM_0_48 C tb_921 (nI w9) rfl dX11_bound_60 ?_
            exact j_iret C E (sI (sI (sF (sF (sF σ 16 w4) 17 w5) 18 w6) 47 (nI w8)) 48 (nI w9)) ⟨_, rfl, ⟨w4, w5, w6, (nI w8), (nI w9), rfl, (bnF_x c1 c2 c3 (by omega) (by omega) (by omega) (by omega) g10.1 (by rw [if_neg (fun q => q (of_decide_eq_true c13))]; first | rw [if_pos (by omega)] | rw [if_neg (by omega)]))⟩⟩ rfl dX11_bound_63
          · refine j_aload_n C 0 rfl dX11_bound_52 ?_
            refine gM_0_47 C tb_920 (nI w8) rfl dX11_bound_53 ?_
            refine j_goto C 63 (by decide) dX11_bound_56 ?_
            exact j_iret C E (sI (sI (sF (sF (sF σ 16 w4) 17 w5) 18 w6) 47 (nI w8)) 48 (nI w9)) ⟨_, rfl, ⟨w4, w5, w6, (nI w8), (nI w9), rfl, (bnF_x c1 c2 c3 (by omega) (by omega) (by omega) (by omega) g10.1 (by rw [if_neg (fun q => q (of_decide_eq_true c13))]; first | rw [if_pos (by omega)] | rw [if_neg (by omega)]))⟩⟩ rfl dX11_bound_63
        · replace c13 := bI_f c13
          refine j_bipush C ((-5)) (by decide) dX11_bound_42 ?_
          refine j_goto C 63 (by decide) dX11_bound_44 ?_
          exact j_iret C E (sI (sI (sF (sF (sF σ 16 w4) 17 w5) 18 w6) 47 (nI w8)) 48 (nI w9)) ⟨_, rfl, ⟨w4, w5, w6, (nI w8), (nI w9), rfl, (bnF_x c1 c2 c3 (by omega) (by omega) (by omega) (by omega) g10.1 (by rw [if_pos (of_decide_eq_false c13)]))⟩⟩ rfl dX11_bound_63
      · replace c3 := bI_f c3
        refine j_bipush C ((-2)) (by decide) dX11_bound_25 ?_
        refine j_w (cM g kk (sF σ 16 (σ.2.1 16))) (congrArg (cM g kk) (wrFi (S := σ) (c := 16) (v := σ.2.1 16) rfl)) ?_
        refine j_w (cM g kk (sF (sF σ 16 (σ.2.1 16)) 17 (σ.2.1 17))) (congrArg (cM g kk) (wrFi (S := (sF σ 16 (σ.2.1 16))) (c := 17) (v := σ.2.1 17) (gtFF (by decide) rfl))) ?_
        refine j_w (cM g kk (sF (sF (sF σ 16 (σ.2.1 16)) 17 (σ.2.1 17)) 18 (σ.2.1 18))) (congrArg (cM g kk) (wrFi (S := (sF (sF σ 16 (σ.2.1 16)) 17 (σ.2.1 17))) (c := 18) (v := σ.2.1 18) (gtFF (by decide) (gtFF (by decide) rfl)))) ?_
        refine j_w (cM g kk (sI (sF (sF (sF σ 16 (σ.2.1 16)) 17 (σ.2.1 17)) 18 (σ.2.1 18)) 47 (σ.1 47))) (congrArg (cM g kk) (wrIi (S := (sF (sF (sF σ 16 (σ.2.1 16)) 17 (σ.2.1 17)) 18 (σ.2.1 18))) (c := 47) (v := σ.1 47) (gtIF (gtIF (gtIF rfl))))) ?_
        refine j_w (cM g kk (sI (sI (sF (sF (sF σ 16 (σ.2.1 16)) 17 (σ.2.1 17)) 18 (σ.2.1 18)) 47 (σ.1 47)) 48 (σ.1 48))) (congrArg (cM g kk) (wrIi (S := (sI (sF (sF (sF σ 16 (σ.2.1 16)) 17 (σ.2.1 17)) 18 (σ.2.1 18)) 47 (σ.1 47))) (c := 48) (v := σ.1 48) (gtII (by decide) (gtIF (gtIF (gtIF rfl)))))) ?_
        exact j_iret C E (sI (sI (sF (sF (sF σ 16 (σ.2.1 16)) 17 (σ.2.1 17)) 18 (σ.2.1 18)) 47 (σ.1 47)) 48 (σ.1 48)) ⟨_, rfl, ⟨(σ.2.1 16), (σ.2.1 17), (σ.2.1 18), (σ.1 47), (σ.1 48), rfl, (bnF_2 c1 (Or.inr c3))⟩⟩ rfl dX11_bound_27
  · replace c1 := bI_f c1
    refine j_iconst C ((-1)) (by decide) dX11_bound_7 ?_
    refine j_w (cM g kk (sF σ 16 (σ.2.1 16))) (congrArg (cM g kk) (wrFi (S := σ) (c := 16) (v := σ.2.1 16) rfl)) ?_
    refine j_w (cM g kk (sF (sF σ 16 (σ.2.1 16)) 17 (σ.2.1 17))) (congrArg (cM g kk) (wrFi (S := (sF σ 16 (σ.2.1 16))) (c := 17) (v := σ.2.1 17) (gtFF (by decide) rfl))) ?_
    refine j_w (cM g kk (sF (sF (sF σ 16 (σ.2.1 16)) 17 (σ.2.1 17)) 18 (σ.2.1 18))) (congrArg (cM g kk) (wrFi (S := (sF (sF σ 16 (σ.2.1 16)) 17 (σ.2.1 17))) (c := 18) (v := σ.2.1 18) (gtFF (by decide) (gtFF (by decide) rfl)))) ?_
    refine j_w (cM g kk (sI (sF (sF (sF σ 16 (σ.2.1 16)) 17 (σ.2.1 17)) 18 (σ.2.1 18)) 47 (σ.1 47))) (congrArg (cM g kk) (wrIi (S := (sF (sF (sF σ 16 (σ.2.1 16)) 17 (σ.2.1 17)) 18 (σ.2.1 18))) (c := 47) (v := σ.1 47) (gtIF (gtIF (gtIF rfl))))) ?_
    refine j_w (cM g kk (sI (sI (sF (sF (sF σ 16 (σ.2.1 16)) 17 (σ.2.1 17)) 18 (σ.2.1 18)) 47 (σ.1 47)) 48 (σ.1 48))) (congrArg (cM g kk) (wrIi (S := (sI (sF (sF (sF σ 16 (σ.2.1 16)) 17 (σ.2.1 17)) 18 (σ.2.1 18)) 47 (σ.1 47))) (c := 48) (v := σ.1 48) (gtII (by decide) (gtIF (gtIF (gtIF rfl)))))) ?_
    exact j_iret C E (sI (sI (sF (sF (sF σ 16 (σ.2.1 16)) 17 (σ.2.1 17)) 18 (σ.2.1 18)) 47 (σ.1 47)) 48 (σ.1 48)) ⟨_, rfl, ⟨(σ.2.1 16), (σ.2.1 17), (σ.2.1 18), (σ.1 47), (σ.1 48), rfl, (bnF_1 c1)⟩⟩ rfl dX11_bound_8
set_option maxRecDepth 100000 in
set_option maxHeartbeats 4000000 in
theorem o_findOver (g kk : Nat → Nat) (σ : St) (k : Nat) (hk : σ.1 3 = nI k) (hk6 : k ≤ 6) (hI : iM σ) (nf : Nat) (hnf : σ.1 9 = nI nf) (hnfb : nf ≤ 20) (G : GD) (hM : HM G k nf σ) (ra : Nat) (hra : σ.1 46 = nI ra) (hrab : ra ≤ 6) (Q : RQ) (hQ : HN Q ra σ) (d : Nat) (hd0 : d < 28) (i : Nat) (j : Nat) (hj0 : i ≤ j) (hj1 : j ≤ 20) (m : Nat) (l : Nat) (hl0 : m ≤ l) (hl1 : l ≤ 20) : jM (S := St) yX11_findOver cX11_findOver 8 (some .boolean) { frames := 6, cells := 0, slots := 0, locals := 141 } kk (cM g kk σ) [.ref (g 0), .int (nI d), .int (nI i), .int (nI j), .int (nI m), .int (nI l)] (cM g kk) (rI (fun (r : Int32) (u : St) => ∃ (pF16 : Nat → Int32) (pF17 : Nat → Int32) (pF18 : Nat → Int32) (pI47 : Int32) (pI48 : Int32) (sa : Nat) (sb : Nat), u = sI (sI (sI (sI (sF (sF (sF σ 16 pF16) 17 pF17) 18 pF18) 47 pI47) 48 pI48) 49 (nI sa)) 50 (nI sb) ∧ ((r = nI 1 ∧ some (sa, sb) = ovX (fun x y => bdR G k Q d x y ra) i m l (j + 1 - i)) ∨ (r = nI 0 ∧ ovX (fun x y => bdR G k Q d x y ra) i m l (j + 1 - i) = none)) ∧ (sa ≤ 4405590 ∧ sb ≤ 4409559))) := by
  refine j_entry [(0, .ref (g 0)), (1, .int (nI d)), (2, .int (nI i)), (3, .int (nI j)), (4, .int (nI m)), (5, .int (nI l))] (by decide) (Nat.le_of_ble_eq_true rfl) rfl ?_
  intro X C E HI
  refine j_aload_n C 0 rfl dX11_findOver_0 ?_
  refine j_V1 C (o_findAll g kk σ k hk hk6 hI nf hnf (by omega) G hM ) kyX11_findAll tb_1131 tb_1133 sp_24 0 rfl (eM_0 g kk _) rfl (Nat.le_of_ble_eq_true rfl) ⟨by decide, by decide⟩ dX11_findOver_1 rfl (fun vr ur hp => ?_)
  obtain ⟨rfl, w1, w2, w3, hu, g4⟩ := hp
  replace hu := hu.symm
  subst hu
  refine j_aload_n C 0 rfl dX11_findOver_4 ?_
  refine j_iconst C (nI 0) (by decide) dX11_findOver_5 ?_
  refine pM_0_49 C tb_922 dX11_findOver_6 ?_
  refine j_aload_n C 0 rfl dX11_findOver_9 ?_
  refine j_iconst C (nI 0) (by decide) dX11_findOver_10 ?_
  refine pM_0_50 C tb_923 dX11_findOver_11 ?_
  refine j_iload_n C 2 rfl dX11_findOver_14 ?_
  refine j_istore C [(6, .int (nI i)), (0, .ref (g 0)), (1, .int (nI d)), (2, .int (nI i)), (3, .int (nI j)), (4, .int (nI m)), (5, .int (nI l))] (by decide) rfl dX11_findOver_15 ?_
  have L17 : ∀ (n17 : Nat) (x : Nat) (z17_I47 : Int32) (z17_I48 : Int32) (sa : Nat) (sb : Nat) (i17_0 : i ≤ x) (i17_1 : x ≤ j + 1) (i17_2 : sa ≤ 209790 * (x - i)) (i17_3 : sb ≤ 209979 * (x - i)) (hs1 : some (sa, sb) = ovX (fun x y => bdR G k Q d x y ra) i m l (x - i)) (hm17 : j + 1 - x < n17), J X 0 0 (cM g kk (sI (sI (sI (sI (sF (sF (sF σ 16 w1) 17 w2) 18 w3) 47 z17_I47) 48 z17_I48) 49 (nI sa)) 50 (nI sb))) [(6, .int (nI x)), (0, .ref (g 0)), (1, .int (nI d)), (2, .int (nI i)), (3, .int (nI j)), (4, .int (nI m)), (5, .int (nI l))] 17 [] := by
    intro n17
    induction n17 with
    | zero => intro x z17_I47 z17_I48 sa sb i17_0 i17_1 i17_2 i17_3 hs1 hm; exact absurd hm (Nat.not_lt_zero _)
    | succ n17 ih17 =>
      intro x z17_I47 z17_I48 sa sb i17_0 i17_1 i17_2 i17_3 hs1 hm17
      refine j_iload C 0 rfl dX11_findOver_17 ?_
      refine j_iload_n C 4 rfl dX11_findOver_19 ?_
      refine j_icmp_gtN C 86 (by decide) (by omega) (by omega) dX11_findOver_20 (fun c5 => ?_) (fun c5 => ?_)
      · refine j_iconst C (nI 1) (by decide) dX11_findOver_86 ?_
        exact j_zret C E (by first | rfl | decide) (sI (sI (sI (sI (sF (sF (sF σ 16 w1) 17 w2) 18 w3) 47 z17_I47) 48 z17_I48) 49 (nI sa)) 50 (nI sb)) ⟨_, rfl, ⟨w1, w2, w3, z17_I47, z17_I48, sa, sb, rfl, (Or.inl ⟨rfl, by have z := hs1; rw [show x = j + 1 by omega] at z; exact z⟩), (by omega)⟩⟩ rfl dX11_findOver_87
      · refine j_iload C 5 rfl dX11_findOver_23 ?_
        refine j_istore C [(7, .int (nI m)), (6, .int (nI x)), (0, .ref (g 0)), (1, .int (nI d)), (2, .int (nI i)), (3, .int (nI j)), (4, .int (nI m)), (5, .int (nI l))] (by decide) rfl dX11_findOver_25 ?_
        have L27 : ∀ (n27 : Nat) (y : Nat) (z27_I47 : Int32) (z27_I48 : Int32) (ta : Nat) (tb : Nat) (i27_0 : m ≤ y) (i27_1 : y ≤ l + 1) (i27_2 : ta ≤ 209790 * (x - i) + 9990 * (y - m)) (i27_3 : tb ≤ 209979 * (x - i) + 9999 * (y - m)) (hs2 : some (ta, tb) = ovY (fun x y => bdR G k Q d x y ra) x m (ovX (fun x y => bdR G k Q d x y ra) i m l (x - i)) (y - m)) (hm27 : l + 1 - y < n27), J X 0 0 (cM g kk (sI (sI (sI (sI (sF (sF (sF σ 16 w1) 17 w2) 18 w3) 47 z27_I47) 48 z27_I48) 49 (nI ta)) 50 (nI tb))) [(7, .int (nI y)), (6, .int (nI x)), (0, .ref (g 0)), (1, .int (nI d)), (2, .int (nI i)), (3, .int (nI j)), (4, .int (nI m)), (5, .int (nI l))] 27 [] := by
          intro n27
          induction n27 with
          | zero => intro y z27_I47 z27_I48 ta tb i27_0 i27_1 i27_2 i27_3 hs2 hm; exact absurd hm (Nat.not_lt_zero _)
          | succ n27 ih27 =>
            intro y z27_I47 z27_I48 ta tb i27_0 i27_1 i27_2 i27_3 hs2 hm27
            refine j_iload C 0 rfl dX11_findOver_27 ?_
            refine j_iload C 7 rfl dX11_findOver_29 ?_
            refine j_icmp_gtN C 80 (by decide) (by omega) (by omega) dX11_findOver_31 (fun c6 => ?_) (fun c6 => ?_)
            · refine j_iinc C (nI (x + 1)) [(6, .int (nI (x + 1))), (7, .int (nI y)), (0, .ref (g 0)), (1, .int (nI d)), (2, .int (nI i)), (3, .int (nI j)), (4, .int (nI m)), (5, .int (nI l))] 1 rfl (by rw [show Int32.ofInt 1 = nI 1 from by decide, nI_add]) (by decide) rfl dX11_findOver_80 ?_
              refine j_goto C 17 (by decide) dX11_findOver_83 ?_
              refine j_sub (lv' := [(6, .int (nI (x + 1))), (0, .ref (g 0)), (1, .int (nI d)), (2, .int (nI i)), (3, .int (nI j)), (4, .int (nI m)), (5, .int (nI l))]) [0, 2, 3, 4, 5, 6, 7] rfl ?_
              exact ih17 (x + 1) z27_I47 z27_I48 ta tb (by omega) (by omega) (by omega) (by omega) (ovX_s (by have z := hs2; rw [show y = l + 1 by omega] at z; exact z) (by omega)) (by omega)
            · refine j_aload_n C 2 rfl dX11_findOver_34 ?_
              refine j_iload_n C 3 rfl dX11_findOver_35 ?_
              refine j_iload C 1 rfl dX11_findOver_36 ?_
              refine j_iload C 0 rfl dX11_findOver_38 ?_
              refine j_V1 C (o_findBound g kk (sI (sI (sI (sI (sF (sF (sF σ 16 w1) 17 w2) 18 w3) 47 z27_I47) 48 z27_I48) 49 (nI ta)) 50 (nI tb)) k hk hk6 hI nf hnf (by omega) G hM ra hra (by omega) Q hQ g4 d (by first | assumption | omega) x (by first | assumption | omega) y (by first | assumption | omega)) kyX11_findBound tb_1237 tb_1239 sp_39 0 rfl (eM_0 g kk _) rfl (Nat.le_of_ble_eq_true rfl) ⟨by decide, by decide⟩ dX11_findOver_40 rfl (fun vr ur hp => ?_)
              obtain ⟨r11, rfl, w7, w8, hu, g9, g10⟩ := hp
              replace hu := hu.symm
              subst hu
              have er11 := g10
              subst er11
              refine j_if_ne C 48 (by decide) dX11_findOver_43 (fun c12 => ?_) (fun c12 => ?_)
              · replace c12 := bI_t c12
                refine j_aload_n C 2 rfl dX11_findOver_48 ?_
                refine j_dup C rfl dX11_findOver_49 ?_
                refine gM_0_49 C tb_922 (nI ta) rfl dX11_findOver_50 ?_
                refine j_aload_n C 2 rfl dX11_findOver_53 ?_
                refine gM_0_47 C tb_920 (nI w7) rfl dX11_findOver_54 ?_
                refine j_iaddN C dX11_findOver_57 ?_
                refine pM_0_49 C tb_922 dX11_findOver_58 ?_
                refine j_aload_n C 2 rfl dX11_findOver_61 ?_
                refine j_dup C rfl dX11_findOver_62 ?_
                refine gM_0_50 C tb_923 (nI tb) rfl dX11_findOver_63 ?_
                refine j_aload_n C 2 rfl dX11_findOver_66 ?_
                refine gM_0_48 C tb_921 (nI w8) rfl dX11_findOver_67 ?_
                refine j_iaddN C dX11_findOver_70 ?_
                refine pM_0_50 C tb_923 dX11_findOver_71 ?_
                refine j_iinc C (nI (y + 1)) [(7, .int (nI (y + 1))), (6, .int (nI x)), (0, .ref (g 0)), (1, .int (nI d)), (2, .int (nI i)), (3, .int (nI j)), (4, .int (nI m)), (5, .int (nI l))] 0 rfl (by rw [show Int32.ofInt 1 = nI 1 from by decide, nI_add]) (by decide) rfl dX11_findOver_74 ?_
                refine j_goto C 27 (by decide) dX11_findOver_77 ?_
                refine j_w (cM g kk (sI (sI (sI (sI (sF (sF (sF σ 16 w1) 17 w2) 18 w3) 47 (nI w7)) 48 (nI w8)) 49 (nI (ta + w7))) 50 (nI (tb + w8)))) (congrArg (cM g kk) (show sI (sI (sI (sI (sI (sI (sI (sI (sF (sF (sF σ 16 w1) 17 w2) 18 w3) 47 z27_I47) 48 z27_I48) 49 (nI ta)) 50 (nI tb)) 47 (nI w7)) 48 (nI w8)) 49 (nI (ta + w7))) 50 (nI (tb + w8)) = sI (sI (sI (sI (sF (sF (sF σ 16 w1) 17 w2) 18 w3) 47 (nI w7)) 48 (nI w8)) 49 (nI (ta + w7))) 50 (nI (tb + w8)) from (Eq.trans (wrI (Eq.trans (wrI (Eq.trans (wrI (Eq.trans (wrIc (by decide)) (wrI (Eq.trans (wrIc (by decide)) (wrI (Eq.trans (wrIc (by decide)) (wrI wrIs))))))) (Eq.trans (wrIc (by decide)) (wrI (Eq.trans (wrIc (by decide)) (wrI wrIs)))))) (Eq.trans (wrIc (by decide)) (wrI wrIs)))) wrIs))) ?_
                exact ih27 (y + 1) (nI w7) (nI w8) (ta + w7) (tb + w8) (by omega) (by omega) (by omega) (by omega) (ovY_s hs2 (by omega) g9.1 (of_decide_eq_true c12)) (by omega)
              · replace c12 := bI_f c12
                refine j_iconst C (nI 0) (by decide) dX11_findOver_46 ?_
                refine j_w (cM g kk (sI (sI (sI (sI (sF (sF (sF σ 16 w1) 17 w2) 18 w3) 47 (nI w7)) 48 (nI w8)) 49 (nI ta)) 50 (nI tb))) (congrArg (cM g kk) (show sI (sI (sI (sI (sI (sI (sF (sF (sF σ 16 w1) 17 w2) 18 w3) 47 z27_I47) 48 z27_I48) 49 (nI ta)) 50 (nI tb)) 47 (nI w7)) 48 (nI w8) = sI (sI (sI (sI (sF (sF (sF σ 16 w1) 17 w2) 18 w3) 47 (nI w7)) 48 (nI w8)) 49 (nI ta)) 50 (nI tb) from (Eq.trans (wrI (Eq.trans (wrIc (by decide)) (wrI (Eq.trans (wrIc (by decide)) (wrI (Eq.trans (wrIc (by decide)) (wrI wrIs))))))) (Eq.trans (wrIc (by decide)) (wrI (Eq.trans (wrIc (by decide)) (wrI wrIs))))))) ?_
                exact j_zret C E (by first | rfl | decide) (sI (sI (sI (sI (sF (sF (sF σ 16 w1) 17 w2) 18 w3) 47 (nI w7)) 48 (nI w8)) 49 (nI ta)) 50 (nI tb)) ⟨_, rfl, ⟨w1, w2, w3, (nI w7), (nI w8), ta, tb, rfl, (Or.inr ⟨rfl, ovX_c (ovY_c hs2 (by omega) (by omega) g9.1 (of_decide_eq_false c12)) (by omega) (by omega)⟩), (by omega)⟩⟩ rfl dX11_findOver_47
        exact L27 _ m z17_I47 z17_I48 sa sb (by omega) (by omega) (by omega) (by omega) (by rw [Nat.sub_self]; exact hs1) (Nat.lt_succ_self _)
  refine j_w (cM g kk (sI (sI (sI (sF (sF (sF σ 16 w1) 17 w2) 18 w3) 49 (nI 0)) 50 (nI 0)) 47 (σ.1 47))) (congrArg (cM g kk) (wrIi (S := (sI (sI (sF (sF (sF σ 16 w1) 17 w2) 18 w3) 49 (nI 0)) 50 (nI 0))) (c := 47) (v := σ.1 47) (gtII (by decide) (gtII (by decide) (gtIF (gtIF (gtIF rfl))))))) ?_
  refine j_w (cM g kk (sI (sI (sI (sI (sF (sF (sF σ 16 w1) 17 w2) 18 w3) 49 (nI 0)) 50 (nI 0)) 47 (σ.1 47)) 48 (σ.1 48))) (congrArg (cM g kk) (wrIi (S := (sI (sI (sI (sF (sF (sF σ 16 w1) 17 w2) 18 w3) 49 (nI 0)) 50 (nI 0)) 47 (σ.1 47))) (c := 48) (v := σ.1 48) (gtII (by decide) (gtII (by decide) (gtII (by decide) (gtIF (gtIF (gtIF rfl)))))))) ?_
  refine j_w (cM g kk (sI (sI (sI (sI (sF (sF (sF σ 16 w1) 17 w2) 18 w3) 47 (σ.1 47)) 48 (σ.1 48)) 49 (nI 0)) 50 (nI 0))) (congrArg (cM g kk) (show sI (sI (sI (sI (sF (sF (sF σ 16 w1) 17 w2) 18 w3) 49 (nI 0)) 50 (nI 0)) 47 (σ.1 47)) 48 (σ.1 48) = sI (sI (sI (sI (sF (sF (sF σ 16 w1) 17 w2) 18 w3) 47 (σ.1 47)) 48 (σ.1 48)) 49 (nI 0)) 50 (nI 0) from (Eq.trans (wrI (Eq.trans (wrIc (by decide)) (wrI (wrIc (by decide))))) (Eq.trans (wrIc (by decide)) (wrI (wrIc (by decide))))))) ?_
  exact L17 _ i (σ.1 47) (σ.1 48) 0 0 (by omega) (by omega) (by omega) (by omega) (by rw [Nat.sub_self]; rfl) (Nat.lt_succ_self _)
set_option maxRecDepth 100000 in
set_option maxHeartbeats 4000000 in
theorem o_over (g kk : Nat → Nat) (σ : St) (k : Nat) (hk : σ.1 3 = nI k) (hk6 : k ≤ 6) (hI : iM σ) (nf : Nat) (hnf : σ.1 9 = nI nf) (hnfb : nf ≤ 20) (G : GD) (hM : HM G k nf σ) (ra : Nat) (hra : σ.1 46 = nI ra) (hrab : ra ≤ 6) (Q : RQ) (hQ : HN Q ra σ) (x : Int32) (a : Int32) (b : Int32) (c : Int32) (d : Int32) (w : Int32) : jM (S := St) yX11_over cX11_over 7 (some .int) { frames := 7, cells := 0, slots := 0, locals := 168 } kk (cM g kk σ) [.ref (g 0), .int x, .int a, .int b, .int c, .int d, .int w] (cM g kk) (rI (fun (r : Int32) (u : St) => ∃ (pF16 : Nat → Int32) (pF17 : Nat → Int32) (pF18 : Nat → Int32) (pI47 : Int32) (pI48 : Int32) (pI49 : Int32) (pI50 : Int32), u = sI (sI (sI (sI (sF (sF (sF σ 16 pF16) 17 pF17) 18 pF18) 47 pI47) 48 pI48) 49 pI49) 50 pI50 ∧ (r = ovF (fun d x y => bdR G k Q d x y ra) x a b c d w))) := by
  refine j_entry [(0, .ref (g 0)), (1, .int x), (2, .int a), (3, .int b), (4, .int c), (5, .int d), (6, .int w)] (by decide) (Nat.le_of_ble_eq_true rfl) rfl ?_
  intro X C E HI
  refine j_iload_n C 1 rfl dX11_over_0 ?_
  refine j_S01 C (m_isDay x) kyX11_isDay tb_1077 tb_1078 rfl (Nat.le_of_ble_eq_true rfl) ⟨by decide, by decide⟩ ⟨by decide, by decide⟩ dX11_over_1 rfl ?_
  refine j_if_ne C 9 (by decide) dX11_over_4 (fun c1 => ?_) (fun c1 => ?_)
  · replace c1 := bI_t c1
    obtain ⟨xn, xn1, xn2, rfl⟩ := wB_nat (by decide) (by decide) c1
    refine j_iload_n C 2 rfl dX11_over_9 ?_
    refine j_iload_n C 3 rfl dX11_over_10 ?_
    refine j_iload C 4 rfl dX11_over_11 ?_
    refine j_iload C 5 rfl dX11_over_13 ?_
    refine j_S01 C (m_isLand a b c d) kyX11_isLand tb_1249 tb_1250 rfl (Nat.le_of_ble_eq_true rfl) ⟨by decide, by decide⟩ ⟨by decide, by decide⟩ dX11_over_15 rfl ?_
    refine j_if_eq C 29 (by decide) dX11_over_18 (fun c2 => ?_) (fun c2 => ?_)
    · replace c2 := bI_f c2
      refine j_bipush C ((-2)) (by decide) dX11_over_29 ?_
      refine j_w (cM g kk (sF σ 16 (σ.2.1 16))) (congrArg (cM g kk) (wrFi (S := σ) (c := 16) (v := σ.2.1 16) rfl)) ?_
      refine j_w (cM g kk (sF (sF σ 16 (σ.2.1 16)) 17 (σ.2.1 17))) (congrArg (cM g kk) (wrFi (S := (sF σ 16 (σ.2.1 16))) (c := 17) (v := σ.2.1 17) (gtFF (by decide) rfl))) ?_
      refine j_w (cM g kk (sF (sF (sF σ 16 (σ.2.1 16)) 17 (σ.2.1 17)) 18 (σ.2.1 18))) (congrArg (cM g kk) (wrFi (S := (sF (sF σ 16 (σ.2.1 16)) 17 (σ.2.1 17))) (c := 18) (v := σ.2.1 18) (gtFF (by decide) (gtFF (by decide) rfl)))) ?_
      refine j_w (cM g kk (sI (sF (sF (sF σ 16 (σ.2.1 16)) 17 (σ.2.1 17)) 18 (σ.2.1 18)) 47 (σ.1 47))) (congrArg (cM g kk) (wrIi (S := (sF (sF (sF σ 16 (σ.2.1 16)) 17 (σ.2.1 17)) 18 (σ.2.1 18))) (c := 47) (v := σ.1 47) (gtIF (gtIF (gtIF rfl))))) ?_
      refine j_w (cM g kk (sI (sI (sF (sF (sF σ 16 (σ.2.1 16)) 17 (σ.2.1 17)) 18 (σ.2.1 18)) 47 (σ.1 47)) 48 (σ.1 48))) (congrArg (cM g kk) (wrIi (S := (sI (sF (sF (sF σ 16 (σ.2.1 16)) 17 (σ.2.1 17)) 18 (σ.2.1 18)) 47 (σ.1 47))) (c := 48) (v := σ.1 48) (gtII (by decide) (gtIF (gtIF (gtIF rfl)))))) ?_
      refine j_w (cM g kk (sI (sI (sI (sF (sF (sF σ 16 (σ.2.1 16)) 17 (σ.2.1 17)) 18 (σ.2.1 18)) 47 (σ.1 47)) 48 (σ.1 48)) 49 (σ.1 49))) (congrArg (cM g kk) (wrIi (S := (sI (sI (sF (sF (sF σ 16 (σ.2.1 16)) 17 (σ.2.1 17)) 18 (σ.2.1 18)) 47 (σ.1 47)) 48 (σ.1 48))) (c := 49) (v := σ.1 49) (gtII (by decide) (gtII (by decide) (gtIF (gtIF (gtIF rfl))))))) ?_
      refine j_w (cM g kk (sI (sI (sI (sI (sF (sF (sF σ 16 (σ.2.1 16)) 17 (σ.2.1 17)) 18 (σ.2.1 18)) 47 (σ.1 47)) 48 (σ.1 48)) 49 (σ.1 49)) 50 (σ.1 50))) (congrArg (cM g kk) (wrIi (S := (sI (sI (sI (sF (sF (sF σ 16 (σ.2.1 16)) 17 (σ.2.1 17)) 18 (σ.2.1 18)) 47 (σ.1 47)) 48 (σ.1 48)) 49 (σ.1 49))) (c := 50) (v := σ.1 50) (gtII (by decide) (gtII (by decide) (gtII (by decide) (gtIF (gtIF (gtIF rfl)))))))) ?_
      exact j_iret C E (sI (sI (sI (sI (sF (sF (sF σ 16 (σ.2.1 16)) 17 (σ.2.1 17)) 18 (σ.2.1 18)) 47 (σ.1 47)) 48 (σ.1 48)) 49 (σ.1 49)) 50 (σ.1 50)) ⟨_, rfl, ⟨(σ.2.1 16), (σ.2.1 17), (σ.2.1 18), (σ.1 47), (σ.1 48), (σ.1 49), (σ.1 50), rfl, (ovF_2 c1 (Or.inl c2))⟩⟩ rfl dX11_over_31
    · replace c2 := bI_t c2
      obtain ⟨an, bn, cn, dn, hl1, hl2, hl3, hl4, rfl, rfl, rfl, rfl⟩ := ldB_nat c2
      refine j_iload C 6 rfl dX11_over_21 ?_
      refine j_S01 C (m_isEnd w) kyX11_isEnd tb_1234 tb_1235 rfl (Nat.le_of_ble_eq_true rfl) ⟨by decide, by decide⟩ ⟨by decide, by decide⟩ dX11_over_23 rfl ?_
      refine j_if_ne C 32 (by decide) dX11_over_26 (fun c3 => ?_) (fun c3 => ?_)
      · replace c3 := bI_t c3
        obtain ⟨wn, wn1, wn2, rfl⟩ := wB_nat (by decide) (by decide) c3
        refine j_aload_n C 0 rfl dX11_over_32 ?_
        refine j_iload_n C 1 rfl dX11_over_33 ?_
        refine j_iload_n C 2 rfl dX11_over_34 ?_
        refine j_iload_n C 3 rfl dX11_over_35 ?_
        refine j_iload C 4 rfl dX11_over_36 ?_
        refine j_iload C 5 rfl dX11_over_38 ?_
        refine j_V1 C (o_findOver g kk σ k hk hk6 hI nf hnf (by omega) G hM ra hra (by omega) Q hQ xn (by first | assumption | omega) an bn (by first | assumption | omega) (by first | assumption | omega) cn dn (by first | assumption | omega) (by first | assumption | omega)) kyX11_findOver tb_1252 tb_1254 sp_41 0 rfl (eM_0 g kk _) rfl (Nat.le_of_ble_eq_true rfl) ⟨by decide, by decide⟩ dX11_over_40 rfl (fun vr ur hp => ?_)
        obtain ⟨r13, rfl, w4, w5, w6, w7, w8, w9, w10, hu, g11, g12⟩ := hp
        replace hu := hu.symm
        subst hu
        rcases g11 with ⟨hr9, hs9⟩ | ⟨hr9, hs9⟩
        · subst hr9
          refine j_if_neN C 51 (by decide) (by omega) dX11_over_43 (fun c14 => ?_) (fun c14 => ?_)
          · refine j_iload C 6 rfl dX11_over_51 ?_
            refine j_if_neN C 63 (by decide) (by omega) dX11_over_53 (fun c15 => ?_) (fun c15 => ?_)
            · refine j_aload_n C 0 rfl dX11_over_63 ?_
              refine gM_0_50 C tb_923 (nI w10) rfl dX11_over_64 ?_
              exact j_iret C E (sI (sI (sI (sI (sF (sF (sF σ 16 w4) 17 w5) 18 w6) 47 w7) 48 w8) 49 (nI w9)) 50 (nI w10)) ⟨_, rfl, ⟨w4, w5, w6, w7, w8, (nI w9), (nI w10), rfl, (ovF_x c1 c2 c3 (by omega) (by omega) (by omega) (by omega) (by omega) (by omega) hs9 (by first | rw [if_pos (by omega)] | rw [if_neg (by omega)]))⟩⟩ rfl dX11_over_67
            · refine j_aload_n C 0 rfl dX11_over_56 ?_
              refine gM_0_49 C tb_922 (nI w9) rfl dX11_over_57 ?_
              refine j_goto C 67 (by decide) dX11_over_60 ?_
              exact j_iret C E (sI (sI (sI (sI (sF (sF (sF σ 16 w4) 17 w5) 18 w6) 47 w7) 48 w8) 49 (nI w9)) 50 (nI w10)) ⟨_, rfl, ⟨w4, w5, w6, w7, w8, (nI w9), (nI w10), rfl, (ovF_x c1 c2 c3 (by omega) (by omega) (by omega) (by omega) (by omega) (by omega) hs9 (by first | rw [if_pos (by omega)] | rw [if_neg (by omega)]))⟩⟩ rfl dX11_over_67
          · exact absurd c14 (by decide)
        · subst hr9
          refine j_if_neN C 51 (by decide) (by omega) dX11_over_43 (fun c16 => ?_) (fun c16 => ?_)
          · exact absurd c16 (by decide)
          · refine j_bipush C ((-5)) (by decide) dX11_over_46 ?_
            refine j_goto C 67 (by decide) dX11_over_48 ?_
            exact j_iret C E (sI (sI (sI (sI (sF (sF (sF σ 16 w4) 17 w5) 18 w6) 47 w7) 48 w8) 49 (nI w9)) 50 (nI w10)) ⟨_, rfl, ⟨w4, w5, w6, w7, w8, (nI w9), (nI w10), rfl, (ovF_5 c1 c2 c3 (by omega) (by omega) (by omega) (by omega) (by omega) hs9)⟩⟩ rfl dX11_over_67
      · replace c3 := bI_f c3
        refine j_bipush C ((-2)) (by decide) dX11_over_29 ?_
        refine j_w (cM g kk (sF σ 16 (σ.2.1 16))) (congrArg (cM g kk) (wrFi (S := σ) (c := 16) (v := σ.2.1 16) rfl)) ?_
        refine j_w (cM g kk (sF (sF σ 16 (σ.2.1 16)) 17 (σ.2.1 17))) (congrArg (cM g kk) (wrFi (S := (sF σ 16 (σ.2.1 16))) (c := 17) (v := σ.2.1 17) (gtFF (by decide) rfl))) ?_
        refine j_w (cM g kk (sF (sF (sF σ 16 (σ.2.1 16)) 17 (σ.2.1 17)) 18 (σ.2.1 18))) (congrArg (cM g kk) (wrFi (S := (sF (sF σ 16 (σ.2.1 16)) 17 (σ.2.1 17))) (c := 18) (v := σ.2.1 18) (gtFF (by decide) (gtFF (by decide) rfl)))) ?_
        refine j_w (cM g kk (sI (sF (sF (sF σ 16 (σ.2.1 16)) 17 (σ.2.1 17)) 18 (σ.2.1 18)) 47 (σ.1 47))) (congrArg (cM g kk) (wrIi (S := (sF (sF (sF σ 16 (σ.2.1 16)) 17 (σ.2.1 17)) 18 (σ.2.1 18))) (c := 47) (v := σ.1 47) (gtIF (gtIF (gtIF rfl))))) ?_
        refine j_w (cM g kk (sI (sI (sF (sF (sF σ 16 (σ.2.1 16)) 17 (σ.2.1 17)) 18 (σ.2.1 18)) 47 (σ.1 47)) 48 (σ.1 48))) (congrArg (cM g kk) (wrIi (S := (sI (sF (sF (sF σ 16 (σ.2.1 16)) 17 (σ.2.1 17)) 18 (σ.2.1 18)) 47 (σ.1 47))) (c := 48) (v := σ.1 48) (gtII (by decide) (gtIF (gtIF (gtIF rfl)))))) ?_
        refine j_w (cM g kk (sI (sI (sI (sF (sF (sF σ 16 (σ.2.1 16)) 17 (σ.2.1 17)) 18 (σ.2.1 18)) 47 (σ.1 47)) 48 (σ.1 48)) 49 (σ.1 49))) (congrArg (cM g kk) (wrIi (S := (sI (sI (sF (sF (sF σ 16 (σ.2.1 16)) 17 (σ.2.1 17)) 18 (σ.2.1 18)) 47 (σ.1 47)) 48 (σ.1 48))) (c := 49) (v := σ.1 49) (gtII (by decide) (gtII (by decide) (gtIF (gtIF (gtIF rfl))))))) ?_
        refine j_w (cM g kk (sI (sI (sI (sI (sF (sF (sF σ 16 (σ.2.1 16)) 17 (σ.2.1 17)) 18 (σ.2.1 18)) 47 (σ.1 47)) 48 (σ.1 48)) 49 (σ.1 49)) 50 (σ.1 50))) (congrArg (cM g kk) (wrIi (S := (sI (sI (sI (sF (sF (sF σ 16 (σ.2.1 16)) 17 (σ.2.1 17)) 18 (σ.2.1 18)) 47 (σ.1 47)) 48 (σ.1 48)) 49 (σ.1 49))) (c := 50) (v := σ.1 50) (gtII (by decide) (gtII (by decide) (gtII (by decide) (gtIF (gtIF (gtIF rfl)))))))) ?_
        exact j_iret C E (sI (sI (sI (sI (sF (sF (sF σ 16 (σ.2.1 16)) 17 (σ.2.1 17)) 18 (σ.2.1 18)) 47 (σ.1 47)) 48 (σ.1 48)) 49 (σ.1 49)) 50 (σ.1 50)) ⟨_, rfl, ⟨(σ.2.1 16), (σ.2.1 17), (σ.2.1 18), (σ.1 47), (σ.1 48), (σ.1 49), (σ.1 50), rfl, (ovF_2 c1 (Or.inr c3))⟩⟩ rfl dX11_over_31
  · replace c1 := bI_f c1
    refine j_iconst C ((-1)) (by decide) dX11_over_7 ?_
    refine j_w (cM g kk (sF σ 16 (σ.2.1 16))) (congrArg (cM g kk) (wrFi (S := σ) (c := 16) (v := σ.2.1 16) rfl)) ?_
    refine j_w (cM g kk (sF (sF σ 16 (σ.2.1 16)) 17 (σ.2.1 17))) (congrArg (cM g kk) (wrFi (S := (sF σ 16 (σ.2.1 16))) (c := 17) (v := σ.2.1 17) (gtFF (by decide) rfl))) ?_
    refine j_w (cM g kk (sF (sF (sF σ 16 (σ.2.1 16)) 17 (σ.2.1 17)) 18 (σ.2.1 18))) (congrArg (cM g kk) (wrFi (S := (sF (sF σ 16 (σ.2.1 16)) 17 (σ.2.1 17))) (c := 18) (v := σ.2.1 18) (gtFF (by decide) (gtFF (by decide) rfl)))) ?_
    refine j_w (cM g kk (sI (sF (sF (sF σ 16 (σ.2.1 16)) 17 (σ.2.1 17)) 18 (σ.2.1 18)) 47 (σ.1 47))) (congrArg (cM g kk) (wrIi (S := (sF (sF (sF σ 16 (σ.2.1 16)) 17 (σ.2.1 17)) 18 (σ.2.1 18))) (c := 47) (v := σ.1 47) (gtIF (gtIF (gtIF rfl))))) ?_
    refine j_w (cM g kk (sI (sI (sF (sF (sF σ 16 (σ.2.1 16)) 17 (σ.2.1 17)) 18 (σ.2.1 18)) 47 (σ.1 47)) 48 (σ.1 48))) (congrArg (cM g kk) (wrIi (S := (sI (sF (sF (sF σ 16 (σ.2.1 16)) 17 (σ.2.1 17)) 18 (σ.2.1 18)) 47 (σ.1 47))) (c := 48) (v := σ.1 48) (gtII (by decide) (gtIF (gtIF (gtIF rfl)))))) ?_
    refine j_w (cM g kk (sI (sI (sI (sF (sF (sF σ 16 (σ.2.1 16)) 17 (σ.2.1 17)) 18 (σ.2.1 18)) 47 (σ.1 47)) 48 (σ.1 48)) 49 (σ.1 49))) (congrArg (cM g kk) (wrIi (S := (sI (sI (sF (sF (sF σ 16 (σ.2.1 16)) 17 (σ.2.1 17)) 18 (σ.2.1 18)) 47 (σ.1 47)) 48 (σ.1 48))) (c := 49) (v := σ.1 49) (gtII (by decide) (gtII (by decide) (gtIF (gtIF (gtIF rfl))))))) ?_
    refine j_w (cM g kk (sI (sI (sI (sI (sF (sF (sF σ 16 (σ.2.1 16)) 17 (σ.2.1 17)) 18 (σ.2.1 18)) 47 (σ.1 47)) 48 (σ.1 48)) 49 (σ.1 49)) 50 (σ.1 50))) (congrArg (cM g kk) (wrIi (S := (sI (sI (sI (sF (sF (sF σ 16 (σ.2.1 16)) 17 (σ.2.1 17)) 18 (σ.2.1 18)) 47 (σ.1 47)) 48 (σ.1 48)) 49 (σ.1 49))) (c := 50) (v := σ.1 50) (gtII (by decide) (gtII (by decide) (gtII (by decide) (gtIF (gtIF (gtIF rfl)))))))) ?_
    exact j_iret C E (sI (sI (sI (sI (sF (sF (sF σ 16 (σ.2.1 16)) 17 (σ.2.1 17)) 18 (σ.2.1 18)) 47 (σ.1 47)) 48 (σ.1 48)) 49 (σ.1 49)) 50 (σ.1 50)) ⟨_, rfl, ⟨(σ.2.1 16), (σ.2.1 17), (σ.2.1 18), (σ.1 47), (σ.1 48), (σ.1 49), (σ.1 50), rfl, (ovF_1 c1)⟩⟩ rfl dX11_over_8
theorem ovY_le {B : Nat → Nat → Nat × Nat} {x m : Nat} {s : Option (Nat × Nat)} (hs : ∀ t, s = some t → t.1 ≤ t.2) : ∀ (y : Nat) (t : Nat × Nat), ovY B x m s y = some t → t.1 ≤ t.2
  | 0, t, h => hs t h
  | y + 1, t, h => by
    have h : (ovY B x m s y).bind (fun t => if (B x (m + y)).1 ≤ (B x (m + y)).2 then some (t.1 + (B x (m + y)).1, t.2 + (B x (m + y)).2) else none) = some t := h
    cases e : ovY B x m s y with
    | none => rw [e] at h; cases h
    | some u =>
      rw [e] at h
      have h : (if (B x (m + y)).1 ≤ (B x (m + y)).2 then some (u.1 + (B x (m + y)).1, u.2 + (B x (m + y)).2) else none) = some t := h
      have ih := ovY_le hs y u e
      by_cases q : (B x (m + y)).1 ≤ (B x (m + y)).2
      · rw [if_pos q] at h
        cases h
        show u.1 + _ ≤ u.2 + _
        omega
      · rw [if_neg q] at h
        cases h
theorem ovX_le {B : Nat → Nat → Nat × Nat} {i m l : Nat} : ∀ (n : Nat) (t : Nat × Nat), ovX B i m l n = some t → t.1 ≤ t.2
  | 0, t, h => by cases h; exact Nat.le_refl _
  | n + 1, t, h => ovY_le (fun u hu => ovX_le n u hu) (l + 1 - m) t h
theorem dle (a p : Nat) : a * (100 - p) / 100 ≤ a := by
  have : a * (100 - p) ≤ a * 100 := Nat.mul_le_mul_left _ (by omega)
  omega
theorem ldw {a p : Nat} (ha : a ≤ 4405590) (hp : p ≤ 100) : ((nI a).toInt64 * (nI (100 - p)).toInt64 / (100)).toInt32 = nI (a * (100 - p) / 100) := by
  have hm := prb (p := p) ha
  rw [nI_l (by omega), nI_l (by omega), show (100 : Int64) = lN 100 from rfl, lN_mul]
  have : lN (a * (100 - p)) / lN 100 = lN (a * (100 - p) / 100) := by
    apply Int64.toInt_inj.mp
    rw [Int64.toInt_div, lN_toInt (by omega), lN_toInt (by decide), lN_toInt (by omega)]
    generalize a * (100 - p) = q at hm ⊢
    rw [show ((q : Nat) : Int).tdiv ((100 : Nat) : Int) = ((q / 100 : Nat) : Int) from by rw [← Int.ofNat_tdiv]]
    exact Int.bmod_eq_of_le (by omega) (by omega)
  rw [this, lN_i]
set_option maxRecDepth 100000 in
set_option maxHeartbeats 4000000 in
theorem o_flow (g kk : Nat → Nat) (σ : St) (k : Nat) (hk : σ.1 3 = nI k) (hk6 : k ≤ 6) (hI : iM σ) (nf : Nat) (hnf : σ.1 9 = nI nf) (hnfb : nf ≤ 20) (G : GD) (hM : HM G k nf σ) (ra : Nat) (hra : σ.1 46 = nI ra) (hrab : ra ≤ 6) (Q : RQ) (hQ : HN Q ra σ) (x : Int32) (a : Int32) (b : Int32) (c : Int32) (d : Int32) (y : Int32) (z : Int32) : jM (S := St) yX11_flow cX11_flow 9 (some .int) { frames := 7, cells := 0, slots := 0, locals := 168 } kk (cM g kk σ) [.ref (g 0), .int x, .int a, .int b, .int c, .int d, .int y, .int z] (cM g kk) (rI (fun (r : Int32) (u : St) => ∃ (pF16 : Nat → Int32) (pF17 : Nat → Int32) (pF18 : Nat → Int32) (pI47 : Int32) (pI48 : Int32) (pI49 : Int32) (pI50 : Int32), u = sI (sI (sI (sI (sF (sF (sF σ 16 pF16) 17 pF17) 18 pF18) 47 pI47) 48 pI48) 49 pI49) 50 pI50 ∧ (r = flF (fun d x y => bdR G k Q d x y ra) x a b c d y z))) := by
  refine j_entry [(0, .ref (g 0)), (1, .int x), (2, .int a), (3, .int b), (4, .int c), (5, .int d), (6, .int y), (7, .int z)] (by decide) (Nat.le_of_ble_eq_true rfl) rfl ?_
  intro X C E HI
  refine j_iload_n C 1 rfl dX11_flow_0 ?_
  refine j_S01 C (m_isDay x) kyX11_isDay tb_1077 tb_1078 rfl (Nat.le_of_ble_eq_true rfl) ⟨by decide, by decide⟩ ⟨by decide, by decide⟩ dX11_flow_1 rfl ?_
  refine j_if_ne C 11 (by decide) dX11_flow_4 (fun c1 => ?_) (fun c1 => ?_)
  · replace c1 := bI_t c1
    obtain ⟨xn, xn1, xn2, rfl⟩ := wB_nat (by decide) (by decide) c1
    refine j_iload_n C 2 rfl dX11_flow_11 ?_
    refine j_iload_n C 3 rfl dX11_flow_12 ?_
    refine j_iload C 4 rfl dX11_flow_13 ?_
    refine j_iload C 5 rfl dX11_flow_15 ?_
    refine j_S01 C (m_isLand a b c d) kyX11_isLand tb_1249 tb_1250 rfl (Nat.le_of_ble_eq_true rfl) ⟨by decide, by decide⟩ ⟨by decide, by decide⟩ dX11_flow_17 rfl ?_
    refine j_if_eq C 49 (by decide) dX11_flow_20 (fun c2 => ?_) (fun c2 => ?_)
    · replace c2 := bI_f c2
      refine j_ldcw C tb_1206 dX11_flow_49 ?_
      refine j_w (cM g kk (sF σ 16 (σ.2.1 16))) (congrArg (cM g kk) (wrFi (S := σ) (c := 16) (v := σ.2.1 16) rfl)) ?_
      refine j_w (cM g kk (sF (sF σ 16 (σ.2.1 16)) 17 (σ.2.1 17))) (congrArg (cM g kk) (wrFi (S := (sF σ 16 (σ.2.1 16))) (c := 17) (v := σ.2.1 17) (gtFF (by decide) rfl))) ?_
      refine j_w (cM g kk (sF (sF (sF σ 16 (σ.2.1 16)) 17 (σ.2.1 17)) 18 (σ.2.1 18))) (congrArg (cM g kk) (wrFi (S := (sF (sF σ 16 (σ.2.1 16)) 17 (σ.2.1 17))) (c := 18) (v := σ.2.1 18) (gtFF (by decide) (gtFF (by decide) rfl)))) ?_
      refine j_w (cM g kk (sI (sF (sF (sF σ 16 (σ.2.1 16)) 17 (σ.2.1 17)) 18 (σ.2.1 18)) 47 (σ.1 47))) (congrArg (cM g kk) (wrIi (S := (sF (sF (sF σ 16 (σ.2.1 16)) 17 (σ.2.1 17)) 18 (σ.2.1 18))) (c := 47) (v := σ.1 47) (gtIF (gtIF (gtIF rfl))))) ?_
      refine j_w (cM g kk (sI (sI (sF (sF (sF σ 16 (σ.2.1 16)) 17 (σ.2.1 17)) 18 (σ.2.1 18)) 47 (σ.1 47)) 48 (σ.1 48))) (congrArg (cM g kk) (wrIi (S := (sI (sF (sF (sF σ 16 (σ.2.1 16)) 17 (σ.2.1 17)) 18 (σ.2.1 18)) 47 (σ.1 47))) (c := 48) (v := σ.1 48) (gtII (by decide) (gtIF (gtIF (gtIF rfl)))))) ?_
      refine j_w (cM g kk (sI (sI (sI (sF (sF (sF σ 16 (σ.2.1 16)) 17 (σ.2.1 17)) 18 (σ.2.1 18)) 47 (σ.1 47)) 48 (σ.1 48)) 49 (σ.1 49))) (congrArg (cM g kk) (wrIi (S := (sI (sI (sF (sF (sF σ 16 (σ.2.1 16)) 17 (σ.2.1 17)) 18 (σ.2.1 18)) 47 (σ.1 47)) 48 (σ.1 48))) (c := 49) (v := σ.1 49) (gtII (by decide) (gtII (by decide) (gtIF (gtIF (gtIF rfl))))))) ?_
      refine j_w (cM g kk (sI (sI (sI (sI (sF (sF (sF σ 16 (σ.2.1 16)) 17 (σ.2.1 17)) 18 (σ.2.1 18)) 47 (σ.1 47)) 48 (σ.1 48)) 49 (σ.1 49)) 50 (σ.1 50))) (congrArg (cM g kk) (wrIi (S := (sI (sI (sI (sF (sF (sF σ 16 (σ.2.1 16)) 17 (σ.2.1 17)) 18 (σ.2.1 18)) 47 (σ.1 47)) 48 (σ.1 48)) 49 (σ.1 49))) (c := 50) (v := σ.1 50) (gtII (by decide) (gtII (by decide) (gtII (by decide) (gtIF (gtIF (gtIF rfl)))))))) ?_
      exact j_iret C E (sI (sI (sI (sI (sF (sF (sF σ 16 (σ.2.1 16)) 17 (σ.2.1 17)) 18 (σ.2.1 18)) 47 (σ.1 47)) 48 (σ.1 48)) 49 (σ.1 49)) 50 (σ.1 50)) ⟨_, rfl, ⟨(σ.2.1 16), (σ.2.1 17), (σ.2.1 18), (σ.1 47), (σ.1 48), (σ.1 49), (σ.1 50), rfl, (flF_2 c1 (Or.inl c2))⟩⟩ rfl dX11_flow_52
    · replace c2 := bI_t c2
      obtain ⟨an, bn, cn, dn, hl1, hl2, hl3, hl4, rfl, rfl, rfl, rfl⟩ := ldB_nat c2
      refine j_iload C 6 rfl dX11_flow_23 ?_
      refine j_i2l C dX11_flow_25 ?_
      refine j_lconst C 0 (by decide) dX11_flow_26 ?_
      refine j_ldc2 C tb_1260 dX11_flow_27 ?_
      refine j_S01 C (m_inB y (nI 0) (nI 100) 0 (100) (by decide) (by decide)) kyX11_in tb_1057 tb_1058 rfl (Nat.le_of_ble_eq_true rfl) ⟨by decide, by decide⟩ ⟨by decide, by decide⟩ dX11_flow_30 rfl ?_
      refine j_if_eq C 49 (by decide) dX11_flow_33 (fun c3 => ?_) (fun c3 => ?_)
      · replace c3 := bI_f c3
        refine j_ldcw C tb_1206 dX11_flow_49 ?_
        refine j_w (cM g kk (sF σ 16 (σ.2.1 16))) (congrArg (cM g kk) (wrFi (S := σ) (c := 16) (v := σ.2.1 16) rfl)) ?_
        refine j_w (cM g kk (sF (sF σ 16 (σ.2.1 16)) 17 (σ.2.1 17))) (congrArg (cM g kk) (wrFi (S := (sF σ 16 (σ.2.1 16))) (c := 17) (v := σ.2.1 17) (gtFF (by decide) rfl))) ?_
        refine j_w (cM g kk (sF (sF (sF σ 16 (σ.2.1 16)) 17 (σ.2.1 17)) 18 (σ.2.1 18))) (congrArg (cM g kk) (wrFi (S := (sF (sF σ 16 (σ.2.1 16)) 17 (σ.2.1 17))) (c := 18) (v := σ.2.1 18) (gtFF (by decide) (gtFF (by decide) rfl)))) ?_
        refine j_w (cM g kk (sI (sF (sF (sF σ 16 (σ.2.1 16)) 17 (σ.2.1 17)) 18 (σ.2.1 18)) 47 (σ.1 47))) (congrArg (cM g kk) (wrIi (S := (sF (sF (sF σ 16 (σ.2.1 16)) 17 (σ.2.1 17)) 18 (σ.2.1 18))) (c := 47) (v := σ.1 47) (gtIF (gtIF (gtIF rfl))))) ?_
        refine j_w (cM g kk (sI (sI (sF (sF (sF σ 16 (σ.2.1 16)) 17 (σ.2.1 17)) 18 (σ.2.1 18)) 47 (σ.1 47)) 48 (σ.1 48))) (congrArg (cM g kk) (wrIi (S := (sI (sF (sF (sF σ 16 (σ.2.1 16)) 17 (σ.2.1 17)) 18 (σ.2.1 18)) 47 (σ.1 47))) (c := 48) (v := σ.1 48) (gtII (by decide) (gtIF (gtIF (gtIF rfl)))))) ?_
        refine j_w (cM g kk (sI (sI (sI (sF (sF (sF σ 16 (σ.2.1 16)) 17 (σ.2.1 17)) 18 (σ.2.1 18)) 47 (σ.1 47)) 48 (σ.1 48)) 49 (σ.1 49))) (congrArg (cM g kk) (wrIi (S := (sI (sI (sF (sF (sF σ 16 (σ.2.1 16)) 17 (σ.2.1 17)) 18 (σ.2.1 18)) 47 (σ.1 47)) 48 (σ.1 48))) (c := 49) (v := σ.1 49) (gtII (by decide) (gtII (by decide) (gtIF (gtIF (gtIF rfl))))))) ?_
        refine j_w (cM g kk (sI (sI (sI (sI (sF (sF (sF σ 16 (σ.2.1 16)) 17 (σ.2.1 17)) 18 (σ.2.1 18)) 47 (σ.1 47)) 48 (σ.1 48)) 49 (σ.1 49)) 50 (σ.1 50))) (congrArg (cM g kk) (wrIi (S := (sI (sI (sI (sF (sF (sF σ 16 (σ.2.1 16)) 17 (σ.2.1 17)) 18 (σ.2.1 18)) 47 (σ.1 47)) 48 (σ.1 48)) 49 (σ.1 49))) (c := 50) (v := σ.1 50) (gtII (by decide) (gtII (by decide) (gtII (by decide) (gtIF (gtIF (gtIF rfl)))))))) ?_
        exact j_iret C E (sI (sI (sI (sI (sF (sF (sF σ 16 (σ.2.1 16)) 17 (σ.2.1 17)) 18 (σ.2.1 18)) 47 (σ.1 47)) 48 (σ.1 48)) 49 (σ.1 49)) 50 (σ.1 50)) ⟨_, rfl, ⟨(σ.2.1 16), (σ.2.1 17), (σ.2.1 18), (σ.1 47), (σ.1 48), (σ.1 49), (σ.1 50), rfl, (flF_2 c1 (Or.inr (Or.inl c3)))⟩⟩ rfl dX11_flow_52
      · replace c3 := bI_t c3
        obtain ⟨yn, yn1, yn2, rfl⟩ := wB_nat (by decide) (by decide) c3
        refine j_iload C 7 rfl dX11_flow_36 ?_
        refine j_i2l C dX11_flow_38 ?_
        refine j_lconst C 0 (by decide) dX11_flow_39 ?_
        refine j_ldc2 C tb_1261 dX11_flow_40 ?_
        refine j_S01 C (m_inB z (nI 0) (nI 9999999) 0 (9999999) (by decide) (by decide)) kyX11_in tb_1057 tb_1058 rfl (Nat.le_of_ble_eq_true rfl) ⟨by decide, by decide⟩ ⟨by decide, by decide⟩ dX11_flow_43 rfl ?_
        refine j_if_ne C 53 (by decide) dX11_flow_46 (fun c4 => ?_) (fun c4 => ?_)
        · replace c4 := bI_t c4
          obtain ⟨zn, zn1, zn2, rfl⟩ := wB_nat (by decide) (by decide) c4
          refine j_aload_n C 0 rfl dX11_flow_53 ?_
          refine j_iload_n C 1 rfl dX11_flow_54 ?_
          refine j_iload_n C 2 rfl dX11_flow_55 ?_
          refine j_iload_n C 3 rfl dX11_flow_56 ?_
          refine j_iload C 4 rfl dX11_flow_57 ?_
          refine j_iload C 5 rfl dX11_flow_59 ?_
          refine j_V1 C (o_findOver g kk σ k hk hk6 hI nf hnf (by omega) G hM ra hra (by omega) Q hQ xn (by first | assumption | omega) an bn (by first | assumption | omega) (by first | assumption | omega) cn dn (by first | assumption | omega) (by first | assumption | omega)) kyX11_findOver tb_1252 tb_1254 sp_41 0 rfl (eM_0 g kk _) rfl (Nat.le_of_ble_eq_true rfl) ⟨by decide, by decide⟩ dX11_flow_61 rfl (fun vr ur hp => ?_)
          obtain ⟨r14, rfl, w5, w6, w7, w8, w9, w10, w11, hu, g12, g13⟩ := hp
          replace hu := hu.symm
          subst hu
          rcases g12 with ⟨hr9, hs9⟩ | ⟨hr9, hs9⟩
          · subst hr9
            refine j_if_neN C 71 (by decide) (by omega) dX11_flow_64 (fun c15 => ?_) (fun c15 => ?_)
            · refine j_aload_n C 0 rfl dX11_flow_71 ?_
              refine gM_0_49 C tb_922 (nI w10) rfl dX11_flow_72 ?_
              refine j_i2l C dX11_flow_75 ?_
              refine j_bipush C (nI 100) (by decide) dX11_flow_76 ?_
              refine j_iload C 6 rfl dX11_flow_78 ?_
              refine j_isubN C (by omega) dX11_flow_80 ?_
              refine j_i2l C dX11_flow_81 ?_
              refine j_lmul C dX11_flow_82 ?_
              refine j_ldc2 C tb_1260 dX11_flow_83 ?_
              refine j_ldiv C (by first | decide | assumption | exact nI_ne0 (by omega) (by omega) | exact i64ne (by assumption) | exact i64ne (nI_ne0 (by omega) (by omega))) dX11_flow_86 ?_
              refine j_l2i C dX11_flow_87 ?_
              have hsb9 := g13
              have hpr := prb (p := yn) hsb9.1
              have hle9 := ovX_le _ _ hs9.symm
              have hdl9 := dle w10 yn
              replace hle9 : w10 ≤ w11 := hle9
              refine j_teq (show ((((nI w10).toInt64) * ((nI (100 - yn)).toInt64)) / (100)).toInt32 = nI (w10 * (100 - yn) / 100) from ldw hsb9.1 (by omega)) ?_
              refine j_istore C [(8, .int (nI (w10 * (100 - yn) / 100))), (0, .ref (g 0)), (1, .int (nI xn)), (2, .int (nI an)), (3, .int (nI bn)), (4, .int (nI cn)), (5, .int (nI dn)), (6, .int (nI yn)), (7, .int (nI zn))] (by decide) rfl dX11_flow_88 ?_
              refine j_iload C 8 rfl dX11_flow_90 ?_
              refine j_iload C 0 rfl dX11_flow_92 ?_
              refine j_icmp_geN C 105 (by decide) (by omega) (by omega) dX11_flow_94 (fun c16 => ?_) (fun c16 => ?_)
              · refine j_iload C 8 rfl dX11_flow_105 ?_
                refine j_aload_n C 1 rfl dX11_flow_107 ?_
                refine gM_0_50 C tb_923 (nI w11) rfl dX11_flow_108 ?_
                refine j_icmp_leN C 124 (by decide) (by omega) (by omega) dX11_flow_111 (fun c17 => ?_) (fun c17 => ?_)
                · refine j_iconst C (nI 0) (by decide) dX11_flow_124 ?_
                  exact j_iret C E (sI (sI (sI (sI (sF (sF (sF σ 16 w5) 17 w6) 18 w7) 47 w8) 48 w9) 49 (nI w10)) 50 (nI w11)) ⟨_, rfl, ⟨w5, w6, w7, w8, w9, (nI w10), (nI w11), rfl, (flF_x c1 c2 c3 c4 (by omega) (by omega) (by omega) (by omega) (by omega) (by omega) (by omega) hs9 (by unfold byF; first | rw [if_pos (by omega)] | rw [if_neg (by omega), if_pos (by omega)] | rw [if_neg (by omega), if_neg (by omega)]))⟩⟩ rfl dX11_flow_125
                · refine j_iload C 8 rfl dX11_flow_114 ?_
                  refine j_aload_n C 1 rfl dX11_flow_116 ?_
                  refine gM_0_50 C tb_923 (nI w11) rfl dX11_flow_117 ?_
                  refine j_isub C dX11_flow_120 ?_
                  refine j_goto C 125 (by decide) dX11_flow_121 ?_
                  exact j_iret C E (sI (sI (sI (sI (sF (sF (sF σ 16 w5) 17 w6) 18 w7) 47 w8) 48 w9) 49 (nI w10)) 50 (nI w11)) ⟨_, rfl, ⟨w5, w6, w7, w8, w9, (nI w10), (nI w11), rfl, (flF_x c1 c2 c3 c4 (by omega) (by omega) (by omega) (by omega) (by omega) (by omega) (by omega) hs9 (by unfold byF; first | rw [if_pos (by omega)] | rw [if_neg (by omega), if_pos (by omega)] | rw [if_neg (by omega), if_neg (by omega)]))⟩⟩ rfl dX11_flow_125
              · refine j_iload C 8 rfl dX11_flow_97 ?_
                refine j_iload C 0 rfl dX11_flow_99 ?_
                refine j_isub C dX11_flow_101 ?_
                refine j_goto C 125 (by decide) dX11_flow_102 ?_
                exact j_iret C E (sI (sI (sI (sI (sF (sF (sF σ 16 w5) 17 w6) 18 w7) 47 w8) 48 w9) 49 (nI w10)) 50 (nI w11)) ⟨_, rfl, ⟨w5, w6, w7, w8, w9, (nI w10), (nI w11), rfl, (flF_x c1 c2 c3 c4 (by omega) (by omega) (by omega) (by omega) (by omega) (by omega) (by omega) hs9 (by unfold byF; first | rw [if_pos (by omega)] | rw [if_neg (by omega), if_pos (by omega)] | rw [if_neg (by omega), if_neg (by omega)]))⟩⟩ rfl dX11_flow_125
            · exact absurd c15 (by decide)
          · subst hr9
            refine j_if_neN C 71 (by decide) (by omega) dX11_flow_64 (fun c18 => ?_) (fun c18 => ?_)
            · exact absurd c18 (by decide)
            · refine j_ldcw C tb_1211 dX11_flow_67 ?_
              exact j_iret C E (sI (sI (sI (sI (sF (sF (sF σ 16 w5) 17 w6) 18 w7) 47 w8) 48 w9) 49 (nI w10)) 50 (nI w11)) ⟨_, rfl, ⟨w5, w6, w7, w8, w9, (nI w10), (nI w11), rfl, (flF_5 c1 c2 c3 c4 (by omega) (by omega) (by omega) (by omega) (by omega) hs9)⟩⟩ rfl dX11_flow_70
        · replace c4 := bI_f c4
          refine j_ldcw C tb_1206 dX11_flow_49 ?_
          refine j_w (cM g kk (sF σ 16 (σ.2.1 16))) (congrArg (cM g kk) (wrFi (S := σ) (c := 16) (v := σ.2.1 16) rfl)) ?_
          refine j_w (cM g kk (sF (sF σ 16 (σ.2.1 16)) 17 (σ.2.1 17))) (congrArg (cM g kk) (wrFi (S := (sF σ 16 (σ.2.1 16))) (c := 17) (v := σ.2.1 17) (gtFF (by decide) rfl))) ?_
          refine j_w (cM g kk (sF (sF (sF σ 16 (σ.2.1 16)) 17 (σ.2.1 17)) 18 (σ.2.1 18))) (congrArg (cM g kk) (wrFi (S := (sF (sF σ 16 (σ.2.1 16)) 17 (σ.2.1 17))) (c := 18) (v := σ.2.1 18) (gtFF (by decide) (gtFF (by decide) rfl)))) ?_
          refine j_w (cM g kk (sI (sF (sF (sF σ 16 (σ.2.1 16)) 17 (σ.2.1 17)) 18 (σ.2.1 18)) 47 (σ.1 47))) (congrArg (cM g kk) (wrIi (S := (sF (sF (sF σ 16 (σ.2.1 16)) 17 (σ.2.1 17)) 18 (σ.2.1 18))) (c := 47) (v := σ.1 47) (gtIF (gtIF (gtIF rfl))))) ?_
          refine j_w (cM g kk (sI (sI (sF (sF (sF σ 16 (σ.2.1 16)) 17 (σ.2.1 17)) 18 (σ.2.1 18)) 47 (σ.1 47)) 48 (σ.1 48))) (congrArg (cM g kk) (wrIi (S := (sI (sF (sF (sF σ 16 (σ.2.1 16)) 17 (σ.2.1 17)) 18 (σ.2.1 18)) 47 (σ.1 47))) (c := 48) (v := σ.1 48) (gtII (by decide) (gtIF (gtIF (gtIF rfl)))))) ?_
          refine j_w (cM g kk (sI (sI (sI (sF (sF (sF σ 16 (σ.2.1 16)) 17 (σ.2.1 17)) 18 (σ.2.1 18)) 47 (σ.1 47)) 48 (σ.1 48)) 49 (σ.1 49))) (congrArg (cM g kk) (wrIi (S := (sI (sI (sF (sF (sF σ 16 (σ.2.1 16)) 17 (σ.2.1 17)) 18 (σ.2.1 18)) 47 (σ.1 47)) 48 (σ.1 48))) (c := 49) (v := σ.1 49) (gtII (by decide) (gtII (by decide) (gtIF (gtIF (gtIF rfl))))))) ?_
          refine j_w (cM g kk (sI (sI (sI (sI (sF (sF (sF σ 16 (σ.2.1 16)) 17 (σ.2.1 17)) 18 (σ.2.1 18)) 47 (σ.1 47)) 48 (σ.1 48)) 49 (σ.1 49)) 50 (σ.1 50))) (congrArg (cM g kk) (wrIi (S := (sI (sI (sI (sF (sF (sF σ 16 (σ.2.1 16)) 17 (σ.2.1 17)) 18 (σ.2.1 18)) 47 (σ.1 47)) 48 (σ.1 48)) 49 (σ.1 49))) (c := 50) (v := σ.1 50) (gtII (by decide) (gtII (by decide) (gtII (by decide) (gtIF (gtIF (gtIF rfl)))))))) ?_
          exact j_iret C E (sI (sI (sI (sI (sF (sF (sF σ 16 (σ.2.1 16)) 17 (σ.2.1 17)) 18 (σ.2.1 18)) 47 (σ.1 47)) 48 (σ.1 48)) 49 (σ.1 49)) 50 (σ.1 50)) ⟨_, rfl, ⟨(σ.2.1 16), (σ.2.1 17), (σ.2.1 18), (σ.1 47), (σ.1 48), (σ.1 49), (σ.1 50), rfl, (flF_2 c1 (Or.inr (Or.inr c4)))⟩⟩ rfl dX11_flow_52
  · replace c1 := bI_f c1
    refine j_ldcw C tb_1205 dX11_flow_7 ?_
    refine j_w (cM g kk (sF σ 16 (σ.2.1 16))) (congrArg (cM g kk) (wrFi (S := σ) (c := 16) (v := σ.2.1 16) rfl)) ?_
    refine j_w (cM g kk (sF (sF σ 16 (σ.2.1 16)) 17 (σ.2.1 17))) (congrArg (cM g kk) (wrFi (S := (sF σ 16 (σ.2.1 16))) (c := 17) (v := σ.2.1 17) (gtFF (by decide) rfl))) ?_
    refine j_w (cM g kk (sF (sF (sF σ 16 (σ.2.1 16)) 17 (σ.2.1 17)) 18 (σ.2.1 18))) (congrArg (cM g kk) (wrFi (S := (sF (sF σ 16 (σ.2.1 16)) 17 (σ.2.1 17))) (c := 18) (v := σ.2.1 18) (gtFF (by decide) (gtFF (by decide) rfl)))) ?_
    refine j_w (cM g kk (sI (sF (sF (sF σ 16 (σ.2.1 16)) 17 (σ.2.1 17)) 18 (σ.2.1 18)) 47 (σ.1 47))) (congrArg (cM g kk) (wrIi (S := (sF (sF (sF σ 16 (σ.2.1 16)) 17 (σ.2.1 17)) 18 (σ.2.1 18))) (c := 47) (v := σ.1 47) (gtIF (gtIF (gtIF rfl))))) ?_
    refine j_w (cM g kk (sI (sI (sF (sF (sF σ 16 (σ.2.1 16)) 17 (σ.2.1 17)) 18 (σ.2.1 18)) 47 (σ.1 47)) 48 (σ.1 48))) (congrArg (cM g kk) (wrIi (S := (sI (sF (sF (sF σ 16 (σ.2.1 16)) 17 (σ.2.1 17)) 18 (σ.2.1 18)) 47 (σ.1 47))) (c := 48) (v := σ.1 48) (gtII (by decide) (gtIF (gtIF (gtIF rfl)))))) ?_
    refine j_w (cM g kk (sI (sI (sI (sF (sF (sF σ 16 (σ.2.1 16)) 17 (σ.2.1 17)) 18 (σ.2.1 18)) 47 (σ.1 47)) 48 (σ.1 48)) 49 (σ.1 49))) (congrArg (cM g kk) (wrIi (S := (sI (sI (sF (sF (sF σ 16 (σ.2.1 16)) 17 (σ.2.1 17)) 18 (σ.2.1 18)) 47 (σ.1 47)) 48 (σ.1 48))) (c := 49) (v := σ.1 49) (gtII (by decide) (gtII (by decide) (gtIF (gtIF (gtIF rfl))))))) ?_
    refine j_w (cM g kk (sI (sI (sI (sI (sF (sF (sF σ 16 (σ.2.1 16)) 17 (σ.2.1 17)) 18 (σ.2.1 18)) 47 (σ.1 47)) 48 (σ.1 48)) 49 (σ.1 49)) 50 (σ.1 50))) (congrArg (cM g kk) (wrIi (S := (sI (sI (sI (sF (sF (sF σ 16 (σ.2.1 16)) 17 (σ.2.1 17)) 18 (σ.2.1 18)) 47 (σ.1 47)) 48 (σ.1 48)) 49 (σ.1 49))) (c := 50) (v := σ.1 50) (gtII (by decide) (gtII (by decide) (gtII (by decide) (gtIF (gtIF (gtIF rfl)))))))) ?_
    exact j_iret C E (sI (sI (sI (sI (sF (sF (sF σ 16 (σ.2.1 16)) 17 (σ.2.1 17)) 18 (σ.2.1 18)) 47 (σ.1 47)) 48 (σ.1 48)) 49 (σ.1 49)) 50 (σ.1 50)) ⟨_, rfl, ⟨(σ.2.1 16), (σ.2.1 17), (σ.2.1 18), (σ.1 47), (σ.1 48), (σ.1 49), (σ.1 50), rfl, (flF_1 c1)⟩⟩ rfl dX11_flow_10
set_option maxRecDepth 100000 in
set_option maxHeartbeats 4000000 in
theorem o_fill (g kk : Nat → Nat) (σ : St) (k : Nat) (hk : σ.1 3 = nI k) (hk6 : k ≤ 6) (hI : iM σ) (nf : Nat) (hnf : σ.1 9 = nI nf) (hnfb : nf ≤ 20) (G : GD) (hM : HM G k nf σ) (ra : Nat) (hra : σ.1 46 = nI ra) (hrab : ra ≤ 6) (Q : RQ) (hQ : HN Q ra σ) (x : Int32) (y : Int32) (z : Int32) : jM (S := St) yX11_fill cX11_fill 4 (some .int) { frames := 6, cells := 0, slots := 0, locals := 141 } kk (cM g kk σ) [.ref (g 0), .int x, .int y, .int z] (cM g kk) (rI (fun (r : Int32) (u : St) => ∃ (pF16 : Nat → Int32) (pF17 : Nat → Int32) (pF18 : Nat → Int32) (pI47 : Int32) (pI48 : Int32), u = sI (sI (sF (sF (sF σ 16 pF16) 17 pF17) 18 pF18) 47 pI47) 48 pI48 ∧ (r = fiF (vaV G k) (zX G) (zY G) (fun d x y => bdR G k Q d x y ra) k x y z))) := by
  refine j_entry [(0, .ref (g 0)), (1, .int x), (2, .int y), (3, .int z)] (by decide) (Nat.le_of_ble_eq_true rfl) rfl ?_
  intro X C E HI
  refine j_aload_n C 0 rfl dX11_fill_0 ?_
  refine j_iload_n C 1 rfl dX11_fill_1 ?_
  refine j_V1 C (m_isCan g kk σ k hk hk6 x) kyX11_isCan tb_1067 tb_1069 sp_21 0 rfl (eM_0 g kk _) rfl (Nat.le_of_ble_eq_true rfl) ⟨by decide, by decide⟩ dX11_fill_2 rfl (fun vr ur hp => ?_)
  obtain ⟨r, rfl, rfl, hu⟩ := hp
  replace hu := hu.symm
  subst hu
  refine j_if_eq C 15 (by decide) dX11_fill_5 (fun c1 => ?_) (fun c1 => ?_)
  · replace c1 := bI_f c1
    refine j_iconst C ((-1)) (by decide) dX11_fill_15 ?_
    refine j_w (cM g kk (sF σ 16 (σ.2.1 16))) (congrArg (cM g kk) (wrFi (S := σ) (c := 16) (v := σ.2.1 16) rfl)) ?_
    refine j_w (cM g kk (sF (sF σ 16 (σ.2.1 16)) 17 (σ.2.1 17))) (congrArg (cM g kk) (wrFi (S := (sF σ 16 (σ.2.1 16))) (c := 17) (v := σ.2.1 17) (gtFF (by decide) rfl))) ?_
    refine j_w (cM g kk (sF (sF (sF σ 16 (σ.2.1 16)) 17 (σ.2.1 17)) 18 (σ.2.1 18))) (congrArg (cM g kk) (wrFi (S := (sF (sF σ 16 (σ.2.1 16)) 17 (σ.2.1 17))) (c := 18) (v := σ.2.1 18) (gtFF (by decide) (gtFF (by decide) rfl)))) ?_
    refine j_w (cM g kk (sI (sF (sF (sF σ 16 (σ.2.1 16)) 17 (σ.2.1 17)) 18 (σ.2.1 18)) 47 (σ.1 47))) (congrArg (cM g kk) (wrIi (S := (sF (sF (sF σ 16 (σ.2.1 16)) 17 (σ.2.1 17)) 18 (σ.2.1 18))) (c := 47) (v := σ.1 47) (gtIF (gtIF (gtIF rfl))))) ?_
    refine j_w (cM g kk (sI (sI (sF (sF (sF σ 16 (σ.2.1 16)) 17 (σ.2.1 17)) 18 (σ.2.1 18)) 47 (σ.1 47)) 48 (σ.1 48))) (congrArg (cM g kk) (wrIi (S := (sI (sF (sF (sF σ 16 (σ.2.1 16)) 17 (σ.2.1 17)) 18 (σ.2.1 18)) 47 (σ.1 47))) (c := 48) (v := σ.1 48) (gtII (by decide) (gtIF (gtIF (gtIF rfl)))))) ?_
    exact j_iret C E (sI (sI (sF (sF (sF σ 16 (σ.2.1 16)) 17 (σ.2.1 17)) 18 (σ.2.1 18)) 47 (σ.1 47)) 48 (σ.1 48)) ⟨_, rfl, ⟨(σ.2.1 16), (σ.2.1 17), (σ.2.1 18), (σ.1 47), (σ.1 48), rfl, (fiF_1 (Or.inl c1))⟩⟩ rfl dX11_fill_16
  · replace c1 := bI_t c1
    obtain ⟨xn, xn1, rfl⟩ := cB_nat (by omega) c1
    refine j_iload_n C 2 rfl dX11_fill_8 ?_
    refine j_S01 C (m_isDay y) kyX11_isDay tb_1077 tb_1078 rfl (Nat.le_of_ble_eq_true rfl) ⟨by decide, by decide⟩ ⟨by decide, by decide⟩ dX11_fill_9 rfl ?_
    refine j_if_ne C 17 (by decide) dX11_fill_12 (fun c2 => ?_) (fun c2 => ?_)
    · replace c2 := bI_t c2
      obtain ⟨yn, yn1, yn2, rfl⟩ := wB_nat (by decide) (by decide) c2
      refine j_iload_n C 3 rfl dX11_fill_17 ?_
      refine j_i2l C dX11_fill_18 ?_
      refine j_lconst C 0 (by decide) dX11_fill_19 ?_
      refine j_lconst C 1 (by decide) dX11_fill_20 ?_
      refine j_S01 C (m_inB z (nI 0) (nI 1) 0 1 (by decide) (by decide)) kyX11_in tb_1057 tb_1058 rfl (Nat.le_of_ble_eq_true rfl) ⟨by decide, by decide⟩ ⟨by decide, by decide⟩ dX11_fill_21 rfl ?_
      refine j_if_ne C 30 (by decide) dX11_fill_24 (fun c3 => ?_) (fun c3 => ?_)
      · replace c3 := bI_t c3
        obtain ⟨zn, zn1, zn2, rfl⟩ := wB_nat (by decide) (by decide) c3
        refine j_aload_n C 0 rfl dX11_fill_30 ?_
        refine j_V1 C (o_findAll g kk σ k hk hk6 hI nf hnf (by omega) G hM ) kyX11_findAll tb_1131 tb_1133 sp_24 0 rfl (eM_0 g kk _) rfl (Nat.le_of_ble_eq_true rfl) ⟨by decide, by decide⟩ dX11_fill_31 rfl (fun vr ur hp => ?_)
        obtain ⟨rfl, w4, w5, w6, hu, g7⟩ := hp
        replace hu := hu.symm
        subst hu
        refine j_aload_n C 0 rfl dX11_fill_34 ?_
        refine gM_0_24 C tb_897 dX11_fill_35 ?_
        refine j_iload_n C 1 rfl dX11_fill_38 ?_
        refine j_iload_n C 2 rfl dX11_fill_39 ?_
        refine j_S01 C (m_at xn yn) kyX11_at tb_1060 tb_1061 rfl (Nat.le_of_ble_eq_true rfl) ⟨by decide, by decide⟩ ⟨by decide, by decide⟩ dX11_fill_40 rfl ?_
        refine rM_18 C (28 * xn + yn) rfl (by omega) (tr (vaV G k xn yn)) (g7 xn yn (by omega) (by omega)).2.2 dX11_fill_43 ?_
        rcases va_lm hM.W (show xn < k by omega) (show yn < 28 by omega) with ev9 | ⟨v9, hv9, ev9⟩
        · rw [ev9, tr_m]
          refine j_if_lt C 50 (by decide) dX11_fill_44 (fun c8 => ?_) (fun c8 => ?_)
          · have hxy9 := hM.W.XY (show xn < k by omega)
            refine j_aload_n C 0 rfl dX11_fill_50 ?_
            refine j_iload_n C 2 rfl dX11_fill_51 ?_
            refine j_aload_n C 0 rfl dX11_fill_52 ?_
            refine gM_0_0 C tb_873 dX11_fill_53 ?_
            refine j_iload_n C 1 rfl dX11_fill_56 ?_
            refine rM_1 C xn rfl (by omega) (nI (zX G xn)) (hM.P (by omega)).1 dX11_fill_57 ?_
            refine j_aload_n C 0 rfl dX11_fill_58 ?_
            refine gM_0_1 C tb_874 dX11_fill_59 ?_
            refine j_iload_n C 1 rfl dX11_fill_62 ?_
            refine rM_2 C xn rfl (by omega) (nI (zY G xn)) (hM.P (by omega)).2 dX11_fill_63 ?_
            refine j_V1 C (o_findBound g kk (sF (sF (sF σ 16 w4) 17 w5) 18 w6) k hk hk6 hI nf hnf (by omega) G hM ra hra (by omega) Q hQ g7 yn (by first | assumption | omega) (zX G xn) (by first | assumption | omega) (zY G xn) (by first | assumption | omega)) kyX11_findBound tb_1237 tb_1239 sp_39 0 rfl (eM_0 g kk _) rfl (Nat.le_of_ble_eq_true rfl) ⟨by decide, by decide⟩ dX11_fill_64 rfl (fun vr ur hp => ?_)
            obtain ⟨r13, rfl, w9, w10, hu, g11, g12⟩ := hp
            replace hu := hu.symm
            subst hu
            have er13 := g12
            subst er13
            refine j_if_ne C 73 (by decide) dX11_fill_67 (fun c14 => ?_) (fun c14 => ?_)
            · replace c14 := bI_t c14
              have hle := of_decide_eq_true c14
              have hb9 := g11.2
              refine j_iload_n C 3 rfl dX11_fill_73 ?_
              refine j_if_neN C 91 (by decide) (by omega) dX11_fill_74 (fun c15 => ?_) (fun c15 => ?_)
              · refine j_aload_n C 0 rfl dX11_fill_91 ?_
                refine gM_0_48 C tb_921 (nI w10) rfl dX11_fill_92 ?_
                refine j_aload_n C 0 rfl dX11_fill_95 ?_
                refine gM_0_47 C tb_920 (nI w9) rfl dX11_fill_96 ?_
                refine j_isubN C (by omega) dX11_fill_99 ?_
                refine j_iconst C (nI 2) (by decide) dX11_fill_100 ?_
                refine j_idivN C (by omega) (by omega) (by omega) dX11_fill_101 ?_
                refine j_iconst C (nI 1) (by decide) dX11_fill_102 ?_
                refine j_iaddN C dX11_fill_103 ?_
                exact j_iret C E (sI (sI (sF (sF (sF σ 16 w4) 17 w5) 18 w6) 47 (nI w9)) 48 (nI w10)) ⟨_, rfl, ⟨w4, w5, w6, (nI w9), (nI w10), rfl, (fiF_x c1 c2 c3 (by omega) (by omega) (by omega) ev9 g11.1 (by rw [if_neg (fun q => q (of_decide_eq_true c14))]; first | rw [if_pos (by omega)] | rw [if_neg (by omega)]))⟩⟩ rfl dX11_fill_104
              · refine j_aload_n C 0 rfl dX11_fill_77 ?_
                refine gM_0_47 C tb_920 (nI w9) rfl dX11_fill_78 ?_
                refine j_aload_n C 0 rfl dX11_fill_81 ?_
                refine gM_0_48 C tb_921 (nI w10) rfl dX11_fill_82 ?_
                refine j_iaddN C dX11_fill_85 ?_
                refine j_iconst C (nI 2) (by decide) dX11_fill_86 ?_
                refine j_idivN C (by omega) (by omega) (by omega) dX11_fill_87 ?_
                refine j_goto C 104 (by decide) dX11_fill_88 ?_
                exact j_iret C E (sI (sI (sF (sF (sF σ 16 w4) 17 w5) 18 w6) 47 (nI w9)) 48 (nI w10)) ⟨_, rfl, ⟨w4, w5, w6, (nI w9), (nI w10), rfl, (fiF_x c1 c2 c3 (by omega) (by omega) (by omega) ev9 g11.1 (by rw [if_neg (fun q => q (of_decide_eq_true c14))]; first | rw [if_pos (by omega)] | rw [if_neg (by omega)]))⟩⟩ rfl dX11_fill_104
            · replace c14 := bI_f c14
              refine j_bipush C ((-5)) (by decide) dX11_fill_70 ?_
              exact j_iret C E (sI (sI (sF (sF (sF σ 16 w4) 17 w5) 18 w6) 47 (nI w9)) 48 (nI w10)) ⟨_, rfl, ⟨w4, w5, w6, (nI w9), (nI w10), rfl, (fiF_x c1 c2 c3 (by omega) (by omega) (by omega) ev9 g11.1 (by rw [if_pos (of_decide_eq_false c14)]))⟩⟩ rfl dX11_fill_72
          · exact absurd c8 (by decide)
        · rw [ev9, tr_n (by omega)]
          refine j_if_ltN C 50 (by decide) (by omega) dX11_fill_44 (fun c16 => ?_) (fun c16 => ?_)
          · exact absurd c16 (Nat.not_lt_zero _)
          · refine j_bipush C ((-3)) (by decide) dX11_fill_47 ?_
            refine j_w (cM g kk (sI (sF (sF (sF σ 16 w4) 17 w5) 18 w6) 47 (σ.1 47))) (congrArg (cM g kk) (wrIi (S := (sF (sF (sF σ 16 w4) 17 w5) 18 w6)) (c := 47) (v := σ.1 47) (gtIF (gtIF (gtIF rfl))))) ?_
            refine j_w (cM g kk (sI (sI (sF (sF (sF σ 16 w4) 17 w5) 18 w6) 47 (σ.1 47)) 48 (σ.1 48))) (congrArg (cM g kk) (wrIi (S := (sI (sF (sF (sF σ 16 w4) 17 w5) 18 w6) 47 (σ.1 47))) (c := 48) (v := σ.1 48) (gtII (by decide) (gtIF (gtIF (gtIF rfl)))))) ?_
            exact j_iret C E (sI (sI (sF (sF (sF σ 16 w4) 17 w5) 18 w6) 47 (σ.1 47)) 48 (σ.1 48)) ⟨_, rfl, ⟨w4, w5, w6, (σ.1 47), (σ.1 48), rfl, (fiF_3 c1 c2 c3 (by omega) (by omega) (fun q => nI_nm1 (show v9 < 2 ^ 31 by omega) (ev9.symm.trans q)))⟩⟩ rfl dX11_fill_49
      · replace c3 := bI_f c3
        refine j_bipush C ((-2)) (by decide) dX11_fill_27 ?_
        refine j_w (cM g kk (sF σ 16 (σ.2.1 16))) (congrArg (cM g kk) (wrFi (S := σ) (c := 16) (v := σ.2.1 16) rfl)) ?_
        refine j_w (cM g kk (sF (sF σ 16 (σ.2.1 16)) 17 (σ.2.1 17))) (congrArg (cM g kk) (wrFi (S := (sF σ 16 (σ.2.1 16))) (c := 17) (v := σ.2.1 17) (gtFF (by decide) rfl))) ?_
        refine j_w (cM g kk (sF (sF (sF σ 16 (σ.2.1 16)) 17 (σ.2.1 17)) 18 (σ.2.1 18))) (congrArg (cM g kk) (wrFi (S := (sF (sF σ 16 (σ.2.1 16)) 17 (σ.2.1 17))) (c := 18) (v := σ.2.1 18) (gtFF (by decide) (gtFF (by decide) rfl)))) ?_
        refine j_w (cM g kk (sI (sF (sF (sF σ 16 (σ.2.1 16)) 17 (σ.2.1 17)) 18 (σ.2.1 18)) 47 (σ.1 47))) (congrArg (cM g kk) (wrIi (S := (sF (sF (sF σ 16 (σ.2.1 16)) 17 (σ.2.1 17)) 18 (σ.2.1 18))) (c := 47) (v := σ.1 47) (gtIF (gtIF (gtIF rfl))))) ?_
        refine j_w (cM g kk (sI (sI (sF (sF (sF σ 16 (σ.2.1 16)) 17 (σ.2.1 17)) 18 (σ.2.1 18)) 47 (σ.1 47)) 48 (σ.1 48))) (congrArg (cM g kk) (wrIi (S := (sI (sF (sF (sF σ 16 (σ.2.1 16)) 17 (σ.2.1 17)) 18 (σ.2.1 18)) 47 (σ.1 47))) (c := 48) (v := σ.1 48) (gtII (by decide) (gtIF (gtIF (gtIF rfl)))))) ?_
        exact j_iret C E (sI (sI (sF (sF (sF σ 16 (σ.2.1 16)) 17 (σ.2.1 17)) 18 (σ.2.1 18)) 47 (σ.1 47)) 48 (σ.1 48)) ⟨_, rfl, ⟨(σ.2.1 16), (σ.2.1 17), (σ.2.1 18), (σ.1 47), (σ.1 48), rfl, (fiF_2 c1 c2 c3)⟩⟩ rfl dX11_fill_29
    · replace c2 := bI_f c2
      refine j_iconst C ((-1)) (by decide) dX11_fill_15 ?_
      refine j_w (cM g kk (sF σ 16 (σ.2.1 16))) (congrArg (cM g kk) (wrFi (S := σ) (c := 16) (v := σ.2.1 16) rfl)) ?_
      refine j_w (cM g kk (sF (sF σ 16 (σ.2.1 16)) 17 (σ.2.1 17))) (congrArg (cM g kk) (wrFi (S := (sF σ 16 (σ.2.1 16))) (c := 17) (v := σ.2.1 17) (gtFF (by decide) rfl))) ?_
      refine j_w (cM g kk (sF (sF (sF σ 16 (σ.2.1 16)) 17 (σ.2.1 17)) 18 (σ.2.1 18))) (congrArg (cM g kk) (wrFi (S := (sF (sF σ 16 (σ.2.1 16)) 17 (σ.2.1 17))) (c := 18) (v := σ.2.1 18) (gtFF (by decide) (gtFF (by decide) rfl)))) ?_
      refine j_w (cM g kk (sI (sF (sF (sF σ 16 (σ.2.1 16)) 17 (σ.2.1 17)) 18 (σ.2.1 18)) 47 (σ.1 47))) (congrArg (cM g kk) (wrIi (S := (sF (sF (sF σ 16 (σ.2.1 16)) 17 (σ.2.1 17)) 18 (σ.2.1 18))) (c := 47) (v := σ.1 47) (gtIF (gtIF (gtIF rfl))))) ?_
      refine j_w (cM g kk (sI (sI (sF (sF (sF σ 16 (σ.2.1 16)) 17 (σ.2.1 17)) 18 (σ.2.1 18)) 47 (σ.1 47)) 48 (σ.1 48))) (congrArg (cM g kk) (wrIi (S := (sI (sF (sF (sF σ 16 (σ.2.1 16)) 17 (σ.2.1 17)) 18 (σ.2.1 18)) 47 (σ.1 47))) (c := 48) (v := σ.1 48) (gtII (by decide) (gtIF (gtIF (gtIF rfl)))))) ?_
      exact j_iret C E (sI (sI (sF (sF (sF σ 16 (σ.2.1 16)) 17 (σ.2.1 17)) 18 (σ.2.1 18)) 47 (σ.1 47)) 48 (σ.1 48)) ⟨_, rfl, ⟨(σ.2.1 16), (σ.2.1 17), (σ.2.1 18), (σ.1 47), (σ.1 48), rfl, (fiF_1 (Or.inr c2))⟩⟩ rfl dX11_fill_16
