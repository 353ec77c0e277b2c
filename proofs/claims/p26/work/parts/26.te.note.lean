set_option maxRecDepth 100000 in
set_option maxHeartbeats 4000000 in
theorem e_readItems (g kk : Nat → Nat) (σ : St) (k : Nat) (hk : σ.1 16 = nI k) (hk6 : k ≤ 6) (hI : iX σ) (hS : al_ 28 27 (σ.2.1 25)) (n : Nat) (hn : σ.1 352 = nI n) (hnb : 1 ≤ n ∧ n ≤ 40) (hft : ftR (σ.2.1 23) n 0 0 = -1)  : jM (S := St) yX5_readItems cX5_readItems 6 (some .boolean) { frames := 1, cells := 0, slots := 0, locals := 28 } kk (cX g kk σ) [.ref (g 22)] (cX g kk) (rI (fun (r : Int32) (u : St) => ∃ (pF24 : Nat → Int32) (pF25 : Nat → Int32) (pF26 : Nat → Int32) (pI353 : Int32), u = sI (sF (sF (sF σ 24 pF24) 25 pF25) 26 pF26) 353 pI353 ∧ ((r = nI 1 ∧ ∃ q : Nat, pI353 = nI q ∧ (rdI (σ.2.1 23) n 0 0 (nI 0) 0 0 (fillF (σ.2.1 24) (nI 0) 28, σ.2.1 25, σ.2.1 26, 0)) = some (pF24, pF25, pF26, q)) ∨ (r = nI 0 ∧ (rdI (σ.2.1 23) n 0 0 (nI 0) 0 0 (fillF (σ.2.1 24) (nI 0) 28, σ.2.1 25, σ.2.1 26, 0)) = none)) ∧ (al_ 28 27 pF25))) := by
  refine j_entry [(0, .ref (g 22))] (by decide) (Nat.le_of_ble_eq_true rfl) rfl ?_
  intro X C E HI
  refine j_aload_n C 0 rfl dX5_readItems_0 ?_
  refine gX_22_3 C tb_173 dX5_readItems_1 ?_
  refine j_iconst C (nI 0) (by decide) dX5_readItems_4 ?_
  refine fl_24 C tb_549 (Nat.le_of_ble_eq_true rfl) ⟨by decide, by decide⟩ ⟨by decide, by decide⟩ dX5_readItems_5 ?_
  refine j_aload_n C 0 rfl dX5_readItems_8 ?_
  refine j_iconst C (nI 0) (by decide) dX5_readItems_9 ?_
  refine pX_22_1 C tb_170 dX5_readItems_10 ?_
  refine j_iconst C (nI 0) (by decide) dX5_readItems_13 ?_
  refine j_istore_n C [(1, .int (nI 0)), (0, .ref (g 22))] rfl (by decide) rfl dX5_readItems_14 ?_
  refine j_iconst C (nI 0) (by decide) dX5_readItems_15 ?_
  refine j_istore_n C [(2, .int (nI 0)), (1, .int (nI 0)), (0, .ref (g 22))] rfl (by decide) rfl dX5_readItems_16 ?_
  refine j_iconst C ((-1)) (by decide) dX5_readItems_17 ?_
  refine j_istore_n C [(3, .int (-1)), (2, .int (nI 0)), (1, .int (nI 0)), (0, .ref (g 22))] rfl (by decide) rfl dX5_readItems_18 ?_
  refine j_iconst C (nI 0) (by decide) dX5_readItems_19 ?_
  refine j_istore C [(4, .int (nI 0)), (3, .int (-1)), (2, .int (nI 0)), (1, .int (nI 0)), (0, .ref (g 22))] (by decide) rfl dX5_readItems_20 ?_
  have L22 : ∀ (n22 : Nat) (i : Nat) (y22_3 : Int32) (y22_2 : Int32) (y22_1 : Int32) (fN : Nat → Int32) (fF : Nat → Int32) (fL : Nat → Int32) (q : Nat) (i22_0 : i ≤ n) (he : IX (σ.2.1 23) n i (rdI (σ.2.1 23) n 0 0 (nI 0) 0 0 (fillF (σ.2.1 24) (nI 0) 28, σ.2.1 25, σ.2.1 26, 0)) y22_1 y22_2 y22_3 (fN, fF, fL, q)) (hs : al_ 28 27 fF) (hm22 : n - i < n22), J X 0 0 (cX g kk (sI (sF (sF (sF σ 24 fN) 25 fF) 26 fL) 353 (nI q))) [(4, .int (nI i)), (3, .int y22_3), (2, .int y22_2), (1, .int y22_1), (0, .ref (g 22))] 22 [] := by
    intro n22
    induction n22 with
    | zero => intro i y22_3 y22_2 y22_1 fN fF fL q i22_0 he hs hm; exact absurd hm (Nat.not_lt_zero _)
    | succ n22 ih22 =>
      intro i y22_3 y22_2 y22_1 fN fF fL q i22_0 he hs hm22
      refine j_iload C 0 rfl dX5_readItems_22 ?_
      refine j_aload_n C 4 rfl dX5_readItems_24 ?_
      refine gX_22_0 C tb_168 (nI n) hn dX5_readItems_25 ?_
      refine j_icmp_geN C 125 (by decide) (by omega) (by omega) dX5_readItems_28 (fun c1 => ?_) (fun c1 => ?_)
      · refine j_aload_n C 4 rfl dX5_readItems_125 ?_
        refine gX_22_0 C tb_168 (nI n) hn dX5_readItems_126 ?_
        refine j_if_eqN C 142 (by decide) (by omega) dX5_readItems_129 (fun c2 => ?_) (fun c2 => ?_)
        · exact absurd c2 (by omega)
        · refine j_aload_n C 4 rfl dX5_readItems_132 ?_
          refine j_iload_n C 3 rfl dX5_readItems_133 ?_
          refine j_iload_n C 2 rfl dX5_readItems_134 ?_
          refine j_iload_n C 1 rfl dX5_readItems_135 ?_
          obtain ⟨b9, hb9, e1, e2, e3⟩ := IX_q he (by omega) (Or.inr (by omega))
          subst e1
          rcases e3 with rfl | rfl | rfl
          · rcases e2 with rfl | ⟨e9, he9, rfl⟩
            · refine j_V1 C (e_tk120_1 g kk (sI (sF (sF (sF σ 24 fN) 25 fF) 26 fL) 353 (nI q)) k hk hk6 hI hs b9 (by first | assumption | omega)) kyX5_takeItem tb_550 tb_552 sp_1 22 rfl (eX_22 g kk _) rfl (Nat.le_of_ble_eq_true rfl) ⟨by decide, by decide⟩ dX5_readItems_136 rfl (fun vr ur hp => ?_)
              obtain ⟨r9, rfl, w3, w4, w5, w6, hu, g7, g8⟩ := hp
              replace hu := hu.symm
              subst hu
              rcases g7 with ⟨hok, hr, h24, h25, h26, h353⟩ | ⟨hno, hr⟩
              · subst hr
                have hq : w6 = nI (q + 1) := h353.trans (nI_add q 1)
                subst hq
                refine j_if_eqN C 146 (by decide) (by omega) dX5_readItems_139 (fun c10 => ?_) (fun c10 => ?_)
                · exact absurd c10 (by decide)
                · refine j_iconst C (nI 1) (by decide) dX5_readItems_142 ?_
                  refine j_goto C 147 (by decide) dX5_readItems_143 ?_
                  refine j_w (cX g kk (sI (sF (sF (sF σ 24 w3) 25 w4) 26 w5) 353 (nI (q + 1)))) (congrArg (cX g kk) (show sI (sF (sF (sF (sI (sF (sF (sF σ 24 fN) 25 fF) 26 fL) 353 (nI q)) 24 w3) 25 w4) 26 w5) 353 (nI (q + 1)) = sI (sF (sF (sF σ 24 w3) 25 w4) 26 w5) 353 (nI (q + 1)) from (Eq.trans (wrI (Eq.trans (wrF (Eq.trans (wrF (Eq.trans wrFI (wrI (Eq.trans (wrFc (by decide)) (wrF (Eq.trans (wrFc (by decide)) (wrF wrFs))))))) (Eq.trans wrFI (wrI (Eq.trans (wrFc (by decide)) (wrF wrFs)))))) (Eq.trans wrFI (wrI wrFs)))) wrIs))) ?_
                  exact j_zret C E (by first | rfl | decide) (sI (sF (sF (sF σ 24 w3) 25 w4) 26 w5) 353 (nI (q + 1))) ⟨_, rfl, ⟨w3, w4, w5, (nI (q + 1)), rfl, (Or.inl ⟨rfl, _, rfl, (IX_e (e := 0) he (by omega) (by omega) (by omega) rfl (Or.inl ⟨rfl, rfl⟩)).trans ((lyI_y (iO120_1.mpr hok)).trans (congrArg some (iS120_1 (z := (fN, fF, fL, q)) h24 h25 h26 rfl)))⟩), g8⟩⟩ rfl dX5_readItems_147
              · subst hr
                refine j_if_eqN C 146 (by decide) (by omega) dX5_readItems_139 (fun c11 => ?_) (fun c11 => ?_)
                · refine j_iconst C (nI 0) (by decide) dX5_readItems_146 ?_
                  refine j_w (cX g kk (sI (sF (sF (sF σ 24 w3) 25 w4) 26 w5) 353 w6)) (congrArg (cX g kk) (show sI (sF (sF (sF (sI (sF (sF (sF σ 24 fN) 25 fF) 26 fL) 353 (nI q)) 24 w3) 25 w4) 26 w5) 353 w6 = sI (sF (sF (sF σ 24 w3) 25 w4) 26 w5) 353 w6 from (Eq.trans (wrI (Eq.trans (wrF (Eq.trans (wrF (Eq.trans wrFI (wrI (Eq.trans (wrFc (by decide)) (wrF (Eq.trans (wrFc (by decide)) (wrF wrFs))))))) (Eq.trans wrFI (wrI (Eq.trans (wrFc (by decide)) (wrF wrFs)))))) (Eq.trans wrFI (wrI wrFs)))) wrIs))) ?_
                  exact j_zret C E (by first | rfl | decide) (sI (sF (sF (sF σ 24 w3) 25 w4) 26 w5) 353 w6) ⟨_, rfl, ⟨w3, w4, w5, w6, rfl, (Or.inr ⟨rfl, (IX_e (e := 0) he (by omega) (by omega) (by omega) rfl (Or.inl ⟨rfl, rfl⟩)).trans (lyI_n (fun w => hno (iO120_1.mp w)))⟩), g8⟩⟩ rfl dX5_readItems_147
                · exact absurd c11 (by decide)
            · refine j_V1 C (e_tk120_2 g kk (sI (sF (sF (sF σ 24 fN) 25 fF) 26 fL) 353 (nI q)) k hk hk6 hI hs b9 (by first | assumption | omega) e9 (by first | assumption | omega)) kyX5_takeItem tb_550 tb_552 sp_1 22 rfl (eX_22 g kk _) rfl (Nat.le_of_ble_eq_true rfl) ⟨by decide, by decide⟩ dX5_readItems_136 rfl (fun vr ur hp => ?_)
              obtain ⟨r18, rfl, w12, w13, w14, w15, hu, g16, g17⟩ := hp
              replace hu := hu.symm
              subst hu
              rcases g16 with ⟨hok, hr, h24, h25, h26, h353⟩ | ⟨hno, hr⟩
              · subst hr
                have hq : w15 = nI (q + 1) := h353.trans (nI_add q 1)
                subst hq
                refine j_if_eqN C 146 (by decide) (by omega) dX5_readItems_139 (fun c19 => ?_) (fun c19 => ?_)
                · exact absurd c19 (by decide)
                · refine j_iconst C (nI 1) (by decide) dX5_readItems_142 ?_
                  refine j_goto C 147 (by decide) dX5_readItems_143 ?_
                  refine j_w (cX g kk (sI (sF (sF (sF σ 24 w12) 25 w13) 26 w14) 353 (nI (q + 1)))) (congrArg (cX g kk) (show sI (sF (sF (sF (sI (sF (sF (sF σ 24 fN) 25 fF) 26 fL) 353 (nI q)) 24 w12) 25 w13) 26 w14) 353 (nI (q + 1)) = sI (sF (sF (sF σ 24 w12) 25 w13) 26 w14) 353 (nI (q + 1)) from (Eq.trans (wrI (Eq.trans (wrF (Eq.trans (wrF (Eq.trans wrFI (wrI (Eq.trans (wrFc (by decide)) (wrF (Eq.trans (wrFc (by decide)) (wrF wrFs))))))) (Eq.trans wrFI (wrI (Eq.trans (wrFc (by decide)) (wrF wrFs)))))) (Eq.trans wrFI (wrI wrFs)))) wrIs))) ?_
                  exact j_zret C E (by first | rfl | decide) (sI (sF (sF (sF σ 24 w12) 25 w13) 26 w14) 353 (nI (q + 1))) ⟨_, rfl, ⟨w12, w13, w14, (nI (q + 1)), rfl, (Or.inl ⟨rfl, _, rfl, (IX_e he (by omega) (by omega) (by omega) rfl (Or.inr ⟨rfl, by omega, rfl⟩)).trans ((lyI_y (iO120_2.mpr hok)).trans (congrArg some (iS120_2 (z := (fN, fF, fL, q)) h24 h25 h26 rfl)))⟩), g17⟩⟩ rfl dX5_readItems_147
              · subst hr
                refine j_if_eqN C 146 (by decide) (by omega) dX5_readItems_139 (fun c20 => ?_) (fun c20 => ?_)
                · refine j_iconst C (nI 0) (by decide) dX5_readItems_146 ?_
                  refine j_w (cX g kk (sI (sF (sF (sF σ 24 w12) 25 w13) 26 w14) 353 w15)) (congrArg (cX g kk) (show sI (sF (sF (sF (sI (sF (sF (sF σ 24 fN) 25 fF) 26 fL) 353 (nI q)) 24 w12) 25 w13) 26 w14) 353 w15 = sI (sF (sF (sF σ 24 w12) 25 w13) 26 w14) 353 w15 from (Eq.trans (wrI (Eq.trans (wrF (Eq.trans (wrF (Eq.trans wrFI (wrI (Eq.trans (wrFc (by decide)) (wrF (Eq.trans (wrFc (by decide)) (wrF wrFs))))))) (Eq.trans wrFI (wrI (Eq.trans (wrFc (by decide)) (wrF wrFs)))))) (Eq.trans wrFI (wrI wrFs)))) wrIs))) ?_
                  exact j_zret C E (by first | rfl | decide) (sI (sF (sF (sF σ 24 w12) 25 w13) 26 w14) 353 w15) ⟨_, rfl, ⟨w12, w13, w14, w15, rfl, (Or.inr ⟨rfl, (IX_e he (by omega) (by omega) (by omega) rfl (Or.inr ⟨rfl, by omega, rfl⟩)).trans (lyI_n (fun w => hno (iO120_2.mp w)))⟩), g17⟩⟩ rfl dX5_readItems_147
                · exact absurd c20 (by decide)
          · rcases e2 with rfl | ⟨e9, he9, rfl⟩
            · refine j_V1 C (e_tk108_1 g kk (sI (sF (sF (sF σ 24 fN) 25 fF) 26 fL) 353 (nI q)) k hk hk6 hI hs b9 (by first | assumption | omega)) kyX5_takeItem tb_550 tb_552 sp_1 22 rfl (eX_22 g kk _) rfl (Nat.le_of_ble_eq_true rfl) ⟨by decide, by decide⟩ dX5_readItems_136 rfl (fun vr ur hp => ?_)
              obtain ⟨r27, rfl, w21, w22, w23, w24, hu, g25, g26⟩ := hp
              replace hu := hu.symm
              subst hu
              rcases g25 with ⟨hok, hr, h24, h25, h26, h353⟩ | ⟨hno, hr⟩
              · subst hr
                have hq : w24 = nI (q + 1) := h353.trans (nI_add q 1)
                subst hq
                refine j_if_eqN C 146 (by decide) (by omega) dX5_readItems_139 (fun c28 => ?_) (fun c28 => ?_)
                · exact absurd c28 (by decide)
                · refine j_iconst C (nI 1) (by decide) dX5_readItems_142 ?_
                  refine j_goto C 147 (by decide) dX5_readItems_143 ?_
                  refine j_w (cX g kk (sI (sF (sF (sF σ 24 w21) 25 w22) 26 w23) 353 (nI (q + 1)))) (congrArg (cX g kk) (show sI (sF (sF (sF (sI (sF (sF (sF σ 24 fN) 25 fF) 26 fL) 353 (nI q)) 24 w21) 25 w22) 26 w23) 353 (nI (q + 1)) = sI (sF (sF (sF σ 24 w21) 25 w22) 26 w23) 353 (nI (q + 1)) from (Eq.trans (wrI (Eq.trans (wrF (Eq.trans (wrF (Eq.trans wrFI (wrI (Eq.trans (wrFc (by decide)) (wrF (Eq.trans (wrFc (by decide)) (wrF wrFs))))))) (Eq.trans wrFI (wrI (Eq.trans (wrFc (by decide)) (wrF wrFs)))))) (Eq.trans wrFI (wrI wrFs)))) wrIs))) ?_
                  exact j_zret C E (by first | rfl | decide) (sI (sF (sF (sF σ 24 w21) 25 w22) 26 w23) 353 (nI (q + 1))) ⟨_, rfl, ⟨w21, w22, w23, (nI (q + 1)), rfl, (Or.inl ⟨rfl, _, rfl, (IX_e (e := 0) he (by omega) (by omega) (by omega) rfl (Or.inl ⟨rfl, rfl⟩)).trans ((lyI_y (iO108_1.mpr hok)).trans (congrArg some (iS108_1 (z := (fN, fF, fL, q)) h24 h25 h26 rfl)))⟩), g26⟩⟩ rfl dX5_readItems_147
              · subst hr
                refine j_if_eqN C 146 (by decide) (by omega) dX5_readItems_139 (fun c29 => ?_) (fun c29 => ?_)
                · refine j_iconst C (nI 0) (by decide) dX5_readItems_146 ?_
                  refine j_w (cX g kk (sI (sF (sF (sF σ 24 w21) 25 w22) 26 w23) 353 w24)) (congrArg (cX g kk) (show sI (sF (sF (sF (sI (sF (sF (sF σ 24 fN) 25 fF) 26 fL) 353 (nI q)) 24 w21) 25 w22) 26 w23) 353 w24 = sI (sF (sF (sF σ 24 w21) 25 w22) 26 w23) 353 w24 from (Eq.trans (wrI (Eq.trans (wrF (Eq.trans (wrF (Eq.trans wrFI (wrI (Eq.trans (wrFc (by decide)) (wrF (Eq.trans (wrFc (by decide)) (wrF wrFs))))))) (Eq.trans wrFI (wrI (Eq.trans (wrFc (by decide)) (wrF wrFs)))))) (Eq.trans wrFI (wrI wrFs)))) wrIs))) ?_
                  exact j_zret C E (by first | rfl | decide) (sI (sF (sF (sF σ 24 w21) 25 w22) 26 w23) 353 w24) ⟨_, rfl, ⟨w21, w22, w23, w24, rfl, (Or.inr ⟨rfl, (IX_e (e := 0) he (by omega) (by omega) (by omega) rfl (Or.inl ⟨rfl, rfl⟩)).trans (lyI_n (fun w => hno (iO108_1.mp w)))⟩), g26⟩⟩ rfl dX5_readItems_147
                · exact absurd c29 (by decide)
            · refine j_V1 C (e_tk108_2 g kk (sI (sF (sF (sF σ 24 fN) 25 fF) 26 fL) 353 (nI q)) k hk hk6 hI hs b9 (by first | assumption | omega) e9 (by first | assumption | omega)) kyX5_takeItem tb_550 tb_552 sp_1 22 rfl (eX_22 g kk _) rfl (Nat.le_of_ble_eq_true rfl) ⟨by decide, by decide⟩ dX5_readItems_136 rfl (fun vr ur hp => ?_)
              obtain ⟨r36, rfl, w30, w31, w32, w33, hu, g34, g35⟩ := hp
              replace hu := hu.symm
              subst hu
              rcases g34 with ⟨hok, hr, h24, h25, h26, h353⟩ | ⟨hno, hr⟩
              · subst hr
                have hq : w33 = nI (q + 1) := h353.trans (nI_add q 1)
                subst hq
                refine j_if_eqN C 146 (by decide) (by omega) dX5_readItems_139 (fun c37 => ?_) (fun c37 => ?_)
                · exact absurd c37 (by decide)
                · refine j_iconst C (nI 1) (by decide) dX5_readItems_142 ?_
                  refine j_goto C 147 (by decide) dX5_readItems_143 ?_
                  refine j_w (cX g kk (sI (sF (sF (sF σ 24 w30) 25 w31) 26 w32) 353 (nI (q + 1)))) (congrArg (cX g kk) (show sI (sF (sF (sF (sI (sF (sF (sF σ 24 fN) 25 fF) 26 fL) 353 (nI q)) 24 w30) 25 w31) 26 w32) 353 (nI (q + 1)) = sI (sF (sF (sF σ 24 w30) 25 w31) 26 w32) 353 (nI (q + 1)) from (Eq.trans (wrI (Eq.trans (wrF (Eq.trans (wrF (Eq.trans wrFI (wrI (Eq.trans (wrFc (by decide)) (wrF (Eq.trans (wrFc (by decide)) (wrF wrFs))))))) (Eq.trans wrFI (wrI (Eq.trans (wrFc (by decide)) (wrF wrFs)))))) (Eq.trans wrFI (wrI wrFs)))) wrIs))) ?_
                  exact j_zret C E (by first | rfl | decide) (sI (sF (sF (sF σ 24 w30) 25 w31) 26 w32) 353 (nI (q + 1))) ⟨_, rfl, ⟨w30, w31, w32, (nI (q + 1)), rfl, (Or.inl ⟨rfl, _, rfl, (IX_e he (by omega) (by omega) (by omega) rfl (Or.inr ⟨rfl, by omega, rfl⟩)).trans ((lyI_y (iO108_2.mpr hok)).trans (congrArg some (iS108_2 (z := (fN, fF, fL, q)) h24 h25 h26 rfl)))⟩), g35⟩⟩ rfl dX5_readItems_147
              · subst hr
                refine j_if_eqN C 146 (by decide) (by omega) dX5_readItems_139 (fun c38 => ?_) (fun c38 => ?_)
                · refine j_iconst C (nI 0) (by decide) dX5_readItems_146 ?_
                  refine j_w (cX g kk (sI (sF (sF (sF σ 24 w30) 25 w31) 26 w32) 353 w33)) (congrArg (cX g kk) (show sI (sF (sF (sF (sI (sF (sF (sF σ 24 fN) 25 fF) 26 fL) 353 (nI q)) 24 w30) 25 w31) 26 w32) 353 w33 = sI (sF (sF (sF σ 24 w30) 25 w31) 26 w32) 353 w33 from (Eq.trans (wrI (Eq.trans (wrF (Eq.trans (wrF (Eq.trans wrFI (wrI (Eq.trans (wrFc (by decide)) (wrF (Eq.trans (wrFc (by decide)) (wrF wrFs))))))) (Eq.trans wrFI (wrI (Eq.trans (wrFc (by decide)) (wrF wrFs)))))) (Eq.trans wrFI (wrI wrFs)))) wrIs))) ?_
                  exact j_zret C E (by first | rfl | decide) (sI (sF (sF (sF σ 24 w30) 25 w31) 26 w32) 353 w33) ⟨_, rfl, ⟨w30, w31, w32, w33, rfl, (Or.inr ⟨rfl, (IX_e he (by omega) (by omega) (by omega) rfl (Or.inr ⟨rfl, by omega, rfl⟩)).trans (lyI_n (fun w => hno (iO108_2.mp w)))⟩), g35⟩⟩ rfl dX5_readItems_147
                · exact absurd c38 (by decide)
          · rcases e2 with rfl | ⟨e9, he9, rfl⟩
            · rcases Nat.eq_zero_or_pos b9 with rfl | hb1
              · refine j_V1 C (e_tk115_z g kk (sI (sF (sF (sF σ 24 fN) 25 fF) 26 fL) 353 (nI q)) k hk hk6 hI hs ) kyX5_takeItem tb_550 tb_552 sp_1 22 rfl (eX_22 g kk _) rfl (Nat.le_of_ble_eq_true rfl) ⟨by decide, by decide⟩ dX5_readItems_136 rfl (fun vr ur hp => ?_)
                obtain ⟨r40, rfl, hu, g39⟩ := hp
                replace hu := hu.symm
                subst hu
                have hr := g39
                subst hr
                refine j_if_eqN C 146 (by decide) (by omega) dX5_readItems_139 (fun c41 => ?_) (fun c41 => ?_)
                · refine j_iconst C (nI 0) (by decide) dX5_readItems_146 ?_
                  exact j_zret C E (by first | rfl | decide) (sI (sF (sF (sF σ 24 fN) 25 fF) 26 fL) 353 (nI q)) ⟨_, rfl, ⟨fN, fF, fL, (nI q), rfl, (Or.inr ⟨rfl, (IX_e (e := 0) he (by omega) (by omega) (by omega) rfl (Or.inl ⟨rfl, rfl⟩)).trans (lyI_n iO0)⟩), hs⟩⟩ rfl dX5_readItems_147
                · exact absurd c41 (by decide)
              · refine j_V1 C (e_tk115_1 g kk (sI (sF (sF (sF σ 24 fN) 25 fF) 26 fL) 353 (nI q)) k hk hk6 hI hs b9 (by first | assumption | omega) (by first | assumption | omega)) kyX5_takeItem tb_550 tb_552 sp_1 22 rfl (eX_22 g kk _) rfl (Nat.le_of_ble_eq_true rfl) ⟨by decide, by decide⟩ dX5_readItems_136 rfl (fun vr ur hp => ?_)
                obtain ⟨r48, rfl, w42, w43, w44, w45, hu, g46, g47⟩ := hp
                replace hu := hu.symm
                subst hu
                rcases g46 with ⟨hok, hr, h24, h25, h26, h353⟩ | ⟨hno, hr⟩
                · subst hr
                  have hq : w45 = nI (q + 1) := h353.trans (nI_add q 1)
                  subst hq
                  refine j_if_eqN C 146 (by decide) (by omega) dX5_readItems_139 (fun c49 => ?_) (fun c49 => ?_)
                  · exact absurd c49 (by decide)
                  · refine j_iconst C (nI 1) (by decide) dX5_readItems_142 ?_
                    refine j_goto C 147 (by decide) dX5_readItems_143 ?_
                    refine j_w (cX g kk (sI (sF (sF (sF σ 24 w42) 25 w43) 26 w44) 353 (nI (q + 1)))) (congrArg (cX g kk) (show sI (sF (sF (sF (sI (sF (sF (sF σ 24 fN) 25 fF) 26 fL) 353 (nI q)) 24 w42) 25 w43) 26 w44) 353 (nI (q + 1)) = sI (sF (sF (sF σ 24 w42) 25 w43) 26 w44) 353 (nI (q + 1)) from (Eq.trans (wrI (Eq.trans (wrF (Eq.trans (wrF (Eq.trans wrFI (wrI (Eq.trans (wrFc (by decide)) (wrF (Eq.trans (wrFc (by decide)) (wrF wrFs))))))) (Eq.trans wrFI (wrI (Eq.trans (wrFc (by decide)) (wrF wrFs)))))) (Eq.trans wrFI (wrI wrFs)))) wrIs))) ?_
                    exact j_zret C E (by first | rfl | decide) (sI (sF (sF (sF σ 24 w42) 25 w43) 26 w44) 353 (nI (q + 1))) ⟨_, rfl, ⟨w42, w43, w44, (nI (q + 1)), rfl, (Or.inl ⟨rfl, _, rfl, (IX_e (e := 0) he (by omega) (by omega) (by omega) rfl (Or.inl ⟨rfl, rfl⟩)).trans ((lyI_y ((iO115_1 hb1).mpr hok)).trans (congrArg some (iS115_1 (z := (fN, fF, fL, q)) h24 h25 h26 rfl)))⟩), g47⟩⟩ rfl dX5_readItems_147
                · subst hr
                  refine j_if_eqN C 146 (by decide) (by omega) dX5_readItems_139 (fun c50 => ?_) (fun c50 => ?_)
                  · refine j_iconst C (nI 0) (by decide) dX5_readItems_146 ?_
                    refine j_w (cX g kk (sI (sF (sF (sF σ 24 w42) 25 w43) 26 w44) 353 w45)) (congrArg (cX g kk) (show sI (sF (sF (sF (sI (sF (sF (sF σ 24 fN) 25 fF) 26 fL) 353 (nI q)) 24 w42) 25 w43) 26 w44) 353 w45 = sI (sF (sF (sF σ 24 w42) 25 w43) 26 w44) 353 w45 from (Eq.trans (wrI (Eq.trans (wrF (Eq.trans (wrF (Eq.trans wrFI (wrI (Eq.trans (wrFc (by decide)) (wrF (Eq.trans (wrFc (by decide)) (wrF wrFs))))))) (Eq.trans wrFI (wrI (Eq.trans (wrFc (by decide)) (wrF wrFs)))))) (Eq.trans wrFI (wrI wrFs)))) wrIs))) ?_
                    exact j_zret C E (by first | rfl | decide) (sI (sF (sF (sF σ 24 w42) 25 w43) 26 w44) 353 w45) ⟨_, rfl, ⟨w42, w43, w44, w45, rfl, (Or.inr ⟨rfl, (IX_e (e := 0) he (by omega) (by omega) (by omega) rfl (Or.inl ⟨rfl, rfl⟩)).trans (lyI_n (fun w => hno ((iO115_1 hb1).mp w)))⟩), g47⟩⟩ rfl dX5_readItems_147
                  · exact absurd c50 (by decide)
            · refine j_V1 C (e_tk115_2 g kk (sI (sF (sF (sF σ 24 fN) 25 fF) 26 fL) 353 (nI q)) k hk hk6 hI hs b9 (by first | assumption | omega) e9 (by first | assumption | omega)) kyX5_takeItem tb_550 tb_552 sp_1 22 rfl (eX_22 g kk _) rfl (Nat.le_of_ble_eq_true rfl) ⟨by decide, by decide⟩ dX5_readItems_136 rfl (fun vr ur hp => ?_)
              obtain ⟨r57, rfl, w51, w52, w53, w54, hu, g55, g56⟩ := hp
              replace hu := hu.symm
              subst hu
              rcases g55 with ⟨hok, hr, h24, h25, h26, h353⟩ | ⟨hno, hr⟩
              · subst hr
                have hq : w54 = nI (q + 1) := h353.trans (nI_add q 1)
                subst hq
                refine j_if_eqN C 146 (by decide) (by omega) dX5_readItems_139 (fun c58 => ?_) (fun c58 => ?_)
                · exact absurd c58 (by decide)
                · refine j_iconst C (nI 1) (by decide) dX5_readItems_142 ?_
                  refine j_goto C 147 (by decide) dX5_readItems_143 ?_
                  refine j_w (cX g kk (sI (sF (sF (sF σ 24 w51) 25 w52) 26 w53) 353 (nI (q + 1)))) (congrArg (cX g kk) (show sI (sF (sF (sF (sI (sF (sF (sF σ 24 fN) 25 fF) 26 fL) 353 (nI q)) 24 w51) 25 w52) 26 w53) 353 (nI (q + 1)) = sI (sF (sF (sF σ 24 w51) 25 w52) 26 w53) 353 (nI (q + 1)) from (Eq.trans (wrI (Eq.trans (wrF (Eq.trans (wrF (Eq.trans wrFI (wrI (Eq.trans (wrFc (by decide)) (wrF (Eq.trans (wrFc (by decide)) (wrF wrFs))))))) (Eq.trans wrFI (wrI (Eq.trans (wrFc (by decide)) (wrF wrFs)))))) (Eq.trans wrFI (wrI wrFs)))) wrIs))) ?_
                  exact j_zret C E (by first | rfl | decide) (sI (sF (sF (sF σ 24 w51) 25 w52) 26 w53) 353 (nI (q + 1))) ⟨_, rfl, ⟨w51, w52, w53, (nI (q + 1)), rfl, (Or.inl ⟨rfl, _, rfl, (IX_e he (by omega) (by omega) (by omega) rfl (Or.inr ⟨rfl, by omega, rfl⟩)).trans ((lyI_y (iO115_2.mpr hok)).trans (congrArg some (iS115_2 (z := (fN, fF, fL, q)) h24 h25 h26 rfl)))⟩), g56⟩⟩ rfl dX5_readItems_147
              · subst hr
                refine j_if_eqN C 146 (by decide) (by omega) dX5_readItems_139 (fun c59 => ?_) (fun c59 => ?_)
                · refine j_iconst C (nI 0) (by decide) dX5_readItems_146 ?_
                  refine j_w (cX g kk (sI (sF (sF (sF σ 24 w51) 25 w52) 26 w53) 353 w54)) (congrArg (cX g kk) (show sI (sF (sF (sF (sI (sF (sF (sF σ 24 fN) 25 fF) 26 fL) 353 (nI q)) 24 w51) 25 w52) 26 w53) 353 w54 = sI (sF (sF (sF σ 24 w51) 25 w52) 26 w53) 353 w54 from (Eq.trans (wrI (Eq.trans (wrF (Eq.trans (wrF (Eq.trans wrFI (wrI (Eq.trans (wrFc (by decide)) (wrF (Eq.trans (wrFc (by decide)) (wrF wrFs))))))) (Eq.trans wrFI (wrI (Eq.trans (wrFc (by decide)) (wrF wrFs)))))) (Eq.trans wrFI (wrI wrFs)))) wrIs))) ?_
                  exact j_zret C E (by first | rfl | decide) (sI (sF (sF (sF σ 24 w51) 25 w52) 26 w53) 353 w54) ⟨_, rfl, ⟨w51, w52, w53, w54, rfl, (Or.inr ⟨rfl, (IX_e he (by omega) (by omega) (by omega) rfl (Or.inr ⟨rfl, by omega, rfl⟩)).trans (lyI_n (fun w => hno (iO115_2.mp w)))⟩), g56⟩⟩ rfl dX5_readItems_147
                · exact absurd c59 (by decide)
      · refine j_aload_n C 4 rfl dX5_readItems_31 ?_
        refine gX_22_2 C tb_172 dX5_readItems_32 ?_
        refine j_iload C 0 rfl dX5_readItems_35 ?_
        refine rX_23 C i rfl (by omega) ((σ.2.1 23) i) rfl dX5_readItems_37 ?_
        refine j_istore C [(5, .int ((σ.2.1 23) i)), (4, .int (nI i)), (3, .int y22_3), (2, .int y22_2), (1, .int y22_1), (0, .ref (g 22))] (by decide) rfl dX5_readItems_38 ?_
        refine j_iload C 0 rfl dX5_readItems_40 ?_
        refine j_bipush C (nI 59) (by decide) dX5_readItems_42 ?_
        refine j_icmp_ne C 59 (by decide) dX5_readItems_44 (fun c60 => ?_) (fun c60 => ?_)
        · refine j_iload C 0 rfl dX5_readItems_59 ?_
          refine j_bipush C (nI 45) (by decide) dX5_readItems_61 ?_
          refine j_icmp_ne C 71 (by decide) dX5_readItems_63 (fun c61 => ?_) (fun c61 => ?_)
          · refine j_iload C 0 rfl dX5_readItems_71 ?_
            refine j_S1 C (e_isDigit g kk (sI (sF (sF (sF σ 24 fN) 25 fF) 26 fL) 353 (nI q)) k hk hk6 hI  ((σ.2.1 23) i)) kyX5_isDigit tb_535 tb_536 rfl (Nat.le_of_ble_eq_true rfl) ⟨by decide, by decide⟩ dX5_readItems_73 rfl (fun vr ur hp => ?_)
            obtain ⟨r63, rfl, hu, g62⟩ := hp
            replace hu := hu.symm
            subst hu
            subst g62
            refine j_if_ne C 89 (by decide) dX5_readItems_76 (fun c64 => ?_) (fun c64 => ?_)
            · replace c64 := bI_t c64
              refine j_iload_n C 2 rfl dX5_readItems_89 ?_
              refine j_iconst C ((-1)) (by decide) dX5_readItems_90 ?_
              refine j_icmp_ne C 108 (by decide) dX5_readItems_91 (fun c65 => ?_) (fun c65 => ?_)
              · refine j_iload_n C 2 rfl dX5_readItems_108 ?_
                refine j_bipush C (nI 10) (by decide) dX5_readItems_109 ?_
                refine j_imul C dX5_readItems_111 ?_
                refine j_iload C 0 rfl dX5_readItems_112 ?_
                refine j_iadd C dX5_readItems_114 ?_
                refine j_bipush C (nI 48) (by decide) dX5_readItems_115 ?_
                refine j_isub C dX5_readItems_117 ?_
                refine j_istore_n C [(3, .int (((y22_3 * (nI 10)) + ((σ.2.1 23) i)) - (nI 48))), (5, .int ((σ.2.1 23) i)), (4, .int (nI i)), (2, .int y22_2), (1, .int y22_1), (0, .ref (g 22))] rfl (by decide) rfl dX5_readItems_118 ?_
                refine j_iinc C (nI (i + 1)) [(4, .int (nI (i + 1))), (3, .int (((y22_3 * (nI 10)) + ((σ.2.1 23) i)) - (nI 48))), (5, .int ((σ.2.1 23) i)), (2, .int y22_2), (1, .int y22_1), (0, .ref (g 22))] 2 rfl (by rw [show Int32.ofInt 1 = nI 1 from by decide, nI_add]) (by decide) rfl dX5_readItems_119 ?_
                refine j_goto C 22 (by decide) dX5_readItems_122 ?_
                refine j_sub (lv' := [(4, .int (nI (i + 1))), (3, .int (((y22_3 * (nI 10)) + ((σ.2.1 23) i)) - (nI 48))), (2, .int y22_2), (1, .int y22_1), (0, .ref (g 22))]) [0, 1, 3, 4, 5] rfl ?_
                exact ih22 (i + 1) (((y22_3 * (nI 10)) + ((σ.2.1 23) i)) - (nI 48)) y22_2 y22_1 fN fF fL q (by omega) (IX_d2 he (by omega) (by omega) c64 c65) hs (by omega)
              · refine j_iload_n C 3 rfl dX5_readItems_94 ?_
                refine j_bipush C (nI 10) (by decide) dX5_readItems_95 ?_
                refine j_imul C dX5_readItems_97 ?_
                refine j_iload C 0 rfl dX5_readItems_98 ?_
                refine j_iadd C dX5_readItems_100 ?_
                refine j_bipush C (nI 48) (by decide) dX5_readItems_101 ?_
                refine j_isub C dX5_readItems_103 ?_
                refine j_istore_n C [(2, .int (((y22_2 * (nI 10)) + ((σ.2.1 23) i)) - (nI 48))), (5, .int ((σ.2.1 23) i)), (4, .int (nI i)), (3, .int y22_3), (1, .int y22_1), (0, .ref (g 22))] rfl (by decide) rfl dX5_readItems_104 ?_
                refine j_goto C 119 (by decide) dX5_readItems_105 ?_
                refine j_iinc C (nI (i + 1)) [(4, .int (nI (i + 1))), (2, .int (((y22_2 * (nI 10)) + ((σ.2.1 23) i)) - (nI 48))), (5, .int ((σ.2.1 23) i)), (3, .int y22_3), (1, .int y22_1), (0, .ref (g 22))] 2 rfl (by rw [show Int32.ofInt 1 = nI 1 from by decide, nI_add]) (by decide) rfl dX5_readItems_119 ?_
                refine j_goto C 22 (by decide) dX5_readItems_122 ?_
                refine j_sub (lv' := [(4, .int (nI (i + 1))), (3, .int y22_3), (2, .int (((y22_2 * (nI 10)) + ((σ.2.1 23) i)) - (nI 48))), (1, .int y22_1), (0, .ref (g 22))]) [0, 3, 1, 4, 5] rfl ?_
                exact ih22 (i + 1) y22_3 (((y22_2 * (nI 10)) + ((σ.2.1 23) i)) - (nI 48)) y22_1 fN fF fL q (by omega) (IX_d1 he (by omega) (by omega) c64 c65) hs (by omega)
            · replace c64 := bI_f c64
              refine j_iload C 0 rfl dX5_readItems_79 ?_
              refine j_istore_n C [(1, .int ((σ.2.1 23) i)), (5, .int ((σ.2.1 23) i)), (4, .int (nI i)), (3, .int y22_3), (2, .int y22_2), (0, .ref (g 22))] rfl (by decide) rfl dX5_readItems_81 ?_
              refine j_iconst C (nI 0) (by decide) dX5_readItems_82 ?_
              refine j_istore_n C [(2, .int (nI 0)), (1, .int ((σ.2.1 23) i)), (5, .int ((σ.2.1 23) i)), (4, .int (nI i)), (3, .int y22_3), (0, .ref (g 22))] rfl (by decide) rfl dX5_readItems_83 ?_
              refine j_iconst C ((-1)) (by decide) dX5_readItems_84 ?_
              refine j_istore_n C [(3, .int (-1)), (2, .int (nI 0)), (1, .int ((σ.2.1 23) i)), (5, .int ((σ.2.1 23) i)), (4, .int (nI i)), (0, .ref (g 22))] rfl (by decide) rfl dX5_readItems_85 ?_
              refine j_goto C 119 (by decide) dX5_readItems_86 ?_
              refine j_iinc C (nI (i + 1)) [(4, .int (nI (i + 1))), (3, .int (-1)), (2, .int (nI 0)), (1, .int ((σ.2.1 23) i)), (5, .int ((σ.2.1 23) i)), (0, .ref (g 22))] 4 rfl (by rw [show Int32.ofInt 1 = nI 1 from by decide, nI_add]) (by decide) rfl dX5_readItems_119 ?_
              refine j_goto C 22 (by decide) dX5_readItems_122 ?_
              refine j_sub (lv' := [(4, .int (nI (i + 1))), (3, .int (-1)), (2, .int (nI 0)), (1, .int ((σ.2.1 23) i)), (0, .ref (g 22))]) [0, 1, 2, 3, 5] rfl ?_
              exact ih22 (i + 1) (-1) (nI 0) ((σ.2.1 23) i) fN fF fL q (by omega) (IX_l he (by omega) (by omega) c60 c61 c64) hs (by omega)
          · refine j_iconst C (nI 0) (by decide) dX5_readItems_66 ?_
            refine j_istore_n C [(3, .int (nI 0)), (5, .int ((σ.2.1 23) i)), (4, .int (nI i)), (2, .int y22_2), (1, .int y22_1), (0, .ref (g 22))] rfl (by decide) rfl dX5_readItems_67 ?_
            refine j_goto C 119 (by decide) dX5_readItems_68 ?_
            refine j_iinc C (nI (i + 1)) [(4, .int (nI (i + 1))), (3, .int (nI 0)), (5, .int ((σ.2.1 23) i)), (2, .int y22_2), (1, .int y22_1), (0, .ref (g 22))] 2 rfl (by rw [show Int32.ofInt 1 = nI 1 from by decide, nI_add]) (by decide) rfl dX5_readItems_119 ?_
            refine j_goto C 22 (by decide) dX5_readItems_122 ?_
            refine j_sub (lv' := [(4, .int (nI (i + 1))), (3, .int (nI 0)), (2, .int y22_2), (1, .int y22_1), (0, .ref (g 22))]) [0, 1, 3, 4, 5] rfl ?_
            exact ih22 (i + 1) (nI 0) y22_2 y22_1 fN fF fL q (by omega) (IX_m he (by omega) (by omega) c61) hs (by omega)
        · refine j_aload_n C 5 rfl dX5_readItems_47 ?_
          refine j_iload_n C 4 rfl dX5_readItems_48 ?_
          refine j_iload_n C 3 rfl dX5_readItems_49 ?_
          refine j_iload_n C 2 rfl dX5_readItems_50 ?_
          obtain ⟨b9, hb9, e1, e2, e3⟩ := IX_q he (by omega) (Or.inl ⟨by omega, c60⟩)
          subst e1
          rcases e3 with rfl | rfl | rfl
          · rcases e2 with rfl | ⟨e9, he9, rfl⟩
            · refine j_V1 C (e_tk120_1 g kk (sI (sF (sF (sF σ 24 fN) 25 fF) 26 fL) 353 (nI q)) k hk hk6 hI hs b9 (by first | assumption | omega)) kyX5_takeItem tb_550 tb_552 sp_1 22 rfl (eX_22 g kk _) rfl (Nat.le_of_ble_eq_true rfl) ⟨by decide, by decide⟩ dX5_readItems_51 rfl (fun vr ur hp => ?_)
              obtain ⟨r72, rfl, w66, w67, w68, w69, hu, g70, g71⟩ := hp
              replace hu := hu.symm
              subst hu
              rcases g70 with ⟨hok, hr, h24, h25, h26, h353⟩ | ⟨hno, hr⟩
              · subst hr
                have hq : w69 = nI (q + 1) := h353.trans (nI_add q 1)
                subst hq
                refine j_if_neN C 119 (by decide) (by omega) dX5_readItems_54 (fun c73 => ?_) (fun c73 => ?_)
                · refine j_iinc C (nI (i + 1)) [(4, .int (nI (i + 1))), (5, .int ((σ.2.1 23) i)), (3, .int (-1)), (2, .int (nI b9)), (1, .int (nI 120)), (0, .ref (g 22))] 1 rfl (by rw [show Int32.ofInt 1 = nI 1 from by decide, nI_add]) (by decide) rfl dX5_readItems_119 ?_
                  refine j_goto C 22 (by decide) dX5_readItems_122 ?_
                  refine j_sub (lv' := [(4, .int (nI (i + 1))), (3, .int (-1)), (2, .int (nI b9)), (1, .int (nI 120)), (0, .ref (g 22))]) [0, 2, 3, 4, 5] rfl ?_
                  refine j_w (cX g kk (sI (sF (sF (sF σ 24 w66) 25 w67) 26 w68) 353 (nI (q + 1)))) (congrArg (cX g kk) (show sI (sF (sF (sF (sI (sF (sF (sF σ 24 fN) 25 fF) 26 fL) 353 (nI q)) 24 w66) 25 w67) 26 w68) 353 (nI (q + 1)) = sI (sF (sF (sF σ 24 w66) 25 w67) 26 w68) 353 (nI (q + 1)) from (Eq.trans (wrI (Eq.trans (wrF (Eq.trans (wrF (Eq.trans wrFI (wrI (Eq.trans (wrFc (by decide)) (wrF (Eq.trans (wrFc (by decide)) (wrF wrFs))))))) (Eq.trans wrFI (wrI (Eq.trans (wrFc (by decide)) (wrF wrFs)))))) (Eq.trans wrFI (wrI wrFs)))) wrIs))) ?_
                  exact ih22 (i + 1) (-1) (nI b9) (nI 120) w66 w67 w68 (q + 1) (by omega) (IX_ok (e := 0) he (by omega) (by omega) c60 (by omega) rfl (Or.inl ⟨rfl, rfl⟩) (iO120_1.mpr hok) (iS120_1 (z := (fN, fF, fL, q)) h24 h25 h26 rfl)) g71 (by omega)
                · exact absurd c73 (by decide)
              · subst hr
                refine j_if_neN C 119 (by decide) (by omega) dX5_readItems_54 (fun c74 => ?_) (fun c74 => ?_)
                · exact absurd c74 (by decide)
                · refine j_iconst C (nI 0) (by decide) dX5_readItems_57 ?_
                  refine j_w (cX g kk (sI (sF (sF (sF σ 24 w66) 25 w67) 26 w68) 353 w69)) (congrArg (cX g kk) (show sI (sF (sF (sF (sI (sF (sF (sF σ 24 fN) 25 fF) 26 fL) 353 (nI q)) 24 w66) 25 w67) 26 w68) 353 w69 = sI (sF (sF (sF σ 24 w66) 25 w67) 26 w68) 353 w69 from (Eq.trans (wrI (Eq.trans (wrF (Eq.trans (wrF (Eq.trans wrFI (wrI (Eq.trans (wrFc (by decide)) (wrF (Eq.trans (wrFc (by decide)) (wrF wrFs))))))) (Eq.trans wrFI (wrI (Eq.trans (wrFc (by decide)) (wrF wrFs)))))) (Eq.trans wrFI (wrI wrFs)))) wrIs))) ?_
                  exact j_zret C E (by first | rfl | decide) (sI (sF (sF (sF σ 24 w66) 25 w67) 26 w68) 353 w69) ⟨_, rfl, ⟨w66, w67, w68, w69, rfl, (Or.inr ⟨rfl, IX_no (e := 0) he (by omega) (by omega) c60 (by omega) rfl (Or.inl ⟨rfl, rfl⟩) (fun w => hno (iO120_1.mp w))⟩), g71⟩⟩ rfl dX5_readItems_58
            · refine j_V1 C (e_tk120_2 g kk (sI (sF (sF (sF σ 24 fN) 25 fF) 26 fL) 353 (nI q)) k hk hk6 hI hs b9 (by first | assumption | omega) e9 (by first | assumption | omega)) kyX5_takeItem tb_550 tb_552 sp_1 22 rfl (eX_22 g kk _) rfl (Nat.le_of_ble_eq_true rfl) ⟨by decide, by decide⟩ dX5_readItems_51 rfl (fun vr ur hp => ?_)
              obtain ⟨r81, rfl, w75, w76, w77, w78, hu, g79, g80⟩ := hp
              replace hu := hu.symm
              subst hu
              rcases g79 with ⟨hok, hr, h24, h25, h26, h353⟩ | ⟨hno, hr⟩
              · subst hr
                have hq : w78 = nI (q + 1) := h353.trans (nI_add q 1)
                subst hq
                refine j_if_neN C 119 (by decide) (by omega) dX5_readItems_54 (fun c82 => ?_) (fun c82 => ?_)
                · refine j_iinc C (nI (i + 1)) [(4, .int (nI (i + 1))), (5, .int ((σ.2.1 23) i)), (3, .int (nI e9)), (2, .int (nI b9)), (1, .int (nI 120)), (0, .ref (g 22))] 1 rfl (by rw [show Int32.ofInt 1 = nI 1 from by decide, nI_add]) (by decide) rfl dX5_readItems_119 ?_
                  refine j_goto C 22 (by decide) dX5_readItems_122 ?_
                  refine j_sub (lv' := [(4, .int (nI (i + 1))), (3, .int (nI e9)), (2, .int (nI b9)), (1, .int (nI 120)), (0, .ref (g 22))]) [0, 2, 3, 4, 5] rfl ?_
                  refine j_w (cX g kk (sI (sF (sF (sF σ 24 w75) 25 w76) 26 w77) 353 (nI (q + 1)))) (congrArg (cX g kk) (show sI (sF (sF (sF (sI (sF (sF (sF σ 24 fN) 25 fF) 26 fL) 353 (nI q)) 24 w75) 25 w76) 26 w77) 353 (nI (q + 1)) = sI (sF (sF (sF σ 24 w75) 25 w76) 26 w77) 353 (nI (q + 1)) from (Eq.trans (wrI (Eq.trans (wrF (Eq.trans (wrF (Eq.trans wrFI (wrI (Eq.trans (wrFc (by decide)) (wrF (Eq.trans (wrFc (by decide)) (wrF wrFs))))))) (Eq.trans wrFI (wrI (Eq.trans (wrFc (by decide)) (wrF wrFs)))))) (Eq.trans wrFI (wrI wrFs)))) wrIs))) ?_
                  exact ih22 (i + 1) (nI e9) (nI b9) (nI 120) w75 w76 w77 (q + 1) (by omega) (IX_ok he (by omega) (by omega) c60 (by omega) rfl (Or.inr ⟨rfl, by omega, rfl⟩) (iO120_2.mpr hok) (iS120_2 (z := (fN, fF, fL, q)) h24 h25 h26 rfl)) g80 (by omega)
                · exact absurd c82 (by decide)
              · subst hr
                refine j_if_neN C 119 (by decide) (by omega) dX5_readItems_54 (fun c83 => ?_) (fun c83 => ?_)
                · exact absurd c83 (by decide)
                · refine j_iconst C (nI 0) (by decide) dX5_readItems_57 ?_
                  refine j_w (cX g kk (sI (sF (sF (sF σ 24 w75) 25 w76) 26 w77) 353 w78)) (congrArg (cX g kk) (show sI (sF (sF (sF (sI (sF (sF (sF σ 24 fN) 25 fF) 26 fL) 353 (nI q)) 24 w75) 25 w76) 26 w77) 353 w78 = sI (sF (sF (sF σ 24 w75) 25 w76) 26 w77) 353 w78 from (Eq.trans (wrI (Eq.trans (wrF (Eq.trans (wrF (Eq.trans wrFI (wrI (Eq.trans (wrFc (by decide)) (wrF (Eq.trans (wrFc (by decide)) (wrF wrFs))))))) (Eq.trans wrFI (wrI (Eq.trans (wrFc (by decide)) (wrF wrFs)))))) (Eq.trans wrFI (wrI wrFs)))) wrIs))) ?_
                  exact j_zret C E (by first | rfl | decide) (sI (sF (sF (sF σ 24 w75) 25 w76) 26 w77) 353 w78) ⟨_, rfl, ⟨w75, w76, w77, w78, rfl, (Or.inr ⟨rfl, IX_no he (by omega) (by omega) c60 (by omega) rfl (Or.inr ⟨rfl, by omega, rfl⟩) (fun w => hno (iO120_2.mp w))⟩), g80⟩⟩ rfl dX5_readItems_58
          · rcases e2 with rfl | ⟨e9, he9, rfl⟩
            · refine j_V1 C (e_tk108_1 g kk (sI (sF (sF (sF σ 24 fN) 25 fF) 26 fL) 353 (nI q)) k hk hk6 hI hs b9 (by first | assumption | omega)) kyX5_takeItem tb_550 tb_552 sp_1 22 rfl (eX_22 g kk _) rfl (Nat.le_of_ble_eq_true rfl) ⟨by decide, by decide⟩ dX5_readItems_51 rfl (fun vr ur hp => ?_)
              obtain ⟨r90, rfl, w84, w85, w86, w87, hu, g88, g89⟩ := hp
              replace hu := hu.symm
              subst hu
              rcases g88 with ⟨hok, hr, h24, h25, h26, h353⟩ | ⟨hno, hr⟩
              · subst hr
                have hq : w87 = nI (q + 1) := h353.trans (nI_add q 1)
                subst hq
                refine j_if_neN C 119 (by decide) (by omega) dX5_readItems_54 (fun c91 => ?_) (fun c91 => ?_)
                · refine j_iinc C (nI (i + 1)) [(4, .int (nI (i + 1))), (5, .int ((σ.2.1 23) i)), (3, .int (-1)), (2, .int (nI b9)), (1, .int (nI 108)), (0, .ref (g 22))] 1 rfl (by rw [show Int32.ofInt 1 = nI 1 from by decide, nI_add]) (by decide) rfl dX5_readItems_119 ?_
                  refine j_goto C 22 (by decide) dX5_readItems_122 ?_
                  refine j_sub (lv' := [(4, .int (nI (i + 1))), (3, .int (-1)), (2, .int (nI b9)), (1, .int (nI 108)), (0, .ref (g 22))]) [0, 2, 3, 4, 5] rfl ?_
                  refine j_w (cX g kk (sI (sF (sF (sF σ 24 w84) 25 w85) 26 w86) 353 (nI (q + 1)))) (congrArg (cX g kk) (show sI (sF (sF (sF (sI (sF (sF (sF σ 24 fN) 25 fF) 26 fL) 353 (nI q)) 24 w84) 25 w85) 26 w86) 353 (nI (q + 1)) = sI (sF (sF (sF σ 24 w84) 25 w85) 26 w86) 353 (nI (q + 1)) from (Eq.trans (wrI (Eq.trans (wrF (Eq.trans (wrF (Eq.trans wrFI (wrI (Eq.trans (wrFc (by decide)) (wrF (Eq.trans (wrFc (by decide)) (wrF wrFs))))))) (Eq.trans wrFI (wrI (Eq.trans (wrFc (by decide)) (wrF wrFs)))))) (Eq.trans wrFI (wrI wrFs)))) wrIs))) ?_
                  exact ih22 (i + 1) (-1) (nI b9) (nI 108) w84 w85 w86 (q + 1) (by omega) (IX_ok (e := 0) he (by omega) (by omega) c60 (by omega) rfl (Or.inl ⟨rfl, rfl⟩) (iO108_1.mpr hok) (iS108_1 (z := (fN, fF, fL, q)) h24 h25 h26 rfl)) g89 (by omega)
                · exact absurd c91 (by decide)
              · subst hr
                refine j_if_neN C 119 (by decide) (by omega) dX5_readItems_54 (fun c92 => ?_) (fun c92 => ?_)
                · exact absurd c92 (by decide)
                · refine j_iconst C (nI 0) (by decide) dX5_readItems_57 ?_
                  refine j_w (cX g kk (sI (sF (sF (sF σ 24 w84) 25 w85) 26 w86) 353 w87)) (congrArg (cX g kk) (show sI (sF (sF (sF (sI (sF (sF (sF σ 24 fN) 25 fF) 26 fL) 353 (nI q)) 24 w84) 25 w85) 26 w86) 353 w87 = sI (sF (sF (sF σ 24 w84) 25 w85) 26 w86) 353 w87 from (Eq.trans (wrI (Eq.trans (wrF (Eq.trans (wrF (Eq.trans wrFI (wrI (Eq.trans (wrFc (by decide)) (wrF (Eq.trans (wrFc (by decide)) (wrF wrFs))))))) (Eq.trans wrFI (wrI (Eq.trans (wrFc (by decide)) (wrF wrFs)))))) (Eq.trans wrFI (wrI wrFs)))) wrIs))) ?_
                  exact j_zret C E (by first | rfl | decide) (sI (sF (sF (sF σ 24 w84) 25 w85) 26 w86) 353 w87) ⟨_, rfl, ⟨w84, w85, w86, w87, rfl, (Or.inr ⟨rfl, IX_no (e := 0) he (by omega) (by omega) c60 (by omega) rfl (Or.inl ⟨rfl, rfl⟩) (fun w => hno (iO108_1.mp w))⟩), g89⟩⟩ rfl dX5_readItems_58
            · refine j_V1 C (e_tk108_2 g kk (sI (sF (sF (sF σ 24 fN) 25 fF) 26 fL) 353 (nI q)) k hk hk6 hI hs b9 (by first | assumption | omega) e9 (by first | assumption | omega)) kyX5_takeItem tb_550 tb_552 sp_1 22 rfl (eX_22 g kk _) rfl (Nat.le_of_ble_eq_true rfl) ⟨by decide, by decide⟩ dX5_readItems_51 rfl (fun vr ur hp => ?_)
              obtain ⟨r99, rfl, w93, w94, w95, w96, hu, g97, g98⟩ := hp
              replace hu := hu.symm
              subst hu
              rcases g97 with ⟨hok, hr, h24, h25, h26, h353⟩ | ⟨hno, hr⟩
              · subst hr
                have hq : w96 = nI (q + 1) := h353.trans (nI_add q 1)
                subst hq
                refine j_if_neN C 119 (by decide) (by omega) dX5_readItems_54 (fun c100 => ?_) (fun c100 => ?_)
                · refine j_iinc C (nI (i + 1)) [(4, .int (nI (i + 1))), (5, .int ((σ.2.1 23) i)), (3, .int (nI e9)), (2, .int (nI b9)), (1, .int (nI 108)), (0, .ref (g 22))] 1 rfl (by rw [show Int32.ofInt 1 = nI 1 from by decide, nI_add]) (by decide) rfl dX5_readItems_119 ?_
                  refine j_goto C 22 (by decide) dX5_readItems_122 ?_
                  refine j_sub (lv' := [(4, .int (nI (i + 1))), (3, .int (nI e9)), (2, .int (nI b9)), (1, .int (nI 108)), (0, .ref (g 22))]) [0, 2, 3, 4, 5] rfl ?_
                  refine j_w (cX g kk (sI (sF (sF (sF σ 24 w93) 25 w94) 26 w95) 353 (nI (q + 1)))) (congrArg (cX g kk) (show sI (sF (sF (sF (sI (sF (sF (sF σ 24 fN) 25 fF) 26 fL) 353 (nI q)) 24 w93) 25 w94) 26 w95) 353 (nI (q + 1)) = sI (sF (sF (sF σ 24 w93) 25 w94) 26 w95) 353 (nI (q + 1)) from (Eq.trans (wrI (Eq.trans (wrF (Eq.trans (wrF (Eq.trans wrFI (wrI (Eq.trans (wrFc (by decide)) (wrF (Eq.trans (wrFc (by decide)) (wrF wrFs))))))) (Eq.trans wrFI (wrI (Eq.trans (wrFc (by decide)) (wrF wrFs)))))) (Eq.trans wrFI (wrI wrFs)))) wrIs))) ?_
                  exact ih22 (i + 1) (nI e9) (nI b9) (nI 108) w93 w94 w95 (q + 1) (by omega) (IX_ok he (by omega) (by omega) c60 (by omega) rfl (Or.inr ⟨rfl, by omega, rfl⟩) (iO108_2.mpr hok) (iS108_2 (z := (fN, fF, fL, q)) h24 h25 h26 rfl)) g98 (by omega)
                · exact absurd c100 (by decide)
              · subst hr
                refine j_if_neN C 119 (by decide) (by omega) dX5_readItems_54 (fun c101 => ?_) (fun c101 => ?_)
                · exact absurd c101 (by decide)
                · refine j_iconst C (nI 0) (by decide) dX5_readItems_57 ?_
                  refine j_w (cX g kk (sI (sF (sF (sF σ 24 w93) 25 w94) 26 w95) 353 w96)) (congrArg (cX g kk) (show sI (sF (sF (sF (sI (sF (sF (sF σ 24 fN) 25 fF) 26 fL) 353 (nI q)) 24 w93) 25 w94) 26 w95) 353 w96 = sI (sF (sF (sF σ 24 w93) 25 w94) 26 w95) 353 w96 from (Eq.trans (wrI (Eq.trans (wrF (Eq.trans (wrF (Eq.trans wrFI (wrI (Eq.trans (wrFc (by decide)) (wrF (Eq.trans (wrFc (by decide)) (wrF wrFs))))))) (Eq.trans wrFI (wrI (Eq.trans (wrFc (by decide)) (wrF wrFs)))))) (Eq.trans wrFI (wrI wrFs)))) wrIs))) ?_
                  exact j_zret C E (by first | rfl | decide) (sI (sF (sF (sF σ 24 w93) 25 w94) 26 w95) 353 w96) ⟨_, rfl, ⟨w93, w94, w95, w96, rfl, (Or.inr ⟨rfl, IX_no he (by omega) (by omega) c60 (by omega) rfl (Or.inr ⟨rfl, by omega, rfl⟩) (fun w => hno (iO108_2.mp w))⟩), g98⟩⟩ rfl dX5_readItems_58
          · rcases e2 with rfl | ⟨e9, he9, rfl⟩
            · rcases Nat.eq_zero_or_pos b9 with rfl | hb1
              · refine j_V1 C (e_tk115_z g kk (sI (sF (sF (sF σ 24 fN) 25 fF) 26 fL) 353 (nI q)) k hk hk6 hI hs ) kyX5_takeItem tb_550 tb_552 sp_1 22 rfl (eX_22 g kk _) rfl (Nat.le_of_ble_eq_true rfl) ⟨by decide, by decide⟩ dX5_readItems_51 rfl (fun vr ur hp => ?_)
                obtain ⟨r103, rfl, hu, g102⟩ := hp
                replace hu := hu.symm
                subst hu
                have hr := g102
                subst hr
                refine j_if_neN C 119 (by decide) (by omega) dX5_readItems_54 (fun c104 => ?_) (fun c104 => ?_)
                · exact absurd c104 (by decide)
                · refine j_iconst C (nI 0) (by decide) dX5_readItems_57 ?_
                  exact j_zret C E (by first | rfl | decide) (sI (sF (sF (sF σ 24 fN) 25 fF) 26 fL) 353 (nI q)) ⟨_, rfl, ⟨fN, fF, fL, (nI q), rfl, (Or.inr ⟨rfl, IX_no (e := 0) he (by omega) (by omega) c60 (by omega) rfl (Or.inl ⟨rfl, rfl⟩) iO0⟩), hs⟩⟩ rfl dX5_readItems_58
              · refine j_V1 C (e_tk115_1 g kk (sI (sF (sF (sF σ 24 fN) 25 fF) 26 fL) 353 (nI q)) k hk hk6 hI hs b9 (by first | assumption | omega) (by first | assumption | omega)) kyX5_takeItem tb_550 tb_552 sp_1 22 rfl (eX_22 g kk _) rfl (Nat.le_of_ble_eq_true rfl) ⟨by decide, by decide⟩ dX5_readItems_51 rfl (fun vr ur hp => ?_)
                obtain ⟨r111, rfl, w105, w106, w107, w108, hu, g109, g110⟩ := hp
                replace hu := hu.symm
                subst hu
                rcases g109 with ⟨hok, hr, h24, h25, h26, h353⟩ | ⟨hno, hr⟩
                · subst hr
                  have hq : w108 = nI (q + 1) := h353.trans (nI_add q 1)
                  subst hq
                  refine j_if_neN C 119 (by decide) (by omega) dX5_readItems_54 (fun c112 => ?_) (fun c112 => ?_)
                  · refine j_iinc C (nI (i + 1)) [(4, .int (nI (i + 1))), (5, .int ((σ.2.1 23) i)), (3, .int (-1)), (2, .int (nI b9)), (1, .int (nI 115)), (0, .ref (g 22))] 1 rfl (by rw [show Int32.ofInt 1 = nI 1 from by decide, nI_add]) (by decide) rfl dX5_readItems_119 ?_
                    refine j_goto C 22 (by decide) dX5_readItems_122 ?_
                    refine j_sub (lv' := [(4, .int (nI (i + 1))), (3, .int (-1)), (2, .int (nI b9)), (1, .int (nI 115)), (0, .ref (g 22))]) [0, 2, 3, 4, 5] rfl ?_
                    refine j_w (cX g kk (sI (sF (sF (sF σ 24 w105) 25 w106) 26 w107) 353 (nI (q + 1)))) (congrArg (cX g kk) (show sI (sF (sF (sF (sI (sF (sF (sF σ 24 fN) 25 fF) 26 fL) 353 (nI q)) 24 w105) 25 w106) 26 w107) 353 (nI (q + 1)) = sI (sF (sF (sF σ 24 w105) 25 w106) 26 w107) 353 (nI (q + 1)) from (Eq.trans (wrI (Eq.trans (wrF (Eq.trans (wrF (Eq.trans wrFI (wrI (Eq.trans (wrFc (by decide)) (wrF (Eq.trans (wrFc (by decide)) (wrF wrFs))))))) (Eq.trans wrFI (wrI (Eq.trans (wrFc (by decide)) (wrF wrFs)))))) (Eq.trans wrFI (wrI wrFs)))) wrIs))) ?_
                    exact ih22 (i + 1) (-1) (nI b9) (nI 115) w105 w106 w107 (q + 1) (by omega) (IX_ok (e := 0) he (by omega) (by omega) c60 (by omega) rfl (Or.inl ⟨rfl, rfl⟩) ((iO115_1 hb1).mpr hok) (iS115_1 (z := (fN, fF, fL, q)) h24 h25 h26 rfl)) g110 (by omega)
                  · exact absurd c112 (by decide)
                · subst hr
                  refine j_if_neN C 119 (by decide) (by omega) dX5_readItems_54 (fun c113 => ?_) (fun c113 => ?_)
                  · exact absurd c113 (by decide)
                  · refine j_iconst C (nI 0) (by decide) dX5_readItems_57 ?_
                    refine j_w (cX g kk (sI (sF (sF (sF σ 24 w105) 25 w106) 26 w107) 353 w108)) (congrArg (cX g kk) (show sI (sF (sF (sF (sI (sF (sF (sF σ 24 fN) 25 fF) 26 fL) 353 (nI q)) 24 w105) 25 w106) 26 w107) 353 w108 = sI (sF (sF (sF σ 24 w105) 25 w106) 26 w107) 353 w108 from (Eq.trans (wrI (Eq.trans (wrF (Eq.trans (wrF (Eq.trans wrFI (wrI (Eq.trans (wrFc (by decide)) (wrF (Eq.trans (wrFc (by decide)) (wrF wrFs))))))) (Eq.trans wrFI (wrI (Eq.trans (wrFc (by decide)) (wrF wrFs)))))) (Eq.trans wrFI (wrI wrFs)))) wrIs))) ?_
                    exact j_zret C E (by first | rfl | decide) (sI (sF (sF (sF σ 24 w105) 25 w106) 26 w107) 353 w108) ⟨_, rfl, ⟨w105, w106, w107, w108, rfl, (Or.inr ⟨rfl, IX_no (e := 0) he (by omega) (by omega) c60 (by omega) rfl (Or.inl ⟨rfl, rfl⟩) (fun w => hno ((iO115_1 hb1).mp w))⟩), g110⟩⟩ rfl dX5_readItems_58
            · refine j_V1 C (e_tk115_2 g kk (sI (sF (sF (sF σ 24 fN) 25 fF) 26 fL) 353 (nI q)) k hk hk6 hI hs b9 (by first | assumption | omega) e9 (by first | assumption | omega)) kyX5_takeItem tb_550 tb_552 sp_1 22 rfl (eX_22 g kk _) rfl (Nat.le_of_ble_eq_true rfl) ⟨by decide, by decide⟩ dX5_readItems_51 rfl (fun vr ur hp => ?_)
              obtain ⟨r120, rfl, w114, w115, w116, w117, hu, g118, g119⟩ := hp
              replace hu := hu.symm
              subst hu
              rcases g118 with ⟨hok, hr, h24, h25, h26, h353⟩ | ⟨hno, hr⟩
              · subst hr
                have hq : w117 = nI (q + 1) := h353.trans (nI_add q 1)
                subst hq
                refine j_if_neN C 119 (by decide) (by omega) dX5_readItems_54 (fun c121 => ?_) (fun c121 => ?_)
                · refine j_iinc C (nI (i + 1)) [(4, .int (nI (i + 1))), (5, .int ((σ.2.1 23) i)), (3, .int (nI e9)), (2, .int (nI b9)), (1, .int (nI 115)), (0, .ref (g 22))] 1 rfl (by rw [show Int32.ofInt 1 = nI 1 from by decide, nI_add]) (by decide) rfl dX5_readItems_119 ?_
                  refine j_goto C 22 (by decide) dX5_readItems_122 ?_
                  refine j_sub (lv' := [(4, .int (nI (i + 1))), (3, .int (nI e9)), (2, .int (nI b9)), (1, .int (nI 115)), (0, .ref (g 22))]) [0, 2, 3, 4, 5] rfl ?_
                  refine j_w (cX g kk (sI (sF (sF (sF σ 24 w114) 25 w115) 26 w116) 353 (nI (q + 1)))) (congrArg (cX g kk) (show sI (sF (sF (sF (sI (sF (sF (sF σ 24 fN) 25 fF) 26 fL) 353 (nI q)) 24 w114) 25 w115) 26 w116) 353 (nI (q + 1)) = sI (sF (sF (sF σ 24 w114) 25 w115) 26 w116) 353 (nI (q + 1)) from (Eq.trans (wrI (Eq.trans (wrF (Eq.trans (wrF (Eq.trans wrFI (wrI (Eq.trans (wrFc (by decide)) (wrF (Eq.trans (wrFc (by decide)) (wrF wrFs))))))) (Eq.trans wrFI (wrI (Eq.trans (wrFc (by decide)) (wrF wrFs)))))) (Eq.trans wrFI (wrI wrFs)))) wrIs))) ?_
                  exact ih22 (i + 1) (nI e9) (nI b9) (nI 115) w114 w115 w116 (q + 1) (by omega) (IX_ok he (by omega) (by omega) c60 (by omega) rfl (Or.inr ⟨rfl, by omega, rfl⟩) (iO115_2.mpr hok) (iS115_2 (z := (fN, fF, fL, q)) h24 h25 h26 rfl)) g119 (by omega)
                · exact absurd c121 (by decide)
              · subst hr
                refine j_if_neN C 119 (by decide) (by omega) dX5_readItems_54 (fun c122 => ?_) (fun c122 => ?_)
                · exact absurd c122 (by decide)
                · refine j_iconst C (nI 0) (by decide) dX5_readItems_57 ?_
                  refine j_w (cX g kk (sI (sF (sF (sF σ 24 w114) 25 w115) 26 w116) 353 w117)) (congrArg (cX g kk) (show sI (sF (sF (sF (sI (sF (sF (sF σ 24 fN) 25 fF) 26 fL) 353 (nI q)) 24 w114) 25 w115) 26 w116) 353 w117 = sI (sF (sF (sF σ 24 w114) 25 w115) 26 w116) 353 w117 from (Eq.trans (wrI (Eq.trans (wrF (Eq.trans (wrF (Eq.trans wrFI (wrI (Eq.trans (wrFc (by decide)) (wrF (Eq.trans (wrFc (by decide)) (wrF wrFs))))))) (Eq.trans wrFI (wrI (Eq.trans (wrFc (by decide)) (wrF wrFs)))))) (Eq.trans wrFI (wrI wrFs)))) wrIs))) ?_
                  exact j_zret C E (by first | rfl | decide) (sI (sF (sF (sF σ 24 w114) 25 w115) 26 w116) 353 w117) ⟨_, rfl, ⟨w114, w115, w116, w117, rfl, (Or.inr ⟨rfl, IX_no he (by omega) (by omega) c60 (by omega) rfl (Or.inr ⟨rfl, by omega, rfl⟩) (fun w => hno (iO115_2.mp w))⟩), g119⟩⟩ rfl dX5_readItems_58
  refine j_w (cX g kk (sF (sI (sF σ 24 (fillF (σ.2.1 24) (nI 0) 28)) 353 (nI 0)) 25 (σ.2.1 25))) (congrArg (cX g kk) (wrFi (S := (sI (sF σ 24 (fillF (σ.2.1 24) (nI 0) 28)) 353 (nI 0))) (c := 25) (v := σ.2.1 25) (gtFI (gtFF (by decide) rfl)))) ?_
  refine j_w (cX g kk (sF (sF (sI (sF σ 24 (fillF (σ.2.1 24) (nI 0) 28)) 353 (nI 0)) 25 (σ.2.1 25)) 26 (σ.2.1 26))) (congrArg (cX g kk) (wrFi (S := (sF (sI (sF σ 24 (fillF (σ.2.1 24) (nI 0) 28)) 353 (nI 0)) 25 (σ.2.1 25))) (c := 26) (v := σ.2.1 26) (gtFF (by decide) (gtFI (gtFF (by decide) rfl))))) ?_
  refine j_w (cX g kk (sI (sF (sF (sF σ 24 (fillF (σ.2.1 24) (nI 0) 28)) 25 (σ.2.1 25)) 26 (σ.2.1 26)) 353 (nI 0))) (congrArg (cX g kk) (show sF (sF (sI (sF σ 24 (fillF (σ.2.1 24) (nI 0) 28)) 353 (nI 0)) 25 (σ.2.1 25)) 26 (σ.2.1 26) = sI (sF (sF (sF σ 24 (fillF (σ.2.1 24) (nI 0) 28)) 25 (σ.2.1 25)) 26 (σ.2.1 26)) 353 (nI 0) from (Eq.trans (wrF wrFI) wrFI))) ?_
  exact L22 _ 0 (-1) (nI 0) (nI 0) (fillF (σ.2.1 24) (nI 0) 28) (σ.2.1 25) (σ.2.1 26) 0 (by omega) (IX_0 hft) hS (Nat.lt_succ_self _)
set_option maxRecDepth 100000 in
set_option maxHeartbeats 4000000 in
theorem e_readItems0 (g kk : Nat → Nat) (σ : St) (k : Nat) (hk : σ.1 16 = nI k) (hk6 : k ≤ 6) (hI : iX σ) (hn : σ.1 352 = nI 0)  : jM (S := St) yX5_readItems cX5_readItems 6 (some .boolean) { frames := 1, cells := 0, slots := 0, locals := 28 } kk (cX g kk σ) [.ref (g 22)] (cX g kk) (rI (fun (r : Int32) (u : St) => ∃ (pF24 : Nat → Int32) (pI353 : Int32), u = sI (sF σ 24 pF24) 353 pI353 ∧ (r = nI 1 ∧ pF24 = fillF (σ.2.1 24) (nI 0) 28 ∧ pI353 = nI 0))) := by
  refine j_entry [(0, .ref (g 22))] (by decide) (Nat.le_of_ble_eq_true rfl) rfl ?_
  intro X C E HI
  refine j_aload_n C 0 rfl dX5_readItems_0 ?_
  refine gX_22_3 C tb_173 dX5_readItems_1 ?_
  refine j_iconst C (nI 0) (by decide) dX5_readItems_4 ?_
  refine fl_24 C tb_549 (Nat.le_of_ble_eq_true rfl) ⟨by decide, by decide⟩ ⟨by decide, by decide⟩ dX5_readItems_5 ?_
  refine j_aload_n C 0 rfl dX5_readItems_8 ?_
  refine j_iconst C (nI 0) (by decide) dX5_readItems_9 ?_
  refine pX_22_1 C tb_170 dX5_readItems_10 ?_
  refine j_iconst C (nI 0) (by decide) dX5_readItems_13 ?_
  refine j_istore_n C [(1, .int (nI 0)), (0, .ref (g 22))] rfl (by decide) rfl dX5_readItems_14 ?_
  refine j_iconst C (nI 0) (by decide) dX5_readItems_15 ?_
  refine j_istore_n C [(2, .int (nI 0)), (1, .int (nI 0)), (0, .ref (g 22))] rfl (by decide) rfl dX5_readItems_16 ?_
  refine j_iconst C ((-1)) (by decide) dX5_readItems_17 ?_
  refine j_istore_n C [(3, .int (-1)), (2, .int (nI 0)), (1, .int (nI 0)), (0, .ref (g 22))] rfl (by decide) rfl dX5_readItems_18 ?_
  refine j_iconst C (nI 0) (by decide) dX5_readItems_19 ?_
  refine j_istore C [(4, .int (nI 0)), (3, .int (-1)), (2, .int (nI 0)), (1, .int (nI 0)), (0, .ref (g 22))] (by decide) rfl dX5_readItems_20 ?_
  refine j_iload C 0 rfl dX5_readItems_22 ?_
  refine j_aload_n C 4 rfl dX5_readItems_24 ?_
  refine gX_22_0 C tb_168 (nI 0) hn dX5_readItems_25 ?_
  refine j_icmp_geN C 125 (by decide) (by omega) (by omega) dX5_readItems_28 (fun c1 => ?_) (fun c1 => ?_)
  · refine j_aload_n C 4 rfl dX5_readItems_125 ?_
    refine gX_22_0 C tb_168 (nI 0) hn dX5_readItems_126 ?_
    refine j_if_eqN C 142 (by decide) (by omega) dX5_readItems_129 (fun c2 => ?_) (fun c2 => ?_)
    · refine j_iconst C (nI 1) (by decide) dX5_readItems_142 ?_
      refine j_goto C 147 (by decide) dX5_readItems_143 ?_
      exact j_zret C E (by first | rfl | decide) (sI (sF σ 24 (fillF (σ.2.1 24) (nI 0) 28)) 353 (nI 0)) ⟨_, rfl, ⟨(fillF (σ.2.1 24) (nI 0) 28), (nI 0), rfl, ⟨rfl, rfl, rfl⟩⟩⟩ rfl dX5_readItems_147
    · exact absurd c2 (by decide)
  · exact absurd c1 (by decide)
set_option maxRecDepth 100000 in
set_option maxHeartbeats 4000000 in
theorem o_layAll (g kk : Nat → Nat) (σ : St) (k : Nat) (hk : σ.1 3 = nI k) (hk6 : k ≤ 6) (hI : iM σ) (hS : al_ 28 27 (σ.2.1 14)) (n : Nat) (hn : σ.1 15 = nI n) (hnb : 1 ≤ n ∧ n ≤ 40) (hft : ftR (σ.2.1 9) n 0 0 = -1)  : jM (S := St) yX11_layAll cX11_layAll 10 (some .int) { frames := 2, cells := 0, slots := 0, locals := 53 } kk (cM g kk σ) [.ref (g 0)] (cM g kk) (rI (fun (r : Int32) (u : St) => ∃ (pF13 : Nat → Int32) (pF14 : Nat → Int32) (pF15 : Nat → Int32), u = sF (sF (sF σ 13 pF13) 14 pF14) 15 pF15 ∧ ((∃ q : Nat, q ≤ 41 ∧ r = nI q ∧ (rdI (σ.2.1 9) n 0 0 (nI 0) 0 0 (fillR (σ.2.1 13) 0 28 (nI 0), σ.2.1 14, σ.2.1 15, 0)) = some (pF13, pF14, pF15, q)) ∨ (r = -6 ∧ (rdI (σ.2.1 9) n 0 0 (nI 0) 0 0 (fillR (σ.2.1 13) 0 28 (nI 0), σ.2.1 14, σ.2.1 15, 0)) = none)) ∧ (al_ 28 27 pF14))) := by
  refine j_entry [(0, .ref (g 0))] (by decide) (Nat.le_of_ble_eq_true rfl) rfl ?_
  intro X C E HI
  refine j_iconst C (nI 0) (by decide) dX11_layAll_0 ?_
  refine j_istore_n C [(1, .int (nI 0)), (0, .ref (g 0))] rfl (by decide) rfl dX11_layAll_1 ?_
  have L2 : ∀ (n2 : Nat) (d : Nat) (f0 : Nat → Int32) (i2_0 : d ≤ 28) (h0 : f0 = fillR (σ.2.1 13) 0 d (nI 0)) (hm2 : 28 - d < n2), J X 0 0 (cM g kk (sF σ 13 f0)) [(1, .int (nI d)), (0, .ref (g 0))] 2 [] := by
    intro n2
    induction n2 with
    | zero => intro d f0 i2_0 h0 hm; exact absurd hm (Nat.not_lt_zero _)
    | succ n2 ih2 =>
      intro d f0 i2_0 h0 hm2
      refine j_iload_n C 0 rfl dX11_layAll_2 ?_
      refine j_bipush C (nI 28) (by decide) dX11_layAll_3 ?_
      refine j_icmp_geN C 21 (by decide) (by omega) (by omega) dX11_layAll_5 (fun c1 => ?_) (fun c1 => ?_)
      · refine j_iconst C (nI 0) (by decide) dX11_layAll_21 ?_
        refine j_istore_n C [(1, .int (nI 0)), (0, .ref (g 0))] rfl (by decide) rfl dX11_layAll_22 ?_
        refine j_iconst C (nI 0) (by decide) dX11_layAll_23 ?_
        refine j_istore_n C [(2, .int (nI 0)), (1, .int (nI 0)), (0, .ref (g 0))] rfl (by decide) rfl dX11_layAll_24 ?_
        refine j_iconst C (nI 0) (by decide) dX11_layAll_25 ?_
        refine j_istore_n C [(3, .int (nI 0)), (2, .int (nI 0)), (1, .int (nI 0)), (0, .ref (g 0))] rfl (by decide) rfl dX11_layAll_26 ?_
        refine j_bipush C ((-6)) (by decide) dX11_layAll_27 ?_
        refine j_istore C [(4, .int (-6)), (3, .int (nI 0)), (2, .int (nI 0)), (1, .int (nI 0)), (0, .ref (g 0))] (by decide) rfl dX11_layAll_29 ?_
        refine j_iconst C (nI 0) (by decide) dX11_layAll_31 ?_
        refine j_istore C [(5, .int (nI 0)), (4, .int (-6)), (3, .int (nI 0)), (2, .int (nI 0)), (1, .int (nI 0)), (0, .ref (g 0))] (by decide) rfl dX11_layAll_32 ?_
        refine j_iconst C (nI 1) (by decide) dX11_layAll_34 ?_
        refine j_istore C [(6, .int (nI 1)), (5, .int (nI 0)), (4, .int (-6)), (3, .int (nI 0)), (2, .int (nI 0)), (1, .int (nI 0)), (0, .ref (g 0))] (by decide) rfl dX11_layAll_35 ?_
        refine j_iconst C (nI 0) (by decide) dX11_layAll_37 ?_
        refine j_istore C [(7, .int (nI 0)), (6, .int (nI 1)), (5, .int (nI 0)), (4, .int (-6)), (3, .int (nI 0)), (2, .int (nI 0)), (1, .int (nI 0)), (0, .ref (g 0))] (by decide) rfl dX11_layAll_38 ?_
        have L40 : ∀ (n40 : Nat) (i : Nat) (gd : Nat) (a : Nat) (y40_4 : Int32) (y40_3 : Int32) (y40_2 : Int32) (q : Nat) (fN : Nat → Int32) (fF : Nat → Int32) (fL : Nat → Int32) (i40_0 : i ≤ n + 1) (i40_1 : a ≤ 6) (i40_2 : gd ≤ 1) (i40_3 : q ≤ i) (he : IM (σ.2.1 9) n i a (rdI (σ.2.1 9) n 0 0 (nI 0) 0 0 (fillR (σ.2.1 13) 0 28 (nI 0), σ.2.1 14, σ.2.1 15, 0)) y40_2 y40_3 y40_4 (fN, fF, fL, q) gd) (hs : al_ 28 27 fF) (hm40 : n + 1 - i < n40), J X 0 0 (cM g kk (sF (sF (sF σ 13 fN) 14 fF) 15 fL)) [(7, .int (nI i)), (6, .int (nI gd)), (5, .int (nI a)), (4, .int y40_4), (3, .int y40_3), (2, .int y40_2), (1, .int (nI q)), (0, .ref (g 0))] 40 [] := by
          intro n40
          induction n40 with
          | zero => intro i gd a y40_4 y40_3 y40_2 q fN fF fL i40_0 i40_1 i40_2 i40_3 he hs hm; exact absurd hm (Nat.not_lt_zero _)
          | succ n40 ih40 =>
            intro i gd a y40_4 y40_3 y40_2 q fN fF fL i40_0 i40_1 i40_2 i40_3 he hs hm40
            refine j_iload C 0 rfl dX11_layAll_40 ?_
            refine j_aload_n C 7 rfl dX11_layAll_42 ?_
            refine gM_0_15 C tb_888 (nI n) hn dX11_layAll_43 ?_
            refine j_icmp_gtN C 206 (by decide) (by omega) (by omega) dX11_layAll_46 (fun c2 => ?_) (fun c2 => ?_)
            · refine j_iload C 1 rfl dX11_layAll_206 ?_
              refine j_if_eqN C 215 (by decide) (by omega) dX11_layAll_208 (fun c3 => ?_) (fun c3 => ?_)
              · refine j_bipush C ((-6)) (by decide) dX11_layAll_215 ?_
                exact j_iret C E (sF (sF (sF σ 13 fN) 14 fF) 15 fL) ⟨_, rfl, ⟨fN, fF, fL, rfl, (Or.inr ⟨rfl, (IM_e he (by omega)).2 (by omega)⟩), hs⟩⟩ rfl dX11_layAll_217
              · refine j_iload_n C 6 rfl dX11_layAll_211 ?_
                refine j_goto C 217 (by decide) dX11_layAll_212 ?_
                exact j_iret C E (sF (sF (sF σ 13 fN) 14 fF) 15 fL) ⟨_, rfl, ⟨fN, fF, fL, rfl, (Or.inl ⟨_, by omega, rfl, (IM_e he (by omega)).1 (by omega)⟩), hs⟩⟩ rfl dX11_layAll_217
            · refine j_aload_n C 7 rfl dX11_layAll_49 ?_
              refine gM_0_15 C tb_888 (nI n) hn dX11_layAll_50 ?_
              refine j_if_leN C 206 (by decide) (by omega) dX11_layAll_53 (fun c4 => ?_) (fun c4 => ?_)
              · exact absurd c4 (by omega)
              · refine j_iload C 0 rfl dX11_layAll_56 ?_
                refine j_aload_n C 7 rfl dX11_layAll_58 ?_
                refine gM_0_15 C tb_888 (nI n) hn dX11_layAll_59 ?_
                refine j_icmp_geN C 75 (by decide) (by omega) (by omega) dX11_layAll_62 (fun c5 => ?_) (fun c5 => ?_)
                · refine j_bipush C (nI 59) (by decide) dX11_layAll_75 ?_
                  refine j_istore C [(8, .int (nI 59)), (7, .int (nI i)), (6, .int (nI gd)), (5, .int (nI a)), (4, .int y40_4), (3, .int y40_3), (2, .int y40_2), (1, .int (nI q)), (0, .ref (g 0))] (by decide) rfl dX11_layAll_77 ?_
                  refine j_iload C 0 rfl dX11_layAll_79 ?_
                  refine j_bipush C (nI 48) (by decide) dX11_layAll_81 ?_
                  refine j_isub C dX11_layAll_83 ?_
                  refine j_istore C [(9, .int ((nI 59) - (nI 48))), (8, .int (nI 59)), (7, .int (nI i)), (6, .int (nI gd)), (5, .int (nI a)), (4, .int y40_4), (3, .int y40_3), (2, .int y40_2), (1, .int (nI q)), (0, .ref (g 0))] (by decide) rfl dX11_layAll_84 ?_
                  refine j_iload C 4 rfl dX11_layAll_86 ?_
                  refine j_iload C 1 rfl dX11_layAll_88 ?_
                  refine j_S1 C (o_stepOf g kk (sF (sF (sF σ 13 fN) 14 fF) 15 fL) k hk hk6 hI  a (by first | assumption | omega) (nI 59)) kyX11_stepOf tb_1109 tb_1110 rfl (Nat.le_of_ble_eq_true rfl) ⟨by decide, by decide⟩ dX11_layAll_90 rfl (fun vr ur hp => ?_)
                  obtain ⟨r7, rfl, hu, g6⟩ := hp
                  replace hu := hu.symm
                  subst hu
                  have er7 : r7 = nI 0 := by rw [g6, IM_p he (by omega) (by omega)]; rfl
                  subst er7
                  refine j_istore C [(5, .int (nI 0)), (9, .int ((nI 59) - (nI 48))), (8, .int (nI 59)), (7, .int (nI i)), (6, .int (nI gd)), (4, .int y40_4), (3, .int y40_3), (2, .int y40_2), (1, .int (nI q)), (0, .ref (g 0))] (by decide) rfl dX11_layAll_93 ?_
                  refine j_iload C 0 rfl dX11_layAll_95 ?_
                  refine j_iconst C (nI 1) (by decide) dX11_layAll_97 ?_
                  refine j_icmp_neN C 113 (by decide) (by omega) (by omega) dX11_layAll_98 (fun c8 => ?_) (fun c8 => ?_)
                  · refine j_iload C 0 rfl dX11_layAll_113 ?_
                    refine j_iconst C (nI 2) (by decide) dX11_layAll_115 ?_
                    refine j_icmp_eqN C 125 (by decide) (by omega) (by omega) dX11_layAll_116 (fun c9 => ?_) (fun c9 => ?_)
                    · exact absurd c9 (by decide)
                    · refine j_iload C 0 rfl dX11_layAll_119 ?_
                      refine j_iconst C (nI 3) (by decide) dX11_layAll_121 ?_
                      refine j_icmp_neN C 136 (by decide) (by omega) (by omega) dX11_layAll_122 (fun c10 => ?_) (fun c10 => ?_)
                      · refine j_iload C 0 rfl dX11_layAll_136 ?_
                        refine j_iconst C (nI 5) (by decide) dX11_layAll_138 ?_
                        refine j_icmp_neN C 149 (by decide) (by omega) (by omega) dX11_layAll_139 (fun c11 => ?_) (fun c11 => ?_)
                        · refine j_iload C 0 rfl dX11_layAll_149 ?_
                          refine j_bipush C (nI 6) (by decide) dX11_layAll_151 ?_
                          refine j_icmp_neN C 169 (by decide) (by omega) (by omega) dX11_layAll_153 (fun c12 => ?_) (fun c12 => ?_)
                          · refine j_iload C 0 rfl dX11_layAll_169 ?_
                            refine j_if_neN C 200 (by decide) (by omega) dX11_layAll_171 (fun c13 => ?_) (fun c13 => ?_)
                            · exact absurd c13 (by decide)
                            · refine j_iload C 4 rfl dX11_layAll_174 ?_
                              refine j_if_eqN C 194 (by decide) (by omega) dX11_layAll_176 (fun c14 => ?_) (fun c14 => ?_)
                              · refine j_iconst C (nI 0) (by decide) dX11_layAll_194 ?_
                                refine j_istore C [(6, .int (nI 0)), (5, .int (nI 0)), (9, .int ((nI 59) - (nI 48))), (8, .int (nI 59)), (7, .int (nI i)), (4, .int y40_4), (3, .int y40_3), (2, .int y40_2), (1, .int (nI q)), (0, .ref (g 0))] (by decide) rfl dX11_layAll_195 ?_
                                refine j_iinc C (nI (q + 1)) [(1, .int (nI (q + 1))), (6, .int (nI 0)), (5, .int (nI 0)), (9, .int ((nI 59) - (nI 48))), (8, .int (nI 59)), (7, .int (nI i)), (4, .int y40_4), (3, .int y40_3), (2, .int y40_2), (0, .ref (g 0))] 8 rfl (by rw [show Int32.ofInt 1 = nI 1 from by decide, nI_add]) (by decide) rfl dX11_layAll_197 ?_
                                refine j_iinc C (nI (i + 1)) [(7, .int (nI (i + 1))), (1, .int (nI (q + 1))), (6, .int (nI 0)), (5, .int (nI 0)), (9, .int ((nI 59) - (nI 48))), (8, .int (nI 59)), (4, .int y40_4), (3, .int y40_3), (2, .int y40_2), (0, .ref (g 0))] 5 rfl (by rw [show Int32.ofInt 1 = nI 1 from by decide, nI_add]) (by decide) rfl dX11_layAll_200 ?_
                                refine j_goto C 40 (by decide) dX11_layAll_203 ?_
                                refine j_sub (lv' := [(7, .int (nI (i + 1))), (6, .int (nI 0)), (5, .int (nI 0)), (4, .int y40_4), (3, .int y40_3), (2, .int y40_2), (1, .int (nI (q + 1))), (0, .ref (g 0))]) [0, 2, 3, 6, 7, 8, 1, 9] rfl ?_
                                exact ih40 (i + 1) 0 0 y40_4 y40_3 y40_2 (q + 1) fN fF fL (by omega) (by omega) (by omega) (by omega) (IM_z he (by omega) (Or.inr (by omega)) (by omega)) hs (by omega)
                              · refine j_aload_n C 9 rfl dX11_layAll_179 ?_
                                refine j_iload_n C 7 rfl dX11_layAll_180 ?_
                                refine j_iload_n C 6 rfl dX11_layAll_181 ?_
                                refine j_iload C 5 rfl dX11_layAll_182 ?_
                                obtain ⟨b9, hb9, e1, e2, e3⟩ := IM_q he (by omega) (Or.inr (by omega))
                                subst e1
                                rcases e3 with rfl | rfl | rfl
                                · rcases e2 with rfl | ⟨e9, he9, rfl⟩
                                  · refine j_V1 C (o_ly120_1 g kk (sF (sF (sF σ 13 fN) 14 fF) 15 fL) k hk hk6 hI hs b9 (by first | assumption | omega)) kyX11_lay tb_1123 tb_1125 sp_23 0 rfl (eM_0 g kk _) rfl (Nat.le_of_ble_eq_true rfl) ⟨by decide, by decide⟩ dX11_layAll_184 rfl (fun vr ur hp => ?_)
                                    obtain ⟨r20, rfl, w15, w16, w17, hu, g18, g19⟩ := hp
                                    replace hu := hu.symm
                                    subst hu
                                    rcases g18 with ⟨hok, hr, h13, h14, h15⟩ | ⟨hno, hr⟩
                                    · subst hr
                                      refine j_if_eqN C 194 (by decide) (by omega) dX11_layAll_187 (fun c21 => ?_) (fun c21 => ?_)
                                      · exact absurd c21 (by decide)
                                      · refine j_iconst C (nI 1) (by decide) dX11_layAll_190 ?_
                                        refine j_goto C 195 (by decide) dX11_layAll_191 ?_
                                        refine j_istore C [(6, .int (nI 1)), (5, .int (nI 0)), (9, .int ((nI 59) - (nI 48))), (8, .int (nI 59)), (7, .int (nI i)), (4, .int (-6)), (3, .int (nI b9)), (2, .int (nI 120)), (1, .int (nI q)), (0, .ref (g 0))] (by decide) rfl dX11_layAll_195 ?_
                                        refine j_iinc C (nI (q + 1)) [(1, .int (nI (q + 1))), (6, .int (nI 1)), (5, .int (nI 0)), (9, .int ((nI 59) - (nI 48))), (8, .int (nI 59)), (7, .int (nI i)), (4, .int (-6)), (3, .int (nI b9)), (2, .int (nI 120)), (0, .ref (g 0))] 8 rfl (by rw [show Int32.ofInt 1 = nI 1 from by decide, nI_add]) (by decide) rfl dX11_layAll_197 ?_
                                        refine j_iinc C (nI (i + 1)) [(7, .int (nI (i + 1))), (1, .int (nI (q + 1))), (6, .int (nI 1)), (5, .int (nI 0)), (9, .int ((nI 59) - (nI 48))), (8, .int (nI 59)), (4, .int (-6)), (3, .int (nI b9)), (2, .int (nI 120)), (0, .ref (g 0))] 5 rfl (by rw [show Int32.ofInt 1 = nI 1 from by decide, nI_add]) (by decide) rfl dX11_layAll_200 ?_
                                        refine j_goto C 40 (by decide) dX11_layAll_203 ?_
                                        refine j_sub (lv' := [(7, .int (nI (i + 1))), (6, .int (nI 1)), (5, .int (nI 0)), (4, .int (-6)), (3, .int (nI b9)), (2, .int (nI 120)), (1, .int (nI (q + 1))), (0, .ref (g 0))]) [0, 2, 3, 6, 7, 8, 1, 9] rfl ?_
                                        refine j_w (cM g kk (sF (sF (sF σ 13 w15) 14 w16) 15 w17)) (congrArg (cM g kk) (show sF (sF (sF (sF (sF (sF σ 13 fN) 14 fF) 15 fL) 13 w15) 14 w16) 15 w17 = sF (sF (sF σ 13 w15) 14 w16) 15 w17 from (Eq.trans (wrF (Eq.trans (wrF (Eq.trans (wrFc (by decide)) (wrF (Eq.trans (wrFc (by decide)) (wrF wrFs))))) (Eq.trans (wrFc (by decide)) (wrF wrFs)))) wrFs))) ?_
                                        exact ih40 (i + 1) 1 0 (-6) (nI b9) (nI 120) (q + 1) w15 w16 w17 (by omega) (by omega) (by omega) (by omega) (IM_ok (e := 0) he (by omega) (Or.inr (by omega)) (by omega) (by omega) rfl (Or.inl ⟨rfl, rfl⟩) (iO120_1.mpr hok) (iS120_1 (z := (fN, fF, fL, q)) h13 h14 h15 rfl)) g19 (by omega)
                                    · subst hr
                                      refine j_if_eqN C 194 (by decide) (by omega) dX11_layAll_187 (fun c22 => ?_) (fun c22 => ?_)
                                      · refine j_iconst C (nI 0) (by decide) dX11_layAll_194 ?_
                                        refine j_istore C [(6, .int (nI 0)), (5, .int (nI 0)), (9, .int ((nI 59) - (nI 48))), (8, .int (nI 59)), (7, .int (nI i)), (4, .int (-6)), (3, .int (nI b9)), (2, .int (nI 120)), (1, .int (nI q)), (0, .ref (g 0))] (by decide) rfl dX11_layAll_195 ?_
                                        refine j_iinc C (nI (q + 1)) [(1, .int (nI (q + 1))), (6, .int (nI 0)), (5, .int (nI 0)), (9, .int ((nI 59) - (nI 48))), (8, .int (nI 59)), (7, .int (nI i)), (4, .int (-6)), (3, .int (nI b9)), (2, .int (nI 120)), (0, .ref (g 0))] 8 rfl (by rw [show Int32.ofInt 1 = nI 1 from by decide, nI_add]) (by decide) rfl dX11_layAll_197 ?_
                                        refine j_iinc C (nI (i + 1)) [(7, .int (nI (i + 1))), (1, .int (nI (q + 1))), (6, .int (nI 0)), (5, .int (nI 0)), (9, .int ((nI 59) - (nI 48))), (8, .int (nI 59)), (4, .int (-6)), (3, .int (nI b9)), (2, .int (nI 120)), (0, .ref (g 0))] 5 rfl (by rw [show Int32.ofInt 1 = nI 1 from by decide, nI_add]) (by decide) rfl dX11_layAll_200 ?_
                                        refine j_goto C 40 (by decide) dX11_layAll_203 ?_
                                        refine j_sub (lv' := [(7, .int (nI (i + 1))), (6, .int (nI 0)), (5, .int (nI 0)), (4, .int (-6)), (3, .int (nI b9)), (2, .int (nI 120)), (1, .int (nI (q + 1))), (0, .ref (g 0))]) [0, 2, 3, 6, 7, 8, 1, 9] rfl ?_
                                        refine j_w (cM g kk (sF (sF (sF σ 13 w15) 14 w16) 15 w17)) (congrArg (cM g kk) (show sF (sF (sF (sF (sF (sF σ 13 fN) 14 fF) 15 fL) 13 w15) 14 w16) 15 w17 = sF (sF (sF σ 13 w15) 14 w16) 15 w17 from (Eq.trans (wrF (Eq.trans (wrF (Eq.trans (wrFc (by decide)) (wrF (Eq.trans (wrFc (by decide)) (wrF wrFs))))) (Eq.trans (wrFc (by decide)) (wrF wrFs)))) wrFs))) ?_
                                        exact ih40 (i + 1) 0 0 (-6) (nI b9) (nI 120) (q + 1) w15 w16 w17 (by omega) (by omega) (by omega) (by omega) (IM_no (e := 0) he (by omega) (Or.inr (by omega)) (by omega) (by omega) rfl (Or.inl ⟨rfl, rfl⟩) (fun w => hno (iO120_1.mp w))) g19 (by omega)
                                      · exact absurd c22 (by decide)
                                  · refine j_V1 C (o_ly120_2 g kk (sF (sF (sF σ 13 fN) 14 fF) 15 fL) k hk hk6 hI hs b9 (by first | assumption | omega) e9 (by first | assumption | omega)) kyX11_lay tb_1123 tb_1125 sp_23 0 rfl (eM_0 g kk _) rfl (Nat.le_of_ble_eq_true rfl) ⟨by decide, by decide⟩ dX11_layAll_184 rfl (fun vr ur hp => ?_)
                                    obtain ⟨r28, rfl, w23, w24, w25, hu, g26, g27⟩ := hp
                                    replace hu := hu.symm
                                    subst hu
                                    rcases g26 with ⟨hok, hr, h13, h14, h15⟩ | ⟨hno, hr⟩
                                    · subst hr
                                      refine j_if_eqN C 194 (by decide) (by omega) dX11_layAll_187 (fun c29 => ?_) (fun c29 => ?_)
                                      · exact absurd c29 (by decide)
                                      · refine j_iconst C (nI 1) (by decide) dX11_layAll_190 ?_
                                        refine j_goto C 195 (by decide) dX11_layAll_191 ?_
                                        refine j_istore C [(6, .int (nI 1)), (5, .int (nI 0)), (9, .int ((nI 59) - (nI 48))), (8, .int (nI 59)), (7, .int (nI i)), (4, .int (nI e9)), (3, .int (nI b9)), (2, .int (nI 120)), (1, .int (nI q)), (0, .ref (g 0))] (by decide) rfl dX11_layAll_195 ?_
                                        refine j_iinc C (nI (q + 1)) [(1, .int (nI (q + 1))), (6, .int (nI 1)), (5, .int (nI 0)), (9, .int ((nI 59) - (nI 48))), (8, .int (nI 59)), (7, .int (nI i)), (4, .int (nI e9)), (3, .int (nI b9)), (2, .int (nI 120)), (0, .ref (g 0))] 8 rfl (by rw [show Int32.ofInt 1 = nI 1 from by decide, nI_add]) (by decide) rfl dX11_layAll_197 ?_
                                        refine j_iinc C (nI (i + 1)) [(7, .int (nI (i + 1))), (1, .int (nI (q + 1))), (6, .int (nI 1)), (5, .int (nI 0)), (9, .int ((nI 59) - (nI 48))), (8, .int (nI 59)), (4, .int (nI e9)), (3, .int (nI b9)), (2, .int (nI 120)), (0, .ref (g 0))] 5 rfl (by rw [show Int32.ofInt 1 = nI 1 from by decide, nI_add]) (by decide) rfl dX11_layAll_200 ?_
                                        refine j_goto C 40 (by decide) dX11_layAll_203 ?_
                                        refine j_sub (lv' := [(7, .int (nI (i + 1))), (6, .int (nI 1)), (5, .int (nI 0)), (4, .int (nI e9)), (3, .int (nI b9)), (2, .int (nI 120)), (1, .int (nI (q + 1))), (0, .ref (g 0))]) [0, 2, 3, 6, 7, 8, 1, 9] rfl ?_
                                        refine j_w (cM g kk (sF (sF (sF σ 13 w23) 14 w24) 15 w25)) (congrArg (cM g kk) (show sF (sF (sF (sF (sF (sF σ 13 fN) 14 fF) 15 fL) 13 w23) 14 w24) 15 w25 = sF (sF (sF σ 13 w23) 14 w24) 15 w25 from (Eq.trans (wrF (Eq.trans (wrF (Eq.trans (wrFc (by decide)) (wrF (Eq.trans (wrFc (by decide)) (wrF wrFs))))) (Eq.trans (wrFc (by decide)) (wrF wrFs)))) wrFs))) ?_
                                        exact ih40 (i + 1) 1 0 (nI e9) (nI b9) (nI 120) (q + 1) w23 w24 w25 (by omega) (by omega) (by omega) (by omega) (IM_ok he (by omega) (Or.inr (by omega)) (by omega) (by omega) rfl (Or.inr ⟨rfl, by omega, rfl⟩) (iO120_2.mpr hok) (iS120_2 (z := (fN, fF, fL, q)) h13 h14 h15 rfl)) g27 (by omega)
                                    · subst hr
                                      refine j_if_eqN C 194 (by decide) (by omega) dX11_layAll_187 (fun c30 => ?_) (fun c30 => ?_)
                                      · refine j_iconst C (nI 0) (by decide) dX11_layAll_194 ?_
                                        refine j_istore C [(6, .int (nI 0)), (5, .int (nI 0)), (9, .int ((nI 59) - (nI 48))), (8, .int (nI 59)), (7, .int (nI i)), (4, .int (nI e9)), (3, .int (nI b9)), (2, .int (nI 120)), (1, .int (nI q)), (0, .ref (g 0))] (by decide) rfl dX11_layAll_195 ?_
                                        refine j_iinc C (nI (q + 1)) [(1, .int (nI (q + 1))), (6, .int (nI 0)), (5, .int (nI 0)), (9, .int ((nI 59) - (nI 48))), (8, .int (nI 59)), (7, .int (nI i)), (4, .int (nI e9)), (3, .int (nI b9)), (2, .int (nI 120)), (0, .ref (g 0))] 8 rfl (by rw [show Int32.ofInt 1 = nI 1 from by decide, nI_add]) (by decide) rfl dX11_layAll_197 ?_
                                        refine j_iinc C (nI (i + 1)) [(7, .int (nI (i + 1))), (1, .int (nI (q + 1))), (6, .int (nI 0)), (5, .int (nI 0)), (9, .int ((nI 59) - (nI 48))), (8, .int (nI 59)), (4, .int (nI e9)), (3, .int (nI b9)), (2, .int (nI 120)), (0, .ref (g 0))] 5 rfl (by rw [show Int32.ofInt 1 = nI 1 from by decide, nI_add]) (by decide) rfl dX11_layAll_200 ?_
                                        refine j_goto C 40 (by decide) dX11_layAll_203 ?_
                                        refine j_sub (lv' := [(7, .int (nI (i + 1))), (6, .int (nI 0)), (5, .int (nI 0)), (4, .int (nI e9)), (3, .int (nI b9)), (2, .int (nI 120)), (1, .int (nI (q + 1))), (0, .ref (g 0))]) [0, 2, 3, 6, 7, 8, 1, 9] rfl ?_
                                        refine j_w (cM g kk (sF (sF (sF σ 13 w23) 14 w24) 15 w25)) (congrArg (cM g kk) (show sF (sF (sF (sF (sF (sF σ 13 fN) 14 fF) 15 fL) 13 w23) 14 w24) 15 w25 = sF (sF (sF σ 13 w23) 14 w24) 15 w25 from (Eq.trans (wrF (Eq.trans (wrF (Eq.trans (wrFc (by decide)) (wrF (Eq.trans (wrFc (by decide)) (wrF wrFs))))) (Eq.trans (wrFc (by decide)) (wrF wrFs)))) wrFs))) ?_
                                        exact ih40 (i + 1) 0 0 (nI e9) (nI b9) (nI 120) (q + 1) w23 w24 w25 (by omega) (by omega) (by omega) (by omega) (IM_no he (by omega) (Or.inr (by omega)) (by omega) (by omega) rfl (Or.inr ⟨rfl, by omega, rfl⟩) (fun w => hno (iO120_2.mp w))) g27 (by omega)
                                      · exact absurd c30 (by decide)
                                · rcases e2 with rfl | ⟨e9, he9, rfl⟩
                                  · refine j_V1 C (o_ly108_1 g kk (sF (sF (sF σ 13 fN) 14 fF) 15 fL) k hk hk6 hI hs b9 (by first | assumption | omega)) kyX11_lay tb_1123 tb_1125 sp_23 0 rfl (eM_0 g kk _) rfl (Nat.le_of_ble_eq_true rfl) ⟨by decide, by decide⟩ dX11_layAll_184 rfl (fun vr ur hp => ?_)
                                    obtain ⟨r36, rfl, w31, w32, w33, hu, g34, g35⟩ := hp
                                    replace hu := hu.symm
                                    subst hu
                                    rcases g34 with ⟨hok, hr, h13, h14, h15⟩ | ⟨hno, hr⟩
                                    · subst hr
                                      refine j_if_eqN C 194 (by decide) (by omega) dX11_layAll_187 (fun c37 => ?_) (fun c37 => ?_)
                                      · exact absurd c37 (by decide)
                                      · refine j_iconst C (nI 1) (by decide) dX11_layAll_190 ?_
                                        refine j_goto C 195 (by decide) dX11_layAll_191 ?_
                                        refine j_istore C [(6, .int (nI 1)), (5, .int (nI 0)), (9, .int ((nI 59) - (nI 48))), (8, .int (nI 59)), (7, .int (nI i)), (4, .int (-6)), (3, .int (nI b9)), (2, .int (nI 108)), (1, .int (nI q)), (0, .ref (g 0))] (by decide) rfl dX11_layAll_195 ?_
                                        refine j_iinc C (nI (q + 1)) [(1, .int (nI (q + 1))), (6, .int (nI 1)), (5, .int (nI 0)), (9, .int ((nI 59) - (nI 48))), (8, .int (nI 59)), (7, .int (nI i)), (4, .int (-6)), (3, .int (nI b9)), (2, .int (nI 108)), (0, .ref (g 0))] 8 rfl (by rw [show Int32.ofInt 1 = nI 1 from by decide, nI_add]) (by decide) rfl dX11_layAll_197 ?_
                                        refine j_iinc C (nI (i + 1)) [(7, .int (nI (i + 1))), (1, .int (nI (q + 1))), (6, .int (nI 1)), (5, .int (nI 0)), (9, .int ((nI 59) - (nI 48))), (8, .int (nI 59)), (4, .int (-6)), (3, .int (nI b9)), (2, .int (nI 108)), (0, .ref (g 0))] 5 rfl (by rw [show Int32.ofInt 1 = nI 1 from by decide, nI_add]) (by decide) rfl dX11_layAll_200 ?_
                                        refine j_goto C 40 (by decide) dX11_layAll_203 ?_
                                        refine j_sub (lv' := [(7, .int (nI (i + 1))), (6, .int (nI 1)), (5, .int (nI 0)), (4, .int (-6)), (3, .int (nI b9)), (2, .int (nI 108)), (1, .int (nI (q + 1))), (0, .ref (g 0))]) [0, 2, 3, 6, 7, 8, 1, 9] rfl ?_
                                        refine j_w (cM g kk (sF (sF (sF σ 13 w31) 14 w32) 15 w33)) (congrArg (cM g kk) (show sF (sF (sF (sF (sF (sF σ 13 fN) 14 fF) 15 fL) 13 w31) 14 w32) 15 w33 = sF (sF (sF σ 13 w31) 14 w32) 15 w33 from (Eq.trans (wrF (Eq.trans (wrF (Eq.trans (wrFc (by decide)) (wrF (Eq.trans (wrFc (by decide)) (wrF wrFs))))) (Eq.trans (wrFc (by decide)) (wrF wrFs)))) wrFs))) ?_
                                        exact ih40 (i + 1) 1 0 (-6) (nI b9) (nI 108) (q + 1) w31 w32 w33 (by omega) (by omega) (by omega) (by omega) (IM_ok (e := 0) he (by omega) (Or.inr (by omega)) (by omega) (by omega) rfl (Or.inl ⟨rfl, rfl⟩) (iO108_1.mpr hok) (iS108_1 (z := (fN, fF, fL, q)) h13 h14 h15 rfl)) g35 (by omega)
                                    · subst hr
                                      refine j_if_eqN C 194 (by decide) (by omega) dX11_layAll_187 (fun c38 => ?_) (fun c38 => ?_)
                                      · refine j_iconst C (nI 0) (by decide) dX11_layAll_194 ?_
                                        refine j_istore C [(6, .int (nI 0)), (5, .int (nI 0)), (9, .int ((nI 59) - (nI 48))), (8, .int (nI 59)), (7, .int (nI i)), (4, .int (-6)), (3, .int (nI b9)), (2, .int (nI 108)), (1, .int (nI q)), (0, .ref (g 0))] (by decide) rfl dX11_layAll_195 ?_
                                        refine j_iinc C (nI (q + 1)) [(1, .int (nI (q + 1))), (6, .int (nI 0)), (5, .int (nI 0)), (9, .int ((nI 59) - (nI 48))), (8, .int (nI 59)), (7, .int (nI i)), (4, .int (-6)), (3, .int (nI b9)), (2, .int (nI 108)), (0, .ref (g 0))] 8 rfl (by rw [show Int32.ofInt 1 = nI 1 from by decide, nI_add]) (by decide) rfl dX11_layAll_197 ?_
                                        refine j_iinc C (nI (i + 1)) [(7, .int (nI (i + 1))), (1, .int (nI (q + 1))), (6, .int (nI 0)), (5, .int (nI 0)), (9, .int ((nI 59) - (nI 48))), (8, .int (nI 59)), (4, .int (-6)), (3, .int (nI b9)), (2, .int (nI 108)), (0, .ref (g 0))] 5 rfl (by rw [show Int32.ofInt 1 = nI 1 from by decide, nI_add]) (by decide) rfl dX11_layAll_200 ?_
                                        refine j_goto C 40 (by decide) dX11_layAll_203 ?_
                                        refine j_sub (lv' := [(7, .int (nI (i + 1))), (6, .int (nI 0)), (5, .int (nI 0)), (4, .int (-6)), (3, .int (nI b9)), (2, .int (nI 108)), (1, .int (nI (q + 1))), (0, .ref (g 0))]) [0, 2, 3, 6, 7, 8, 1, 9] rfl ?_
                                        refine j_w (cM g kk (sF (sF (sF σ 13 w31) 14 w32) 15 w33)) (congrArg (cM g kk) (show sF (sF (sF (sF (sF (sF σ 13 fN) 14 fF) 15 fL) 13 w31) 14 w32) 15 w33 = sF (sF (sF σ 13 w31) 14 w32) 15 w33 from (Eq.trans (wrF (Eq.trans (wrF (Eq.trans (wrFc (by decide)) (wrF (Eq.trans (wrFc (by decide)) (wrF wrFs))))) (Eq.trans (wrFc (by decide)) (wrF wrFs)))) wrFs))) ?_
                                        exact ih40 (i + 1) 0 0 (-6) (nI b9) (nI 108) (q + 1) w31 w32 w33 (by omega) (by omega) (by omega) (by omega) (IM_no (e := 0) he (by omega) (Or.inr (by omega)) (by omega) (by omega) rfl (Or.inl ⟨rfl, rfl⟩) (fun w => hno (iO108_1.mp w))) g35 (by omega)
                                      · exact absurd c38 (by decide)
                                  · refine j_V1 C (o_ly108_2 g kk (sF (sF (sF σ 13 fN) 14 fF) 15 fL) k hk hk6 hI hs b9 (by first | assumption | omega) e9 (by first | assumption | omega)) kyX11_lay tb_1123 tb_1125 sp_23 0 rfl (eM_0 g kk _) rfl (Nat.le_of_ble_eq_true rfl) ⟨by decide, by decide⟩ dX11_layAll_184 rfl (fun vr ur hp => ?_)
                                    obtain ⟨r44, rfl, w39, w40, w41, hu, g42, g43⟩ := hp
                                    replace hu := hu.symm
                                    subst hu
                                    rcases g42 with ⟨hok, hr, h13, h14, h15⟩ | ⟨hno, hr⟩
                                    · subst hr
                                      refine j_if_eqN C 194 (by decide) (by omega) dX11_layAll_187 (fun c45 => ?_) (fun c45 => ?_)
                                      · exact absurd c45 (by decide)
                                      · refine j_iconst C (nI 1) (by decide) dX11_layAll_190 ?_
                                        refine j_goto C 195 (by decide) dX11_layAll_191 ?_
                                        refine j_istore C [(6, .int (nI 1)), (5, .int (nI 0)), (9, .int ((nI 59) - (nI 48))), (8, .int (nI 59)), (7, .int (nI i)), (4, .int (nI e9)), (3, .int (nI b9)), (2, .int (nI 108)), (1, .int (nI q)), (0, .ref (g 0))] (by decide) rfl dX11_layAll_195 ?_
                                        refine j_iinc C (nI (q + 1)) [(1, .int (nI (q + 1))), (6, .int (nI 1)), (5, .int (nI 0)), (9, .int ((nI 59) - (nI 48))), (8, .int (nI 59)), (7, .int (nI i)), (4, .int (nI e9)), (3, .int (nI b9)), (2, .int (nI 108)), (0, .ref (g 0))] 8 rfl (by rw [show Int32.ofInt 1 = nI 1 from by decide, nI_add]) (by decide) rfl dX11_layAll_197 ?_
                                        refine j_iinc C (nI (i + 1)) [(7, .int (nI (i + 1))), (1, .int (nI (q + 1))), (6, .int (nI 1)), (5, .int (nI 0)), (9, .int ((nI 59) - (nI 48))), (8, .int (nI 59)), (4, .int (nI e9)), (3, .int (nI b9)), (2, .int (nI 108)), (0, .ref (g 0))] 5 rfl (by rw [show Int32.ofInt 1 = nI 1 from by decide, nI_add]) (by decide) rfl dX11_layAll_200 ?_
                                        refine j_goto C 40 (by decide) dX11_layAll_203 ?_
                                        refine j_sub (lv' := [(7, .int (nI (i + 1))), (6, .int (nI 1)), (5, .int (nI 0)), (4, .int (nI e9)), (3, .int (nI b9)), (2, .int (nI 108)), (1, .int (nI (q + 1))), (0, .ref (g 0))]) [0, 2, 3, 6, 7, 8, 1, 9] rfl ?_
                                        refine j_w (cM g kk (sF (sF (sF σ 13 w39) 14 w40) 15 w41)) (congrArg (cM g kk) (show sF (sF (sF (sF (sF (sF σ 13 fN) 14 fF) 15 fL) 13 w39) 14 w40) 15 w41 = sF (sF (sF σ 13 w39) 14 w40) 15 w41 from (Eq.trans (wrF (Eq.trans (wrF (Eq.trans (wrFc (by decide)) (wrF (Eq.trans (wrFc (by decide)) (wrF wrFs))))) (Eq.trans (wrFc (by decide)) (wrF wrFs)))) wrFs))) ?_
                                        exact ih40 (i + 1) 1 0 (nI e9) (nI b9) (nI 108) (q + 1) w39 w40 w41 (by omega) (by omega) (by omega) (by omega) (IM_ok he (by omega) (Or.inr (by omega)) (by omega) (by omega) rfl (Or.inr ⟨rfl, by omega, rfl⟩) (iO108_2.mpr hok) (iS108_2 (z := (fN, fF, fL, q)) h13 h14 h15 rfl)) g43 (by omega)
                                    · subst hr
                                      refine j_if_eqN C 194 (by decide) (by omega) dX11_layAll_187 (fun c46 => ?_) (fun c46 => ?_)
                                      · refine j_iconst C (nI 0) (by decide) dX11_layAll_194 ?_
                                        refine j_istore C [(6, .int (nI 0)), (5, .int (nI 0)), (9, .int ((nI 59) - (nI 48))), (8, .int (nI 59)), (7, .int (nI i)), (4, .int (nI e9)), (3, .int (nI b9)), (2, .int (nI 108)), (1, .int (nI q)), (0, .ref (g 0))] (by decide) rfl dX11_layAll_195 ?_
                                        refine j_iinc C (nI (q + 1)) [(1, .int (nI (q + 1))), (6, .int (nI 0)), (5, .int (nI 0)), (9, .int ((nI 59) - (nI 48))), (8, .int (nI 59)), (7, .int (nI i)), (4, .int (nI e9)), (3, .int (nI b9)), (2, .int (nI 108)), (0, .ref (g 0))] 8 rfl (by rw [show Int32.ofInt 1 = nI 1 from by decide, nI_add]) (by decide) rfl dX11_layAll_197 ?_
                                        refine j_iinc C (nI (i + 1)) [(7, .int (nI (i + 1))), (1, .int (nI (q + 1))), (6, .int (nI 0)), (5, .int (nI 0)), (9, .int ((nI 59) - (nI 48))), (8, .int (nI 59)), (4, .int (nI e9)), (3, .int (nI b9)), (2, .int (nI 108)), (0, .ref (g 0))] 5 rfl (by rw [show Int32.ofInt 1 = nI 1 from by decide, nI_add]) (by decide) rfl dX11_layAll_200 ?_
                                        refine j_goto C 40 (by decide) dX11_layAll_203 ?_
                                        refine j_sub (lv' := [(7, .int (nI (i + 1))), (6, .int (nI 0)), (5, .int (nI 0)), (4, .int (nI e9)), (3, .int (nI b9)), (2, .int (nI 108)), (1, .int (nI (q + 1))), (0, .ref (g 0))]) [0, 2, 3, 6, 7, 8, 1, 9] rfl ?_
                                        refine j_w (cM g kk (sF (sF (sF σ 13 w39) 14 w40) 15 w41)) (congrArg (cM g kk) (show sF (sF (sF (sF (sF (sF σ 13 fN) 14 fF) 15 fL) 13 w39) 14 w40) 15 w41 = sF (sF (sF σ 13 w39) 14 w40) 15 w41 from (Eq.trans (wrF (Eq.trans (wrF (Eq.trans (wrFc (by decide)) (wrF (Eq.trans (wrFc (by decide)) (wrF wrFs))))) (Eq.trans (wrFc (by decide)) (wrF wrFs)))) wrFs))) ?_
                                        exact ih40 (i + 1) 0 0 (nI e9) (nI b9) (nI 108) (q + 1) w39 w40 w41 (by omega) (by omega) (by omega) (by omega) (IM_no he (by omega) (Or.inr (by omega)) (by omega) (by omega) rfl (Or.inr ⟨rfl, by omega, rfl⟩) (fun w => hno (iO108_2.mp w))) g43 (by omega)
                                      · exact absurd c46 (by decide)
                                · rcases e2 with rfl | ⟨e9, he9, rfl⟩
                                  · rcases Nat.eq_zero_or_pos b9 with rfl | hb1
                                    · refine j_V1 C (o_ly115_z g kk (sF (sF (sF σ 13 fN) 14 fF) 15 fL) k hk hk6 hI hs ) kyX11_lay tb_1123 tb_1125 sp_23 0 rfl (eM_0 g kk _) rfl (Nat.le_of_ble_eq_true rfl) ⟨by decide, by decide⟩ dX11_layAll_184 rfl (fun vr ur hp => ?_)
                                      obtain ⟨r48, rfl, hu, g47⟩ := hp
                                      replace hu := hu.symm
                                      subst hu
                                      have hr := g47
                                      subst hr
                                      refine j_if_eqN C 194 (by decide) (by omega) dX11_layAll_187 (fun c49 => ?_) (fun c49 => ?_)
                                      · refine j_iconst C (nI 0) (by decide) dX11_layAll_194 ?_
                                        refine j_istore C [(6, .int (nI 0)), (5, .int (nI 0)), (9, .int ((nI 59) - (nI 48))), (8, .int (nI 59)), (7, .int (nI i)), (4, .int (-6)), (3, .int (nI 0)), (2, .int (nI 115)), (1, .int (nI q)), (0, .ref (g 0))] (by decide) rfl dX11_layAll_195 ?_
                                        refine j_iinc C (nI (q + 1)) [(1, .int (nI (q + 1))), (6, .int (nI 0)), (5, .int (nI 0)), (9, .int ((nI 59) - (nI 48))), (8, .int (nI 59)), (7, .int (nI i)), (4, .int (-6)), (3, .int (nI 0)), (2, .int (nI 115)), (0, .ref (g 0))] 8 rfl (by rw [show Int32.ofInt 1 = nI 1 from by decide, nI_add]) (by decide) rfl dX11_layAll_197 ?_
                                        refine j_iinc C (nI (i + 1)) [(7, .int (nI (i + 1))), (1, .int (nI (q + 1))), (6, .int (nI 0)), (5, .int (nI 0)), (9, .int ((nI 59) - (nI 48))), (8, .int (nI 59)), (4, .int (-6)), (3, .int (nI 0)), (2, .int (nI 115)), (0, .ref (g 0))] 5 rfl (by rw [show Int32.ofInt 1 = nI 1 from by decide, nI_add]) (by decide) rfl dX11_layAll_200 ?_
                                        refine j_goto C 40 (by decide) dX11_layAll_203 ?_
                                        refine j_sub (lv' := [(7, .int (nI (i + 1))), (6, .int (nI 0)), (5, .int (nI 0)), (4, .int (-6)), (3, .int (nI 0)), (2, .int (nI 115)), (1, .int (nI (q + 1))), (0, .ref (g 0))]) [0, 2, 3, 6, 7, 8, 1, 9] rfl ?_
                                        exact ih40 (i + 1) 0 0 (-6) (nI 0) (nI 115) (q + 1) fN fF fL (by omega) (by omega) (by omega) (by omega) (IM_no (e := 0) he (by omega) (Or.inr (by omega)) (by omega) (by omega) rfl (Or.inl ⟨rfl, rfl⟩) iO0) hs (by omega)
                                      · exact absurd c49 (by decide)
                                    · refine j_V1 C (o_ly115_1 g kk (sF (sF (sF σ 13 fN) 14 fF) 15 fL) k hk hk6 hI hs b9 (by first | assumption | omega) (by first | assumption | omega)) kyX11_lay tb_1123 tb_1125 sp_23 0 rfl (eM_0 g kk _) rfl (Nat.le_of_ble_eq_true rfl) ⟨by decide, by decide⟩ dX11_layAll_184 rfl (fun vr ur hp => ?_)
                                      obtain ⟨r55, rfl, w50, w51, w52, hu, g53, g54⟩ := hp
                                      replace hu := hu.symm
                                      subst hu
                                      rcases g53 with ⟨hok, hr, h13, h14, h15⟩ | ⟨hno, hr⟩
                                      · subst hr
                                        refine j_if_eqN C 194 (by decide) (by omega) dX11_layAll_187 (fun c56 => ?_) (fun c56 => ?_)
                                        · exact absurd c56 (by decide)
                                        · refine j_iconst C (nI 1) (by decide) dX11_layAll_190 ?_
                                          refine j_goto C 195 (by decide) dX11_layAll_191 ?_
                                          refine j_istore C [(6, .int (nI 1)), (5, .int (nI 0)), (9, .int ((nI 59) - (nI 48))), (8, .int (nI 59)), (7, .int (nI i)), (4, .int (-6)), (3, .int (nI b9)), (2, .int (nI 115)), (1, .int (nI q)), (0, .ref (g 0))] (by decide) rfl dX11_layAll_195 ?_
                                          refine j_iinc C (nI (q + 1)) [(1, .int (nI (q + 1))), (6, .int (nI 1)), (5, .int (nI 0)), (9, .int ((nI 59) - (nI 48))), (8, .int (nI 59)), (7, .int (nI i)), (4, .int (-6)), (3, .int (nI b9)), (2, .int (nI 115)), (0, .ref (g 0))] 8 rfl (by rw [show Int32.ofInt 1 = nI 1 from by decide, nI_add]) (by decide) rfl dX11_layAll_197 ?_
                                          refine j_iinc C (nI (i + 1)) [(7, .int (nI (i + 1))), (1, .int (nI (q + 1))), (6, .int (nI 1)), (5, .int (nI 0)), (9, .int ((nI 59) - (nI 48))), (8, .int (nI 59)), (4, .int (-6)), (3, .int (nI b9)), (2, .int (nI 115)), (0, .ref (g 0))] 5 rfl (by rw [show Int32.ofInt 1 = nI 1 from by decide, nI_add]) (by decide) rfl dX11_layAll_200 ?_
                                          refine j_goto C 40 (by decide) dX11_layAll_203 ?_
                                          refine j_sub (lv' := [(7, .int (nI (i + 1))), (6, .int (nI 1)), (5, .int (nI 0)), (4, .int (-6)), (3, .int (nI b9)), (2, .int (nI 115)), (1, .int (nI (q + 1))), (0, .ref (g 0))]) [0, 2, 3, 6, 7, 8, 1, 9] rfl ?_
                                          refine j_w (cM g kk (sF (sF (sF σ 13 w50) 14 w51) 15 w52)) (congrArg (cM g kk) (show sF (sF (sF (sF (sF (sF σ 13 fN) 14 fF) 15 fL) 13 w50) 14 w51) 15 w52 = sF (sF (sF σ 13 w50) 14 w51) 15 w52 from (Eq.trans (wrF (Eq.trans (wrF (Eq.trans (wrFc (by decide)) (wrF (Eq.trans (wrFc (by decide)) (wrF wrFs))))) (Eq.trans (wrFc (by decide)) (wrF wrFs)))) wrFs))) ?_
                                          exact ih40 (i + 1) 1 0 (-6) (nI b9) (nI 115) (q + 1) w50 w51 w52 (by omega) (by omega) (by omega) (by omega) (IM_ok (e := 0) he (by omega) (Or.inr (by omega)) (by omega) (by omega) rfl (Or.inl ⟨rfl, rfl⟩) ((iO115_1 hb1).mpr hok) (iS115_1 (z := (fN, fF, fL, q)) h13 h14 h15 rfl)) g54 (by omega)
                                      · subst hr
                                        refine j_if_eqN C 194 (by decide) (by omega) dX11_layAll_187 (fun c57 => ?_) (fun c57 => ?_)
                                        · refine j_iconst C (nI 0) (by decide) dX11_layAll_194 ?_
                                          refine j_istore C [(6, .int (nI 0)), (5, .int (nI 0)), (9, .int ((nI 59) - (nI 48))), (8, .int (nI 59)), (7, .int (nI i)), (4, .int (-6)), (3, .int (nI b9)), (2, .int (nI 115)), (1, .int (nI q)), (0, .ref (g 0))] (by decide) rfl dX11_layAll_195 ?_
                                          refine j_iinc C (nI (q + 1)) [(1, .int (nI (q + 1))), (6, .int (nI 0)), (5, .int (nI 0)), (9, .int ((nI 59) - (nI 48))), (8, .int (nI 59)), (7, .int (nI i)), (4, .int (-6)), (3, .int (nI b9)), (2, .int (nI 115)), (0, .ref (g 0))] 8 rfl (by rw [show Int32.ofInt 1 = nI 1 from by decide, nI_add]) (by decide) rfl dX11_layAll_197 ?_
                                          refine j_iinc C (nI (i + 1)) [(7, .int (nI (i + 1))), (1, .int (nI (q + 1))), (6, .int (nI 0)), (5, .int (nI 0)), (9, .int ((nI 59) - (nI 48))), (8, .int (nI 59)), (4, .int (-6)), (3, .int (nI b9)), (2, .int (nI 115)), (0, .ref (g 0))] 5 rfl (by rw [show Int32.ofInt 1 = nI 1 from by decide, nI_add]) (by decide) rfl dX11_layAll_200 ?_
                                          refine j_goto C 40 (by decide) dX11_layAll_203 ?_
                                          refine j_sub (lv' := [(7, .int (nI (i + 1))), (6, .int (nI 0)), (5, .int (nI 0)), (4, .int (-6)), (3, .int (nI b9)), (2, .int (nI 115)), (1, .int (nI (q + 1))), (0, .ref (g 0))]) [0, 2, 3, 6, 7, 8, 1, 9] rfl ?_
                                          refine j_w (cM g kk (sF (sF (sF σ 13 w50) 14 w51) 15 w52)) (congrArg (cM g kk) (show sF (sF (sF (sF (sF (sF σ 13 fN) 14 fF) 15 fL) 13 w50) 14 w51) 15 w52 = sF (sF (sF σ 13 w50) 14 w51) 15 w52 from (Eq.trans (wrF (Eq.trans (wrF (Eq.trans (wrFc (by decide)) (wrF (Eq.trans (wrFc (by decide)) (wrF wrFs))))) (Eq.trans (wrFc (by decide)) (wrF wrFs)))) wrFs))) ?_
                                          exact ih40 (i + 1) 0 0 (-6) (nI b9) (nI 115) (q + 1) w50 w51 w52 (by omega) (by omega) (by omega) (by omega) (IM_no (e := 0) he (by omega) (Or.inr (by omega)) (by omega) (by omega) rfl (Or.inl ⟨rfl, rfl⟩) (fun w => hno ((iO115_1 hb1).mp w))) g54 (by omega)
                                        · exact absurd c57 (by decide)
                                  · refine j_V1 C (o_ly115_2 g kk (sF (sF (sF σ 13 fN) 14 fF) 15 fL) k hk hk6 hI hs b9 (by first | assumption | omega) e9 (by first | assumption | omega)) kyX11_lay tb_1123 tb_1125 sp_23 0 rfl (eM_0 g kk _) rfl (Nat.le_of_ble_eq_true rfl) ⟨by decide, by decide⟩ dX11_layAll_184 rfl (fun vr ur hp => ?_)
                                    obtain ⟨r63, rfl, w58, w59, w60, hu, g61, g62⟩ := hp
                                    replace hu := hu.symm
                                    subst hu
                                    rcases g61 with ⟨hok, hr, h13, h14, h15⟩ | ⟨hno, hr⟩
                                    · subst hr
                                      refine j_if_eqN C 194 (by decide) (by omega) dX11_layAll_187 (fun c64 => ?_) (fun c64 => ?_)
                                      · exact absurd c64 (by decide)
                                      · refine j_iconst C (nI 1) (by decide) dX11_layAll_190 ?_
                                        refine j_goto C 195 (by decide) dX11_layAll_191 ?_
                                        refine j_istore C [(6, .int (nI 1)), (5, .int (nI 0)), (9, .int ((nI 59) - (nI 48))), (8, .int (nI 59)), (7, .int (nI i)), (4, .int (nI e9)), (3, .int (nI b9)), (2, .int (nI 115)), (1, .int (nI q)), (0, .ref (g 0))] (by decide) rfl dX11_layAll_195 ?_
                                        refine j_iinc C (nI (q + 1)) [(1, .int (nI (q + 1))), (6, .int (nI 1)), (5, .int (nI 0)), (9, .int ((nI 59) - (nI 48))), (8, .int (nI 59)), (7, .int (nI i)), (4, .int (nI e9)), (3, .int (nI b9)), (2, .int (nI 115)), (0, .ref (g 0))] 8 rfl (by rw [show Int32.ofInt 1 = nI 1 from by decide, nI_add]) (by decide) rfl dX11_layAll_197 ?_
                                        refine j_iinc C (nI (i + 1)) [(7, .int (nI (i + 1))), (1, .int (nI (q + 1))), (6, .int (nI 1)), (5, .int (nI 0)), (9, .int ((nI 59) - (nI 48))), (8, .int (nI 59)), (4, .int (nI e9)), (3, .int (nI b9)), (2, .int (nI 115)), (0, .ref (g 0))] 5 rfl (by rw [show Int32.ofInt 1 = nI 1 from by decide, nI_add]) (by decide) rfl dX11_layAll_200 ?_
                                        refine j_goto C 40 (by decide) dX11_layAll_203 ?_
                                        refine j_sub (lv' := [(7, .int (nI (i + 1))), (6, .int (nI 1)), (5, .int (nI 0)), (4, .int (nI e9)), (3, .int (nI b9)), (2, .int (nI 115)), (1, .int (nI (q + 1))), (0, .ref (g 0))]) [0, 2, 3, 6, 7, 8, 1, 9] rfl ?_
                                        refine j_w (cM g kk (sF (sF (sF σ 13 w58) 14 w59) 15 w60)) (congrArg (cM g kk) (show sF (sF (sF (sF (sF (sF σ 13 fN) 14 fF) 15 fL) 13 w58) 14 w59) 15 w60 = sF (sF (sF σ 13 w58) 14 w59) 15 w60 from (Eq.trans (wrF (Eq.trans (wrF (Eq.trans (wrFc (by decide)) (wrF (Eq.trans (wrFc (by decide)) (wrF wrFs))))) (Eq.trans (wrFc (by decide)) (wrF wrFs)))) wrFs))) ?_
                                        exact ih40 (i + 1) 1 0 (nI e9) (nI b9) (nI 115) (q + 1) w58 w59 w60 (by omega) (by omega) (by omega) (by omega) (IM_ok he (by omega) (Or.inr (by omega)) (by omega) (by omega) rfl (Or.inr ⟨rfl, by omega, rfl⟩) (iO115_2.mpr hok) (iS115_2 (z := (fN, fF, fL, q)) h13 h14 h15 rfl)) g62 (by omega)
                                    · subst hr
                                      refine j_if_eqN C 194 (by decide) (by omega) dX11_layAll_187 (fun c65 => ?_) (fun c65 => ?_)
                                      · refine j_iconst C (nI 0) (by decide) dX11_layAll_194 ?_
                                        refine j_istore C [(6, .int (nI 0)), (5, .int (nI 0)), (9, .int ((nI 59) - (nI 48))), (8, .int (nI 59)), (7, .int (nI i)), (4, .int (nI e9)), (3, .int (nI b9)), (2, .int (nI 115)), (1, .int (nI q)), (0, .ref (g 0))] (by decide) rfl dX11_layAll_195 ?_
                                        refine j_iinc C (nI (q + 1)) [(1, .int (nI (q + 1))), (6, .int (nI 0)), (5, .int (nI 0)), (9, .int ((nI 59) - (nI 48))), (8, .int (nI 59)), (7, .int (nI i)), (4, .int (nI e9)), (3, .int (nI b9)), (2, .int (nI 115)), (0, .ref (g 0))] 8 rfl (by rw [show Int32.ofInt 1 = nI 1 from by decide, nI_add]) (by decide) rfl dX11_layAll_197 ?_
                                        refine j_iinc C (nI (i + 1)) [(7, .int (nI (i + 1))), (1, .int (nI (q + 1))), (6, .int (nI 0)), (5, .int (nI 0)), (9, .int ((nI 59) - (nI 48))), (8, .int (nI 59)), (4, .int (nI e9)), (3, .int (nI b9)), (2, .int (nI 115)), (0, .ref (g 0))] 5 rfl (by rw [show Int32.ofInt 1 = nI 1 from by decide, nI_add]) (by decide) rfl dX11_layAll_200 ?_
                                        refine j_goto C 40 (by decide) dX11_layAll_203 ?_
                                        refine j_sub (lv' := [(7, .int (nI (i + 1))), (6, .int (nI 0)), (5, .int (nI 0)), (4, .int (nI e9)), (3, .int (nI b9)), (2, .int (nI 115)), (1, .int (nI (q + 1))), (0, .ref (g 0))]) [0, 2, 3, 6, 7, 8, 1, 9] rfl ?_
                                        refine j_w (cM g kk (sF (sF (sF σ 13 w58) 14 w59) 15 w60)) (congrArg (cM g kk) (show sF (sF (sF (sF (sF (sF σ 13 fN) 14 fF) 15 fL) 13 w58) 14 w59) 15 w60 = sF (sF (sF σ 13 w58) 14 w59) 15 w60 from (Eq.trans (wrF (Eq.trans (wrF (Eq.trans (wrFc (by decide)) (wrF (Eq.trans (wrFc (by decide)) (wrF wrFs))))) (Eq.trans (wrFc (by decide)) (wrF wrFs)))) wrFs))) ?_
                                        exact ih40 (i + 1) 0 0 (nI e9) (nI b9) (nI 115) (q + 1) w58 w59 w60 (by omega) (by omega) (by omega) (by omega) (IM_no he (by omega) (Or.inr (by omega)) (by omega) (by omega) rfl (Or.inr ⟨rfl, by omega, rfl⟩) (fun w => hno (iO115_2.mp w))) g62 (by omega)
                                      · exact absurd c65 (by decide)
                          · exact absurd c12 (by decide)
                        · exact absurd c11 (by decide)
                      · exact absurd c10 (by decide)
                  · exact absurd c8 (by decide)
                · refine j_aload_n C 7 rfl dX11_layAll_65 ?_
                  refine gM_0_14 C tb_887 dX11_layAll_66 ?_
                  refine j_iload C 0 rfl dX11_layAll_69 ?_
                  refine rM_9 C i rfl (by omega) ((σ.2.1 9) i) rfl dX11_layAll_71 ?_
                  refine j_goto C 77 (by decide) dX11_layAll_72 ?_
                  refine j_istore C [(8, .int ((σ.2.1 9) i)), (7, .int (nI i)), (6, .int (nI gd)), (5, .int (nI a)), (4, .int y40_4), (3, .int y40_3), (2, .int y40_2), (1, .int (nI q)), (0, .ref (g 0))] (by decide) rfl dX11_layAll_77 ?_
                  refine j_iload C 0 rfl dX11_layAll_79 ?_
                  refine j_bipush C (nI 48) (by decide) dX11_layAll_81 ?_
                  refine j_isub C dX11_layAll_83 ?_
                  refine j_istore C [(9, .int (((σ.2.1 9) i) - (nI 48))), (8, .int ((σ.2.1 9) i)), (7, .int (nI i)), (6, .int (nI gd)), (5, .int (nI a)), (4, .int y40_4), (3, .int y40_3), (2, .int y40_2), (1, .int (nI q)), (0, .ref (g 0))] (by decide) rfl dX11_layAll_84 ?_
                  refine j_iload C 4 rfl dX11_layAll_86 ?_
                  refine j_iload C 1 rfl dX11_layAll_88 ?_
                  refine j_S1 C (o_stepOf g kk (sF (sF (sF σ 13 fN) 14 fF) 15 fL) k hk hk6 hI  a (by first | assumption | omega) ((σ.2.1 9) i)) kyX11_stepOf tb_1109 tb_1110 rfl (Nat.le_of_ble_eq_true rfl) ⟨by decide, by decide⟩ dX11_layAll_90 rfl (fun vr ur hp => ?_)
                  obtain ⟨r67, rfl, hu, g66⟩ := hp
                  replace hu := hu.symm
                  subst hu
                  have h7 := IM_7 he (by omega) (by omega)
                  have hnl := nx_le a ((σ.2.1 9) i)
                  have er67 : r67 = nI (nx a ((σ.2.1 9) i)) := by rw [g66]; unfold sgn; rw [if_neg h7]
                  subst er67
                  refine j_istore C [(5, .int (nI (nx a ((σ.2.1 9) i)))), (9, .int (((σ.2.1 9) i) - (nI 48))), (8, .int ((σ.2.1 9) i)), (7, .int (nI i)), (6, .int (nI gd)), (4, .int y40_4), (3, .int y40_3), (2, .int y40_2), (1, .int (nI q)), (0, .ref (g 0))] (by decide) rfl dX11_layAll_93 ?_
                  refine j_iload C 0 rfl dX11_layAll_95 ?_
                  refine j_iconst C (nI 1) (by decide) dX11_layAll_97 ?_
                  refine j_icmp_neN C 113 (by decide) (by omega) (by omega) dX11_layAll_98 (fun c68 => ?_) (fun c68 => ?_)
                  · refine j_iload C 0 rfl dX11_layAll_113 ?_
                    refine j_iconst C (nI 2) (by decide) dX11_layAll_115 ?_
                    refine j_icmp_eqN C 125 (by decide) (by omega) (by omega) dX11_layAll_116 (fun c69 => ?_) (fun c69 => ?_)
                    · refine j_bipush C (nI 10) (by decide) dX11_layAll_125 ?_
                      refine j_iload_n C 6 rfl dX11_layAll_127 ?_
                      refine j_imul C dX11_layAll_128 ?_
                      refine j_iload C 1 rfl dX11_layAll_129 ?_
                      refine j_iadd C dX11_layAll_131 ?_
                      refine j_istore_n C [(3, .int (((nI 10) * y40_3) + (((σ.2.1 9) i) - (nI 48)))), (5, .int (nI (nx a ((σ.2.1 9) i)))), (9, .int (((σ.2.1 9) i) - (nI 48))), (8, .int ((σ.2.1 9) i)), (7, .int (nI i)), (6, .int (nI gd)), (4, .int y40_4), (2, .int y40_2), (1, .int (nI q)), (0, .ref (g 0))] rfl (by decide) rfl dX11_layAll_132 ?_
                      refine j_goto C 200 (by decide) dX11_layAll_133 ?_
                      refine j_iinc C (nI (i + 1)) [(7, .int (nI (i + 1))), (3, .int (((nI 10) * y40_3) + (((σ.2.1 9) i) - (nI 48)))), (5, .int (nI (nx a ((σ.2.1 9) i)))), (9, .int (((σ.2.1 9) i) - (nI 48))), (8, .int ((σ.2.1 9) i)), (6, .int (nI gd)), (4, .int y40_4), (2, .int y40_2), (1, .int (nI q)), (0, .ref (g 0))] 4 rfl (by rw [show Int32.ofInt 1 = nI 1 from by decide, nI_add]) (by decide) rfl dX11_layAll_200 ?_
                      refine j_goto C 40 (by decide) dX11_layAll_203 ?_
                      refine j_sub (lv' := [(7, .int (nI (i + 1))), (6, .int (nI gd)), (5, .int (nI (nx a ((σ.2.1 9) i)))), (4, .int y40_4), (3, .int (((nI 10) * y40_3) + (((σ.2.1 9) i) - (nI 48)))), (2, .int y40_2), (1, .int (nI q)), (0, .ref (g 0))]) [0, 5, 2, 6, 1, 7, 8, 9] rfl ?_
                      exact ih40 (i + 1) gd (nx a ((σ.2.1 9) i)) y40_4 (((nI 10) * y40_3) + (((σ.2.1 9) i) - (nI 48))) y40_2 q fN fF fL (by omega) (by omega) (by omega) (by omega) (IM_23 he (by omega) (by omega) (Or.inl c69)) hs (by omega)
                    · refine j_iload C 0 rfl dX11_layAll_119 ?_
                      refine j_iconst C (nI 3) (by decide) dX11_layAll_121 ?_
                      refine j_icmp_neN C 136 (by decide) (by omega) (by omega) dX11_layAll_122 (fun c70 => ?_) (fun c70 => ?_)
                      · refine j_iload C 0 rfl dX11_layAll_136 ?_
                        refine j_iconst C (nI 5) (by decide) dX11_layAll_138 ?_
                        refine j_icmp_neN C 149 (by decide) (by omega) (by omega) dX11_layAll_139 (fun c71 => ?_) (fun c71 => ?_)
                        · refine j_iload C 0 rfl dX11_layAll_149 ?_
                          refine j_bipush C (nI 6) (by decide) dX11_layAll_151 ?_
                          refine j_icmp_neN C 169 (by decide) (by omega) (by omega) dX11_layAll_153 (fun c72 => ?_) (fun c72 => ?_)
                          · refine j_iload C 0 rfl dX11_layAll_169 ?_
                            refine j_if_neN C 200 (by decide) (by omega) dX11_layAll_171 (fun c73 => ?_) (fun c73 => ?_)
                            · refine j_iinc C (nI (i + 1)) [(7, .int (nI (i + 1))), (5, .int (nI (nx a ((σ.2.1 9) i)))), (9, .int (((σ.2.1 9) i) - (nI 48))), (8, .int ((σ.2.1 9) i)), (6, .int (nI gd)), (4, .int y40_4), (3, .int y40_3), (2, .int y40_2), (1, .int (nI q)), (0, .ref (g 0))] 3 rfl (by rw [show Int32.ofInt 1 = nI 1 from by decide, nI_add]) (by decide) rfl dX11_layAll_200 ?_
                              refine j_goto C 40 (by decide) dX11_layAll_203 ?_
                              refine j_sub (lv' := [(7, .int (nI (i + 1))), (6, .int (nI gd)), (5, .int (nI (nx a ((σ.2.1 9) i)))), (4, .int y40_4), (3, .int y40_3), (2, .int y40_2), (1, .int (nI q)), (0, .ref (g 0))]) [0, 4, 1, 5, 6, 7, 8, 9] rfl ?_
                              exact ih40 (i + 1) gd (nx a ((σ.2.1 9) i)) y40_4 y40_3 y40_2 q fN fF fL (by omega) (by omega) (by omega) (by omega) (IM_4 he (by omega) (by omega) c73 c68 c69 c70 c71 c72) hs (by omega)
                            · refine j_iload C 4 rfl dX11_layAll_174 ?_
                              refine j_if_eqN C 194 (by decide) (by omega) dX11_layAll_176 (fun c74 => ?_) (fun c74 => ?_)
                              · refine j_iconst C (nI 0) (by decide) dX11_layAll_194 ?_
                                refine j_istore C [(6, .int (nI 0)), (5, .int (nI (nx a ((σ.2.1 9) i)))), (9, .int (((σ.2.1 9) i) - (nI 48))), (8, .int ((σ.2.1 9) i)), (7, .int (nI i)), (4, .int y40_4), (3, .int y40_3), (2, .int y40_2), (1, .int (nI q)), (0, .ref (g 0))] (by decide) rfl dX11_layAll_195 ?_
                                refine j_iinc C (nI (q + 1)) [(1, .int (nI (q + 1))), (6, .int (nI 0)), (5, .int (nI (nx a ((σ.2.1 9) i)))), (9, .int (((σ.2.1 9) i) - (nI 48))), (8, .int ((σ.2.1 9) i)), (7, .int (nI i)), (4, .int y40_4), (3, .int y40_3), (2, .int y40_2), (0, .ref (g 0))] 8 rfl (by rw [show Int32.ofInt 1 = nI 1 from by decide, nI_add]) (by decide) rfl dX11_layAll_197 ?_
                                refine j_iinc C (nI (i + 1)) [(7, .int (nI (i + 1))), (1, .int (nI (q + 1))), (6, .int (nI 0)), (5, .int (nI (nx a ((σ.2.1 9) i)))), (9, .int (((σ.2.1 9) i) - (nI 48))), (8, .int ((σ.2.1 9) i)), (4, .int y40_4), (3, .int y40_3), (2, .int y40_2), (0, .ref (g 0))] 5 rfl (by rw [show Int32.ofInt 1 = nI 1 from by decide, nI_add]) (by decide) rfl dX11_layAll_200 ?_
                                refine j_goto C 40 (by decide) dX11_layAll_203 ?_
                                refine j_sub (lv' := [(7, .int (nI (i + 1))), (6, .int (nI 0)), (5, .int (nI (nx a ((σ.2.1 9) i)))), (4, .int y40_4), (3, .int y40_3), (2, .int y40_2), (1, .int (nI (q + 1))), (0, .ref (g 0))]) [0, 2, 3, 6, 7, 8, 1, 9] rfl ?_
                                exact ih40 (i + 1) 0 (nx a ((σ.2.1 9) i)) y40_4 y40_3 y40_2 (q + 1) fN fF fL (by omega) (by omega) (by omega) (by omega) (by rw [c73]; exact IM_z he (by omega) (Or.inl ⟨by omega, c73⟩) (by omega)) hs (by omega)
                              · refine j_aload_n C 9 rfl dX11_layAll_179 ?_
                                refine j_iload_n C 7 rfl dX11_layAll_180 ?_
                                refine j_iload_n C 6 rfl dX11_layAll_181 ?_
                                refine j_iload C 5 rfl dX11_layAll_182 ?_
                                obtain ⟨b9, hb9, e1, e2, e3⟩ := IM_q he (by omega) (Or.inl ⟨by omega, c73⟩)
                                subst e1
                                rcases e3 with rfl | rfl | rfl
                                · rcases e2 with rfl | ⟨e9, he9, rfl⟩
                                  · refine j_V1 C (o_ly120_1 g kk (sF (sF (sF σ 13 fN) 14 fF) 15 fL) k hk hk6 hI hs b9 (by first | assumption | omega)) kyX11_lay tb_1123 tb_1125 sp_23 0 rfl (eM_0 g kk _) rfl (Nat.le_of_ble_eq_true rfl) ⟨by decide, by decide⟩ dX11_layAll_184 rfl (fun vr ur hp => ?_)
                                    obtain ⟨r80, rfl, w75, w76, w77, hu, g78, g79⟩ := hp
                                    replace hu := hu.symm
                                    subst hu
                                    rcases g78 with ⟨hok, hr, h13, h14, h15⟩ | ⟨hno, hr⟩
                                    · subst hr
                                      refine j_if_eqN C 194 (by decide) (by omega) dX11_layAll_187 (fun c81 => ?_) (fun c81 => ?_)
                                      · exact absurd c81 (by decide)
                                      · refine j_iconst C (nI 1) (by decide) dX11_layAll_190 ?_
                                        refine j_goto C 195 (by decide) dX11_layAll_191 ?_
                                        refine j_istore C [(6, .int (nI 1)), (5, .int (nI (nx a ((σ.2.1 9) i)))), (9, .int (((σ.2.1 9) i) - (nI 48))), (8, .int ((σ.2.1 9) i)), (7, .int (nI i)), (4, .int (-6)), (3, .int (nI b9)), (2, .int (nI 120)), (1, .int (nI q)), (0, .ref (g 0))] (by decide) rfl dX11_layAll_195 ?_
                                        refine j_iinc C (nI (q + 1)) [(1, .int (nI (q + 1))), (6, .int (nI 1)), (5, .int (nI (nx a ((σ.2.1 9) i)))), (9, .int (((σ.2.1 9) i) - (nI 48))), (8, .int ((σ.2.1 9) i)), (7, .int (nI i)), (4, .int (-6)), (3, .int (nI b9)), (2, .int (nI 120)), (0, .ref (g 0))] 8 rfl (by rw [show Int32.ofInt 1 = nI 1 from by decide, nI_add]) (by decide) rfl dX11_layAll_197 ?_
                                        refine j_iinc C (nI (i + 1)) [(7, .int (nI (i + 1))), (1, .int (nI (q + 1))), (6, .int (nI 1)), (5, .int (nI (nx a ((σ.2.1 9) i)))), (9, .int (((σ.2.1 9) i) - (nI 48))), (8, .int ((σ.2.1 9) i)), (4, .int (-6)), (3, .int (nI b9)), (2, .int (nI 120)), (0, .ref (g 0))] 5 rfl (by rw [show Int32.ofInt 1 = nI 1 from by decide, nI_add]) (by decide) rfl dX11_layAll_200 ?_
                                        refine j_goto C 40 (by decide) dX11_layAll_203 ?_
                                        refine j_sub (lv' := [(7, .int (nI (i + 1))), (6, .int (nI 1)), (5, .int (nI (nx a ((σ.2.1 9) i)))), (4, .int (-6)), (3, .int (nI b9)), (2, .int (nI 120)), (1, .int (nI (q + 1))), (0, .ref (g 0))]) [0, 2, 3, 6, 7, 8, 1, 9] rfl ?_
                                        refine j_w (cM g kk (sF (sF (sF σ 13 w75) 14 w76) 15 w77)) (congrArg (cM g kk) (show sF (sF (sF (sF (sF (sF σ 13 fN) 14 fF) 15 fL) 13 w75) 14 w76) 15 w77 = sF (sF (sF σ 13 w75) 14 w76) 15 w77 from (Eq.trans (wrF (Eq.trans (wrF (Eq.trans (wrFc (by decide)) (wrF (Eq.trans (wrFc (by decide)) (wrF wrFs))))) (Eq.trans (wrFc (by decide)) (wrF wrFs)))) wrFs))) ?_
                                        exact ih40 (i + 1) 1 (nx a ((σ.2.1 9) i)) (-6) (nI b9) (nI 120) (q + 1) w75 w76 w77 (by omega) (by omega) (by omega) (by omega) (by rw [c73]; exact IM_ok (e := 0) he (by omega) (Or.inl ⟨by omega, c73⟩) (by omega) (by omega) rfl (Or.inl ⟨rfl, rfl⟩) (iO120_1.mpr hok) (iS120_1 (z := (fN, fF, fL, q)) h13 h14 h15 rfl)) g79 (by omega)
                                    · subst hr
                                      refine j_if_eqN C 194 (by decide) (by omega) dX11_layAll_187 (fun c82 => ?_) (fun c82 => ?_)
                                      · refine j_iconst C (nI 0) (by decide) dX11_layAll_194 ?_
                                        refine j_istore C [(6, .int (nI 0)), (5, .int (nI (nx a ((σ.2.1 9) i)))), (9, .int (((σ.2.1 9) i) - (nI 48))), (8, .int ((σ.2.1 9) i)), (7, .int (nI i)), (4, .int (-6)), (3, .int (nI b9)), (2, .int (nI 120)), (1, .int (nI q)), (0, .ref (g 0))] (by decide) rfl dX11_layAll_195 ?_
                                        refine j_iinc C (nI (q + 1)) [(1, .int (nI (q + 1))), (6, .int (nI 0)), (5, .int (nI (nx a ((σ.2.1 9) i)))), (9, .int (((σ.2.1 9) i) - (nI 48))), (8, .int ((σ.2.1 9) i)), (7, .int (nI i)), (4, .int (-6)), (3, .int (nI b9)), (2, .int (nI 120)), (0, .ref (g 0))] 8 rfl (by rw [show Int32.ofInt 1 = nI 1 from by decide, nI_add]) (by decide) rfl dX11_layAll_197 ?_
                                        refine j_iinc C (nI (i + 1)) [(7, .int (nI (i + 1))), (1, .int (nI (q + 1))), (6, .int (nI 0)), (5, .int (nI (nx a ((σ.2.1 9) i)))), (9, .int (((σ.2.1 9) i) - (nI 48))), (8, .int ((σ.2.1 9) i)), (4, .int (-6)), (3, .int (nI b9)), (2, .int (nI 120)), (0, .ref (g 0))] 5 rfl (by rw [show Int32.ofInt 1 = nI 1 from by decide, nI_add]) (by decide) rfl dX11_layAll_200 ?_
                                        refine j_goto C 40 (by decide) dX11_layAll_203 ?_
                                        refine j_sub (lv' := [(7, .int (nI (i + 1))), (6, .int (nI 0)), (5, .int (nI (nx a ((σ.2.1 9) i)))), (4, .int (-6)), (3, .int (nI b9)), (2, .int (nI 120)), (1, .int (nI (q + 1))), (0, .ref (g 0))]) [0, 2, 3, 6, 7, 8, 1, 9] rfl ?_
                                        refine j_w (cM g kk (sF (sF (sF σ 13 w75) 14 w76) 15 w77)) (congrArg (cM g kk) (show sF (sF (sF (sF (sF (sF σ 13 fN) 14 fF) 15 fL) 13 w75) 14 w76) 15 w77 = sF (sF (sF σ 13 w75) 14 w76) 15 w77 from (Eq.trans (wrF (Eq.trans (wrF (Eq.trans (wrFc (by decide)) (wrF (Eq.trans (wrFc (by decide)) (wrF wrFs))))) (Eq.trans (wrFc (by decide)) (wrF wrFs)))) wrFs))) ?_
                                        exact ih40 (i + 1) 0 (nx a ((σ.2.1 9) i)) (-6) (nI b9) (nI 120) (q + 1) w75 w76 w77 (by omega) (by omega) (by omega) (by omega) (by rw [c73]; exact IM_no (e := 0) he (by omega) (Or.inl ⟨by omega, c73⟩) (by omega) (by omega) rfl (Or.inl ⟨rfl, rfl⟩) (fun w => hno (iO120_1.mp w))) g79 (by omega)
                                      · exact absurd c82 (by decide)
                                  · refine j_V1 C (o_ly120_2 g kk (sF (sF (sF σ 13 fN) 14 fF) 15 fL) k hk hk6 hI hs b9 (by first | assumption | omega) e9 (by first | assumption | omega)) kyX11_lay tb_1123 tb_1125 sp_23 0 rfl (eM_0 g kk _) rfl (Nat.le_of_ble_eq_true rfl) ⟨by decide, by decide⟩ dX11_layAll_184 rfl (fun vr ur hp => ?_)
                                    obtain ⟨r88, rfl, w83, w84, w85, hu, g86, g87⟩ := hp
                                    replace hu := hu.symm
                                    subst hu
                                    rcases g86 with ⟨hok, hr, h13, h14, h15⟩ | ⟨hno, hr⟩
                                    · subst hr
                                      refine j_if_eqN C 194 (by decide) (by omega) dX11_layAll_187 (fun c89 => ?_) (fun c89 => ?_)
                                      · exact absurd c89 (by decide)
                                      · refine j_iconst C (nI 1) (by decide) dX11_layAll_190 ?_
                                        refine j_goto C 195 (by decide) dX11_layAll_191 ?_
                                        refine j_istore C [(6, .int (nI 1)), (5, .int (nI (nx a ((σ.2.1 9) i)))), (9, .int (((σ.2.1 9) i) - (nI 48))), (8, .int ((σ.2.1 9) i)), (7, .int (nI i)), (4, .int (nI e9)), (3, .int (nI b9)), (2, .int (nI 120)), (1, .int (nI q)), (0, .ref (g 0))] (by decide) rfl dX11_layAll_195 ?_
                                        refine j_iinc C (nI (q + 1)) [(1, .int (nI (q + 1))), (6, .int (nI 1)), (5, .int (nI (nx a ((σ.2.1 9) i)))), (9, .int (((σ.2.1 9) i) - (nI 48))), (8, .int ((σ.2.1 9) i)), (7, .int (nI i)), (4, .int (nI e9)), (3, .int (nI b9)), (2, .int (nI 120)), (0, .ref (g 0))] 8 rfl (by rw [show Int32.ofInt 1 = nI 1 from by decide, nI_add]) (by decide) rfl dX11_layAll_197 ?_
                                        refine j_iinc C (nI (i + 1)) [(7, .int (nI (i + 1))), (1, .int (nI (q + 1))), (6, .int (nI 1)), (5, .int (nI (nx a ((σ.2.1 9) i)))), (9, .int (((σ.2.1 9) i) - (nI 48))), (8, .int ((σ.2.1 9) i)), (4, .int (nI e9)), (3, .int (nI b9)), (2, .int (nI 120)), (0, .ref (g 0))] 5 rfl (by rw [show Int32.ofInt 1 = nI 1 from by decide, nI_add]) (by decide) rfl dX11_layAll_200 ?_
                                        refine j_goto C 40 (by decide) dX11_layAll_203 ?_
                                        refine j_sub (lv' := [(7, .int (nI (i + 1))), (6, .int (nI 1)), (5, .int (nI (nx a ((σ.2.1 9) i)))), (4, .int (nI e9)), (3, .int (nI b9)), (2, .int (nI 120)), (1, .int (nI (q + 1))), (0, .ref (g 0))]) [0, 2, 3, 6, 7, 8, 1, 9] rfl ?_
                                        refine j_w (cM g kk (sF (sF (sF σ 13 w83) 14 w84) 15 w85)) (congrArg (cM g kk) (show sF (sF (sF (sF (sF (sF σ 13 fN) 14 fF) 15 fL) 13 w83) 14 w84) 15 w85 = sF (sF (sF σ 13 w83) 14 w84) 15 w85 from (Eq.trans (wrF (Eq.trans (wrF (Eq.trans (wrFc (by decide)) (wrF (Eq.trans (wrFc (by decide)) (wrF wrFs))))) (Eq.trans (wrFc (by decide)) (wrF wrFs)))) wrFs))) ?_
                                        exact ih40 (i + 1) 1 (nx a ((σ.2.1 9) i)) (nI e9) (nI b9) (nI 120) (q + 1) w83 w84 w85 (by omega) (by omega) (by omega) (by omega) (by rw [c73]; exact IM_ok he (by omega) (Or.inl ⟨by omega, c73⟩) (by omega) (by omega) rfl (Or.inr ⟨rfl, by omega, rfl⟩) (iO120_2.mpr hok) (iS120_2 (z := (fN, fF, fL, q)) h13 h14 h15 rfl)) g87 (by omega)
                                    · subst hr
                                      refine j_if_eqN C 194 (by decide) (by omega) dX11_layAll_187 (fun c90 => ?_) (fun c90 => ?_)
                                      · refine j_iconst C (nI 0) (by decide) dX11_layAll_194 ?_
                                        refine j_istore C [(6, .int (nI 0)), (5, .int (nI (nx a ((σ.2.1 9) i)))), (9, .int (((σ.2.1 9) i) - (nI 48))), (8, .int ((σ.2.1 9) i)), (7, .int (nI i)), (4, .int (nI e9)), (3, .int (nI b9)), (2, .int (nI 120)), (1, .int (nI q)), (0, .ref (g 0))] (by decide) rfl dX11_layAll_195 ?_
                                        refine j_iinc C (nI (q + 1)) [(1, .int (nI (q + 1))), (6, .int (nI 0)), (5, .int (nI (nx a ((σ.2.1 9) i)))), (9, .int (((σ.2.1 9) i) - (nI 48))), (8, .int ((σ.2.1 9) i)), (7, .int (nI i)), (4, .int (nI e9)), (3, .int (nI b9)), (2, .int (nI 120)), (0, .ref (g 0))] 8 rfl (by rw [show Int32.ofInt 1 = nI 1 from by decide, nI_add]) (by decide) rfl dX11_layAll_197 ?_
                                        refine j_iinc C (nI (i + 1)) [(7, .int (nI (i + 1))), (1, .int (nI (q + 1))), (6, .int (nI 0)), (5, .int (nI (nx a ((σ.2.1 9) i)))), (9, .int (((σ.2.1 9) i) - (nI 48))), (8, .int ((σ.2.1 9) i)), (4, .int (nI e9)), (3, .int (nI b9)), (2, .int (nI 120)), (0, .ref (g 0))] 5 rfl (by rw [show Int32.ofInt 1 = nI 1 from by decide, nI_add]) (by decide) rfl dX11_layAll_200 ?_
                                        refine j_goto C 40 (by decide) dX11_layAll_203 ?_
                                        refine j_sub (lv' := [(7, .int (nI (i + 1))), (6, .int (nI 0)), (5, .int (nI (nx a ((σ.2.1 9) i)))), (4, .int (nI e9)), (3, .int (nI b9)), (2, .int (nI 120)), (1, .int (nI (q + 1))), (0, .ref (g 0))]) [0, 2, 3, 6, 7, 8, 1, 9] rfl ?_
                                        refine j_w (cM g kk (sF (sF (sF σ 13 w83) 14 w84) 15 w85)) (congrArg (cM g kk) (show sF (sF (sF (sF (sF (sF σ 13 fN) 14 fF) 15 fL) 13 w83) 14 w84) 15 w85 = sF (sF (sF σ 13 w83) 14 w84) 15 w85 from (Eq.trans (wrF (Eq.trans (wrF (Eq.trans (wrFc (by decide)) (wrF (Eq.trans (wrFc (by decide)) (wrF wrFs))))) (Eq.trans (wrFc (by decide)) (wrF wrFs)))) wrFs))) ?_
                                        exact ih40 (i + 1) 0 (nx a ((σ.2.1 9) i)) (nI e9) (nI b9) (nI 120) (q + 1) w83 w84 w85 (by omega) (by omega) (by omega) (by omega) (by rw [c73]; exact IM_no he (by omega) (Or.inl ⟨by omega, c73⟩) (by omega) (by omega) rfl (Or.inr ⟨rfl, by omega, rfl⟩) (fun w => hno (iO120_2.mp w))) g87 (by omega)
                                      · exact absurd c90 (by decide)
                                · rcases e2 with rfl | ⟨e9, he9, rfl⟩
                                  · refine j_V1 C (o_ly108_1 g kk (sF (sF (sF σ 13 fN) 14 fF) 15 fL) k hk hk6 hI hs b9 (by first | assumption | omega)) kyX11_lay tb_1123 tb_1125 sp_23 0 rfl (eM_0 g kk _) rfl (Nat.le_of_ble_eq_true rfl) ⟨by decide, by decide⟩ dX11_layAll_184 rfl (fun vr ur hp => ?_)
                                    obtain ⟨r96, rfl, w91, w92, w93, hu, g94, g95⟩ := hp
                                    replace hu := hu.symm
                                    subst hu
                                    rcases g94 with ⟨hok, hr, h13, h14, h15⟩ | ⟨hno, hr⟩
                                    · subst hr
                                      refine j_if_eqN C 194 (by decide) (by omega) dX11_layAll_187 (fun c97 => ?_) (fun c97 => ?_)
                                      · exact absurd c97 (by decide)
                                      · refine j_iconst C (nI 1) (by decide) dX11_layAll_190 ?_
                                        refine j_goto C 195 (by decide) dX11_layAll_191 ?_
                                        refine j_istore C [(6, .int (nI 1)), (5, .int (nI (nx a ((σ.2.1 9) i)))), (9, .int (((σ.2.1 9) i) - (nI 48))), (8, .int ((σ.2.1 9) i)), (7, .int (nI i)), (4, .int (-6)), (3, .int (nI b9)), (2, .int (nI 108)), (1, .int (nI q)), (0, .ref (g 0))] (by decide) rfl dX11_layAll_195 ?_
                                        refine j_iinc C (nI (q + 1)) [(1, .int (nI (q + 1))), (6, .int (nI 1)), (5, .int (nI (nx a ((σ.2.1 9) i)))), (9, .int (((σ.2.1 9) i) - (nI 48))), (8, .int ((σ.2.1 9) i)), (7, .int (nI i)), (4, .int (-6)), (3, .int (nI b9)), (2, .int (nI 108)), (0, .ref (g 0))] 8 rfl (by rw [show Int32.ofInt 1 = nI 1 from by decide, nI_add]) (by decide) rfl dX11_layAll_197 ?_
                                        refine j_iinc C (nI (i + 1)) [(7, .int (nI (i + 1))), (1, .int (nI (q + 1))), (6, .int (nI 1)), (5, .int (nI (nx a ((σ.2.1 9) i)))), (9, .int (((σ.2.1 9) i) - (nI 48))), (8, .int ((σ.2.1 9) i)), (4, .int (-6)), (3, .int (nI b9)), (2, .int (nI 108)), (0, .ref (g 0))] 5 rfl (by rw [show Int32.ofInt 1 = nI 1 from by decide, nI_add]) (by decide) rfl dX11_layAll_200 ?_
                                        refine j_goto C 40 (by decide) dX11_layAll_203 ?_
                                        refine j_sub (lv' := [(7, .int (nI (i + 1))), (6, .int (nI 1)), (5, .int (nI (nx a ((σ.2.1 9) i)))), (4, .int (-6)), (3, .int (nI b9)), (2, .int (nI 108)), (1, .int (nI (q + 1))), (0, .ref (g 0))]) [0, 2, 3, 6, 7, 8, 1, 9] rfl ?_
                                        refine j_w (cM g kk (sF (sF (sF σ 13 w91) 14 w92) 15 w93)) (congrArg (cM g kk) (show sF (sF (sF (sF (sF (sF σ 13 fN) 14 fF) 15 fL) 13 w91) 14 w92) 15 w93 = sF (sF (sF σ 13 w91) 14 w92) 15 w93 from (Eq.trans (wrF (Eq.trans (wrF (Eq.trans (wrFc (by decide)) (wrF (Eq.trans (wrFc (by decide)) (wrF wrFs))))) (Eq.trans (wrFc (by decide)) (wrF wrFs)))) wrFs))) ?_
                                        exact ih40 (i + 1) 1 (nx a ((σ.2.1 9) i)) (-6) (nI b9) (nI 108) (q + 1) w91 w92 w93 (by omega) (by omega) (by omega) (by omega) (by rw [c73]; exact IM_ok (e := 0) he (by omega) (Or.inl ⟨by omega, c73⟩) (by omega) (by omega) rfl (Or.inl ⟨rfl, rfl⟩) (iO108_1.mpr hok) (iS108_1 (z := (fN, fF, fL, q)) h13 h14 h15 rfl)) g95 (by omega)
                                    · subst hr
                                      refine j_if_eqN C 194 (by decide) (by omega) dX11_layAll_187 (fun c98 => ?_) (fun c98 => ?_)
                                      · refine j_iconst C (nI 0) (by decide) dX11_layAll_194 ?_
                                        refine j_istore C [(6, .int (nI 0)), (5, .int (nI (nx a ((σ.2.1 9) i)))), (9, .int (((σ.2.1 9) i) - (nI 48))), (8, .int ((σ.2.1 9) i)), (7, .int (nI i)), (4, .int (-6)), (3, .int (nI b9)), (2, .int (nI 108)), (1, .int (nI q)), (0, .ref (g 0))] (by decide) rfl dX11_layAll_195 ?_
                                        refine j_iinc C (nI (q + 1)) [(1, .int (nI (q + 1))), (6, .int (nI 0)), (5, .int (nI (nx a ((σ.2.1 9) i)))), (9, .int (((σ.2.1 9) i) - (nI 48))), (8, .int ((σ.2.1 9) i)), (7, .int (nI i)), (4, .int (-6)), (3, .int (nI b9)), (2, .int (nI 108)), (0, .ref (g 0))] 8 rfl (by rw [show Int32.ofInt 1 = nI 1 from by decide, nI_add]) (by decide) rfl dX11_layAll_197 ?_
                                        refine j_iinc C (nI (i + 1)) [(7, .int (nI (i + 1))), (1, .int (nI (q + 1))), (6, .int (nI 0)), (5, .int (nI (nx a ((σ.2.1 9) i)))), (9, .int (((σ.2.1 9) i) - (nI 48))), (8, .int ((σ.2.1 9) i)), (4, .int (-6)), (3, .int (nI b9)), (2, .int (nI 108)), (0, .ref (g 0))] 5 rfl (by rw [show Int32.ofInt 1 = nI 1 from by decide, nI_add]) (by decide) rfl dX11_layAll_200 ?_
                                        refine j_goto C 40 (by decide) dX11_layAll_203 ?_
                                        refine j_sub (lv' := [(7, .int (nI (i + 1))), (6, .int (nI 0)), (5, .int (nI (nx a ((σ.2.1 9) i)))), (4, .int (-6)), (3, .int (nI b9)), (2, .int (nI 108)), (1, .int (nI (q + 1))), (0, .ref (g 0))]) [0, 2, 3, 6, 7, 8, 1, 9] rfl ?_
                                        refine j_w (cM g kk (sF (sF (sF σ 13 w91) 14 w92) 15 w93)) (congrArg (cM g kk) (show sF (sF (sF (sF (sF (sF σ 13 fN) 14 fF) 15 fL) 13 w91) 14 w92) 15 w93 = sF (sF (sF σ 13 w91) 14 w92) 15 w93 from (Eq.trans (wrF (Eq.trans (wrF (Eq.trans (wrFc (by decide)) (wrF (Eq.trans (wrFc (by decide)) (wrF wrFs))))) (Eq.trans (wrFc (by decide)) (wrF wrFs)))) wrFs))) ?_
                                        exact ih40 (i + 1) 0 (nx a ((σ.2.1 9) i)) (-6) (nI b9) (nI 108) (q + 1) w91 w92 w93 (by omega) (by omega) (by omega) (by omega) (by rw [c73]; exact IM_no (e := 0) he (by omega) (Or.inl ⟨by omega, c73⟩) (by omega) (by omega) rfl (Or.inl ⟨rfl, rfl⟩) (fun w => hno (iO108_1.mp w))) g95 (by omega)
                                      · exact absurd c98 (by decide)
                                  · refine j_V1 C (o_ly108_2 g kk (sF (sF (sF σ 13 fN) 14 fF) 15 fL) k hk hk6 hI hs b9 (by first | assumption | omega) e9 (by first | assumption | omega)) kyX11_lay tb_1123 tb_1125 sp_23 0 rfl (eM_0 g kk _) rfl (Nat.le_of_ble_eq_true rfl) ⟨by decide, by decide⟩ dX11_layAll_184 rfl (fun vr ur hp => ?_)
                                    obtain ⟨r104, rfl, w99, w100, w101, hu, g102, g103⟩ := hp
                                    replace hu := hu.symm
                                    subst hu
                                    rcases g102 with ⟨hok, hr, h13, h14, h15⟩ | ⟨hno, hr⟩
                                    · subst hr
                                      refine j_if_eqN C 194 (by decide) (by omega) dX11_layAll_187 (fun c105 => ?_) (fun c105 => ?_)
                                      · exact absurd c105 (by decide)
                                      · refine j_iconst C (nI 1) (by decide) dX11_layAll_190 ?_
                                        refine j_goto C 195 (by decide) dX11_layAll_191 ?_
                                        refine j_istore C [(6, .int (nI 1)), (5, .int (nI (nx a ((σ.2.1 9) i)))), (9, .int (((σ.2.1 9) i) - (nI 48))), (8, .int ((σ.2.1 9) i)), (7, .int (nI i)), (4, .int (nI e9)), (3, .int (nI b9)), (2, .int (nI 108)), (1, .int (nI q)), (0, .ref (g 0))] (by decide) rfl dX11_layAll_195 ?_
                                        refine j_iinc C (nI (q + 1)) [(1, .int (nI (q + 1))), (6, .int (nI 1)), (5, .int (nI (nx a ((σ.2.1 9) i)))), (9, .int (((σ.2.1 9) i) - (nI 48))), (8, .int ((σ.2.1 9) i)), (7, .int (nI i)), (4, .int (nI e9)), (3, .int (nI b9)), (2, .int (nI 108)), (0, .ref (g 0))] 8 rfl (by rw [show Int32.ofInt 1 = nI 1 from by decide, nI_add]) (by decide) rfl dX11_layAll_197 ?_
                                        refine j_iinc C (nI (i + 1)) [(7, .int (nI (i + 1))), (1, .int (nI (q + 1))), (6, .int (nI 1)), (5, .int (nI (nx a ((σ.2.1 9) i)))), (9, .int (((σ.2.1 9) i) - (nI 48))), (8, .int ((σ.2.1 9) i)), (4, .int (nI e9)), (3, .int (nI b9)), (2, .int (nI 108)), (0, .ref (g 0))] 5 rfl (by rw [show Int32.ofInt 1 = nI 1 from by decide, nI_add]) (by decide) rfl dX11_layAll_200 ?_
                                        refine j_goto C 40 (by decide) dX11_layAll_203 ?_
                                        refine j_sub (lv' := [(7, .int (nI (i + 1))), (6, .int (nI 1)), (5, .int (nI (nx a ((σ.2.1 9) i)))), (4, .int (nI e9)), (3, .int (nI b9)), (2, .int (nI 108)), (1, .int (nI (q + 1))), (0, .ref (g 0))]) [0, 2, 3, 6, 7, 8, 1, 9] rfl ?_
                                        refine j_w (cM g kk (sF (sF (sF σ 13 w99) 14 w100) 15 w101)) (congrArg (cM g kk) (show sF (sF (sF (sF (sF (sF σ 13 fN) 14 fF) 15 fL) 13 w99) 14 w100) 15 w101 = sF (sF (sF σ 13 w99) 14 w100) 15 w101 from (Eq.trans (wrF (Eq.trans (wrF (Eq.trans (wrFc (by decide)) (wrF (Eq.trans (wrFc (by decide)) (wrF wrFs))))) (Eq.trans (wrFc (by decide)) (wrF wrFs)))) wrFs))) ?_
                                        exact ih40 (i + 1) 1 (nx a ((σ.2.1 9) i)) (nI e9) (nI b9) (nI 108) (q + 1) w99 w100 w101 (by omega) (by omega) (by omega) (by omega) (by rw [c73]; exact IM_ok he (by omega) (Or.inl ⟨by omega, c73⟩) (by omega) (by omega) rfl (Or.inr ⟨rfl, by omega, rfl⟩) (iO108_2.mpr hok) (iS108_2 (z := (fN, fF, fL, q)) h13 h14 h15 rfl)) g103 (by omega)
                                    · subst hr
                                      refine j_if_eqN C 194 (by decide) (by omega) dX11_layAll_187 (fun c106 => ?_) (fun c106 => ?_)
                                      · refine j_iconst C (nI 0) (by decide) dX11_layAll_194 ?_
                                        refine j_istore C [(6, .int (nI 0)), (5, .int (nI (nx a ((σ.2.1 9) i)))), (9, .int (((σ.2.1 9) i) - (nI 48))), (8, .int ((σ.2.1 9) i)), (7, .int (nI i)), (4, .int (nI e9)), (3, .int (nI b9)), (2, .int (nI 108)), (1, .int (nI q)), (0, .ref (g 0))] (by decide) rfl dX11_layAll_195 ?_
                                        refine j_iinc C (nI (q + 1)) [(1, .int (nI (q + 1))), (6, .int (nI 0)), (5, .int (nI (nx a ((σ.2.1 9) i)))), (9, .int (((σ.2.1 9) i) - (nI 48))), (8, .int ((σ.2.1 9) i)), (7, .int (nI i)), (4, .int (nI e9)), (3, .int (nI b9)), (2, .int (nI 108)), (0, .ref (g 0))] 8 rfl (by rw [show Int32.ofInt 1 = nI 1 from by decide, nI_add]) (by decide) rfl dX11_layAll_197 ?_
                                        refine j_iinc C (nI (i + 1)) [(7, .int (nI (i + 1))), (1, .int (nI (q + 1))), (6, .int (nI 0)), (5, .int (nI (nx a ((σ.2.1 9) i)))), (9, .int (((σ.2.1 9) i) - (nI 48))), (8, .int ((σ.2.1 9) i)), (4, .int (nI e9)), (3, .int (nI b9)), (2, .int (nI 108)), (0, .ref (g 0))] 5 rfl (by rw [show Int32.ofInt 1 = nI 1 from by decide, nI_add]) (by decide) rfl dX11_layAll_200 ?_
                                        refine j_goto C 40 (by decide) dX11_layAll_203 ?_
                                        refine j_sub (lv' := [(7, .int (nI (i + 1))), (6, .int (nI 0)), (5, .int (nI (nx a ((σ.2.1 9) i)))), (4, .int (nI e9)), (3, .int (nI b9)), (2, .int (nI 108)), (1, .int (nI (q + 1))), (0, .ref (g 0))]) [0, 2, 3, 6, 7, 8, 1, 9] rfl ?_
                                        refine j_w (cM g kk (sF (sF (sF σ 13 w99) 14 w100) 15 w101)) (congrArg (cM g kk) (show sF (sF (sF (sF (sF (sF σ 13 fN) 14 fF) 15 fL) 13 w99) 14 w100) 15 w101 = sF (sF (sF σ 13 w99) 14 w100) 15 w101 from (Eq.trans (wrF (Eq.trans (wrF (Eq.trans (wrFc (by decide)) (wrF (Eq.trans (wrFc (by decide)) (wrF wrFs))))) (Eq.trans (wrFc (by decide)) (wrF wrFs)))) wrFs))) ?_
                                        exact ih40 (i + 1) 0 (nx a ((σ.2.1 9) i)) (nI e9) (nI b9) (nI 108) (q + 1) w99 w100 w101 (by omega) (by omega) (by omega) (by omega) (by rw [c73]; exact IM_no he (by omega) (Or.inl ⟨by omega, c73⟩) (by omega) (by omega) rfl (Or.inr ⟨rfl, by omega, rfl⟩) (fun w => hno (iO108_2.mp w))) g103 (by omega)
                                      · exact absurd c106 (by decide)
                                · rcases e2 with rfl | ⟨e9, he9, rfl⟩
                                  · rcases Nat.eq_zero_or_pos b9 with rfl | hb1
                                    · refine j_V1 C (o_ly115_z g kk (sF (sF (sF σ 13 fN) 14 fF) 15 fL) k hk hk6 hI hs ) kyX11_lay tb_1123 tb_1125 sp_23 0 rfl (eM_0 g kk _) rfl (Nat.le_of_ble_eq_true rfl) ⟨by decide, by decide⟩ dX11_layAll_184 rfl (fun vr ur hp => ?_)
                                      obtain ⟨r108, rfl, hu, g107⟩ := hp
                                      replace hu := hu.symm
                                      subst hu
                                      have hr := g107
                                      subst hr
                                      refine j_if_eqN C 194 (by decide) (by omega) dX11_layAll_187 (fun c109 => ?_) (fun c109 => ?_)
                                      · refine j_iconst C (nI 0) (by decide) dX11_layAll_194 ?_
                                        refine j_istore C [(6, .int (nI 0)), (5, .int (nI (nx a ((σ.2.1 9) i)))), (9, .int (((σ.2.1 9) i) - (nI 48))), (8, .int ((σ.2.1 9) i)), (7, .int (nI i)), (4, .int (-6)), (3, .int (nI 0)), (2, .int (nI 115)), (1, .int (nI q)), (0, .ref (g 0))] (by decide) rfl dX11_layAll_195 ?_
                                        refine j_iinc C (nI (q + 1)) [(1, .int (nI (q + 1))), (6, .int (nI 0)), (5, .int (nI (nx a ((σ.2.1 9) i)))), (9, .int (((σ.2.1 9) i) - (nI 48))), (8, .int ((σ.2.1 9) i)), (7, .int (nI i)), (4, .int (-6)), (3, .int (nI 0)), (2, .int (nI 115)), (0, .ref (g 0))] 8 rfl (by rw [show Int32.ofInt 1 = nI 1 from by decide, nI_add]) (by decide) rfl dX11_layAll_197 ?_
                                        refine j_iinc C (nI (i + 1)) [(7, .int (nI (i + 1))), (1, .int (nI (q + 1))), (6, .int (nI 0)), (5, .int (nI (nx a ((σ.2.1 9) i)))), (9, .int (((σ.2.1 9) i) - (nI 48))), (8, .int ((σ.2.1 9) i)), (4, .int (-6)), (3, .int (nI 0)), (2, .int (nI 115)), (0, .ref (g 0))] 5 rfl (by rw [show Int32.ofInt 1 = nI 1 from by decide, nI_add]) (by decide) rfl dX11_layAll_200 ?_
                                        refine j_goto C 40 (by decide) dX11_layAll_203 ?_
                                        refine j_sub (lv' := [(7, .int (nI (i + 1))), (6, .int (nI 0)), (5, .int (nI (nx a ((σ.2.1 9) i)))), (4, .int (-6)), (3, .int (nI 0)), (2, .int (nI 115)), (1, .int (nI (q + 1))), (0, .ref (g 0))]) [0, 2, 3, 6, 7, 8, 1, 9] rfl ?_
                                        exact ih40 (i + 1) 0 (nx a ((σ.2.1 9) i)) (-6) (nI 0) (nI 115) (q + 1) fN fF fL (by omega) (by omega) (by omega) (by omega) (by rw [c73]; exact IM_no (e := 0) he (by omega) (Or.inl ⟨by omega, c73⟩) (by omega) (by omega) rfl (Or.inl ⟨rfl, rfl⟩) iO0) hs (by omega)
                                      · exact absurd c109 (by decide)
                                    · refine j_V1 C (o_ly115_1 g kk (sF (sF (sF σ 13 fN) 14 fF) 15 fL) k hk hk6 hI hs b9 (by first | assumption | omega) (by first | assumption | omega)) kyX11_lay tb_1123 tb_1125 sp_23 0 rfl (eM_0 g kk _) rfl (Nat.le_of_ble_eq_true rfl) ⟨by decide, by decide⟩ dX11_layAll_184 rfl (fun vr ur hp => ?_)
                                      obtain ⟨r115, rfl, w110, w111, w112, hu, g113, g114⟩ := hp
                                      replace hu := hu.symm
                                      subst hu
                                      rcases g113 with ⟨hok, hr, h13, h14, h15⟩ | ⟨hno, hr⟩
                                      · subst hr
                                        refine j_if_eqN C 194 (by decide) (by omega) dX11_layAll_187 (fun c116 => ?_) (fun c116 => ?_)
                                        · exact absurd c116 (by decide)
                                        · refine j_iconst C (nI 1) (by decide) dX11_layAll_190 ?_
                                          refine j_goto C 195 (by decide) dX11_layAll_191 ?_
                                          refine j_istore C [(6, .int (nI 1)), (5, .int (nI (nx a ((σ.2.1 9) i)))), (9, .int (((σ.2.1 9) i) - (nI 48))), (8, .int ((σ.2.1 9) i)), (7, .int (nI i)), (4, .int (-6)), (3, .int (nI b9)), (2, .int (nI 115)), (1, .int (nI q)), (0, .ref (g 0))] (by decide) rfl dX11_layAll_195 ?_
                                          refine j_iinc C (nI (q + 1)) [(1, .int (nI (q + 1))), (6, .int (nI 1)), (5, .int (nI (nx a ((σ.2.1 9) i)))), (9, .int (((σ.2.1 9) i) - (nI 48))), (8, .int ((σ.2.1 9) i)), (7, .int (nI i)), (4, .int (-6)), (3, .int (nI b9)), (2, .int (nI 115)), (0, .ref (g 0))] 8 rfl (by rw [show Int32.ofInt 1 = nI 1 from by decide, nI_add]) (by decide) rfl dX11_layAll_197 ?_
                                          refine j_iinc C (nI (i + 1)) [(7, .int (nI (i + 1))), (1, .int (nI (q + 1))), (6, .int (nI 1)), (5, .int (nI (nx a ((σ.2.1 9) i)))), (9, .int (((σ.2.1 9) i) - (nI 48))), (8, .int ((σ.2.1 9) i)), (4, .int (-6)), (3, .int (nI b9)), (2, .int (nI 115)), (0, .ref (g 0))] 5 rfl (by rw [show Int32.ofInt 1 = nI 1 from by decide, nI_add]) (by decide) rfl dX11_layAll_200 ?_
                                          refine j_goto C 40 (by decide) dX11_layAll_203 ?_
                                          refine j_sub (lv' := [(7, .int (nI (i + 1))), (6, .int (nI 1)), (5, .int (nI (nx a ((σ.2.1 9) i)))), (4, .int (-6)), (3, .int (nI b9)), (2, .int (nI 115)), (1, .int (nI (q + 1))), (0, .ref (g 0))]) [0, 2, 3, 6, 7, 8, 1, 9] rfl ?_
                                          refine j_w (cM g kk (sF (sF (sF σ 13 w110) 14 w111) 15 w112)) (congrArg (cM g kk) (show sF (sF (sF (sF (sF (sF σ 13 fN) 14 fF) 15 fL) 13 w110) 14 w111) 15 w112 = sF (sF (sF σ 13 w110) 14 w111) 15 w112 from (Eq.trans (wrF (Eq.trans (wrF (Eq.trans (wrFc (by decide)) (wrF (Eq.trans (wrFc (by decide)) (wrF wrFs))))) (Eq.trans (wrFc (by decide)) (wrF wrFs)))) wrFs))) ?_
                                          exact ih40 (i + 1) 1 (nx a ((σ.2.1 9) i)) (-6) (nI b9) (nI 115) (q + 1) w110 w111 w112 (by omega) (by omega) (by omega) (by omega) (by rw [c73]; exact IM_ok (e := 0) he (by omega) (Or.inl ⟨by omega, c73⟩) (by omega) (by omega) rfl (Or.inl ⟨rfl, rfl⟩) ((iO115_1 hb1).mpr hok) (iS115_1 (z := (fN, fF, fL, q)) h13 h14 h15 rfl)) g114 (by omega)
                                      · subst hr
                                        refine j_if_eqN C 194 (by decide) (by omega) dX11_layAll_187 (fun c117 => ?_) (fun c117 => ?_)
                                        · refine j_iconst C (nI 0) (by decide) dX11_layAll_194 ?_
                                          refine j_istore C [(6, .int (nI 0)), (5, .int (nI (nx a ((σ.2.1 9) i)))), (9, .int (((σ.2.1 9) i) - (nI 48))), (8, .int ((σ.2.1 9) i)), (7, .int (nI i)), (4, .int (-6)), (3, .int (nI b9)), (2, .int (nI 115)), (1, .int (nI q)), (0, .ref (g 0))] (by decide) rfl dX11_layAll_195 ?_
                                          refine j_iinc C (nI (q + 1)) [(1, .int (nI (q + 1))), (6, .int (nI 0)), (5, .int (nI (nx a ((σ.2.1 9) i)))), (9, .int (((σ.2.1 9) i) - (nI 48))), (8, .int ((σ.2.1 9) i)), (7, .int (nI i)), (4, .int (-6)), (3, .int (nI b9)), (2, .int (nI 115)), (0, .ref (g 0))] 8 rfl (by rw [show Int32.ofInt 1 = nI 1 from by decide, nI_add]) (by decide) rfl dX11_layAll_197 ?_
                                          refine j_iinc C (nI (i + 1)) [(7, .int (nI (i + 1))), (1, .int (nI (q + 1))), (6, .int (nI 0)), (5, .int (nI (nx a ((σ.2.1 9) i)))), (9, .int (((σ.2.1 9) i) - (nI 48))), (8, .int ((σ.2.1 9) i)), (4, .int (-6)), (3, .int (nI b9)), (2, .int (nI 115)), (0, .ref (g 0))] 5 rfl (by rw [show Int32.ofInt 1 = nI 1 from by decide, nI_add]) (by decide) rfl dX11_layAll_200 ?_
                                          refine j_goto C 40 (by decide) dX11_layAll_203 ?_
                                          refine j_sub (lv' := [(7, .int (nI (i + 1))), (6, .int (nI 0)), (5, .int (nI (nx a ((σ.2.1 9) i)))), (4, .int (-6)), (3, .int (nI b9)), (2, .int (nI 115)), (1, .int (nI (q + 1))), (0, .ref (g 0))]) [0, 2, 3, 6, 7, 8, 1, 9] rfl ?_
                                          refine j_w (cM g kk (sF (sF (sF σ 13 w110) 14 w111) 15 w112)) (congrArg (cM g kk) (show sF (sF (sF (sF (sF (sF σ 13 fN) 14 fF) 15 fL) 13 w110) 14 w111) 15 w112 = sF (sF (sF σ 13 w110) 14 w111) 15 w112 from (Eq.trans (wrF (Eq.trans (wrF (Eq.trans (wrFc (by decide)) (wrF (Eq.trans (wrFc (by decide)) (wrF wrFs))))) (Eq.trans (wrFc (by decide)) (wrF wrFs)))) wrFs))) ?_
                                          exact ih40 (i + 1) 0 (nx a ((σ.2.1 9) i)) (-6) (nI b9) (nI 115) (q + 1) w110 w111 w112 (by omega) (by omega) (by omega) (by omega) (by rw [c73]; exact IM_no (e := 0) he (by omega) (Or.inl ⟨by omega, c73⟩) (by omega) (by omega) rfl (Or.inl ⟨rfl, rfl⟩) (fun w => hno ((iO115_1 hb1).mp w))) g114 (by omega)
                                        · exact absurd c117 (by decide)
                                  · refine j_V1 C (o_ly115_2 g kk (sF (sF (sF σ 13 fN) 14 fF) 15 fL) k hk hk6 hI hs b9 (by first | assumption | omega) e9 (by first | assumption | omega)) kyX11_lay tb_1123 tb_1125 sp_23 0 rfl (eM_0 g kk _) rfl (Nat.le_of_ble_eq_true rfl) ⟨by decide, by decide⟩ dX11_layAll_184 rfl (fun vr ur hp => ?_)
                                    obtain ⟨r123, rfl, w118, w119, w120, hu, g121, g122⟩ := hp
                                    replace hu := hu.symm
                                    subst hu
                                    rcases g121 with ⟨hok, hr, h13, h14, h15⟩ | ⟨hno, hr⟩
                                    · subst hr
                                      refine j_if_eqN C 194 (by decide) (by omega) dX11_layAll_187 (fun c124 => ?_) (fun c124 => ?_)
                                      · exact absurd c124 (by decide)
                                      · refine j_iconst C (nI 1) (by decide) dX11_layAll_190 ?_
                                        refine j_goto C 195 (by decide) dX11_layAll_191 ?_
                                        refine j_istore C [(6, .int (nI 1)), (5, .int (nI (nx a ((σ.2.1 9) i)))), (9, .int (((σ.2.1 9) i) - (nI 48))), (8, .int ((σ.2.1 9) i)), (7, .int (nI i)), (4, .int (nI e9)), (3, .int (nI b9)), (2, .int (nI 115)), (1, .int (nI q)), (0, .ref (g 0))] (by decide) rfl dX11_layAll_195 ?_
                                        refine j_iinc C (nI (q + 1)) [(1, .int (nI (q + 1))), (6, .int (nI 1)), (5, .int (nI (nx a ((σ.2.1 9) i)))), (9, .int (((σ.2.1 9) i) - (nI 48))), (8, .int ((σ.2.1 9) i)), (7, .int (nI i)), (4, .int (nI e9)), (3, .int (nI b9)), (2, .int (nI 115)), (0, .ref (g 0))] 8 rfl (by rw [show Int32.ofInt 1 = nI 1 from by decide, nI_add]) (by decide) rfl dX11_layAll_197 ?_
                                        refine j_iinc C (nI (i + 1)) [(7, .int (nI (i + 1))), (1, .int (nI (q + 1))), (6, .int (nI 1)), (5, .int (nI (nx a ((σ.2.1 9) i)))), (9, .int (((σ.2.1 9) i) - (nI 48))), (8, .int ((σ.2.1 9) i)), (4, .int (nI e9)), (3, .int (nI b9)), (2, .int (nI 115)), (0, .ref (g 0))] 5 rfl (by rw [show Int32.ofInt 1 = nI 1 from by decide, nI_add]) (by decide) rfl dX11_layAll_200 ?_
                                        refine j_goto C 40 (by decide) dX11_layAll_203 ?_
                                        refine j_sub (lv' := [(7, .int (nI (i + 1))), (6, .int (nI 1)), (5, .int (nI (nx a ((σ.2.1 9) i)))), (4, .int (nI e9)), (3, .int (nI b9)), (2, .int (nI 115)), (1, .int (nI (q + 1))), (0, .ref (g 0))]) [0, 2, 3, 6, 7, 8, 1, 9] rfl ?_
                                        refine j_w (cM g kk (sF (sF (sF σ 13 w118) 14 w119) 15 w120)) (congrArg (cM g kk) (show sF (sF (sF (sF (sF (sF σ 13 fN) 14 fF) 15 fL) 13 w118) 14 w119) 15 w120 = sF (sF (sF σ 13 w118) 14 w119) 15 w120 from (Eq.trans (wrF (Eq.trans (wrF (Eq.trans (wrFc (by decide)) (wrF (Eq.trans (wrFc (by decide)) (wrF wrFs))))) (Eq.trans (wrFc (by decide)) (wrF wrFs)))) wrFs))) ?_
                                        exact ih40 (i + 1) 1 (nx a ((σ.2.1 9) i)) (nI e9) (nI b9) (nI 115) (q + 1) w118 w119 w120 (by omega) (by omega) (by omega) (by omega) (by rw [c73]; exact IM_ok he (by omega) (Or.inl ⟨by omega, c73⟩) (by omega) (by omega) rfl (Or.inr ⟨rfl, by omega, rfl⟩) (iO115_2.mpr hok) (iS115_2 (z := (fN, fF, fL, q)) h13 h14 h15 rfl)) g122 (by omega)
                                    · subst hr
                                      refine j_if_eqN C 194 (by decide) (by omega) dX11_layAll_187 (fun c125 => ?_) (fun c125 => ?_)
                                      · refine j_iconst C (nI 0) (by decide) dX11_layAll_194 ?_
                                        refine j_istore C [(6, .int (nI 0)), (5, .int (nI (nx a ((σ.2.1 9) i)))), (9, .int (((σ.2.1 9) i) - (nI 48))), (8, .int ((σ.2.1 9) i)), (7, .int (nI i)), (4, .int (nI e9)), (3, .int (nI b9)), (2, .int (nI 115)), (1, .int (nI q)), (0, .ref (g 0))] (by decide) rfl dX11_layAll_195 ?_
                                        refine j_iinc C (nI (q + 1)) [(1, .int (nI (q + 1))), (6, .int (nI 0)), (5, .int (nI (nx a ((σ.2.1 9) i)))), (9, .int (((σ.2.1 9) i) - (nI 48))), (8, .int ((σ.2.1 9) i)), (7, .int (nI i)), (4, .int (nI e9)), (3, .int (nI b9)), (2, .int (nI 115)), (0, .ref (g 0))] 8 rfl (by rw [show Int32.ofInt 1 = nI 1 from by decide, nI_add]) (by decide) rfl dX11_layAll_197 ?_
                                        refine j_iinc C (nI (i + 1)) [(7, .int (nI (i + 1))), (1, .int (nI (q + 1))), (6, .int (nI 0)), (5, .int (nI (nx a ((σ.2.1 9) i)))), (9, .int (((σ.2.1 9) i) - (nI 48))), (8, .int ((σ.2.1 9) i)), (4, .int (nI e9)), (3, .int (nI b9)), (2, .int (nI 115)), (0, .ref (g 0))] 5 rfl (by rw [show Int32.ofInt 1 = nI 1 from by decide, nI_add]) (by decide) rfl dX11_layAll_200 ?_
                                        refine j_goto C 40 (by decide) dX11_layAll_203 ?_
                                        refine j_sub (lv' := [(7, .int (nI (i + 1))), (6, .int (nI 0)), (5, .int (nI (nx a ((σ.2.1 9) i)))), (4, .int (nI e9)), (3, .int (nI b9)), (2, .int (nI 115)), (1, .int (nI (q + 1))), (0, .ref (g 0))]) [0, 2, 3, 6, 7, 8, 1, 9] rfl ?_
                                        refine j_w (cM g kk (sF (sF (sF σ 13 w118) 14 w119) 15 w120)) (congrArg (cM g kk) (show sF (sF (sF (sF (sF (sF σ 13 fN) 14 fF) 15 fL) 13 w118) 14 w119) 15 w120 = sF (sF (sF σ 13 w118) 14 w119) 15 w120 from (Eq.trans (wrF (Eq.trans (wrF (Eq.trans (wrFc (by decide)) (wrF (Eq.trans (wrFc (by decide)) (wrF wrFs))))) (Eq.trans (wrFc (by decide)) (wrF wrFs)))) wrFs))) ?_
                                        exact ih40 (i + 1) 0 (nx a ((σ.2.1 9) i)) (nI e9) (nI b9) (nI 115) (q + 1) w118 w119 w120 (by omega) (by omega) (by omega) (by omega) (by rw [c73]; exact IM_no he (by omega) (Or.inl ⟨by omega, c73⟩) (by omega) (by omega) rfl (Or.inr ⟨rfl, by omega, rfl⟩) (fun w => hno (iO115_2.mp w))) g122 (by omega)
                                      · exact absurd c125 (by decide)
                          · refine j_bipush C (nI 10) (by decide) dX11_layAll_156 ?_
                            refine j_iload C 5 rfl dX11_layAll_158 ?_
                            refine j_imul C dX11_layAll_160 ?_
                            refine j_iload C 1 rfl dX11_layAll_161 ?_
                            refine j_iadd C dX11_layAll_163 ?_
                            refine j_istore C [(4, .int (((nI 10) * y40_4) + (((σ.2.1 9) i) - (nI 48)))), (5, .int (nI (nx a ((σ.2.1 9) i)))), (9, .int (((σ.2.1 9) i) - (nI 48))), (8, .int ((σ.2.1 9) i)), (7, .int (nI i)), (6, .int (nI gd)), (3, .int y40_3), (2, .int y40_2), (1, .int (nI q)), (0, .ref (g 0))] (by decide) rfl dX11_layAll_164 ?_
                            refine j_goto C 200 (by decide) dX11_layAll_166 ?_
                            refine j_iinc C (nI (i + 1)) [(7, .int (nI (i + 1))), (4, .int (((nI 10) * y40_4) + (((σ.2.1 9) i) - (nI 48)))), (5, .int (nI (nx a ((σ.2.1 9) i)))), (9, .int (((σ.2.1 9) i) - (nI 48))), (8, .int ((σ.2.1 9) i)), (6, .int (nI gd)), (3, .int y40_3), (2, .int y40_2), (1, .int (nI q)), (0, .ref (g 0))] 4 rfl (by rw [show Int32.ofInt 1 = nI 1 from by decide, nI_add]) (by decide) rfl dX11_layAll_200 ?_
                            refine j_goto C 40 (by decide) dX11_layAll_203 ?_
                            refine j_sub (lv' := [(7, .int (nI (i + 1))), (6, .int (nI gd)), (5, .int (nI (nx a ((σ.2.1 9) i)))), (4, .int (((nI 10) * y40_4) + (((σ.2.1 9) i) - (nI 48)))), (3, .int y40_3), (2, .int y40_2), (1, .int (nI q)), (0, .ref (g 0))]) [0, 5, 2, 1, 6, 7, 8, 9] rfl ?_
                            exact ih40 (i + 1) gd (nx a ((σ.2.1 9) i)) (((nI 10) * y40_4) + (((σ.2.1 9) i) - (nI 48))) y40_3 y40_2 q fN fF fL (by omega) (by omega) (by omega) (by omega) (IM_6 he (by omega) (by omega) c72) hs (by omega)
                        · refine j_iload C 1 rfl dX11_layAll_142 ?_
                          refine j_istore C [(4, .int (((σ.2.1 9) i) - (nI 48))), (5, .int (nI (nx a ((σ.2.1 9) i)))), (9, .int (((σ.2.1 9) i) - (nI 48))), (8, .int ((σ.2.1 9) i)), (7, .int (nI i)), (6, .int (nI gd)), (3, .int y40_3), (2, .int y40_2), (1, .int (nI q)), (0, .ref (g 0))] (by decide) rfl dX11_layAll_144 ?_
                          refine j_goto C 200 (by decide) dX11_layAll_146 ?_
                          refine j_iinc C (nI (i + 1)) [(7, .int (nI (i + 1))), (4, .int (((σ.2.1 9) i) - (nI 48))), (5, .int (nI (nx a ((σ.2.1 9) i)))), (9, .int (((σ.2.1 9) i) - (nI 48))), (8, .int ((σ.2.1 9) i)), (6, .int (nI gd)), (3, .int y40_3), (2, .int y40_2), (1, .int (nI q)), (0, .ref (g 0))] 4 rfl (by rw [show Int32.ofInt 1 = nI 1 from by decide, nI_add]) (by decide) rfl dX11_layAll_200 ?_
                          refine j_goto C 40 (by decide) dX11_layAll_203 ?_
                          refine j_sub (lv' := [(7, .int (nI (i + 1))), (6, .int (nI gd)), (5, .int (nI (nx a ((σ.2.1 9) i)))), (4, .int (((σ.2.1 9) i) - (nI 48))), (3, .int y40_3), (2, .int y40_2), (1, .int (nI q)), (0, .ref (g 0))]) [0, 5, 2, 1, 6, 7, 8, 9] rfl ?_
                          exact ih40 (i + 1) gd (nx a ((σ.2.1 9) i)) (((σ.2.1 9) i) - (nI 48)) y40_3 y40_2 q fN fF fL (by omega) (by omega) (by omega) (by omega) (IM_5 he (by omega) (by omega) c71) hs (by omega)
                      · refine j_bipush C (nI 10) (by decide) dX11_layAll_125 ?_
                        refine j_iload_n C 6 rfl dX11_layAll_127 ?_
                        refine j_imul C dX11_layAll_128 ?_
                        refine j_iload C 1 rfl dX11_layAll_129 ?_
                        refine j_iadd C dX11_layAll_131 ?_
                        refine j_istore_n C [(3, .int (((nI 10) * y40_3) + (((σ.2.1 9) i) - (nI 48)))), (5, .int (nI (nx a ((σ.2.1 9) i)))), (9, .int (((σ.2.1 9) i) - (nI 48))), (8, .int ((σ.2.1 9) i)), (7, .int (nI i)), (6, .int (nI gd)), (4, .int y40_4), (2, .int y40_2), (1, .int (nI q)), (0, .ref (g 0))] rfl (by decide) rfl dX11_layAll_132 ?_
                        refine j_goto C 200 (by decide) dX11_layAll_133 ?_
                        refine j_iinc C (nI (i + 1)) [(7, .int (nI (i + 1))), (3, .int (((nI 10) * y40_3) + (((σ.2.1 9) i) - (nI 48)))), (5, .int (nI (nx a ((σ.2.1 9) i)))), (9, .int (((σ.2.1 9) i) - (nI 48))), (8, .int ((σ.2.1 9) i)), (6, .int (nI gd)), (4, .int y40_4), (2, .int y40_2), (1, .int (nI q)), (0, .ref (g 0))] 4 rfl (by rw [show Int32.ofInt 1 = nI 1 from by decide, nI_add]) (by decide) rfl dX11_layAll_200 ?_
                        refine j_goto C 40 (by decide) dX11_layAll_203 ?_
                        refine j_sub (lv' := [(7, .int (nI (i + 1))), (6, .int (nI gd)), (5, .int (nI (nx a ((σ.2.1 9) i)))), (4, .int y40_4), (3, .int (((nI 10) * y40_3) + (((σ.2.1 9) i) - (nI 48)))), (2, .int y40_2), (1, .int (nI q)), (0, .ref (g 0))]) [0, 5, 2, 6, 1, 7, 8, 9] rfl ?_
                        exact ih40 (i + 1) gd (nx a ((σ.2.1 9) i)) y40_4 (((nI 10) * y40_3) + (((σ.2.1 9) i) - (nI 48))) y40_2 q fN fF fL (by omega) (by omega) (by omega) (by omega) (IM_23 he (by omega) (by omega) (Or.inr c70)) hs (by omega)
                  · refine j_iload C 2 rfl dX11_layAll_101 ?_
                    refine j_istore_n C [(2, .int ((σ.2.1 9) i)), (5, .int (nI (nx a ((σ.2.1 9) i)))), (9, .int (((σ.2.1 9) i) - (nI 48))), (8, .int ((σ.2.1 9) i)), (7, .int (nI i)), (6, .int (nI gd)), (4, .int y40_4), (3, .int y40_3), (1, .int (nI q)), (0, .ref (g 0))] rfl (by decide) rfl dX11_layAll_103 ?_
                    refine j_iconst C (nI 0) (by decide) dX11_layAll_104 ?_
                    refine j_istore_n C [(3, .int (nI 0)), (2, .int ((σ.2.1 9) i)), (5, .int (nI (nx a ((σ.2.1 9) i)))), (9, .int (((σ.2.1 9) i) - (nI 48))), (8, .int ((σ.2.1 9) i)), (7, .int (nI i)), (6, .int (nI gd)), (4, .int y40_4), (1, .int (nI q)), (0, .ref (g 0))] rfl (by decide) rfl dX11_layAll_105 ?_
                    refine j_bipush C ((-6)) (by decide) dX11_layAll_106 ?_
                    refine j_istore C [(4, .int (-6)), (3, .int (nI 0)), (2, .int ((σ.2.1 9) i)), (5, .int (nI (nx a ((σ.2.1 9) i)))), (9, .int (((σ.2.1 9) i) - (nI 48))), (8, .int ((σ.2.1 9) i)), (7, .int (nI i)), (6, .int (nI gd)), (1, .int (nI q)), (0, .ref (g 0))] (by decide) rfl dX11_layAll_108 ?_
                    refine j_goto C 200 (by decide) dX11_layAll_110 ?_
                    refine j_iinc C (nI (i + 1)) [(7, .int (nI (i + 1))), (4, .int (-6)), (3, .int (nI 0)), (2, .int ((σ.2.1 9) i)), (5, .int (nI (nx a ((σ.2.1 9) i)))), (9, .int (((σ.2.1 9) i) - (nI 48))), (8, .int ((σ.2.1 9) i)), (6, .int (nI gd)), (1, .int (nI q)), (0, .ref (g 0))] 6 rfl (by rw [show Int32.ofInt 1 = nI 1 from by decide, nI_add]) (by decide) rfl dX11_layAll_200 ?_
                    refine j_goto C 40 (by decide) dX11_layAll_203 ?_
                    refine j_sub (lv' := [(7, .int (nI (i + 1))), (6, .int (nI gd)), (5, .int (nI (nx a ((σ.2.1 9) i)))), (4, .int (-6)), (3, .int (nI 0)), (2, .int ((σ.2.1 9) i)), (1, .int (nI q)), (0, .ref (g 0))]) [0, 7, 4, 1, 2, 3, 8, 9] rfl ?_
                    exact ih40 (i + 1) gd (nx a ((σ.2.1 9) i)) (-6) (nI 0) ((σ.2.1 9) i) q fN fF fL (by omega) (by omega) (by omega) (by omega) (IM_1 he (by omega) (by omega) c68) hs (by omega)
        refine j_w (cM g kk (sF (sF σ 13 f0) 14 (σ.2.1 14))) (congrArg (cM g kk) (wrFi (S := (sF σ 13 f0)) (c := 14) (v := σ.2.1 14) (gtFF (by decide) rfl))) ?_
        refine j_w (cM g kk (sF (sF (sF σ 13 f0) 14 (σ.2.1 14)) 15 (σ.2.1 15))) (congrArg (cM g kk) (wrFi (S := (sF (sF σ 13 f0) 14 (σ.2.1 14))) (c := 15) (v := σ.2.1 15) (gtFF (by decide) (gtFF (by decide) rfl)))) ?_
        exact L40 _ 0 1 0 (-6) (nI 0) (nI 0) 0 f0 (σ.2.1 14) (σ.2.1 15) (by omega) (by omega) (by omega) (by omega) (by rw [h0, show d = 28 by omega]; exact IM_0 hft) hS (Nat.lt_succ_self _)
      · refine j_aload_n C 1 rfl dX11_layAll_8 ?_
        refine gM_0_19 C tb_892 dX11_layAll_9 ?_
        refine j_iload_n C 0 rfl dX11_layAll_12 ?_
        refine j_iconst C (nI 0) (by decide) dX11_layAll_13 ?_
        refine tM_13 C d rfl (by omega) dX11_layAll_14 ?_
        refine j_iinc C (nI (d + 1)) [(1, .int (nI (d + 1))), (0, .ref (g 0))] 0 rfl (by rw [show Int32.ofInt 1 = nI 1 from by decide, nI_add]) (by decide) rfl dX11_layAll_15 ?_
        refine j_goto C 2 (by decide) dX11_layAll_18 ?_
        refine j_w (cM g kk (sF σ 13 (upd f0 d (nI 0)))) (congrArg (cM g kk) (show sF (sF σ 13 f0) 13 (upd f0 d (nI 0)) = sF σ 13 (upd f0 d (nI 0)) from wrFs)) ?_
        exact ih2 (d + 1) (upd f0 d (nI 0)) (by omega) (by have z := fillR_s h0; rw [Nat.zero_add] at z; exact z) (by omega)
  refine j_w (cM g kk (sF σ 13 (σ.2.1 13))) (congrArg (cM g kk) (wrFi (S := σ) (c := 13) (v := σ.2.1 13) rfl)) ?_
  exact L2 _ 0 (σ.2.1 13) (by omega) (fillR_0 _ _ _) (Nat.lt_succ_self _)
set_option maxRecDepth 100000 in
set_option maxHeartbeats 4000000 in
theorem o_layAll0 (g kk : Nat → Nat) (σ : St) (k : Nat) (hk : σ.1 3 = nI k) (hk6 : k ≤ 6) (hI : iM σ) (hn : σ.1 15 = nI 0)  : jM (S := St) yX11_layAll cX11_layAll 10 (some .int) { frames := 2, cells := 0, slots := 0, locals := 53 } kk (cM g kk σ) [.ref (g 0)] (cM g kk) (rI (fun (r : Int32) (u : St) => ∃ (pF13 : Nat → Int32), u = sF σ 13 pF13 ∧ (r = nI 0 ∧ pF13 = fillR (σ.2.1 13) 0 28 (nI 0)))) := by
  refine j_entry [(0, .ref (g 0))] (by decide) (Nat.le_of_ble_eq_true rfl) rfl ?_
  intro X C E HI
  refine j_iconst C (nI 0) (by decide) dX11_layAll_0 ?_
  refine j_istore_n C [(1, .int (nI 0)), (0, .ref (g 0))] rfl (by decide) rfl dX11_layAll_1 ?_
  have L2 : ∀ (n2 : Nat) (d : Nat) (f0 : Nat → Int32) (i2_0 : d ≤ 28) (h0 : f0 = fillR (σ.2.1 13) 0 d (nI 0)) (hm2 : 28 - d < n2), J X 0 0 (cM g kk (sF σ 13 f0)) [(1, .int (nI d)), (0, .ref (g 0))] 2 [] := by
    intro n2
    induction n2 with
    | zero => intro d f0 i2_0 h0 hm; exact absurd hm (Nat.not_lt_zero _)
    | succ n2 ih2 =>
      intro d f0 i2_0 h0 hm2
      refine j_iload_n C 0 rfl dX11_layAll_2 ?_
      refine j_bipush C (nI 28) (by decide) dX11_layAll_3 ?_
      refine j_icmp_geN C 21 (by decide) (by omega) (by omega) dX11_layAll_5 (fun c1 => ?_) (fun c1 => ?_)
      · refine j_iconst C (nI 0) (by decide) dX11_layAll_21 ?_
        refine j_istore_n C [(1, .int (nI 0)), (0, .ref (g 0))] rfl (by decide) rfl dX11_layAll_22 ?_
        refine j_iconst C (nI 0) (by decide) dX11_layAll_23 ?_
        refine j_istore_n C [(2, .int (nI 0)), (1, .int (nI 0)), (0, .ref (g 0))] rfl (by decide) rfl dX11_layAll_24 ?_
        refine j_iconst C (nI 0) (by decide) dX11_layAll_25 ?_
        refine j_istore_n C [(3, .int (nI 0)), (2, .int (nI 0)), (1, .int (nI 0)), (0, .ref (g 0))] rfl (by decide) rfl dX11_layAll_26 ?_
        refine j_bipush C ((-6)) (by decide) dX11_layAll_27 ?_
        refine j_istore C [(4, .int (-6)), (3, .int (nI 0)), (2, .int (nI 0)), (1, .int (nI 0)), (0, .ref (g 0))] (by decide) rfl dX11_layAll_29 ?_
        refine j_iconst C (nI 0) (by decide) dX11_layAll_31 ?_
        refine j_istore C [(5, .int (nI 0)), (4, .int (-6)), (3, .int (nI 0)), (2, .int (nI 0)), (1, .int (nI 0)), (0, .ref (g 0))] (by decide) rfl dX11_layAll_32 ?_
        refine j_iconst C (nI 1) (by decide) dX11_layAll_34 ?_
        refine j_istore C [(6, .int (nI 1)), (5, .int (nI 0)), (4, .int (-6)), (3, .int (nI 0)), (2, .int (nI 0)), (1, .int (nI 0)), (0, .ref (g 0))] (by decide) rfl dX11_layAll_35 ?_
        refine j_iconst C (nI 0) (by decide) dX11_layAll_37 ?_
        refine j_istore C [(7, .int (nI 0)), (6, .int (nI 1)), (5, .int (nI 0)), (4, .int (-6)), (3, .int (nI 0)), (2, .int (nI 0)), (1, .int (nI 0)), (0, .ref (g 0))] (by decide) rfl dX11_layAll_38 ?_
        refine j_iload C 0 rfl dX11_layAll_40 ?_
        refine j_aload_n C 7 rfl dX11_layAll_42 ?_
        refine gM_0_15 C tb_888 (nI 0) hn dX11_layAll_43 ?_
        refine j_icmp_gtN C 206 (by decide) (by omega) (by omega) dX11_layAll_46 (fun c2 => ?_) (fun c2 => ?_)
        · exact absurd c2 (by decide)
        · refine j_aload_n C 7 rfl dX11_layAll_49 ?_
          refine gM_0_15 C tb_888 (nI 0) hn dX11_layAll_50 ?_
          refine j_if_leN C 206 (by decide) (by omega) dX11_layAll_53 (fun c3 => ?_) (fun c3 => ?_)
          · refine j_iload C 1 rfl dX11_layAll_206 ?_
            refine j_if_eqN C 215 (by decide) (by omega) dX11_layAll_208 (fun c4 => ?_) (fun c4 => ?_)
            · exact absurd c4 (by decide)
            · refine j_iload_n C 6 rfl dX11_layAll_211 ?_
              refine j_goto C 217 (by decide) dX11_layAll_212 ?_
              exact j_iret C E (sF σ 13 f0) ⟨_, rfl, ⟨f0, rfl, ⟨rfl, by rw [h0, show d = 28 by omega]⟩⟩⟩ rfl dX11_layAll_217
          · exact absurd c3 (by decide)
      · refine j_aload_n C 1 rfl dX11_layAll_8 ?_
        refine gM_0_19 C tb_892 dX11_layAll_9 ?_
        refine j_iload_n C 0 rfl dX11_layAll_12 ?_
        refine j_iconst C (nI 0) (by decide) dX11_layAll_13 ?_
        refine tM_13 C d rfl (by omega) dX11_layAll_14 ?_
        refine j_iinc C (nI (d + 1)) [(1, .int (nI (d + 1))), (0, .ref (g 0))] 0 rfl (by rw [show Int32.ofInt 1 = nI 1 from by decide, nI_add]) (by decide) rfl dX11_layAll_15 ?_
        refine j_goto C 2 (by decide) dX11_layAll_18 ?_
        refine j_w (cM g kk (sF σ 13 (upd f0 d (nI 0)))) (congrArg (cM g kk) (show sF (sF σ 13 f0) 13 (upd f0 d (nI 0)) = sF σ 13 (upd f0 d (nI 0)) from wrFs)) ?_
        exact ih2 (d + 1) (upd f0 d (nI 0)) (by omega) (by have z := fillR_s h0; rw [Nat.zero_add] at z; exact z) (by omega)
  refine j_w (cM g kk (sF σ 13 (σ.2.1 13))) (congrArg (cM g kk) (wrFi (S := σ) (c := 13) (v := σ.2.1 13) rfl)) ?_
  exact L2 _ 0 (σ.2.1 13) (by omega) (fillR_0 _ _ _) (Nat.lt_succ_self _)
noncomputable def TTX (f : Nat → Int32) (n : Nat) (z : RT) : Option RT := if n = 0 then some z else rdI f n 0 0 (nI 0) 0 0 z
def NFX (f : Nat → Int32) (n : Nat) : Prop := n = 0 ∨ ftR f n 0 0 = -1
def NTF (k n : Nat) (f o7 o8 o9 : Nat → Int32) (x r : Int32) (p7 p8 p9 : Nat → Int32) (pn : Int32) (T : Option RT) : Prop :=
  (r = -1 ∧ cB x (nI k) = false ∧ (p7 = o7 ∧ p8 = o8 ∧ p9 = o9 ∧ pn = nI n)) ∨ (r = -5 ∧ cB x (nI k) = true ∧ (¬ NFX f n ∨ T = none) ∧ (p7 = o7 ∧ p8 = o8 ∧ p9 = o9 ∧ pn = nI n)) ∨
  (∃ (c q : Nat) (N F L : Nat → Int32), c < k ∧ x = nI c ∧ NFX f n ∧ T = some (N, F, L, q) ∧ r = nI q ∧ p7 = va_cpy N o7 0 (28 * c) 28 ∧ p8 = va_cpy F o8 0 (28 * c) 28 ∧ p9 = va_cpy L o9 0 (28 * c) 28 ∧ pn = nI 0)
theorem TTX_0 {f : Nat → Int32} {z : RT} : TTX f 0 z = some z := if_pos rfl
theorem TTX_p {f : Nat → Int32} {n : Nat} {z : RT} (h : 1 ≤ n) : TTX f n z = rdI f n 0 0 (nI 0) 0 0 z := if_neg (by omega)
theorem cpy_s {f g : Nat → Int32} {b d : Nat} {h : Nat → Int32} (e : h = va_cpy f g 0 b d) : upd h (b + d) (f d) = va_cpy f g 0 b (d + 1) := by
  subst e
  funext j
  by_cases q : j = b + d
  · rw [q, pk_us, pk_cpy_in (by omega) (by omega), show 0 + (b + d - b) = d by omega]
  · rw [pk_un q]
    by_cases w : b ≤ j ∧ j < b + d
    · rw [pk_cpy_in w.1 w.2, pk_cpy_in w.1 (by omega)]
    · rw [pk_cpy_out (by omega), pk_cpy_out (by omega)]
theorem cpy_0 {f g : Nat → Int32} {b : Nat} : g = va_cpy f g 0 b 0 := by
  funext j
  rw [pk_cpy_out (by omega)]
set_option maxRecDepth 100000 in
set_option maxHeartbeats 4000000 in
theorem e_note1 (g kk : Nat → Nat) (σ : St) (k : Nat) (hk : σ.1 16 = nI k) (hk6 : k ≤ 6) (hI : iX σ) (hS : al_ 28 27 (σ.2.1 25)) (n : Nat) (hn : σ.1 352 = nI n) (hnb : 1 ≤ n ∧ n ≤ 40) (x : Int32) : jM (S := St) yX10_note cX10_note 2 (some .int) { frames := 3, cells := 0, slots := 0, locals := 83 } kk (cX g kk σ) [.ref (g 0), .int x] (cX g kk) (rI (fun (r : Int32) (u : St) => ∃ (pF7 : Nat → Int32) (pF8 : Nat → Int32) (pF9 : Nat → Int32) (pF24 : Nat → Int32) (pF25 : Nat → Int32) (pF26 : Nat → Int32) (pI352 : Int32) (pI353 : Int32) (pI437 : Int32), u = sI (sI (sI (sF (sF (sF (sF (sF (sF σ 7 pF7) 8 pF8) 9 pF9) 24 pF24) 25 pF25) 26 pF26) 352 pI352) 353 pI353) 437 pI437 ∧ (NTF k n (σ.2.1 23) (σ.2.1 7) (σ.2.1 8) (σ.2.1 9) x r pF7 pF8 pF9 pI352 (TTX (σ.2.1 23) n (fillF (σ.2.1 24) (nI 0) 28, σ.2.1 25, σ.2.1 26, 0))) ∧ (al_ 28 27 pF25) ∧ (al_ 168 27 pF8) ∧ (pI437 = nI 1 ∨ (pI437 = σ.1 437 ∧ pF7 = σ.2.1 7 ∧ pF8 = σ.2.1 8 ∧ pF9 = σ.2.1 9)))) := by
  refine j_entry [(0, .ref (g 0)), (1, .int x)] (by decide) (Nat.le_of_ble_eq_true rfl) rfl ?_
  intro X C E HI
  refine j_aload_n C 0 rfl dX10_note_0 ?_
  refine j_iload_n C 1 rfl dX10_note_1 ?_
  refine j_V1 C (c_isCan g kk σ k hk hk6 x) kyX10_isCan tb_478 tb_480 sp_0 0 rfl (eX_0 g kk _) rfl (Nat.le_of_ble_eq_true rfl) ⟨by decide, by decide⟩ dX10_note_2 rfl (fun vr ur hp => ?_)
  obtain ⟨r, rfl, rfl, hu⟩ := hp
  replace hu := hu.symm
  subst hu
  refine j_if_ne C 10 (by decide) dX10_note_5 (fun c1 => ?_) (fun c1 => ?_)
  · replace c1 := bI_t c1
    obtain ⟨xn, xn1, rfl⟩ := cB_nat (by omega) c1
    refine j_aload_n C 0 rfl dX10_note_10 ?_
    refine gX_0_1 C tb_429 dX10_note_11 ?_
    refine gX_22_0 C tb_169 (nI n) hn dX10_note_14 ?_
    refine j_if_leN C 34 (by decide) (by omega) dX10_note_17 (fun c2 => ?_) (fun c2 => ?_)
    · exact absurd c2 (by omega)
    · refine j_aload_n C 0 rfl dX10_note_20 ?_
      refine gX_0_1 C tb_429 dX10_note_21 ?_
      refine j_V1 C (e_faultPlace g kk σ k hk hk6 hI n hn (by omega) ) kyX5_faultPlace tb_528 tb_529 tb_530 22 rfl (eX_22 g kk _) rfl (Nat.le_of_ble_eq_true rfl) ⟨by decide, by decide⟩ dX10_note_24 rfl (fun vr ur hp => ?_)
      obtain ⟨r4, rfl, hu, g3⟩ := hp
      replace hu := hu.symm
      subst hu
      subst g3
      refine j_iconst C ((-1)) (by decide) dX10_note_27 ?_
      refine j_icmp_eq C 34 (by decide) dX10_note_28 (fun c5 => ?_) (fun c5 => ?_)
      · refine j_aload_n C 0 rfl dX10_note_34 ?_
        refine gX_0_1 C tb_429 dX10_note_35 ?_
        refine j_V1 C (e_readItems g kk σ k hk hk6 hI hS n hn (by omega) c5 ) kyX5_readItems tb_545 tb_546 tb_547 22 rfl (eX_22 g kk _) rfl (Nat.le_of_ble_eq_true rfl) ⟨by decide, by decide⟩ dX10_note_38 rfl (fun vr ur hp => ?_)
        obtain ⟨r12, rfl, w6, w7, w8, w9, hu, g10, g11⟩ := hp
        replace hu := hu.symm
        subst hu
        rcases g10 with ⟨hr, q9, hq, hT⟩ | ⟨hr, hT⟩
        · subst hr
          subst hq
          refine j_if_neN C 47 (by decide) (by omega) dX10_note_41 (fun c13 => ?_) (fun c13 => ?_)
          · refine j_aload_n C 0 rfl dX10_note_47 ?_
            refine gX_0_0 C tb_428 dX10_note_48 ?_
            refine j_iload_n C 1 rfl dX10_note_51 ?_
            refine j_aload_n C 0 rfl dX10_note_52 ?_
            refine gX_0_1 C tb_429 dX10_note_53 ?_
            refine j_V1 C (d_takeNotes g kk (sI (sF (sF (sF σ 24 w6) 25 w7) 26 w8) 353 (nI q9)) k hk hk6 hI  xn (by first | assumption | omega)) kyX2_takeNotes tb_554 tb_555 tb_556 1 rfl (eX_1 g kk _) rfl (Nat.le_of_ble_eq_true rfl) ⟨by decide, by decide⟩ dX10_note_56 rfl (fun vr ur hp => ?_)
            obtain ⟨rfl, w14, w15, w16, hu, g17, g18, g19⟩ := hp
            replace hu := hu.symm
            subst hu
            refine j_aload_n C 0 rfl dX10_note_59 ?_
            refine gX_0_1 C tb_429 dX10_note_60 ?_
            refine j_iconst C (nI 0) (by decide) dX10_note_63 ?_
            refine pX_22_0 C tb_169 dX10_note_64 ?_
            refine j_aload_n C 0 rfl dX10_note_67 ?_
            refine gX_0_2 C tb_430 dX10_note_68 ?_
            refine j_iconst C (nI 1) (by decide) dX10_note_71 ?_
            refine pX_27_5 C tb_214 rfl rfl dX10_note_72 ?_
            refine j_aload_n C 0 rfl dX10_note_75 ?_
            refine gX_0_1 C tb_429 dX10_note_76 ?_
            refine gX_22_1 C tb_171 (nI q9) rfl dX10_note_79 ?_
            refine j_w (cX g kk (sI (sI (sI (sF (sF (sF (sF (sF (sF σ 7 w14) 8 w15) 9 w16) 24 w6) 25 w7) 26 w8) 352 (nI 0)) 353 (nI q9)) 437 (nI 1))) (congrArg (cX g kk) (show sI (sI (sF (sF (sF (sI (sF (sF (sF σ 24 w6) 25 w7) 26 w8) 353 (nI q9)) 7 w14) 8 w15) 9 w16) 352 (nI 0)) 437 (nI 1) = sI (sI (sI (sF (sF (sF (sF (sF (sF σ 7 w14) 8 w15) 9 w16) 24 w6) 25 w7) 26 w8) 352 (nI 0)) 353 (nI q9)) 437 (nI 1) from (wrI (Eq.trans (wrI (Eq.trans (wrF (Eq.trans (wrF (Eq.trans wrFI (wrI (Eq.trans (wrFc (by decide)) (wrF (Eq.trans (wrFc (by decide)) (wrF (wrFc (by decide))))))))) (Eq.trans wrFI (wrI (Eq.trans (wrFc (by decide)) (wrF (Eq.trans (wrFc (by decide)) (wrF (wrFc (by decide)))))))))) (Eq.trans wrFI (wrI (Eq.trans (wrFc (by decide)) (wrF (Eq.trans (wrFc (by decide)) (wrF (wrFc (by decide)))))))))) (wrIc (by decide)))))) ?_
            exact j_iret C E (sI (sI (sI (sF (sF (sF (sF (sF (sF σ 7 w14) 8 w15) 9 w16) 24 w6) 25 w7) 26 w8) 352 (nI 0)) 353 (nI q9)) 437 (nI 1)) ⟨_, rfl, ⟨w14, w15, w16, w6, w7, w8, (nI 0), (nI q9), (nI 1), rfl, (Or.inr (Or.inr ⟨xn, q9, _, _, _, xn1, rfl, Or.inr c5, (TTX_p (by omega)).trans hT, rfl, by rw [g17, Nat.mul_comm xn 28]; rfl, by rw [g18, Nat.mul_comm xn 28]; rfl, by rw [g19, Nat.mul_comm xn 28]; rfl, rfl⟩)), g11, (by rw [g18]; exact al_cpy g11 hI.sf (by decide)), (Or.inl rfl)⟩⟩ rfl dX10_note_82
          · exact absurd c13 (by decide)
        · subst hr
          refine j_if_neN C 47 (by decide) (by omega) dX10_note_41 (fun c20 => ?_) (fun c20 => ?_)
          · exact absurd c20 (by decide)
          · refine j_bipush C ((-5)) (by decide) dX10_note_44 ?_
            refine j_w (cX g kk (sI (sI (sF (sF (sF σ 24 w6) 25 w7) 26 w8) 353 w9) 352 (nI n))) (congrArg (cX g kk) (sI_self (σ := (sI (sF (sF (sF σ 24 w6) 25 w7) 26 w8) 353 w9)) (i := 352) (v := nI n) hn).symm) ?_
            refine j_w (cX g kk (sF (sI (sI (sF (sF (sF σ 24 w6) 25 w7) 26 w8) 353 w9) 352 (nI n)) 7 (σ.2.1 7))) (congrArg (cX g kk) (wrFi (S := (sI (sI (sF (sF (sF σ 24 w6) 25 w7) 26 w8) 353 w9) 352 (nI n))) (c := 7) (v := σ.2.1 7) (gtFI (gtFI (gtFF (by decide) (gtFF (by decide) (gtFF (by decide) rfl))))))) ?_
            refine j_w (cX g kk (sF (sF (sI (sI (sF (sF (sF σ 24 w6) 25 w7) 26 w8) 353 w9) 352 (nI n)) 7 (σ.2.1 7)) 8 (σ.2.1 8))) (congrArg (cX g kk) (wrFi (S := (sF (sI (sI (sF (sF (sF σ 24 w6) 25 w7) 26 w8) 353 w9) 352 (nI n)) 7 (σ.2.1 7))) (c := 8) (v := σ.2.1 8) (gtFF (by decide) (gtFI (gtFI (gtFF (by decide) (gtFF (by decide) (gtFF (by decide) rfl)))))))) ?_
            refine j_w (cX g kk (sF (sF (sF (sI (sI (sF (sF (sF σ 24 w6) 25 w7) 26 w8) 353 w9) 352 (nI n)) 7 (σ.2.1 7)) 8 (σ.2.1 8)) 9 (σ.2.1 9))) (congrArg (cX g kk) (wrFi (S := (sF (sF (sI (sI (sF (sF (sF σ 24 w6) 25 w7) 26 w8) 353 w9) 352 (nI n)) 7 (σ.2.1 7)) 8 (σ.2.1 8))) (c := 9) (v := σ.2.1 9) (gtFF (by decide) (gtFF (by decide) (gtFI (gtFI (gtFF (by decide) (gtFF (by decide) (gtFF (by decide) rfl))))))))) ?_
            refine j_w (cX g kk (sI (sF (sF (sF (sI (sI (sF (sF (sF σ 24 w6) 25 w7) 26 w8) 353 w9) 352 (nI n)) 7 (σ.2.1 7)) 8 (σ.2.1 8)) 9 (σ.2.1 9)) 437 (σ.1 437))) (congrArg (cX g kk) (wrIi (S := (sF (sF (sF (sI (sI (sF (sF (sF σ 24 w6) 25 w7) 26 w8) 353 w9) 352 (nI n)) 7 (σ.2.1 7)) 8 (σ.2.1 8)) 9 (σ.2.1 9))) (c := 437) (v := σ.1 437) (gtIF (gtIF (gtIF (gtII (by decide) (gtII (by decide) (gtIF (gtIF (gtIF rfl)))))))))) ?_
            refine j_w (cX g kk (sI (sI (sI (sF (sF (sF (sF (sF (sF σ 7 (σ.2.1 7)) 8 (σ.2.1 8)) 9 (σ.2.1 9)) 24 w6) 25 w7) 26 w8) 352 (nI n)) 353 w9) 437 (σ.1 437))) (congrArg (cX g kk) (show sI (sF (sF (sF (sI (sI (sF (sF (sF σ 24 w6) 25 w7) 26 w8) 353 w9) 352 (nI n)) 7 (σ.2.1 7)) 8 (σ.2.1 8)) 9 (σ.2.1 9)) 437 (σ.1 437) = sI (sI (sI (sF (sF (sF (sF (sF (sF σ 7 (σ.2.1 7)) 8 (σ.2.1 8)) 9 (σ.2.1 9)) 24 w6) 25 w7) 26 w8) 352 (nI n)) 353 w9) 437 (σ.1 437) from (wrI (Eq.trans (wrF (Eq.trans (wrF (Eq.trans (wrF (wrIc (by decide))) (Eq.trans wrFI (wrI (Eq.trans wrFI (wrI (Eq.trans (wrFc (by decide)) (wrF (Eq.trans (wrFc (by decide)) (wrF (wrFc (by decide)))))))))))) (Eq.trans wrFI (wrI (Eq.trans wrFI (wrI (Eq.trans (wrFc (by decide)) (wrF (Eq.trans (wrFc (by decide)) (wrF (wrFc (by decide)))))))))))) (Eq.trans wrFI (wrI (Eq.trans wrFI (wrI (Eq.trans (wrFc (by decide)) (wrF (Eq.trans (wrFc (by decide)) (wrF (wrFc (by decide)))))))))))))) ?_
            exact j_iret C E (sI (sI (sI (sF (sF (sF (sF (sF (sF σ 7 (σ.2.1 7)) 8 (σ.2.1 8)) 9 (σ.2.1 9)) 24 w6) 25 w7) 26 w8) 352 (nI n)) 353 w9) 437 (σ.1 437)) ⟨_, rfl, ⟨(σ.2.1 7), (σ.2.1 8), (σ.2.1 9), w6, w7, w8, (nI n), w9, (σ.1 437), rfl, (Or.inr (Or.inl ⟨rfl, c1, Or.inr ((TTX_p (by omega)).trans hT), ⟨rfl, rfl, rfl, rfl⟩⟩)), g11, hI.sf, (Or.inr ⟨rfl, rfl, rfl, rfl⟩)⟩⟩ rfl dX10_note_46
      · refine j_bipush C ((-5)) (by decide) dX10_note_31 ?_
        refine j_w (cX g kk (sI σ 352 (nI n))) (congrArg (cX g kk) (sI_self (σ := σ) (i := 352) (v := nI n) hn).symm) ?_
        refine j_w (cX g kk (sF (sI σ 352 (nI n)) 7 (σ.2.1 7))) (congrArg (cX g kk) (wrFi (S := (sI σ 352 (nI n))) (c := 7) (v := σ.2.1 7) (gtFI rfl))) ?_
        refine j_w (cX g kk (sF (sF (sI σ 352 (nI n)) 7 (σ.2.1 7)) 8 (σ.2.1 8))) (congrArg (cX g kk) (wrFi (S := (sF (sI σ 352 (nI n)) 7 (σ.2.1 7))) (c := 8) (v := σ.2.1 8) (gtFF (by decide) (gtFI rfl)))) ?_
        refine j_w (cX g kk (sF (sF (sF (sI σ 352 (nI n)) 7 (σ.2.1 7)) 8 (σ.2.1 8)) 9 (σ.2.1 9))) (congrArg (cX g kk) (wrFi (S := (sF (sF (sI σ 352 (nI n)) 7 (σ.2.1 7)) 8 (σ.2.1 8))) (c := 9) (v := σ.2.1 9) (gtFF (by decide) (gtFF (by decide) (gtFI rfl))))) ?_
        refine j_w (cX g kk (sF (sF (sF (sF (sI σ 352 (nI n)) 7 (σ.2.1 7)) 8 (σ.2.1 8)) 9 (σ.2.1 9)) 24 (σ.2.1 24))) (congrArg (cX g kk) (wrFi (S := (sF (sF (sF (sI σ 352 (nI n)) 7 (σ.2.1 7)) 8 (σ.2.1 8)) 9 (σ.2.1 9))) (c := 24) (v := σ.2.1 24) (gtFF (by decide) (gtFF (by decide) (gtFF (by decide) (gtFI rfl)))))) ?_
        refine j_w (cX g kk (sF (sF (sF (sF (sF (sI σ 352 (nI n)) 7 (σ.2.1 7)) 8 (σ.2.1 8)) 9 (σ.2.1 9)) 24 (σ.2.1 24)) 25 (σ.2.1 25))) (congrArg (cX g kk) (wrFi (S := (sF (sF (sF (sF (sI σ 352 (nI n)) 7 (σ.2.1 7)) 8 (σ.2.1 8)) 9 (σ.2.1 9)) 24 (σ.2.1 24))) (c := 25) (v := σ.2.1 25) (gtFF (by decide) (gtFF (by decide) (gtFF (by decide) (gtFF (by decide) (gtFI rfl))))))) ?_
        refine j_w (cX g kk (sF (sF (sF (sF (sF (sF (sI σ 352 (nI n)) 7 (σ.2.1 7)) 8 (σ.2.1 8)) 9 (σ.2.1 9)) 24 (σ.2.1 24)) 25 (σ.2.1 25)) 26 (σ.2.1 26))) (congrArg (cX g kk) (wrFi (S := (sF (sF (sF (sF (sF (sI σ 352 (nI n)) 7 (σ.2.1 7)) 8 (σ.2.1 8)) 9 (σ.2.1 9)) 24 (σ.2.1 24)) 25 (σ.2.1 25))) (c := 26) (v := σ.2.1 26) (gtFF (by decide) (gtFF (by decide) (gtFF (by decide) (gtFF (by decide) (gtFF (by decide) (gtFI rfl)))))))) ?_
        refine j_w (cX g kk (sI (sF (sF (sF (sF (sF (sF (sI σ 352 (nI n)) 7 (σ.2.1 7)) 8 (σ.2.1 8)) 9 (σ.2.1 9)) 24 (σ.2.1 24)) 25 (σ.2.1 25)) 26 (σ.2.1 26)) 353 (σ.1 353))) (congrArg (cX g kk) (wrIi (S := (sF (sF (sF (sF (sF (sF (sI σ 352 (nI n)) 7 (σ.2.1 7)) 8 (σ.2.1 8)) 9 (σ.2.1 9)) 24 (σ.2.1 24)) 25 (σ.2.1 25)) 26 (σ.2.1 26))) (c := 353) (v := σ.1 353) (gtIF (gtIF (gtIF (gtIF (gtIF (gtIF (gtII (by decide) rfl))))))))) ?_
        refine j_w (cX g kk (sI (sI (sF (sF (sF (sF (sF (sF (sI σ 352 (nI n)) 7 (σ.2.1 7)) 8 (σ.2.1 8)) 9 (σ.2.1 9)) 24 (σ.2.1 24)) 25 (σ.2.1 25)) 26 (σ.2.1 26)) 353 (σ.1 353)) 437 (σ.1 437))) (congrArg (cX g kk) (wrIi (S := (sI (sF (sF (sF (sF (sF (sF (sI σ 352 (nI n)) 7 (σ.2.1 7)) 8 (σ.2.1 8)) 9 (σ.2.1 9)) 24 (σ.2.1 24)) 25 (σ.2.1 25)) 26 (σ.2.1 26)) 353 (σ.1 353))) (c := 437) (v := σ.1 437) (gtII (by decide) (gtIF (gtIF (gtIF (gtIF (gtIF (gtIF (gtII (by decide) rfl)))))))))) ?_
        refine j_w (cX g kk (sI (sI (sI (sF (sF (sF (sF (sF (sF σ 7 (σ.2.1 7)) 8 (σ.2.1 8)) 9 (σ.2.1 9)) 24 (σ.2.1 24)) 25 (σ.2.1 25)) 26 (σ.2.1 26)) 352 (nI n)) 353 (σ.1 353)) 437 (σ.1 437))) (congrArg (cX g kk) (show sI (sI (sF (sF (sF (sF (sF (sF (sI σ 352 (nI n)) 7 (σ.2.1 7)) 8 (σ.2.1 8)) 9 (σ.2.1 9)) 24 (σ.2.1 24)) 25 (σ.2.1 25)) 26 (σ.2.1 26)) 353 (σ.1 353)) 437 (σ.1 437) = sI (sI (sI (sF (sF (sF (sF (sF (sF σ 7 (σ.2.1 7)) 8 (σ.2.1 8)) 9 (σ.2.1 9)) 24 (σ.2.1 24)) 25 (σ.2.1 25)) 26 (σ.2.1 26)) 352 (nI n)) 353 (σ.1 353)) 437 (σ.1 437) from (wrI (wrI (Eq.trans (wrF (Eq.trans (wrF (Eq.trans (wrF (Eq.trans (wrF (Eq.trans (wrF wrFI) wrFI)) wrFI)) wrFI)) wrFI)) wrFI))))) ?_
        exact j_iret C E (sI (sI (sI (sF (sF (sF (sF (sF (sF σ 7 (σ.2.1 7)) 8 (σ.2.1 8)) 9 (σ.2.1 9)) 24 (σ.2.1 24)) 25 (σ.2.1 25)) 26 (σ.2.1 26)) 352 (nI n)) 353 (σ.1 353)) 437 (σ.1 437)) ⟨_, rfl, ⟨(σ.2.1 7), (σ.2.1 8), (σ.2.1 9), (σ.2.1 24), (σ.2.1 25), (σ.2.1 26), (nI n), (σ.1 353), (σ.1 437), rfl, (Or.inr (Or.inl ⟨rfl, c1, Or.inl (fun w => w.elim (by omega) c5), ⟨rfl, rfl, rfl, rfl⟩⟩)), hS, hI.sf, (Or.inr ⟨rfl, rfl, rfl, rfl⟩)⟩⟩ rfl dX10_note_33
  · replace c1 := bI_f c1
    refine j_iconst C ((-1)) (by decide) dX10_note_8 ?_
    refine j_w (cX g kk (sI σ 352 (nI n))) (congrArg (cX g kk) (sI_self (σ := σ) (i := 352) (v := nI n) hn).symm) ?_
    refine j_w (cX g kk (sF (sI σ 352 (nI n)) 7 (σ.2.1 7))) (congrArg (cX g kk) (wrFi (S := (sI σ 352 (nI n))) (c := 7) (v := σ.2.1 7) (gtFI rfl))) ?_
    refine j_w (cX g kk (sF (sF (sI σ 352 (nI n)) 7 (σ.2.1 7)) 8 (σ.2.1 8))) (congrArg (cX g kk) (wrFi (S := (sF (sI σ 352 (nI n)) 7 (σ.2.1 7))) (c := 8) (v := σ.2.1 8) (gtFF (by decide) (gtFI rfl)))) ?_
    refine j_w (cX g kk (sF (sF (sF (sI σ 352 (nI n)) 7 (σ.2.1 7)) 8 (σ.2.1 8)) 9 (σ.2.1 9))) (congrArg (cX g kk) (wrFi (S := (sF (sF (sI σ 352 (nI n)) 7 (σ.2.1 7)) 8 (σ.2.1 8))) (c := 9) (v := σ.2.1 9) (gtFF (by decide) (gtFF (by decide) (gtFI rfl))))) ?_
    refine j_w (cX g kk (sF (sF (sF (sF (sI σ 352 (nI n)) 7 (σ.2.1 7)) 8 (σ.2.1 8)) 9 (σ.2.1 9)) 24 (σ.2.1 24))) (congrArg (cX g kk) (wrFi (S := (sF (sF (sF (sI σ 352 (nI n)) 7 (σ.2.1 7)) 8 (σ.2.1 8)) 9 (σ.2.1 9))) (c := 24) (v := σ.2.1 24) (gtFF (by decide) (gtFF (by decide) (gtFF (by decide) (gtFI rfl)))))) ?_
    refine j_w (cX g kk (sF (sF (sF (sF (sF (sI σ 352 (nI n)) 7 (σ.2.1 7)) 8 (σ.2.1 8)) 9 (σ.2.1 9)) 24 (σ.2.1 24)) 25 (σ.2.1 25))) (congrArg (cX g kk) (wrFi (S := (sF (sF (sF (sF (sI σ 352 (nI n)) 7 (σ.2.1 7)) 8 (σ.2.1 8)) 9 (σ.2.1 9)) 24 (σ.2.1 24))) (c := 25) (v := σ.2.1 25) (gtFF (by decide) (gtFF (by decide) (gtFF (by decide) (gtFF (by decide) (gtFI rfl))))))) ?_
    refine j_w (cX g kk (sF (sF (sF (sF (sF (sF (sI σ 352 (nI n)) 7 (σ.2.1 7)) 8 (σ.2.1 8)) 9 (σ.2.1 9)) 24 (σ.2.1 24)) 25 (σ.2.1 25)) 26 (σ.2.1 26))) (congrArg (cX g kk) (wrFi (S := (sF (sF (sF (sF (sF (sI σ 352 (nI n)) 7 (σ.2.1 7)) 8 (σ.2.1 8)) 9 (σ.2.1 9)) 24 (σ.2.1 24)) 25 (σ.2.1 25))) (c := 26) (v := σ.2.1 26) (gtFF (by decide) (gtFF (by decide) (gtFF (by decide) (gtFF (by decide) (gtFF (by decide) (gtFI rfl)))))))) ?_
    refine j_w (cX g kk (sI (sF (sF (sF (sF (sF (sF (sI σ 352 (nI n)) 7 (σ.2.1 7)) 8 (σ.2.1 8)) 9 (σ.2.1 9)) 24 (σ.2.1 24)) 25 (σ.2.1 25)) 26 (σ.2.1 26)) 353 (σ.1 353))) (congrArg (cX g kk) (wrIi (S := (sF (sF (sF (sF (sF (sF (sI σ 352 (nI n)) 7 (σ.2.1 7)) 8 (σ.2.1 8)) 9 (σ.2.1 9)) 24 (σ.2.1 24)) 25 (σ.2.1 25)) 26 (σ.2.1 26))) (c := 353) (v := σ.1 353) (gtIF (gtIF (gtIF (gtIF (gtIF (gtIF (gtII (by decide) rfl))))))))) ?_
    refine j_w (cX g kk (sI (sI (sF (sF (sF (sF (sF (sF (sI σ 352 (nI n)) 7 (σ.2.1 7)) 8 (σ.2.1 8)) 9 (σ.2.1 9)) 24 (σ.2.1 24)) 25 (σ.2.1 25)) 26 (σ.2.1 26)) 353 (σ.1 353)) 437 (σ.1 437))) (congrArg (cX g kk) (wrIi (S := (sI (sF (sF (sF (sF (sF (sF (sI σ 352 (nI n)) 7 (σ.2.1 7)) 8 (σ.2.1 8)) 9 (σ.2.1 9)) 24 (σ.2.1 24)) 25 (σ.2.1 25)) 26 (σ.2.1 26)) 353 (σ.1 353))) (c := 437) (v := σ.1 437) (gtII (by decide) (gtIF (gtIF (gtIF (gtIF (gtIF (gtIF (gtII (by decide) rfl)))))))))) ?_
    refine j_w (cX g kk (sI (sI (sI (sF (sF (sF (sF (sF (sF σ 7 (σ.2.1 7)) 8 (σ.2.1 8)) 9 (σ.2.1 9)) 24 (σ.2.1 24)) 25 (σ.2.1 25)) 26 (σ.2.1 26)) 352 (nI n)) 353 (σ.1 353)) 437 (σ.1 437))) (congrArg (cX g kk) (show sI (sI (sF (sF (sF (sF (sF (sF (sI σ 352 (nI n)) 7 (σ.2.1 7)) 8 (σ.2.1 8)) 9 (σ.2.1 9)) 24 (σ.2.1 24)) 25 (σ.2.1 25)) 26 (σ.2.1 26)) 353 (σ.1 353)) 437 (σ.1 437) = sI (sI (sI (sF (sF (sF (sF (sF (sF σ 7 (σ.2.1 7)) 8 (σ.2.1 8)) 9 (σ.2.1 9)) 24 (σ.2.1 24)) 25 (σ.2.1 25)) 26 (σ.2.1 26)) 352 (nI n)) 353 (σ.1 353)) 437 (σ.1 437) from (wrI (wrI (Eq.trans (wrF (Eq.trans (wrF (Eq.trans (wrF (Eq.trans (wrF (Eq.trans (wrF wrFI) wrFI)) wrFI)) wrFI)) wrFI)) wrFI))))) ?_
    exact j_iret C E (sI (sI (sI (sF (sF (sF (sF (sF (sF σ 7 (σ.2.1 7)) 8 (σ.2.1 8)) 9 (σ.2.1 9)) 24 (σ.2.1 24)) 25 (σ.2.1 25)) 26 (σ.2.1 26)) 352 (nI n)) 353 (σ.1 353)) 437 (σ.1 437)) ⟨_, rfl, ⟨(σ.2.1 7), (σ.2.1 8), (σ.2.1 9), (σ.2.1 24), (σ.2.1 25), (σ.2.1 26), (nI n), (σ.1 353), (σ.1 437), rfl, (Or.inl ⟨rfl, c1, ⟨rfl, rfl, rfl, rfl⟩⟩), hS, hI.sf, (Or.inr ⟨rfl, rfl, rfl, rfl⟩)⟩⟩ rfl dX10_note_9
set_option maxRecDepth 100000 in
set_option maxHeartbeats 4000000 in
theorem e_note0 (g kk : Nat → Nat) (σ : St) (k : Nat) (hk : σ.1 16 = nI k) (hk6 : k ≤ 6) (hI : iX σ) (hS : al_ 28 27 (σ.2.1 25)) (n : Nat) (hz : n = 0) (hn : σ.1 352 = nI 0) (x : Int32) : jM (S := St) yX10_note cX10_note 2 (some .int) { frames := 3, cells := 0, slots := 0, locals := 83 } kk (cX g kk σ) [.ref (g 0), .int x] (cX g kk) (rI (fun (r : Int32) (u : St) => ∃ (pF7 : Nat → Int32) (pF8 : Nat → Int32) (pF9 : Nat → Int32) (pF24 : Nat → Int32) (pF25 : Nat → Int32) (pF26 : Nat → Int32) (pI352 : Int32) (pI353 : Int32) (pI437 : Int32), u = sI (sI (sI (sF (sF (sF (sF (sF (sF σ 7 pF7) 8 pF8) 9 pF9) 24 pF24) 25 pF25) 26 pF26) 352 pI352) 353 pI353) 437 pI437 ∧ (NTF k 0 (σ.2.1 23) (σ.2.1 7) (σ.2.1 8) (σ.2.1 9) x r pF7 pF8 pF9 pI352 (TTX (σ.2.1 23) 0 (fillF (σ.2.1 24) (nI 0) 28, σ.2.1 25, σ.2.1 26, 0))) ∧ (al_ 28 27 pF25) ∧ (al_ 168 27 pF8) ∧ (pI437 = nI 1 ∨ (pI437 = σ.1 437 ∧ pF7 = σ.2.1 7 ∧ pF8 = σ.2.1 8 ∧ pF9 = σ.2.1 9)))) := by
  refine j_entry [(0, .ref (g 0)), (1, .int x)] (by decide) (Nat.le_of_ble_eq_true rfl) rfl ?_
  intro X C E HI
  refine j_aload_n C 0 rfl dX10_note_0 ?_
  refine j_iload_n C 1 rfl dX10_note_1 ?_
  refine j_V1 C (c_isCan g kk σ k hk hk6 x) kyX10_isCan tb_478 tb_480 sp_0 0 rfl (eX_0 g kk _) rfl (Nat.le_of_ble_eq_true rfl) ⟨by decide, by decide⟩ dX10_note_2 rfl (fun vr ur hp => ?_)
  obtain ⟨r, rfl, rfl, hu⟩ := hp
  replace hu := hu.symm
  subst hu
  refine j_if_ne C 10 (by decide) dX10_note_5 (fun c1 => ?_) (fun c1 => ?_)
  · replace c1 := bI_t c1
    obtain ⟨xn, xn1, rfl⟩ := cB_nat (by omega) c1
    refine j_aload_n C 0 rfl dX10_note_10 ?_
    refine gX_0_1 C tb_429 dX10_note_11 ?_
    refine gX_22_0 C tb_169 (nI 0) hn dX10_note_14 ?_
    refine j_if_leN C 34 (by decide) (by omega) dX10_note_17 (fun c2 => ?_) (fun c2 => ?_)
    · refine j_aload_n C 0 rfl dX10_note_34 ?_
      refine gX_0_1 C tb_429 dX10_note_35 ?_
      refine j_V1 C (e_readItems0 g kk σ k hk hk6 hI hn ) kyX5_readItems tb_545 tb_546 tb_547 22 rfl (eX_22 g kk _) rfl (Nat.le_of_ble_eq_true rfl) ⟨by decide, by decide⟩ dX10_note_38 rfl (fun vr ur hp => ?_)
      obtain ⟨r6, rfl, w3, w4, hu, g5⟩ := hp
      replace hu := hu.symm
      subst hu
      obtain ⟨hr, e24, e353⟩ := g5
      subst hr e24 e353
      refine j_if_neN C 47 (by decide) (by omega) dX10_note_41 (fun c7 => ?_) (fun c7 => ?_)
      · refine j_aload_n C 0 rfl dX10_note_47 ?_
        refine gX_0_0 C tb_428 dX10_note_48 ?_
        refine j_iload_n C 1 rfl dX10_note_51 ?_
        refine j_aload_n C 0 rfl dX10_note_52 ?_
        refine gX_0_1 C tb_429 dX10_note_53 ?_
        refine j_V1 C (d_takeNotes g kk (sI (sF σ 24 (fillF (σ.2.1 24) (nI 0) 28)) 353 (nI 0)) k hk hk6 hI  xn (by first | assumption | omega)) kyX2_takeNotes tb_554 tb_555 tb_556 1 rfl (eX_1 g kk _) rfl (Nat.le_of_ble_eq_true rfl) ⟨by decide, by decide⟩ dX10_note_56 rfl (fun vr ur hp => ?_)
        obtain ⟨rfl, w8, w9, w10, hu, g11, g12, g13⟩ := hp
        replace hu := hu.symm
        subst hu
        refine j_aload_n C 0 rfl dX10_note_59 ?_
        refine gX_0_1 C tb_429 dX10_note_60 ?_
        refine j_iconst C (nI 0) (by decide) dX10_note_63 ?_
        refine pX_22_0 C tb_169 dX10_note_64 ?_
        refine j_aload_n C 0 rfl dX10_note_67 ?_
        refine gX_0_2 C tb_430 dX10_note_68 ?_
        refine j_iconst C (nI 1) (by decide) dX10_note_71 ?_
        refine pX_27_5 C tb_214 rfl rfl dX10_note_72 ?_
        refine j_aload_n C 0 rfl dX10_note_75 ?_
        refine gX_0_1 C tb_429 dX10_note_76 ?_
        refine gX_22_1 C tb_171 (nI 0) rfl dX10_note_79 ?_
        refine j_w (cX g kk (sF (sI (sI (sF (sF (sF (sI (sF σ 24 (fillF (σ.2.1 24) (nI 0) 28)) 353 (nI 0)) 7 w8) 8 w9) 9 w10) 352 (nI 0)) 437 (nI 1)) 25 (σ.2.1 25))) (congrArg (cX g kk) (wrFi (S := (sI (sI (sF (sF (sF (sI (sF σ 24 (fillF (σ.2.1 24) (nI 0) 28)) 353 (nI 0)) 7 w8) 8 w9) 9 w10) 352 (nI 0)) 437 (nI 1))) (c := 25) (v := σ.2.1 25) (gtFI (gtFI (gtFF (by decide) (gtFF (by decide) (gtFF (by decide) (gtFI (gtFF (by decide) rfl))))))))) ?_
        refine j_w (cX g kk (sF (sF (sI (sI (sF (sF (sF (sI (sF σ 24 (fillF (σ.2.1 24) (nI 0) 28)) 353 (nI 0)) 7 w8) 8 w9) 9 w10) 352 (nI 0)) 437 (nI 1)) 25 (σ.2.1 25)) 26 (σ.2.1 26))) (congrArg (cX g kk) (wrFi (S := (sF (sI (sI (sF (sF (sF (sI (sF σ 24 (fillF (σ.2.1 24) (nI 0) 28)) 353 (nI 0)) 7 w8) 8 w9) 9 w10) 352 (nI 0)) 437 (nI 1)) 25 (σ.2.1 25))) (c := 26) (v := σ.2.1 26) (gtFF (by decide) (gtFI (gtFI (gtFF (by decide) (gtFF (by decide) (gtFF (by decide) (gtFI (gtFF (by decide) rfl)))))))))) ?_
        refine j_w (cX g kk (sI (sI (sI (sF (sF (sF (sF (sF (sF σ 7 w8) 8 w9) 9 w10) 24 (fillF (σ.2.1 24) (nI 0) 28)) 25 (σ.2.1 25)) 26 (σ.2.1 26)) 352 (nI 0)) 353 (nI 0)) 437 (nI 1))) (congrArg (cX g kk) (show sF (sF (sI (sI (sF (sF (sF (sI (sF σ 24 (fillF (σ.2.1 24) (nI 0) 28)) 353 (nI 0)) 7 w8) 8 w9) 9 w10) 352 (nI 0)) 437 (nI 1)) 25 (σ.2.1 25)) 26 (σ.2.1 26) = sI (sI (sI (sF (sF (sF (sF (sF (sF σ 7 w8) 8 w9) 9 w10) 24 (fillF (σ.2.1 24) (nI 0) 28)) 25 (σ.2.1 25)) 26 (σ.2.1 26)) 352 (nI 0)) 353 (nI 0)) 437 (nI 1) from (Eq.trans (wrF (Eq.trans (wrF (wrI (Eq.trans (wrI (Eq.trans (wrF (Eq.trans (wrF (Eq.trans wrFI (wrI (wrFc (by decide))))) (Eq.trans wrFI (wrI (wrFc (by decide)))))) (Eq.trans wrFI (wrI (wrFc (by decide)))))) (wrIc (by decide))))) (Eq.trans wrFI (wrI (Eq.trans wrFI (wrI wrFI)))))) (Eq.trans wrFI (wrI (Eq.trans wrFI (wrI wrFI))))))) ?_
        exact j_iret C E (sI (sI (sI (sF (sF (sF (sF (sF (sF σ 7 w8) 8 w9) 9 w10) 24 (fillF (σ.2.1 24) (nI 0) 28)) 25 (σ.2.1 25)) 26 (σ.2.1 26)) 352 (nI 0)) 353 (nI 0)) 437 (nI 1)) ⟨_, rfl, ⟨w8, w9, w10, (fillF (σ.2.1 24) (nI 0) 28), (σ.2.1 25), (σ.2.1 26), (nI 0), (nI 0), (nI 1), rfl, (Or.inr (Or.inr ⟨xn, 0, _, _, _, xn1, rfl, Or.inl rfl, TTX_0, rfl, by rw [g11, Nat.mul_comm xn 28]; rfl, by rw [g12, Nat.mul_comm xn 28]; rfl, by rw [g13, Nat.mul_comm xn 28]; rfl, rfl⟩)), hS, (by rw [g12]; exact al_cpy hS hI.sf (by decide)), (Or.inl rfl)⟩⟩ rfl dX10_note_82
      · exact absurd c7 (by decide)
    · exact absurd c2 (by decide)
  · replace c1 := bI_f c1
    refine j_iconst C ((-1)) (by decide) dX10_note_8 ?_
    refine j_w (cX g kk (sI σ 352 (nI 0))) (congrArg (cX g kk) (sI_self (σ := σ) (i := 352) (v := nI 0) hn).symm) ?_
    refine j_w (cX g kk (sF (sI σ 352 (nI 0)) 7 (σ.2.1 7))) (congrArg (cX g kk) (wrFi (S := (sI σ 352 (nI 0))) (c := 7) (v := σ.2.1 7) (gtFI rfl))) ?_
    refine j_w (cX g kk (sF (sF (sI σ 352 (nI 0)) 7 (σ.2.1 7)) 8 (σ.2.1 8))) (congrArg (cX g kk) (wrFi (S := (sF (sI σ 352 (nI 0)) 7 (σ.2.1 7))) (c := 8) (v := σ.2.1 8) (gtFF (by decide) (gtFI rfl)))) ?_
    refine j_w (cX g kk (sF (sF (sF (sI σ 352 (nI 0)) 7 (σ.2.1 7)) 8 (σ.2.1 8)) 9 (σ.2.1 9))) (congrArg (cX g kk) (wrFi (S := (sF (sF (sI σ 352 (nI 0)) 7 (σ.2.1 7)) 8 (σ.2.1 8))) (c := 9) (v := σ.2.1 9) (gtFF (by decide) (gtFF (by decide) (gtFI rfl))))) ?_
    refine j_w (cX g kk (sF (sF (sF (sF (sI σ 352 (nI 0)) 7 (σ.2.1 7)) 8 (σ.2.1 8)) 9 (σ.2.1 9)) 24 (σ.2.1 24))) (congrArg (cX g kk) (wrFi (S := (sF (sF (sF (sI σ 352 (nI 0)) 7 (σ.2.1 7)) 8 (σ.2.1 8)) 9 (σ.2.1 9))) (c := 24) (v := σ.2.1 24) (gtFF (by decide) (gtFF (by decide) (gtFF (by decide) (gtFI rfl)))))) ?_
    refine j_w (cX g kk (sF (sF (sF (sF (sF (sI σ 352 (nI 0)) 7 (σ.2.1 7)) 8 (σ.2.1 8)) 9 (σ.2.1 9)) 24 (σ.2.1 24)) 25 (σ.2.1 25))) (congrArg (cX g kk) (wrFi (S := (sF (sF (sF (sF (sI σ 352 (nI 0)) 7 (σ.2.1 7)) 8 (σ.2.1 8)) 9 (σ.2.1 9)) 24 (σ.2.1 24))) (c := 25) (v := σ.2.1 25) (gtFF (by decide) (gtFF (by decide) (gtFF (by decide) (gtFF (by decide) (gtFI rfl))))))) ?_
    refine j_w (cX g kk (sF (sF (sF (sF (sF (sF (sI σ 352 (nI 0)) 7 (σ.2.1 7)) 8 (σ.2.1 8)) 9 (σ.2.1 9)) 24 (σ.2.1 24)) 25 (σ.2.1 25)) 26 (σ.2.1 26))) (congrArg (cX g kk) (wrFi (S := (sF (sF (sF (sF (sF (sI σ 352 (nI 0)) 7 (σ.2.1 7)) 8 (σ.2.1 8)) 9 (σ.2.1 9)) 24 (σ.2.1 24)) 25 (σ.2.1 25))) (c := 26) (v := σ.2.1 26) (gtFF (by decide) (gtFF (by decide) (gtFF (by decide) (gtFF (by decide) (gtFF (by decide) (gtFI rfl)))))))) ?_
    refine j_w (cX g kk (sI (sF (sF (sF (sF (sF (sF (sI σ 352 (nI 0)) 7 (σ.2.1 7)) 8 (σ.2.1 8)) 9 (σ.2.1 9)) 24 (σ.2.1 24)) 25 (σ.2.1 25)) 26 (σ.2.1 26)) 353 (σ.1 353))) (congrArg (cX g kk) (wrIi (S := (sF (sF (sF (sF (sF (sF (sI σ 352 (nI 0)) 7 (σ.2.1 7)) 8 (σ.2.1 8)) 9 (σ.2.1 9)) 24 (σ.2.1 24)) 25 (σ.2.1 25)) 26 (σ.2.1 26))) (c := 353) (v := σ.1 353) (gtIF (gtIF (gtIF (gtIF (gtIF (gtIF (gtII (by decide) rfl))))))))) ?_
    refine j_w (cX g kk (sI (sI (sF (sF (sF (sF (sF (sF (sI σ 352 (nI 0)) 7 (σ.2.1 7)) 8 (σ.2.1 8)) 9 (σ.2.1 9)) 24 (σ.2.1 24)) 25 (σ.2.1 25)) 26 (σ.2.1 26)) 353 (σ.1 353)) 437 (σ.1 437))) (congrArg (cX g kk) (wrIi (S := (sI (sF (sF (sF (sF (sF (sF (sI σ 352 (nI 0)) 7 (σ.2.1 7)) 8 (σ.2.1 8)) 9 (σ.2.1 9)) 24 (σ.2.1 24)) 25 (σ.2.1 25)) 26 (σ.2.1 26)) 353 (σ.1 353))) (c := 437) (v := σ.1 437) (gtII (by decide) (gtIF (gtIF (gtIF (gtIF (gtIF (gtIF (gtII (by decide) rfl)))))))))) ?_
    refine j_w (cX g kk (sI (sI (sI (sF (sF (sF (sF (sF (sF σ 7 (σ.2.1 7)) 8 (σ.2.1 8)) 9 (σ.2.1 9)) 24 (σ.2.1 24)) 25 (σ.2.1 25)) 26 (σ.2.1 26)) 352 (nI 0)) 353 (σ.1 353)) 437 (σ.1 437))) (congrArg (cX g kk) (show sI (sI (sF (sF (sF (sF (sF (sF (sI σ 352 (nI 0)) 7 (σ.2.1 7)) 8 (σ.2.1 8)) 9 (σ.2.1 9)) 24 (σ.2.1 24)) 25 (σ.2.1 25)) 26 (σ.2.1 26)) 353 (σ.1 353)) 437 (σ.1 437) = sI (sI (sI (sF (sF (sF (sF (sF (sF σ 7 (σ.2.1 7)) 8 (σ.2.1 8)) 9 (σ.2.1 9)) 24 (σ.2.1 24)) 25 (σ.2.1 25)) 26 (σ.2.1 26)) 352 (nI 0)) 353 (σ.1 353)) 437 (σ.1 437) from (wrI (wrI (Eq.trans (wrF (Eq.trans (wrF (Eq.trans (wrF (Eq.trans (wrF (Eq.trans (wrF wrFI) wrFI)) wrFI)) wrFI)) wrFI)) wrFI))))) ?_
    exact j_iret C E (sI (sI (sI (sF (sF (sF (sF (sF (sF σ 7 (σ.2.1 7)) 8 (σ.2.1 8)) 9 (σ.2.1 9)) 24 (σ.2.1 24)) 25 (σ.2.1 25)) 26 (σ.2.1 26)) 352 (nI 0)) 353 (σ.1 353)) 437 (σ.1 437)) ⟨_, rfl, ⟨(σ.2.1 7), (σ.2.1 8), (σ.2.1 9), (σ.2.1 24), (σ.2.1 25), (σ.2.1 26), (nI 0), (σ.1 353), (σ.1 437), rfl, (Or.inl ⟨rfl, c1, ⟨rfl, rfl, rfl, rfl⟩⟩), hS, hI.sf, (Or.inr ⟨rfl, rfl, rfl, rfl⟩)⟩⟩ rfl dX10_note_9
set_option maxRecDepth 100000 in
set_option maxHeartbeats 4000000 in
theorem o_note1 (g kk : Nat → Nat) (σ : St) (k : Nat) (hk : σ.1 3 = nI k) (hk6 : k ≤ 6) (hI : iM σ) (hS : al_ 28 27 (σ.2.1 14)) (n : Nat) (hn : σ.1 15 = nI n) (hnb : 1 ≤ n ∧ n ≤ 40) (x : Int32) : jM (S := St) yX11_note cX11_note 4 (some .int) { frames := 3, cells := 0, slots := 0, locals := 82 } kk (cM g kk σ) [.ref (g 0), .int x] (cM g kk) (rI (fun (r : Int32) (u : St) => ∃ (pF10 : Nat → Int32) (pF11 : Nat → Int32) (pF12 : Nat → Int32) (pF13 : Nat → Int32) (pF14 : Nat → Int32) (pF15 : Nat → Int32) (pI15 : Int32), u = sI (sF (sF (sF (sF (sF (sF σ 10 pF10) 11 pF11) 12 pF12) 13 pF13) 14 pF14) 15 pF15) 15 pI15 ∧ (NTF k n (σ.2.1 9) (σ.2.1 10) (σ.2.1 11) (σ.2.1 12) x r pF10 pF11 pF12 pI15 (TTX (σ.2.1 9) n (fillR (σ.2.1 13) 0 28 (nI 0), σ.2.1 14, σ.2.1 15, 0))) ∧ (al_ 28 27 pF14) ∧ (al_ 168 27 pF11))) := by
  refine j_entry [(0, .ref (g 0)), (1, .int x)] (by decide) (Nat.le_of_ble_eq_true rfl) rfl ?_
  intro X C E HI
  refine j_aload_n C 0 rfl dX11_note_0 ?_
  refine j_iload_n C 1 rfl dX11_note_1 ?_
  refine j_V1 C (m_isCan g kk σ k hk hk6 x) kyX11_isCan tb_1067 tb_1069 sp_21 0 rfl (eM_0 g kk _) rfl (Nat.le_of_ble_eq_true rfl) ⟨by decide, by decide⟩ dX11_note_2 rfl (fun vr ur hp => ?_)
  obtain ⟨r, rfl, rfl, hu⟩ := hp
  replace hu := hu.symm
  subst hu
  refine j_if_ne C 10 (by decide) dX11_note_5 (fun c1 => ?_) (fun c1 => ?_)
  · replace c1 := bI_t c1
    obtain ⟨xn, xn1, rfl⟩ := cB_nat (by omega) c1
    refine j_aload_n C 0 rfl dX11_note_10 ?_
    refine gM_0_15 C tb_888 (nI n) hn dX11_note_11 ?_
    refine j_if_leN C 27 (by decide) (by omega) dX11_note_14 (fun c2 => ?_) (fun c2 => ?_)
    · exact absurd c2 (by omega)
    · refine j_aload_n C 0 rfl dX11_note_17 ?_
      refine j_V1 C (o_fault g kk σ k hk hk6 hI n hn (by omega) ) kyX11_fault tb_1118 tb_1106 tb_1107 0 rfl (eM_0 g kk _) rfl (Nat.le_of_ble_eq_true rfl) ⟨by decide, by decide⟩ dX11_note_18 rfl (fun vr ur hp => ?_)
      obtain ⟨r4, rfl, hu, g3⟩ := hp
      replace hu := hu.symm
      subst hu
      rcases ftR_lm (σ.2.1 9) n 0 0 40 (by omega) with h9 | ⟨m9, hm9, h9⟩
      · rw [h9] at g3
        replace g3 : r4 = -6 := g3
        subst g3
        refine j_if_lt C 27 (by decide) dX11_note_21 (fun c5 => ?_) (fun c5 => ?_)
        · refine j_aload_n C 0 rfl dX11_note_27 ?_
          refine j_V1 C (o_layAll g kk σ k hk hk6 hI hS n hn (by omega) h9 ) kyX11_layAll tb_1119 tb_1121 sp_22 0 rfl (eM_0 g kk _) rfl (Nat.le_of_ble_eq_true rfl) ⟨by decide, by decide⟩ dX11_note_28 rfl (fun vr ur hp => ?_)
          obtain ⟨r11, rfl, w6, w7, w8, hu, g9, g10⟩ := hp
          replace hu := hu.symm
          subst hu
          rcases g9 with ⟨q9, hq9, hr, hT⟩ | ⟨hr, hT⟩
          · subst hr
            refine j_istore_n C [(2, .int (nI q9)), (0, .ref (g 0)), (1, .int (nI xn))] rfl (by decide) rfl dX11_note_31 ?_
            refine j_iload_n C 0 rfl dX11_note_32 ?_
            refine j_if_geN C 39 (by decide) (by omega) dX11_note_33 (fun c12 => ?_) (fun c12 => ?_)
            · refine j_iconst C (nI 0) (by decide) dX11_note_39 ?_
              refine j_istore_n C [(3, .int (nI 0)), (2, .int (nI q9)), (0, .ref (g 0)), (1, .int (nI xn))] rfl (by decide) rfl dX11_note_40 ?_
              have L41 : ∀ (n41 : Nat) (d : Nat) (f10 : Nat → Int32) (f11 : Nat → Int32) (f12 : Nat → Int32) (i41_0 : d ≤ 28) (h10 : f10 = va_cpy w6 (σ.2.1 10) 0 (28 * xn) d) (h11 : f11 = va_cpy w7 (σ.2.1 11) 0 (28 * xn) d) (h12 : f12 = va_cpy w8 (σ.2.1 12) 0 (28 * xn) d) (hm41 : 28 - d < n41), J X 0 0 (cM g kk (sF (sF (sF (sF (sF (sF σ 10 f10) 11 f11) 12 f12) 13 w6) 14 w7) 15 w8)) [(3, .int (nI d)), (2, .int (nI q9)), (0, .ref (g 0)), (1, .int (nI xn))] 41 [] := by
                intro n41
                induction n41 with
                | zero => intro d f10 f11 f12 i41_0 h10 h11 h12 hm; exact absurd hm (Nat.not_lt_zero _)
                | succ n41 ih41 =>
                  intro d f10 f11 f12 i41_0 h10 h11 h12 hm41
                  refine j_iload_n C 0 rfl dX11_note_41 ?_
                  refine j_bipush C (nI 28) (by decide) dX11_note_42 ?_
                  refine j_icmp_geN C 101 (by decide) (by omega) (by omega) dX11_note_44 (fun c13 => ?_) (fun c13 => ?_)
                  · refine j_aload_n C 2 rfl dX11_note_101 ?_
                    refine j_iconst C (nI 0) (by decide) dX11_note_102 ?_
                    refine pM_0_15 C tb_888 dX11_note_103 ?_
                    refine j_iload_n C 1 rfl dX11_note_106 ?_
                    exact j_iret C E (sI (sF (sF (sF (sF (sF (sF σ 10 f10) 11 f11) 12 f12) 13 w6) 14 w7) 15 w8) 15 (nI 0)) ⟨_, rfl, ⟨f10, f11, f12, w6, w7, w8, (nI 0), rfl, (Or.inr (Or.inr ⟨xn, q9, _, _, _, xn1, rfl, Or.inr h9, (TTX_p (by omega)).trans hT, rfl, by have z := h10; rw [show d = 28 by omega] at z; exact z, by have z := h11; rw [show d = 28 by omega] at z; exact z, by have z := h12; rw [show d = 28 by omega] at z; exact z, rfl⟩)), g10, (by rw [h11]; exact al_cpy g10 hI.fo (by omega))⟩⟩ rfl dX11_note_107
                  · refine j_aload_n C 2 rfl dX11_note_47 ?_
                    refine gM_0_16 C tb_889 dX11_note_48 ?_
                    refine j_iload_n C 3 rfl dX11_note_51 ?_
                    refine j_iload_n C 0 rfl dX11_note_52 ?_
                    refine j_S01 C (m_at xn d) kyX11_at tb_1060 tb_1061 rfl (Nat.le_of_ble_eq_true rfl) ⟨by decide, by decide⟩ ⟨by decide, by decide⟩ dX11_note_53 rfl ?_
                    refine j_aload_n C 2 rfl dX11_note_56 ?_
                    refine gM_0_19 C tb_892 dX11_note_57 ?_
                    refine j_iload_n C 0 rfl dX11_note_60 ?_
                    refine rM_13 C d rfl (by omega) (w6 d) rfl dX11_note_61 ?_
                    refine tM_10 C (28 * xn + d) rfl (by omega) dX11_note_62 ?_
                    refine j_aload_n C 2 rfl dX11_note_63 ?_
                    refine gM_0_17 C tb_890 dX11_note_64 ?_
                    refine j_iload_n C 3 rfl dX11_note_67 ?_
                    refine j_iload_n C 0 rfl dX11_note_68 ?_
                    refine j_S01 C (m_at xn d) kyX11_at tb_1060 tb_1061 rfl (Nat.le_of_ble_eq_true rfl) ⟨by decide, by decide⟩ ⟨by decide, by decide⟩ dX11_note_69 rfl ?_
                    refine j_aload_n C 2 rfl dX11_note_72 ?_
                    refine gM_0_20 C tb_893 dX11_note_73 ?_
                    refine j_iload_n C 0 rfl dX11_note_76 ?_
                    refine rM_14 C d rfl (by omega) (w7 d) rfl dX11_note_77 ?_
                    refine tM_11 C (28 * xn + d) rfl (by omega) dX11_note_78 ?_
                    refine j_aload_n C 2 rfl dX11_note_79 ?_
                    refine gM_0_18 C tb_891 dX11_note_80 ?_
                    refine j_iload_n C 3 rfl dX11_note_83 ?_
                    refine j_iload_n C 0 rfl dX11_note_84 ?_
                    refine j_S01 C (m_at xn d) kyX11_at tb_1060 tb_1061 rfl (Nat.le_of_ble_eq_true rfl) ⟨by decide, by decide⟩ ⟨by decide, by decide⟩ dX11_note_85 rfl ?_
                    refine j_aload_n C 2 rfl dX11_note_88 ?_
                    refine gM_0_21 C tb_894 dX11_note_89 ?_
                    refine j_iload_n C 0 rfl dX11_note_92 ?_
                    refine rM_15 C d rfl (by omega) (w8 d) rfl dX11_note_93 ?_
                    refine tM_12 C (28 * xn + d) rfl (by omega) dX11_note_94 ?_
                    refine j_iinc C (nI (d + 1)) [(3, .int (nI (d + 1))), (2, .int (nI q9)), (0, .ref (g 0)), (1, .int (nI xn))] 0 rfl (by rw [show Int32.ofInt 1 = nI 1 from by decide, nI_add]) (by decide) rfl dX11_note_95 ?_
                    refine j_goto C 41 (by decide) dX11_note_98 ?_
                    refine j_w (cM g kk (sF (sF (sF (sF (sF (sF σ 10 (upd f10 (28 * xn + d) (w6 d))) 11 (upd f11 (28 * xn + d) (w7 d))) 12 (upd f12 (28 * xn + d) (w8 d))) 13 w6) 14 w7) 15 w8)) (congrArg (cM g kk) (show sF (sF (sF (sF (sF (sF (sF (sF (sF σ 10 f10) 11 f11) 12 f12) 13 w6) 14 w7) 15 w8) 10 (upd f10 (28 * xn + d) (w6 d))) 11 (upd f11 (28 * xn + d) (w7 d))) 12 (upd f12 (28 * xn + d) (w8 d)) = sF (sF (sF (sF (sF (sF σ 10 (upd f10 (28 * xn + d) (w6 d))) 11 (upd f11 (28 * xn + d) (w7 d))) 12 (upd f12 (28 * xn + d) (w8 d))) 13 w6) 14 w7) 15 w8 from (Eq.trans (wrF (Eq.trans (wrF (Eq.trans (wrFc (by decide)) (wrF (Eq.trans (wrFc (by decide)) (wrF (Eq.trans (wrFc (by decide)) (wrF (Eq.trans (wrFc (by decide)) (wrF (Eq.trans (wrFc (by decide)) (wrF wrFs))))))))))) (Eq.trans (wrFc (by decide)) (wrF (Eq.trans (wrFc (by decide)) (wrF (Eq.trans (wrFc (by decide)) (wrF (Eq.trans (wrFc (by decide)) (wrF wrFs)))))))))) (Eq.trans (wrFc (by decide)) (wrF (Eq.trans (wrFc (by decide)) (wrF (Eq.trans (wrFc (by decide)) (wrF wrFs))))))))) ?_
                    exact ih41 (d + 1) (upd f10 (28 * xn + d) (w6 d)) (upd f11 (28 * xn + d) (w7 d)) (upd f12 (28 * xn + d) (w8 d)) (by omega) (cpy_s h10) (cpy_s h11) (cpy_s h12) (by omega)
              refine j_w (cM g kk (sF (sF (sF (sF σ 13 w6) 14 w7) 15 w8) 10 (σ.2.1 10))) (congrArg (cM g kk) (wrFi (S := (sF (sF (sF σ 13 w6) 14 w7) 15 w8)) (c := 10) (v := σ.2.1 10) (gtFF (by decide) (gtFF (by decide) (gtFF (by decide) rfl))))) ?_
              refine j_w (cM g kk (sF (sF (sF (sF (sF σ 13 w6) 14 w7) 15 w8) 10 (σ.2.1 10)) 11 (σ.2.1 11))) (congrArg (cM g kk) (wrFi (S := (sF (sF (sF (sF σ 13 w6) 14 w7) 15 w8) 10 (σ.2.1 10))) (c := 11) (v := σ.2.1 11) (gtFF (by decide) (gtFF (by decide) (gtFF (by decide) (gtFF (by decide) rfl)))))) ?_
              refine j_w (cM g kk (sF (sF (sF (sF (sF (sF σ 13 w6) 14 w7) 15 w8) 10 (σ.2.1 10)) 11 (σ.2.1 11)) 12 (σ.2.1 12))) (congrArg (cM g kk) (wrFi (S := (sF (sF (sF (sF (sF σ 13 w6) 14 w7) 15 w8) 10 (σ.2.1 10)) 11 (σ.2.1 11))) (c := 12) (v := σ.2.1 12) (gtFF (by decide) (gtFF (by decide) (gtFF (by decide) (gtFF (by decide) (gtFF (by decide) rfl))))))) ?_
              refine j_w (cM g kk (sF (sF (sF (sF (sF (sF σ 10 (σ.2.1 10)) 11 (σ.2.1 11)) 12 (σ.2.1 12)) 13 w6) 14 w7) 15 w8)) (congrArg (cM g kk) (show sF (sF (sF (sF (sF (sF σ 13 w6) 14 w7) 15 w8) 10 (σ.2.1 10)) 11 (σ.2.1 11)) 12 (σ.2.1 12) = sF (sF (sF (sF (sF (sF σ 10 (σ.2.1 10)) 11 (σ.2.1 11)) 12 (σ.2.1 12)) 13 w6) 14 w7) 15 w8 from (Eq.trans (wrF (Eq.trans (wrF (Eq.trans (wrFc (by decide)) (wrF (Eq.trans (wrFc (by decide)) (wrF (wrFc (by decide))))))) (Eq.trans (wrFc (by decide)) (wrF (Eq.trans (wrFc (by decide)) (wrF (wrFc (by decide)))))))) (Eq.trans (wrFc (by decide)) (wrF (Eq.trans (wrFc (by decide)) (wrF (wrFc (by decide))))))))) ?_
              exact L41 _ 0 (σ.2.1 10) (σ.2.1 11) (σ.2.1 12) (by omega) cpy_0 cpy_0 cpy_0 (Nat.lt_succ_self _)
            · exact absurd c12 (Nat.not_lt_zero _)
          · subst hr
            refine j_istore_n C [(2, .int (-6)), (0, .ref (g 0)), (1, .int (nI xn))] rfl (by decide) rfl dX11_note_31 ?_
            refine j_iload_n C 0 rfl dX11_note_32 ?_
            refine j_if_ge C 39 (by decide) dX11_note_33 (fun c14 => ?_) (fun c14 => ?_)
            · exact absurd c14 (by decide)
            · refine j_bipush C ((-5)) (by decide) dX11_note_36 ?_
              refine j_w (cM g kk (sI (sF (sF (sF σ 13 w6) 14 w7) 15 w8) 15 (nI n))) (congrArg (cM g kk) (sI_self (σ := (sF (sF (sF σ 13 w6) 14 w7) 15 w8)) (i := 15) (v := nI n) hn).symm) ?_
              refine j_w (cM g kk (sF (sI (sF (sF (sF σ 13 w6) 14 w7) 15 w8) 15 (nI n)) 10 (σ.2.1 10))) (congrArg (cM g kk) (wrFi (S := (sI (sF (sF (sF σ 13 w6) 14 w7) 15 w8) 15 (nI n))) (c := 10) (v := σ.2.1 10) (gtFI (gtFF (by decide) (gtFF (by decide) (gtFF (by decide) rfl)))))) ?_
              refine j_w (cM g kk (sF (sF (sI (sF (sF (sF σ 13 w6) 14 w7) 15 w8) 15 (nI n)) 10 (σ.2.1 10)) 11 (σ.2.1 11))) (congrArg (cM g kk) (wrFi (S := (sF (sI (sF (sF (sF σ 13 w6) 14 w7) 15 w8) 15 (nI n)) 10 (σ.2.1 10))) (c := 11) (v := σ.2.1 11) (gtFF (by decide) (gtFI (gtFF (by decide) (gtFF (by decide) (gtFF (by decide) rfl))))))) ?_
              refine j_w (cM g kk (sF (sF (sF (sI (sF (sF (sF σ 13 w6) 14 w7) 15 w8) 15 (nI n)) 10 (σ.2.1 10)) 11 (σ.2.1 11)) 12 (σ.2.1 12))) (congrArg (cM g kk) (wrFi (S := (sF (sF (sI (sF (sF (sF σ 13 w6) 14 w7) 15 w8) 15 (nI n)) 10 (σ.2.1 10)) 11 (σ.2.1 11))) (c := 12) (v := σ.2.1 12) (gtFF (by decide) (gtFF (by decide) (gtFI (gtFF (by decide) (gtFF (by decide) (gtFF (by decide) rfl)))))))) ?_
              refine j_w (cM g kk (sI (sF (sF (sF (sF (sF (sF σ 10 (σ.2.1 10)) 11 (σ.2.1 11)) 12 (σ.2.1 12)) 13 w6) 14 w7) 15 w8) 15 (nI n))) (congrArg (cM g kk) (show sF (sF (sF (sI (sF (sF (sF σ 13 w6) 14 w7) 15 w8) 15 (nI n)) 10 (σ.2.1 10)) 11 (σ.2.1 11)) 12 (σ.2.1 12) = sI (sF (sF (sF (sF (sF (sF σ 10 (σ.2.1 10)) 11 (σ.2.1 11)) 12 (σ.2.1 12)) 13 w6) 14 w7) 15 w8) 15 (nI n) from (Eq.trans (wrF (Eq.trans (wrF (Eq.trans wrFI (wrI (Eq.trans (wrFc (by decide)) (wrF (Eq.trans (wrFc (by decide)) (wrF (wrFc (by decide))))))))) (Eq.trans wrFI (wrI (Eq.trans (wrFc (by decide)) (wrF (Eq.trans (wrFc (by decide)) (wrF (wrFc (by decide)))))))))) (Eq.trans wrFI (wrI (Eq.trans (wrFc (by decide)) (wrF (Eq.trans (wrFc (by decide)) (wrF (wrFc (by decide))))))))))) ?_
              exact j_iret C E (sI (sF (sF (sF (sF (sF (sF σ 10 (σ.2.1 10)) 11 (σ.2.1 11)) 12 (σ.2.1 12)) 13 w6) 14 w7) 15 w8) 15 (nI n)) ⟨_, rfl, ⟨(σ.2.1 10), (σ.2.1 11), (σ.2.1 12), w6, w7, w8, (nI n), rfl, (Or.inr (Or.inl ⟨rfl, c1, Or.inr ((TTX_p (by omega)).trans hT), ⟨rfl, rfl, rfl, rfl⟩⟩)), g10, hI.fo⟩⟩ rfl dX11_note_38
        · exact absurd c5 (by decide)
      · rw [h9, tr_ge (nI_pos' (by omega))] at g3
        subst g3
        refine j_if_ltN C 27 (by decide) (by omega) dX11_note_21 (fun c15 => ?_) (fun c15 => ?_)
        · exact absurd c15 (Nat.not_lt_zero _)
        · refine j_bipush C ((-5)) (by decide) dX11_note_24 ?_
          refine j_w (cM g kk (sI σ 15 (nI n))) (congrArg (cM g kk) (sI_self (σ := σ) (i := 15) (v := nI n) hn).symm) ?_
          refine j_w (cM g kk (sF (sI σ 15 (nI n)) 10 (σ.2.1 10))) (congrArg (cM g kk) (wrFi (S := (sI σ 15 (nI n))) (c := 10) (v := σ.2.1 10) (gtFI rfl))) ?_
          refine j_w (cM g kk (sF (sF (sI σ 15 (nI n)) 10 (σ.2.1 10)) 11 (σ.2.1 11))) (congrArg (cM g kk) (wrFi (S := (sF (sI σ 15 (nI n)) 10 (σ.2.1 10))) (c := 11) (v := σ.2.1 11) (gtFF (by decide) (gtFI rfl)))) ?_
          refine j_w (cM g kk (sF (sF (sF (sI σ 15 (nI n)) 10 (σ.2.1 10)) 11 (σ.2.1 11)) 12 (σ.2.1 12))) (congrArg (cM g kk) (wrFi (S := (sF (sF (sI σ 15 (nI n)) 10 (σ.2.1 10)) 11 (σ.2.1 11))) (c := 12) (v := σ.2.1 12) (gtFF (by decide) (gtFF (by decide) (gtFI rfl))))) ?_
          refine j_w (cM g kk (sF (sF (sF (sF (sI σ 15 (nI n)) 10 (σ.2.1 10)) 11 (σ.2.1 11)) 12 (σ.2.1 12)) 13 (σ.2.1 13))) (congrArg (cM g kk) (wrFi (S := (sF (sF (sF (sI σ 15 (nI n)) 10 (σ.2.1 10)) 11 (σ.2.1 11)) 12 (σ.2.1 12))) (c := 13) (v := σ.2.1 13) (gtFF (by decide) (gtFF (by decide) (gtFF (by decide) (gtFI rfl)))))) ?_
          refine j_w (cM g kk (sF (sF (sF (sF (sF (sI σ 15 (nI n)) 10 (σ.2.1 10)) 11 (σ.2.1 11)) 12 (σ.2.1 12)) 13 (σ.2.1 13)) 14 (σ.2.1 14))) (congrArg (cM g kk) (wrFi (S := (sF (sF (sF (sF (sI σ 15 (nI n)) 10 (σ.2.1 10)) 11 (σ.2.1 11)) 12 (σ.2.1 12)) 13 (σ.2.1 13))) (c := 14) (v := σ.2.1 14) (gtFF (by decide) (gtFF (by decide) (gtFF (by decide) (gtFF (by decide) (gtFI rfl))))))) ?_
          refine j_w (cM g kk (sF (sF (sF (sF (sF (sF (sI σ 15 (nI n)) 10 (σ.2.1 10)) 11 (σ.2.1 11)) 12 (σ.2.1 12)) 13 (σ.2.1 13)) 14 (σ.2.1 14)) 15 (σ.2.1 15))) (congrArg (cM g kk) (wrFi (S := (sF (sF (sF (sF (sF (sI σ 15 (nI n)) 10 (σ.2.1 10)) 11 (σ.2.1 11)) 12 (σ.2.1 12)) 13 (σ.2.1 13)) 14 (σ.2.1 14))) (c := 15) (v := σ.2.1 15) (gtFF (by decide) (gtFF (by decide) (gtFF (by decide) (gtFF (by decide) (gtFF (by decide) (gtFI rfl)))))))) ?_
          refine j_w (cM g kk (sI (sF (sF (sF (sF (sF (sF σ 10 (σ.2.1 10)) 11 (σ.2.1 11)) 12 (σ.2.1 12)) 13 (σ.2.1 13)) 14 (σ.2.1 14)) 15 (σ.2.1 15)) 15 (nI n))) (congrArg (cM g kk) (show sF (sF (sF (sF (sF (sF (sI σ 15 (nI n)) 10 (σ.2.1 10)) 11 (σ.2.1 11)) 12 (σ.2.1 12)) 13 (σ.2.1 13)) 14 (σ.2.1 14)) 15 (σ.2.1 15) = sI (sF (sF (sF (sF (sF (sF σ 10 (σ.2.1 10)) 11 (σ.2.1 11)) 12 (σ.2.1 12)) 13 (σ.2.1 13)) 14 (σ.2.1 14)) 15 (σ.2.1 15)) 15 (nI n) from (Eq.trans (wrF (Eq.trans (wrF (Eq.trans (wrF (Eq.trans (wrF (Eq.trans (wrF wrFI) wrFI)) wrFI)) wrFI)) wrFI)) wrFI))) ?_
          exact j_iret C E (sI (sF (sF (sF (sF (sF (sF σ 10 (σ.2.1 10)) 11 (σ.2.1 11)) 12 (σ.2.1 12)) 13 (σ.2.1 13)) 14 (σ.2.1 14)) 15 (σ.2.1 15)) 15 (nI n)) ⟨_, rfl, ⟨(σ.2.1 10), (σ.2.1 11), (σ.2.1 12), (σ.2.1 13), (σ.2.1 14), (σ.2.1 15), (nI n), rfl, (Or.inr (Or.inl ⟨rfl, c1, Or.inl (fun w => w.elim (by omega) (fun w => nI_nm1 (show m9 < 2 ^ 31 by omega) (h9.symm.trans w))), ⟨rfl, rfl, rfl, rfl⟩⟩)), hS, hI.fo⟩⟩ rfl dX11_note_26
  · replace c1 := bI_f c1
    refine j_iconst C ((-1)) (by decide) dX11_note_8 ?_
    refine j_w (cM g kk (sI σ 15 (nI n))) (congrArg (cM g kk) (sI_self (σ := σ) (i := 15) (v := nI n) hn).symm) ?_
    refine j_w (cM g kk (sF (sI σ 15 (nI n)) 10 (σ.2.1 10))) (congrArg (cM g kk) (wrFi (S := (sI σ 15 (nI n))) (c := 10) (v := σ.2.1 10) (gtFI rfl))) ?_
    refine j_w (cM g kk (sF (sF (sI σ 15 (nI n)) 10 (σ.2.1 10)) 11 (σ.2.1 11))) (congrArg (cM g kk) (wrFi (S := (sF (sI σ 15 (nI n)) 10 (σ.2.1 10))) (c := 11) (v := σ.2.1 11) (gtFF (by decide) (gtFI rfl)))) ?_
    refine j_w (cM g kk (sF (sF (sF (sI σ 15 (nI n)) 10 (σ.2.1 10)) 11 (σ.2.1 11)) 12 (σ.2.1 12))) (congrArg (cM g kk) (wrFi (S := (sF (sF (sI σ 15 (nI n)) 10 (σ.2.1 10)) 11 (σ.2.1 11))) (c := 12) (v := σ.2.1 12) (gtFF (by decide) (gtFF (by decide) (gtFI rfl))))) ?_
    refine j_w (cM g kk (sF (sF (sF (sF (sI σ 15 (nI n)) 10 (σ.2.1 10)) 11 (σ.2.1 11)) 12 (σ.2.1 12)) 13 (σ.2.1 13))) (congrArg (cM g kk) (wrFi (S := (sF (sF (sF (sI σ 15 (nI n)) 10 (σ.2.1 10)) 11 (σ.2.1 11)) 12 (σ.2.1 12))) (c := 13) (v := σ.2.1 13) (gtFF (by decide) (gtFF (by decide) (gtFF (by decide) (gtFI rfl)))))) ?_
    refine j_w (cM g kk (sF (sF (sF (sF (sF (sI σ 15 (nI n)) 10 (σ.2.1 10)) 11 (σ.2.1 11)) 12 (σ.2.1 12)) 13 (σ.2.1 13)) 14 (σ.2.1 14))) (congrArg (cM g kk) (wrFi (S := (sF (sF (sF (sF (sI σ 15 (nI n)) 10 (σ.2.1 10)) 11 (σ.2.1 11)) 12 (σ.2.1 12)) 13 (σ.2.1 13))) (c := 14) (v := σ.2.1 14) (gtFF (by decide) (gtFF (by decide) (gtFF (by decide) (gtFF (by decide) (gtFI rfl))))))) ?_
    refine j_w (cM g kk (sF (sF (sF (sF (sF (sF (sI σ 15 (nI n)) 10 (σ.2.1 10)) 11 (σ.2.1 11)) 12 (σ.2.1 12)) 13 (σ.2.1 13)) 14 (σ.2.1 14)) 15 (σ.2.1 15))) (congrArg (cM g kk) (wrFi (S := (sF (sF (sF (sF (sF (sI σ 15 (nI n)) 10 (σ.2.1 10)) 11 (σ.2.1 11)) 12 (σ.2.1 12)) 13 (σ.2.1 13)) 14 (σ.2.1 14))) (c := 15) (v := σ.2.1 15) (gtFF (by decide) (gtFF (by decide) (gtFF (by decide) (gtFF (by decide) (gtFF (by decide) (gtFI rfl)))))))) ?_
    refine j_w (cM g kk (sI (sF (sF (sF (sF (sF (sF σ 10 (σ.2.1 10)) 11 (σ.2.1 11)) 12 (σ.2.1 12)) 13 (σ.2.1 13)) 14 (σ.2.1 14)) 15 (σ.2.1 15)) 15 (nI n))) (congrArg (cM g kk) (show sF (sF (sF (sF (sF (sF (sI σ 15 (nI n)) 10 (σ.2.1 10)) 11 (σ.2.1 11)) 12 (σ.2.1 12)) 13 (σ.2.1 13)) 14 (σ.2.1 14)) 15 (σ.2.1 15) = sI (sF (sF (sF (sF (sF (sF σ 10 (σ.2.1 10)) 11 (σ.2.1 11)) 12 (σ.2.1 12)) 13 (σ.2.1 13)) 14 (σ.2.1 14)) 15 (σ.2.1 15)) 15 (nI n) from (Eq.trans (wrF (Eq.trans (wrF (Eq.trans (wrF (Eq.trans (wrF (Eq.trans (wrF wrFI) wrFI)) wrFI)) wrFI)) wrFI)) wrFI))) ?_
    exact j_iret C E (sI (sF (sF (sF (sF (sF (sF σ 10 (σ.2.1 10)) 11 (σ.2.1 11)) 12 (σ.2.1 12)) 13 (σ.2.1 13)) 14 (σ.2.1 14)) 15 (σ.2.1 15)) 15 (nI n)) ⟨_, rfl, ⟨(σ.2.1 10), (σ.2.1 11), (σ.2.1 12), (σ.2.1 13), (σ.2.1 14), (σ.2.1 15), (nI n), rfl, (Or.inl ⟨rfl, c1, ⟨rfl, rfl, rfl, rfl⟩⟩), hS, hI.fo⟩⟩ rfl dX11_note_9
set_option maxRecDepth 100000 in
set_option maxHeartbeats 4000000 in
theorem o_note0 (g kk : Nat → Nat) (σ : St) (k : Nat) (hk : σ.1 3 = nI k) (hk6 : k ≤ 6) (hI : iM σ) (hS : al_ 28 27 (σ.2.1 14)) (n : Nat) (hz : n = 0) (hn : σ.1 15 = nI 0) (x : Int32) : jM (S := St) yX11_note cX11_note 4 (some .int) { frames := 3, cells := 0, slots := 0, locals := 82 } kk (cM g kk σ) [.ref (g 0), .int x] (cM g kk) (rI (fun (r : Int32) (u : St) => ∃ (pF10 : Nat → Int32) (pF11 : Nat → Int32) (pF12 : Nat → Int32) (pF13 : Nat → Int32) (pF14 : Nat → Int32) (pF15 : Nat → Int32) (pI15 : Int32), u = sI (sF (sF (sF (sF (sF (sF σ 10 pF10) 11 pF11) 12 pF12) 13 pF13) 14 pF14) 15 pF15) 15 pI15 ∧ (NTF k 0 (σ.2.1 9) (σ.2.1 10) (σ.2.1 11) (σ.2.1 12) x r pF10 pF11 pF12 pI15 (TTX (σ.2.1 9) 0 (fillR (σ.2.1 13) 0 28 (nI 0), σ.2.1 14, σ.2.1 15, 0))) ∧ (al_ 28 27 pF14) ∧ (al_ 168 27 pF11))) := by
  refine j_entry [(0, .ref (g 0)), (1, .int x)] (by decide) (Nat.le_of_ble_eq_true rfl) rfl ?_
  intro X C E HI
  refine j_aload_n C 0 rfl dX11_note_0 ?_
  refine j_iload_n C 1 rfl dX11_note_1 ?_
  refine j_V1 C (m_isCan g kk σ k hk hk6 x) kyX11_isCan tb_1067 tb_1069 sp_21 0 rfl (eM_0 g kk _) rfl (Nat.le_of_ble_eq_true rfl) ⟨by decide, by decide⟩ dX11_note_2 rfl (fun vr ur hp => ?_)
  obtain ⟨r, rfl, rfl, hu⟩ := hp
  replace hu := hu.symm
  subst hu
  refine j_if_ne C 10 (by decide) dX11_note_5 (fun c1 => ?_) (fun c1 => ?_)
  · replace c1 := bI_t c1
    obtain ⟨xn, xn1, rfl⟩ := cB_nat (by omega) c1
    refine j_aload_n C 0 rfl dX11_note_10 ?_
    refine gM_0_15 C tb_888 (nI 0) hn dX11_note_11 ?_
    refine j_if_leN C 27 (by decide) (by omega) dX11_note_14 (fun c2 => ?_) (fun c2 => ?_)
    · refine j_aload_n C 0 rfl dX11_note_27 ?_
      refine j_V1 C (o_layAll0 g kk σ k hk hk6 hI hn ) kyX11_layAll tb_1119 tb_1121 sp_22 0 rfl (eM_0 g kk _) rfl (Nat.le_of_ble_eq_true rfl) ⟨by decide, by decide⟩ dX11_note_28 rfl (fun vr ur hp => ?_)
      obtain ⟨r5, rfl, w3, hu, g4⟩ := hp
      replace hu := hu.symm
      subst hu
      obtain ⟨hr, e13⟩ := g4
      subst hr
      refine j_istore_n C [(2, .int (nI 0)), (0, .ref (g 0)), (1, .int (nI xn))] rfl (by decide) rfl dX11_note_31 ?_
      refine j_iload_n C 0 rfl dX11_note_32 ?_
      refine j_if_geN C 39 (by decide) (by omega) dX11_note_33 (fun c6 => ?_) (fun c6 => ?_)
      · refine j_iconst C (nI 0) (by decide) dX11_note_39 ?_
        refine j_istore_n C [(3, .int (nI 0)), (2, .int (nI 0)), (0, .ref (g 0)), (1, .int (nI xn))] rfl (by decide) rfl dX11_note_40 ?_
        have L41 : ∀ (n41 : Nat) (d : Nat) (f10 : Nat → Int32) (f11 : Nat → Int32) (f12 : Nat → Int32) (i41_0 : d ≤ 28) (h10 : f10 = va_cpy w3 (σ.2.1 10) 0 (28 * xn) d) (h11 : f11 = va_cpy (σ.2.1 14) (σ.2.1 11) 0 (28 * xn) d) (h12 : f12 = va_cpy (σ.2.1 15) (σ.2.1 12) 0 (28 * xn) d) (hm41 : 28 - d < n41), J X 0 0 (cM g kk (sF (sF (sF (sF σ 10 f10) 11 f11) 12 f12) 13 w3)) [(3, .int (nI d)), (2, .int (nI 0)), (0, .ref (g 0)), (1, .int (nI xn))] 41 [] := by
          intro n41
          induction n41 with
          | zero => intro d f10 f11 f12 i41_0 h10 h11 h12 hm; exact absurd hm (Nat.not_lt_zero _)
          | succ n41 ih41 =>
            intro d f10 f11 f12 i41_0 h10 h11 h12 hm41
            refine j_iload_n C 0 rfl dX11_note_41 ?_
            refine j_bipush C (nI 28) (by decide) dX11_note_42 ?_
            refine j_icmp_geN C 101 (by decide) (by omega) (by omega) dX11_note_44 (fun c7 => ?_) (fun c7 => ?_)
            · refine j_aload_n C 2 rfl dX11_note_101 ?_
              refine j_iconst C (nI 0) (by decide) dX11_note_102 ?_
              refine pM_0_15 C tb_888 dX11_note_103 ?_
              refine j_iload_n C 1 rfl dX11_note_106 ?_
              refine j_w (cM g kk (sF (sI (sF (sF (sF (sF σ 10 f10) 11 f11) 12 f12) 13 w3) 15 (nI 0)) 14 (σ.2.1 14))) (congrArg (cM g kk) (wrFi (S := (sI (sF (sF (sF (sF σ 10 f10) 11 f11) 12 f12) 13 w3) 15 (nI 0))) (c := 14) (v := σ.2.1 14) (gtFI (gtFF (by decide) (gtFF (by decide) (gtFF (by decide) (gtFF (by decide) rfl))))))) ?_
              refine j_w (cM g kk (sF (sF (sI (sF (sF (sF (sF σ 10 f10) 11 f11) 12 f12) 13 w3) 15 (nI 0)) 14 (σ.2.1 14)) 15 (σ.2.1 15))) (congrArg (cM g kk) (wrFi (S := (sF (sI (sF (sF (sF (sF σ 10 f10) 11 f11) 12 f12) 13 w3) 15 (nI 0)) 14 (σ.2.1 14))) (c := 15) (v := σ.2.1 15) (gtFF (by decide) (gtFI (gtFF (by decide) (gtFF (by decide) (gtFF (by decide) (gtFF (by decide) rfl)))))))) ?_
              refine j_w (cM g kk (sI (sF (sF (sF (sF (sF (sF σ 10 f10) 11 f11) 12 f12) 13 w3) 14 (σ.2.1 14)) 15 (σ.2.1 15)) 15 (nI 0))) (congrArg (cM g kk) (show sF (sF (sI (sF (sF (sF (sF σ 10 f10) 11 f11) 12 f12) 13 w3) 15 (nI 0)) 14 (σ.2.1 14)) 15 (σ.2.1 15) = sI (sF (sF (sF (sF (sF (sF σ 10 f10) 11 f11) 12 f12) 13 w3) 14 (σ.2.1 14)) 15 (σ.2.1 15)) 15 (nI 0) from (Eq.trans (wrF wrFI) wrFI))) ?_
              exact j_iret C E (sI (sF (sF (sF (sF (sF (sF σ 10 f10) 11 f11) 12 f12) 13 w3) 14 (σ.2.1 14)) 15 (σ.2.1 15)) 15 (nI 0)) ⟨_, rfl, ⟨f10, f11, f12, w3, (σ.2.1 14), (σ.2.1 15), (nI 0), rfl, (Or.inr (Or.inr ⟨xn, 0, _, _, _, xn1, rfl, Or.inl rfl, TTX_0, rfl, by have z := h10; rw [show d = 28 by omega, e13] at z; exact z, by have z := h11; rw [show d = 28 by omega] at z; exact z, by have z := h12; rw [show d = 28 by omega] at z; exact z, rfl⟩)), hS, (by rw [h11]; exact al_cpy hS hI.fo (by omega))⟩⟩ rfl dX11_note_107
            · refine j_aload_n C 2 rfl dX11_note_47 ?_
              refine gM_0_16 C tb_889 dX11_note_48 ?_
              refine j_iload_n C 3 rfl dX11_note_51 ?_
              refine j_iload_n C 0 rfl dX11_note_52 ?_
              refine j_S01 C (m_at xn d) kyX11_at tb_1060 tb_1061 rfl (Nat.le_of_ble_eq_true rfl) ⟨by decide, by decide⟩ ⟨by decide, by decide⟩ dX11_note_53 rfl ?_
              refine j_aload_n C 2 rfl dX11_note_56 ?_
              refine gM_0_19 C tb_892 dX11_note_57 ?_
              refine j_iload_n C 0 rfl dX11_note_60 ?_
              refine rM_13 C d rfl (by omega) (w3 d) rfl dX11_note_61 ?_
              refine tM_10 C (28 * xn + d) rfl (by omega) dX11_note_62 ?_
              refine j_aload_n C 2 rfl dX11_note_63 ?_
              refine gM_0_17 C tb_890 dX11_note_64 ?_
              refine j_iload_n C 3 rfl dX11_note_67 ?_
              refine j_iload_n C 0 rfl dX11_note_68 ?_
              refine j_S01 C (m_at xn d) kyX11_at tb_1060 tb_1061 rfl (Nat.le_of_ble_eq_true rfl) ⟨by decide, by decide⟩ ⟨by decide, by decide⟩ dX11_note_69 rfl ?_
              refine j_aload_n C 2 rfl dX11_note_72 ?_
              refine gM_0_20 C tb_893 dX11_note_73 ?_
              refine j_iload_n C 0 rfl dX11_note_76 ?_
              refine rM_14 C d rfl (by omega) ((σ.2.1 14) d) rfl dX11_note_77 ?_
              refine tM_11 C (28 * xn + d) rfl (by omega) dX11_note_78 ?_
              refine j_aload_n C 2 rfl dX11_note_79 ?_
              refine gM_0_18 C tb_891 dX11_note_80 ?_
              refine j_iload_n C 3 rfl dX11_note_83 ?_
              refine j_iload_n C 0 rfl dX11_note_84 ?_
              refine j_S01 C (m_at xn d) kyX11_at tb_1060 tb_1061 rfl (Nat.le_of_ble_eq_true rfl) ⟨by decide, by decide⟩ ⟨by decide, by decide⟩ dX11_note_85 rfl ?_
              refine j_aload_n C 2 rfl dX11_note_88 ?_
              refine gM_0_21 C tb_894 dX11_note_89 ?_
              refine j_iload_n C 0 rfl dX11_note_92 ?_
              refine rM_15 C d rfl (by omega) ((σ.2.1 15) d) rfl dX11_note_93 ?_
              refine tM_12 C (28 * xn + d) rfl (by omega) dX11_note_94 ?_
              refine j_iinc C (nI (d + 1)) [(3, .int (nI (d + 1))), (2, .int (nI 0)), (0, .ref (g 0)), (1, .int (nI xn))] 0 rfl (by rw [show Int32.ofInt 1 = nI 1 from by decide, nI_add]) (by decide) rfl dX11_note_95 ?_
              refine j_goto C 41 (by decide) dX11_note_98 ?_
              refine j_w (cM g kk (sF (sF (sF (sF σ 10 (upd f10 (28 * xn + d) (w3 d))) 11 (upd f11 (28 * xn + d) ((σ.2.1 14) d))) 12 (upd f12 (28 * xn + d) ((σ.2.1 15) d))) 13 w3)) (congrArg (cM g kk) (show sF (sF (sF (sF (sF (sF (sF σ 10 f10) 11 f11) 12 f12) 13 w3) 10 (upd f10 (28 * xn + d) (w3 d))) 11 (upd f11 (28 * xn + d) ((σ.2.1 14) d))) 12 (upd f12 (28 * xn + d) ((σ.2.1 15) d)) = sF (sF (sF (sF σ 10 (upd f10 (28 * xn + d) (w3 d))) 11 (upd f11 (28 * xn + d) ((σ.2.1 14) d))) 12 (upd f12 (28 * xn + d) ((σ.2.1 15) d))) 13 w3 from (Eq.trans (wrF (Eq.trans (wrF (Eq.trans (wrFc (by decide)) (wrF (Eq.trans (wrFc (by decide)) (wrF (Eq.trans (wrFc (by decide)) (wrF wrFs))))))) (Eq.trans (wrFc (by decide)) (wrF (Eq.trans (wrFc (by decide)) (wrF wrFs)))))) (Eq.trans (wrFc (by decide)) (wrF wrFs))))) ?_
              exact ih41 (d + 1) (upd f10 (28 * xn + d) (w3 d)) (upd f11 (28 * xn + d) ((σ.2.1 14) d)) (upd f12 (28 * xn + d) ((σ.2.1 15) d)) (by omega) (cpy_s h10) (cpy_s h11) (cpy_s h12) (by omega)
        refine j_w (cM g kk (sF (sF σ 13 w3) 10 (σ.2.1 10))) (congrArg (cM g kk) (wrFi (S := (sF σ 13 w3)) (c := 10) (v := σ.2.1 10) (gtFF (by decide) rfl))) ?_
        refine j_w (cM g kk (sF (sF (sF σ 13 w3) 10 (σ.2.1 10)) 11 (σ.2.1 11))) (congrArg (cM g kk) (wrFi (S := (sF (sF σ 13 w3) 10 (σ.2.1 10))) (c := 11) (v := σ.2.1 11) (gtFF (by decide) (gtFF (by decide) rfl)))) ?_
        refine j_w (cM g kk (sF (sF (sF (sF σ 13 w3) 10 (σ.2.1 10)) 11 (σ.2.1 11)) 12 (σ.2.1 12))) (congrArg (cM g kk) (wrFi (S := (sF (sF (sF σ 13 w3) 10 (σ.2.1 10)) 11 (σ.2.1 11))) (c := 12) (v := σ.2.1 12) (gtFF (by decide) (gtFF (by decide) (gtFF (by decide) rfl))))) ?_
        refine j_w (cM g kk (sF (sF (sF (sF σ 10 (σ.2.1 10)) 11 (σ.2.1 11)) 12 (σ.2.1 12)) 13 w3)) (congrArg (cM g kk) (show sF (sF (sF (sF σ 13 w3) 10 (σ.2.1 10)) 11 (σ.2.1 11)) 12 (σ.2.1 12) = sF (sF (sF (sF σ 10 (σ.2.1 10)) 11 (σ.2.1 11)) 12 (σ.2.1 12)) 13 w3 from (Eq.trans (wrF (Eq.trans (wrF (wrFc (by decide))) (wrFc (by decide)))) (wrFc (by decide))))) ?_
        exact L41 _ 0 (σ.2.1 10) (σ.2.1 11) (σ.2.1 12) (by omega) cpy_0 cpy_0 cpy_0 (Nat.lt_succ_self _)
      · exact absurd c6 (by decide)
    · exact absurd c2 (by decide)
  · replace c1 := bI_f c1
    refine j_iconst C ((-1)) (by decide) dX11_note_8 ?_
    refine j_w (cM g kk (sI σ 15 (nI 0))) (congrArg (cM g kk) (sI_self (σ := σ) (i := 15) (v := nI 0) hn).symm) ?_
    refine j_w (cM g kk (sF (sI σ 15 (nI 0)) 10 (σ.2.1 10))) (congrArg (cM g kk) (wrFi (S := (sI σ 15 (nI 0))) (c := 10) (v := σ.2.1 10) (gtFI rfl))) ?_
    refine j_w (cM g kk (sF (sF (sI σ 15 (nI 0)) 10 (σ.2.1 10)) 11 (σ.2.1 11))) (congrArg (cM g kk) (wrFi (S := (sF (sI σ 15 (nI 0)) 10 (σ.2.1 10))) (c := 11) (v := σ.2.1 11) (gtFF (by decide) (gtFI rfl)))) ?_
    refine j_w (cM g kk (sF (sF (sF (sI σ 15 (nI 0)) 10 (σ.2.1 10)) 11 (σ.2.1 11)) 12 (σ.2.1 12))) (congrArg (cM g kk) (wrFi (S := (sF (sF (sI σ 15 (nI 0)) 10 (σ.2.1 10)) 11 (σ.2.1 11))) (c := 12) (v := σ.2.1 12) (gtFF (by decide) (gtFF (by decide) (gtFI rfl))))) ?_
    refine j_w (cM g kk (sF (sF (sF (sF (sI σ 15 (nI 0)) 10 (σ.2.1 10)) 11 (σ.2.1 11)) 12 (σ.2.1 12)) 13 (σ.2.1 13))) (congrArg (cM g kk) (wrFi (S := (sF (sF (sF (sI σ 15 (nI 0)) 10 (σ.2.1 10)) 11 (σ.2.1 11)) 12 (σ.2.1 12))) (c := 13) (v := σ.2.1 13) (gtFF (by decide) (gtFF (by decide) (gtFF (by decide) (gtFI rfl)))))) ?_
    refine j_w (cM g kk (sF (sF (sF (sF (sF (sI σ 15 (nI 0)) 10 (σ.2.1 10)) 11 (σ.2.1 11)) 12 (σ.2.1 12)) 13 (σ.2.1 13)) 14 (σ.2.1 14))) (congrArg (cM g kk) (wrFi (S := (sF (sF (sF (sF (sI σ 15 (nI 0)) 10 (σ.2.1 10)) 11 (σ.2.1 11)) 12 (σ.2.1 12)) 13 (σ.2.1 13))) (c := 14) (v := σ.2.1 14) (gtFF (by decide) (gtFF (by decide) (gtFF (by decide) (gtFF (by decide) (gtFI rfl))))))) ?_
    refine j_w (cM g kk (sF (sF (sF (sF (sF (sF (sI σ 15 (nI 0)) 10 (σ.2.1 10)) 11 (σ.2.1 11)) 12 (σ.2.1 12)) 13 (σ.2.1 13)) 14 (σ.2.1 14)) 15 (σ.2.1 15))) (congrArg (cM g kk) (wrFi (S := (sF (sF (sF (sF (sF (sI σ 15 (nI 0)) 10 (σ.2.1 10)) 11 (σ.2.1 11)) 12 (σ.2.1 12)) 13 (σ.2.1 13)) 14 (σ.2.1 14))) (c := 15) (v := σ.2.1 15) (gtFF (by decide) (gtFF (by decide) (gtFF (by decide) (gtFF (by decide) (gtFF (by decide) (gtFI rfl)))))))) ?_
    refine j_w (cM g kk (sI (sF (sF (sF (sF (sF (sF σ 10 (σ.2.1 10)) 11 (σ.2.1 11)) 12 (σ.2.1 12)) 13 (σ.2.1 13)) 14 (σ.2.1 14)) 15 (σ.2.1 15)) 15 (nI 0))) (congrArg (cM g kk) (show sF (sF (sF (sF (sF (sF (sI σ 15 (nI 0)) 10 (σ.2.1 10)) 11 (σ.2.1 11)) 12 (σ.2.1 12)) 13 (σ.2.1 13)) 14 (σ.2.1 14)) 15 (σ.2.1 15) = sI (sF (sF (sF (sF (sF (sF σ 10 (σ.2.1 10)) 11 (σ.2.1 11)) 12 (σ.2.1 12)) 13 (σ.2.1 13)) 14 (σ.2.1 14)) 15 (σ.2.1 15)) 15 (nI 0) from (Eq.trans (wrF (Eq.trans (wrF (Eq.trans (wrF (Eq.trans (wrF (Eq.trans (wrF wrFI) wrFI)) wrFI)) wrFI)) wrFI)) wrFI))) ?_
    exact j_iret C E (sI (sF (sF (sF (sF (sF (sF σ 10 (σ.2.1 10)) 11 (σ.2.1 11)) 12 (σ.2.1 12)) 13 (σ.2.1 13)) 14 (σ.2.1 14)) 15 (σ.2.1 15)) 15 (nI 0)) ⟨_, rfl, ⟨(σ.2.1 10), (σ.2.1 11), (σ.2.1 12), (σ.2.1 13), (σ.2.1 14), (σ.2.1 15), (nI 0), rfl, (Or.inl ⟨rfl, c1, ⟨rfl, rfl, rfl, rfl⟩⟩), hS, hI.fo⟩⟩ rfl dX11_note_9
theorem e_note (g kk : Nat → Nat) (σ : St) (k : Nat) (hk : σ.1 16 = nI k) (hk6 : k ≤ 6) (hI : iX σ) (hS : al_ 28 27 (σ.2.1 25)) (n : Nat) (hn : σ.1 352 = nI n) (hnb : n ≤ 40) (x : Int32) : jM (S := St) yX10_note cX10_note 2 (some .int) { frames := 3, cells := 0, slots := 0, locals := 83 } kk (cX g kk σ) [.ref (g 0), .int x] (cX g kk) (rI (fun (r : Int32) (u : St) => ∃ (pF7 : Nat → Int32) (pF8 : Nat → Int32) (pF9 : Nat → Int32) (pF24 : Nat → Int32) (pF25 : Nat → Int32) (pF26 : Nat → Int32) (pI352 : Int32) (pI353 : Int32) (pI437 : Int32), u = sI (sI (sI (sF (sF (sF (sF (sF (sF σ 7 pF7) 8 pF8) 9 pF9) 24 pF24) 25 pF25) 26 pF26) 352 pI352) 353 pI353) 437 pI437 ∧ (NTF k n (σ.2.1 23) (σ.2.1 7) (σ.2.1 8) (σ.2.1 9) x r pF7 pF8 pF9 pI352 (TTX (σ.2.1 23) n (fillF (σ.2.1 24) (nI 0) 28, σ.2.1 25, σ.2.1 26, 0))) ∧ (al_ 28 27 pF25) ∧ (al_ 168 27 pF8) ∧ (pI437 = nI 1 ∨ (pI437 = σ.1 437 ∧ pF7 = σ.2.1 7 ∧ pF8 = σ.2.1 8 ∧ pF9 = σ.2.1 9)))) := by
  rcases Nat.eq_zero_or_pos n with h | h
  · subst h
    exact e_note0 g kk σ k hk hk6 hI hS 0 rfl hn x
  · exact e_note1 g kk σ k hk hk6 hI hS n hn ⟨h, hnb⟩ x
theorem o_note (g kk : Nat → Nat) (σ : St) (k : Nat) (hk : σ.1 3 = nI k) (hk6 : k ≤ 6) (hI : iM σ) (hS : al_ 28 27 (σ.2.1 14)) (n : Nat) (hn : σ.1 15 = nI n) (hnb : n ≤ 40) (x : Int32) : jM (S := St) yX11_note cX11_note 4 (some .int) { frames := 3, cells := 0, slots := 0, locals := 82 } kk (cM g kk σ) [.ref (g 0), .int x] (cM g kk) (rI (fun (r : Int32) (u : St) => ∃ (pF10 : Nat → Int32) (pF11 : Nat → Int32) (pF12 : Nat → Int32) (pF13 : Nat → Int32) (pF14 : Nat → Int32) (pF15 : Nat → Int32) (pI15 : Int32), u = sI (sF (sF (sF (sF (sF (sF σ 10 pF10) 11 pF11) 12 pF12) 13 pF13) 14 pF14) 15 pF15) 15 pI15 ∧ (NTF k n (σ.2.1 9) (σ.2.1 10) (σ.2.1 11) (σ.2.1 12) x r pF10 pF11 pF12 pI15 (TTX (σ.2.1 9) n (fillR (σ.2.1 13) 0 28 (nI 0), σ.2.1 14, σ.2.1 15, 0))) ∧ (al_ 28 27 pF14) ∧ (al_ 168 27 pF11))) := by
  rcases Nat.eq_zero_or_pos n with h | h
  · subst h
    exact o_note0 g kk σ k hk hk6 hI hS 0 rfl hn x
  · exact o_note1 g kk σ k hk hk6 hI hS n hn ⟨h, hnb⟩ x
