def knd (a : Int32) : Nat := if a = nI 120 then 1 else if a = nI 108 then 2 else 3
def okR (N : Nat → Int32) (fi la : Nat) : Prop := ∀ d : Nat, fi ≤ d → d ≤ la → N d = 0
theorem fR_s {f h : Nat → Int32} {a d : Nat} {v : Int32} (e : h = fillR f a (d - a) v) (ha : a ≤ d) : upd h d v = fillR f a (d + 1 - a) v := by
  have := fillR_s e
  rw [show a + (d - a) = d by omega, show d - a + 1 = d + 1 - a by omega] at this
  exact this
theorem fR_d {f h : Nat → Int32} {a d : Nat} {v : Int32} (e : h = fillR f a (d - a) v) : h d = f d := by
  rw [e]; exact if_neg (by omega)
theorem fR_00 {f : Nat → Int32} {a : Nat} {v : Int32} : f = fillR f a (a - a) v := by rw [Nat.sub_self]; exact fillR_0 f a v
theorem fR_e {f h : Nat → Int32} {a d l : Nat} {v : Int32} (e : h = fillR f a (d - a) v) (hd : d = l + 1) : h = fillR f a (l + 1 - a) v := by rw [← hd]; exact e
theorem hz_s {f h : Nat → Int32} {a d : Nat} {v : Int32} (e : h = fillR f a (d - a) v) (hz : ∀ j, a ≤ j → j < d → f j = 0) (h0 : h d = 0) : ∀ j, a ≤ j → j < d + 1 → f j = 0 := fun j h1 h2 => by
  by_cases q : j = d
  · rw [q, ← fR_d e, h0]
  · exact hz j h1 (by omega)
theorem wB_t {n a b : Nat} (h : wB (nI n) (nI a) (nI b) = true) (hn : n < 2 ^ 31) (ha : a < 2 ^ 31) (hb : b < 2 ^ 31) : a ≤ n ∧ n ≤ b := by
  unfold wB at h
  rw [decide_eq_true_iff, nI_leI ha hn, nI_leI hn hb] at h
  exact h
theorem wB_f {n a b : Nat} (h : wB (nI n) (nI a) (nI b) = false) (hn : n < 2 ^ 31) (ha : a < 2 ^ 31) (hb : b < 2 ^ 31) : ¬ (a ≤ n ∧ n ≤ b) := fun q => by
  rw [wB_of hb q.1 q.2] at h
  cases h
set_option maxRecDepth 100000 in
set_option maxHeartbeats 4000000 in
theorem e_tk120_1 (g kk : Nat → Nat) (σ : St) (k : Nat) (hk : σ.1 16 = nI k) (hk6 : k ≤ 6) (hI : iX σ) (hS : al_ 28 27 (σ.2.1 25)) (b : Nat) (hb0 : b ≤ 99) : jM (S := St) yX5_takeItem cX5_takeItem 9 (some .boolean) { frames := 0, cells := 0, slots := 0, locals := 0 } kk (cX g kk σ) [.ref (g 22), .int (nI 120), .int (nI b), .int (-1)] (cX g kk) (rI (fun (r : Int32) (u : St) => ∃ (pF24 : Nat → Int32) (pF25 : Nat → Int32) (pF26 : Nat → Int32) (pI353 : Int32), u = sI (sF (sF (sF σ 24 pF24) 25 pF25) 26 pF26) 353 pI353 ∧ ((((b ≤ 27) ∧ okR (σ.2.1 24) (b) (b)) ∧ r = nI 1 ∧ pF24 = fillR (σ.2.1 24) (b) (b + 1 - (b)) (nI 1) ∧ pF25 = fillR (σ.2.1 25) (b) (b + 1 - (b)) (nI (b)) ∧ pF26 = fillR (σ.2.1 26) (b) (b + 1 - (b)) (nI (b)) ∧ pI353 = σ.1 353 + nI 1) ∨ (¬ ((b ≤ 27) ∧ okR (σ.2.1 24) (b) (b)) ∧ r = nI 0)) ∧ (al_ 28 27 pF25))) := by
  refine j_entry [(0, .ref (g 22)), (1, .int (nI 120)), (2, .int (nI b)), (3, .int (-1))] (by decide) (Nat.le_of_ble_eq_true rfl) rfl ?_
  intro X C E HI
  refine j_iload_n C 3 rfl dX5_takeItem_0 ?_
  refine j_iconst C ((-1)) (by decide) dX5_takeItem_1 ?_
  refine j_icmp_ne C 9 (by decide) dX5_takeItem_2 (fun c1 => ?_) (fun c1 => ?_)
  · exact absurd rfl c1
  · refine j_iconst C (nI 1) (by decide) dX5_takeItem_5 ?_
    refine j_goto C 10 (by decide) dX5_takeItem_6 ?_
    refine j_istore C [(4, .int (nI 1)), (0, .ref (g 22)), (1, .int (nI 120)), (2, .int (nI b)), (3, .int (-1))] (by decide) rfl dX5_takeItem_10 ?_
    refine j_iload C 0 rfl dX5_takeItem_12 ?_
    refine j_if_neN C 24 (by decide) (by omega) dX5_takeItem_14 (fun c2 => ?_) (fun c2 => ?_)
    · refine j_iload C 0 rfl dX5_takeItem_24 ?_
      refine j_if_eqN C 33 (by decide) (by omega) dX5_takeItem_26 (fun c3 => ?_) (fun c3 => ?_)
      · exact absurd c3 (by decide)
      · refine j_iload_n C 3 rfl dX5_takeItem_29 ?_
        refine j_goto C 34 (by decide) dX5_takeItem_30 ?_
        refine j_istore C [(5, .int (nI b)), (4, .int (nI 1)), (0, .ref (g 22)), (1, .int (nI 120)), (2, .int (nI b)), (3, .int (-1))] (by decide) rfl dX5_takeItem_34 ?_
        refine j_iload C 1 rfl dX5_takeItem_36 ?_
        refine j_if_eqN C 53 (by decide) (by omega) dX5_takeItem_38 (fun c4 => ?_) (fun c4 => ?_)
        · exact absurd c4 (by decide)
        · refine j_iload_n C 3 rfl dX5_takeItem_41 ?_
          refine j_bipush C (nI 115) (by decide) dX5_takeItem_42 ?_
          refine j_icmp_neN C 53 (by decide) (by omega) (by omega) dX5_takeItem_44 (fun c5 => ?_) (fun c5 => ?_)
          · refine j_iload_n C 4 rfl dX5_takeItem_53 ?_
            refine j_istore C [(6, .int (nI b)), (5, .int (nI b)), (4, .int (nI 1)), (0, .ref (g 22)), (1, .int (nI 120)), (2, .int (nI b)), (3, .int (-1))] (by decide) rfl dX5_takeItem_54 ?_
            refine j_iload C 0 rfl dX5_takeItem_56 ?_
            refine j_if_ltN C 79 (by decide) (by omega) dX5_takeItem_58 (fun c6 => ?_) (fun c6 => ?_)
            · refine j_iconst C (nI 0) (by decide) dX5_takeItem_79 ?_
              refine j_w (cX g kk (sF σ 24 (σ.2.1 24))) (congrArg (cX g kk) (wrFi (S := σ) (c := 24) (v := σ.2.1 24) rfl)) ?_
              refine j_w (cX g kk (sF (sF σ 24 (σ.2.1 24)) 25 (σ.2.1 25))) (congrArg (cX g kk) (wrFi (S := (sF σ 24 (σ.2.1 24))) (c := 25) (v := σ.2.1 25) (gtFF (by decide) rfl))) ?_
              refine j_w (cX g kk (sF (sF (sF σ 24 (σ.2.1 24)) 25 (σ.2.1 25)) 26 (σ.2.1 26))) (congrArg (cX g kk) (wrFi (S := (sF (sF σ 24 (σ.2.1 24)) 25 (σ.2.1 25))) (c := 26) (v := σ.2.1 26) (gtFF (by decide) (gtFF (by decide) rfl)))) ?_
              refine j_w (cX g kk (sI (sF (sF (sF σ 24 (σ.2.1 24)) 25 (σ.2.1 25)) 26 (σ.2.1 26)) 353 (σ.1 353))) (congrArg (cX g kk) (wrIi (S := (sF (sF (sF σ 24 (σ.2.1 24)) 25 (σ.2.1 25)) 26 (σ.2.1 26))) (c := 353) (v := σ.1 353) (gtIF (gtIF (gtIF rfl))))) ?_
              exact j_zret C E (by first | rfl | decide) (sI (sF (sF (sF σ 24 (σ.2.1 24)) 25 (σ.2.1 25)) 26 (σ.2.1 26)) 353 (σ.1 353)) ⟨_, rfl, ⟨(σ.2.1 24), (σ.2.1 25), (σ.2.1 26), (σ.1 353), rfl, (Or.inr ⟨fun z => by have z1 := z.1; omega, rfl⟩), hS⟩⟩ rfl dX5_takeItem_80
            · refine j_iload C 1 rfl dX5_takeItem_61 ?_
              refine j_bipush C (nI 28) (by decide) dX5_takeItem_63 ?_
              refine j_icmp_geN C 79 (by decide) (by omega) (by omega) dX5_takeItem_65 (fun c7 => ?_) (fun c7 => ?_)
              · refine j_iconst C (nI 0) (by decide) dX5_takeItem_79 ?_
                refine j_w (cX g kk (sF σ 24 (σ.2.1 24))) (congrArg (cX g kk) (wrFi (S := σ) (c := 24) (v := σ.2.1 24) rfl)) ?_
                refine j_w (cX g kk (sF (sF σ 24 (σ.2.1 24)) 25 (σ.2.1 25))) (congrArg (cX g kk) (wrFi (S := (sF σ 24 (σ.2.1 24))) (c := 25) (v := σ.2.1 25) (gtFF (by decide) rfl))) ?_
                refine j_w (cX g kk (sF (sF (sF σ 24 (σ.2.1 24)) 25 (σ.2.1 25)) 26 (σ.2.1 26))) (congrArg (cX g kk) (wrFi (S := (sF (sF σ 24 (σ.2.1 24)) 25 (σ.2.1 25))) (c := 26) (v := σ.2.1 26) (gtFF (by decide) (gtFF (by decide) rfl)))) ?_
                refine j_w (cX g kk (sI (sF (sF (sF σ 24 (σ.2.1 24)) 25 (σ.2.1 25)) 26 (σ.2.1 26)) 353 (σ.1 353))) (congrArg (cX g kk) (wrIi (S := (sF (sF (sF σ 24 (σ.2.1 24)) 25 (σ.2.1 25)) 26 (σ.2.1 26))) (c := 353) (v := σ.1 353) (gtIF (gtIF (gtIF rfl))))) ?_
                exact j_zret C E (by first | rfl | decide) (sI (sF (sF (sF σ 24 (σ.2.1 24)) 25 (σ.2.1 25)) 26 (σ.2.1 26)) 353 (σ.1 353)) ⟨_, rfl, ⟨(σ.2.1 24), (σ.2.1 25), (σ.2.1 26), (σ.1 353), rfl, (Or.inr ⟨fun z => by have z1 := z.1; omega, rfl⟩), hS⟩⟩ rfl dX5_takeItem_80
              · refine j_iload_n C 4 rfl dX5_takeItem_68 ?_
                refine j_bipush C (nI 108) (by decide) dX5_takeItem_69 ?_
                refine j_icmp_neN C 81 (by decide) (by omega) (by omega) dX5_takeItem_71 (fun c8 => ?_) (fun c8 => ?_)
                · refine j_iload_n C 4 rfl dX5_takeItem_81 ?_
                  refine j_bipush C (nI 120) (by decide) dX5_takeItem_82 ?_
                  refine j_icmp_neN C 91 (by decide) (by omega) (by omega) dX5_takeItem_84 (fun c9 => ?_) (fun c9 => ?_)
                  · exact absurd c9 (by decide)
                  · refine j_iconst C (nI 1) (by decide) dX5_takeItem_87 ?_
                    refine j_goto C 102 (by decide) dX5_takeItem_88 ?_
                    refine j_istore C [(7, .int (nI 1)), (6, .int (nI b)), (5, .int (nI b)), (4, .int (nI 1)), (0, .ref (g 22)), (1, .int (nI 120)), (2, .int (nI b)), (3, .int (-1))] (by decide) rfl dX5_takeItem_102 ?_
                    refine j_iload C 1 rfl dX5_takeItem_104 ?_
                    refine j_istore C [(8, .int (nI b)), (7, .int (nI 1)), (6, .int (nI b)), (5, .int (nI b)), (4, .int (nI 1)), (0, .ref (g 22)), (1, .int (nI 120)), (2, .int (nI b)), (3, .int (-1))] (by decide) rfl dX5_takeItem_106 ?_
                    have L108 : ∀ (n108 : Nat) (d : Nat) (fN : Nat → Int32) (fF : Nat → Int32) (fL : Nat → Int32) (i108_0 : b ≤ d) (i108_1 : d ≤ b + 1) (hN : fN = fillR (σ.2.1 24) b (d - b) (nI 1)) (hF : fF = fillR (σ.2.1 25) b (d - b) (nI b)) (hLl : fL = fillR (σ.2.1 26) b (d - b) (nI b)) (hz : ∀ j, b ≤ j → j < d → σ.2.1 24 j = 0) (hs : al_ 28 27 fF) (hm108 : 28 - d < n108), J X 0 0 (cX g kk (sF (sF (sF σ 24 fN) 25 fF) 26 fL)) [(8, .int (nI d)), (7, .int (nI 1)), (6, .int (nI b)), (5, .int (nI b)), (4, .int (nI 1)), (0, .ref (g 22)), (1, .int (nI 120)), (2, .int (nI b)), (3, .int (-1))] 108 [] := by
                      intro n108
                      induction n108 with
                      | zero => intro d fN fF fL i108_0 i108_1 hN hF hLl hz hs hm; exact absurd hm (Nat.not_lt_zero _)
                      | succ n108 ih108 =>
                        intro d fN fF fL i108_0 i108_1 hN hF hLl hz hs hm108
                        refine j_iload C 0 rfl dX5_takeItem_108 ?_
                        refine j_iload C 3 rfl dX5_takeItem_110 ?_
                        refine j_icmp_gtN C 160 (by decide) (by omega) (by omega) dX5_takeItem_112 (fun c10 => ?_) (fun c10 => ?_)
                        · refine j_aload_n C 5 rfl dX5_takeItem_160 ?_
                          refine j_dup C rfl dX5_takeItem_161 ?_
                          refine gX_22_1 C tb_170 (σ.1 353) rfl dX5_takeItem_162 ?_
                          refine j_iconst C (nI 1) (by decide) dX5_takeItem_165 ?_
                          refine j_iadd C dX5_takeItem_166 ?_
                          refine pX_22_1 C tb_170 dX5_takeItem_167 ?_
                          refine j_iconst C (nI 1) (by decide) dX5_takeItem_170 ?_
                          exact j_zret C E (by first | rfl | decide) (sI (sF (sF (sF σ 24 fN) 25 fF) 26 fL) 353 ((σ.1 353) + (nI 1))) ⟨_, rfl, ⟨fN, fF, fL, ((σ.1 353) + (nI 1)), rfl, (Or.inl ⟨⟨by omega, fun j z1 z2 => hz j z1 (by omega)⟩, rfl, fR_e hN (by omega), fR_e hF (by omega), fR_e hLl (by omega), rfl⟩), hs⟩⟩ rfl dX5_takeItem_171
                        · refine j_aload_n C 5 rfl dX5_takeItem_115 ?_
                          refine gX_22_3 C tb_173 dX5_takeItem_116 ?_
                          refine j_iload C 0 rfl dX5_takeItem_119 ?_
                          refine rX_24 C d rfl (by omega) (fN d) rfl dX5_takeItem_121 ?_
                          refine j_if_eq C 127 (by decide) dX5_takeItem_122 (fun c11 => ?_) (fun c11 => ?_)
                          · refine j_aload_n C 5 rfl dX5_takeItem_127 ?_
                            refine gX_22_3 C tb_173 dX5_takeItem_128 ?_
                            refine j_iload C 0 rfl dX5_takeItem_131 ?_
                            refine j_iload C 1 rfl dX5_takeItem_133 ?_
                            refine tX_24 C d rfl (by omega) dX5_takeItem_135 ?_
                            refine j_aload_n C 5 rfl dX5_takeItem_136 ?_
                            refine gX_22_4 C tb_175 dX5_takeItem_137 ?_
                            refine j_iload C 0 rfl dX5_takeItem_140 ?_
                            refine j_iload C 2 rfl dX5_takeItem_142 ?_
                            refine tX_25 C d rfl (by omega) dX5_takeItem_144 ?_
                            refine j_aload_n C 5 rfl dX5_takeItem_145 ?_
                            refine gX_22_5 C tb_177 dX5_takeItem_146 ?_
                            refine j_iload C 0 rfl dX5_takeItem_149 ?_
                            refine j_iload C 3 rfl dX5_takeItem_151 ?_
                            refine tX_26 C d rfl (by omega) dX5_takeItem_153 ?_
                            refine j_iinc C (nI (d + 1)) [(8, .int (nI (d + 1))), (7, .int (nI 1)), (6, .int (nI b)), (5, .int (nI b)), (4, .int (nI 1)), (0, .ref (g 22)), (1, .int (nI 120)), (2, .int (nI b)), (3, .int (-1))] 0 rfl (by rw [show Int32.ofInt 1 = nI 1 from by decide, nI_add]) (by decide) rfl dX5_takeItem_154 ?_
                            refine j_goto C 108 (by decide) dX5_takeItem_157 ?_
                            refine j_w (cX g kk (sF (sF (sF σ 24 (upd fN d (nI 1))) 25 (upd fF d (nI b))) 26 (upd fL d (nI b)))) (congrArg (cX g kk) (show sF (sF (sF (sF (sF (sF σ 24 fN) 25 fF) 26 fL) 24 (upd fN d (nI 1))) 25 (upd fF d (nI b))) 26 (upd fL d (nI b)) = sF (sF (sF σ 24 (upd fN d (nI 1))) 25 (upd fF d (nI b))) 26 (upd fL d (nI b)) from (Eq.trans (wrF (Eq.trans (wrF (Eq.trans (wrFc (by decide)) (wrF (Eq.trans (wrFc (by decide)) (wrF wrFs))))) (Eq.trans (wrFc (by decide)) (wrF wrFs)))) wrFs))) ?_
                            exact ih108 (d + 1) (upd fN d (nI 1)) (upd fF d (nI b)) (upd fL d (nI b)) (by omega) (by omega) (fR_s hN (by omega)) (fR_s hF (by omega)) (fR_s hLl (by omega)) (hz_s hN hz c11) (al_upd hs ⟨_, by omega, rfl⟩) (by omega)
                          · refine j_iconst C (nI 0) (by decide) dX5_takeItem_125 ?_
                            refine j_w (cX g kk (sI (sF (sF (sF σ 24 fN) 25 fF) 26 fL) 353 (σ.1 353))) (congrArg (cX g kk) (wrIi (S := (sF (sF (sF σ 24 fN) 25 fF) 26 fL)) (c := 353) (v := σ.1 353) (gtIF (gtIF (gtIF rfl))))) ?_
                            exact j_zret C E (by first | rfl | decide) (sI (sF (sF (sF σ 24 fN) 25 fF) 26 fL) 353 (σ.1 353)) ⟨_, rfl, ⟨fN, fF, fL, (σ.1 353), rfl, (Or.inr ⟨fun z => absurd (z.2 d (by omega) (by omega)) (by rw [← fR_d hN]; exact c11), rfl⟩), hs⟩⟩ rfl dX5_takeItem_126
                    refine j_w (cX g kk (sF σ 24 (σ.2.1 24))) (congrArg (cX g kk) (wrFi (S := σ) (c := 24) (v := σ.2.1 24) rfl)) ?_
                    refine j_w (cX g kk (sF (sF σ 24 (σ.2.1 24)) 25 (σ.2.1 25))) (congrArg (cX g kk) (wrFi (S := (sF σ 24 (σ.2.1 24))) (c := 25) (v := σ.2.1 25) (gtFF (by decide) rfl))) ?_
                    refine j_w (cX g kk (sF (sF (sF σ 24 (σ.2.1 24)) 25 (σ.2.1 25)) 26 (σ.2.1 26))) (congrArg (cX g kk) (wrFi (S := (sF (sF σ 24 (σ.2.1 24)) 25 (σ.2.1 25))) (c := 26) (v := σ.2.1 26) (gtFF (by decide) (gtFF (by decide) rfl)))) ?_
                    exact L108 _ b (σ.2.1 24) (σ.2.1 25) (σ.2.1 26) (by omega) (by omega) fR_00 fR_00 fR_00 (fun j z1 z2 => absurd z2 (by omega)) hS (Nat.lt_succ_self _)
                · exact absurd c8 (by decide)
          · exact absurd c5 (by decide)
    · exact absurd c2 (by decide)
set_option maxRecDepth 100000 in
set_option maxHeartbeats 4000000 in
theorem e_tk108_1 (g kk : Nat → Nat) (σ : St) (k : Nat) (hk : σ.1 16 = nI k) (hk6 : k ≤ 6) (hI : iX σ) (hS : al_ 28 27 (σ.2.1 25)) (b : Nat) (hb0 : b ≤ 99) : jM (S := St) yX5_takeItem cX5_takeItem 9 (some .boolean) { frames := 0, cells := 0, slots := 0, locals := 0 } kk (cX g kk σ) [.ref (g 22), .int (nI 108), .int (nI b), .int (-1)] (cX g kk) (rI (fun (r : Int32) (u : St) => ∃ (pF24 : Nat → Int32) (pF25 : Nat → Int32) (pF26 : Nat → Int32) (pI353 : Int32), u = sI (sF (sF (sF σ 24 pF24) 25 pF25) 26 pF26) 353 pI353 ∧ ((((1 ≤ b ∧ b ≤ 27) ∧ okR (σ.2.1 24) (b) (b)) ∧ r = nI 1 ∧ pF24 = fillR (σ.2.1 24) (b) (b + 1 - (b)) (nI 2) ∧ pF25 = fillR (σ.2.1 25) (b) (b + 1 - (b)) (nI (b)) ∧ pF26 = fillR (σ.2.1 26) (b) (b + 1 - (b)) (nI (b)) ∧ pI353 = σ.1 353 + nI 1) ∨ (¬ ((1 ≤ b ∧ b ≤ 27) ∧ okR (σ.2.1 24) (b) (b)) ∧ r = nI 0)) ∧ (al_ 28 27 pF25))) := by
  refine j_entry [(0, .ref (g 22)), (1, .int (nI 108)), (2, .int (nI b)), (3, .int (-1))] (by decide) (Nat.le_of_ble_eq_true rfl) rfl ?_
  intro X C E HI
  refine j_iload_n C 3 rfl dX5_takeItem_0 ?_
  refine j_iconst C ((-1)) (by decide) dX5_takeItem_1 ?_
  refine j_icmp_ne C 9 (by decide) dX5_takeItem_2 (fun c1 => ?_) (fun c1 => ?_)
  · exact absurd rfl c1
  · refine j_iconst C (nI 1) (by decide) dX5_takeItem_5 ?_
    refine j_goto C 10 (by decide) dX5_takeItem_6 ?_
    refine j_istore C [(4, .int (nI 1)), (0, .ref (g 22)), (1, .int (nI 108)), (2, .int (nI b)), (3, .int (-1))] (by decide) rfl dX5_takeItem_10 ?_
    refine j_iload C 0 rfl dX5_takeItem_12 ?_
    refine j_if_neN C 24 (by decide) (by omega) dX5_takeItem_14 (fun c2 => ?_) (fun c2 => ?_)
    · refine j_iload C 0 rfl dX5_takeItem_24 ?_
      refine j_if_eqN C 33 (by decide) (by omega) dX5_takeItem_26 (fun c3 => ?_) (fun c3 => ?_)
      · exact absurd c3 (by decide)
      · refine j_iload_n C 3 rfl dX5_takeItem_29 ?_
        refine j_goto C 34 (by decide) dX5_takeItem_30 ?_
        refine j_istore C [(5, .int (nI b)), (4, .int (nI 1)), (0, .ref (g 22)), (1, .int (nI 108)), (2, .int (nI b)), (3, .int (-1))] (by decide) rfl dX5_takeItem_34 ?_
        refine j_iload C 1 rfl dX5_takeItem_36 ?_
        refine j_if_eqN C 53 (by decide) (by omega) dX5_takeItem_38 (fun c4 => ?_) (fun c4 => ?_)
        · exact absurd c4 (by decide)
        · refine j_iload_n C 3 rfl dX5_takeItem_41 ?_
          refine j_bipush C (nI 115) (by decide) dX5_takeItem_42 ?_
          refine j_icmp_neN C 53 (by decide) (by omega) (by omega) dX5_takeItem_44 (fun c5 => ?_) (fun c5 => ?_)
          · refine j_iload_n C 4 rfl dX5_takeItem_53 ?_
            refine j_istore C [(6, .int (nI b)), (5, .int (nI b)), (4, .int (nI 1)), (0, .ref (g 22)), (1, .int (nI 108)), (2, .int (nI b)), (3, .int (-1))] (by decide) rfl dX5_takeItem_54 ?_
            refine j_iload C 0 rfl dX5_takeItem_56 ?_
            refine j_if_ltN C 79 (by decide) (by omega) dX5_takeItem_58 (fun c6 => ?_) (fun c6 => ?_)
            · refine j_iconst C (nI 0) (by decide) dX5_takeItem_79 ?_
              refine j_w (cX g kk (sF σ 24 (σ.2.1 24))) (congrArg (cX g kk) (wrFi (S := σ) (c := 24) (v := σ.2.1 24) rfl)) ?_
              refine j_w (cX g kk (sF (sF σ 24 (σ.2.1 24)) 25 (σ.2.1 25))) (congrArg (cX g kk) (wrFi (S := (sF σ 24 (σ.2.1 24))) (c := 25) (v := σ.2.1 25) (gtFF (by decide) rfl))) ?_
              refine j_w (cX g kk (sF (sF (sF σ 24 (σ.2.1 24)) 25 (σ.2.1 25)) 26 (σ.2.1 26))) (congrArg (cX g kk) (wrFi (S := (sF (sF σ 24 (σ.2.1 24)) 25 (σ.2.1 25))) (c := 26) (v := σ.2.1 26) (gtFF (by decide) (gtFF (by decide) rfl)))) ?_
              refine j_w (cX g kk (sI (sF (sF (sF σ 24 (σ.2.1 24)) 25 (σ.2.1 25)) 26 (σ.2.1 26)) 353 (σ.1 353))) (congrArg (cX g kk) (wrIi (S := (sF (sF (sF σ 24 (σ.2.1 24)) 25 (σ.2.1 25)) 26 (σ.2.1 26))) (c := 353) (v := σ.1 353) (gtIF (gtIF (gtIF rfl))))) ?_
              exact j_zret C E (by first | rfl | decide) (sI (sF (sF (sF σ 24 (σ.2.1 24)) 25 (σ.2.1 25)) 26 (σ.2.1 26)) 353 (σ.1 353)) ⟨_, rfl, ⟨(σ.2.1 24), (σ.2.1 25), (σ.2.1 26), (σ.1 353), rfl, (Or.inr ⟨fun z => by have z1 := z.1; omega, rfl⟩), hS⟩⟩ rfl dX5_takeItem_80
            · refine j_iload C 1 rfl dX5_takeItem_61 ?_
              refine j_bipush C (nI 28) (by decide) dX5_takeItem_63 ?_
              refine j_icmp_geN C 79 (by decide) (by omega) (by omega) dX5_takeItem_65 (fun c7 => ?_) (fun c7 => ?_)
              · refine j_iconst C (nI 0) (by decide) dX5_takeItem_79 ?_
                refine j_w (cX g kk (sF σ 24 (σ.2.1 24))) (congrArg (cX g kk) (wrFi (S := σ) (c := 24) (v := σ.2.1 24) rfl)) ?_
                refine j_w (cX g kk (sF (sF σ 24 (σ.2.1 24)) 25 (σ.2.1 25))) (congrArg (cX g kk) (wrFi (S := (sF σ 24 (σ.2.1 24))) (c := 25) (v := σ.2.1 25) (gtFF (by decide) rfl))) ?_
                refine j_w (cX g kk (sF (sF (sF σ 24 (σ.2.1 24)) 25 (σ.2.1 25)) 26 (σ.2.1 26))) (congrArg (cX g kk) (wrFi (S := (sF (sF σ 24 (σ.2.1 24)) 25 (σ.2.1 25))) (c := 26) (v := σ.2.1 26) (gtFF (by decide) (gtFF (by decide) rfl)))) ?_
                refine j_w (cX g kk (sI (sF (sF (sF σ 24 (σ.2.1 24)) 25 (σ.2.1 25)) 26 (σ.2.1 26)) 353 (σ.1 353))) (congrArg (cX g kk) (wrIi (S := (sF (sF (sF σ 24 (σ.2.1 24)) 25 (σ.2.1 25)) 26 (σ.2.1 26))) (c := 353) (v := σ.1 353) (gtIF (gtIF (gtIF rfl))))) ?_
                exact j_zret C E (by first | rfl | decide) (sI (sF (sF (sF σ 24 (σ.2.1 24)) 25 (σ.2.1 25)) 26 (σ.2.1 26)) 353 (σ.1 353)) ⟨_, rfl, ⟨(σ.2.1 24), (σ.2.1 25), (σ.2.1 26), (σ.1 353), rfl, (Or.inr ⟨fun z => by have z1 := z.1; omega, rfl⟩), hS⟩⟩ rfl dX5_takeItem_80
              · refine j_iload_n C 4 rfl dX5_takeItem_68 ?_
                refine j_bipush C (nI 108) (by decide) dX5_takeItem_69 ?_
                refine j_icmp_neN C 81 (by decide) (by omega) (by omega) dX5_takeItem_71 (fun c8 => ?_) (fun c8 => ?_)
                · exact absurd c8 (by decide)
                · refine j_iload C 0 rfl dX5_takeItem_74 ?_
                  refine j_if_neN C 81 (by decide) (by omega) dX5_takeItem_76 (fun c9 => ?_) (fun c9 => ?_)
                  · refine j_iload_n C 4 rfl dX5_takeItem_81 ?_
                    refine j_bipush C (nI 120) (by decide) dX5_takeItem_82 ?_
                    refine j_icmp_neN C 91 (by decide) (by omega) (by omega) dX5_takeItem_84 (fun c10 => ?_) (fun c10 => ?_)
                    · refine j_iload_n C 4 rfl dX5_takeItem_91 ?_
                      refine j_bipush C (nI 108) (by decide) dX5_takeItem_92 ?_
                      refine j_icmp_neN C 101 (by decide) (by omega) (by omega) dX5_takeItem_94 (fun c11 => ?_) (fun c11 => ?_)
                      · exact absurd c11 (by decide)
                      · refine j_iconst C (nI 2) (by decide) dX5_takeItem_97 ?_
                        refine j_goto C 102 (by decide) dX5_takeItem_98 ?_
                        refine j_istore C [(7, .int (nI 2)), (6, .int (nI b)), (5, .int (nI b)), (4, .int (nI 1)), (0, .ref (g 22)), (1, .int (nI 108)), (2, .int (nI b)), (3, .int (-1))] (by decide) rfl dX5_takeItem_102 ?_
                        refine j_iload C 1 rfl dX5_takeItem_104 ?_
                        refine j_istore C [(8, .int (nI b)), (7, .int (nI 2)), (6, .int (nI b)), (5, .int (nI b)), (4, .int (nI 1)), (0, .ref (g 22)), (1, .int (nI 108)), (2, .int (nI b)), (3, .int (-1))] (by decide) rfl dX5_takeItem_106 ?_
                        have L108 : ∀ (n108 : Nat) (d : Nat) (fN : Nat → Int32) (fF : Nat → Int32) (fL : Nat → Int32) (i108_0 : b ≤ d) (i108_1 : d ≤ b + 1) (hN : fN = fillR (σ.2.1 24) b (d - b) (nI 2)) (hF : fF = fillR (σ.2.1 25) b (d - b) (nI b)) (hLl : fL = fillR (σ.2.1 26) b (d - b) (nI b)) (hz : ∀ j, b ≤ j → j < d → σ.2.1 24 j = 0) (hs : al_ 28 27 fF) (hm108 : 28 - d < n108), J X 0 0 (cX g kk (sF (sF (sF σ 24 fN) 25 fF) 26 fL)) [(8, .int (nI d)), (7, .int (nI 2)), (6, .int (nI b)), (5, .int (nI b)), (4, .int (nI 1)), (0, .ref (g 22)), (1, .int (nI 108)), (2, .int (nI b)), (3, .int (-1))] 108 [] := by
                          intro n108
                          induction n108 with
                          | zero => intro d fN fF fL i108_0 i108_1 hN hF hLl hz hs hm; exact absurd hm (Nat.not_lt_zero _)
                          | succ n108 ih108 =>
                            intro d fN fF fL i108_0 i108_1 hN hF hLl hz hs hm108
                            refine j_iload C 0 rfl dX5_takeItem_108 ?_
                            refine j_iload C 3 rfl dX5_takeItem_110 ?_
                            refine j_icmp_gtN C 160 (by decide) (by omega) (by omega) dX5_takeItem_112 (fun c12 => ?_) (fun c12 => ?_)
                            · refine j_aload_n C 5 rfl dX5_takeItem_160 ?_
                              refine j_dup C rfl dX5_takeItem_161 ?_
                              refine gX_22_1 C tb_170 (σ.1 353) rfl dX5_takeItem_162 ?_
                              refine j_iconst C (nI 1) (by decide) dX5_takeItem_165 ?_
                              refine j_iadd C dX5_takeItem_166 ?_
                              refine pX_22_1 C tb_170 dX5_takeItem_167 ?_
                              refine j_iconst C (nI 1) (by decide) dX5_takeItem_170 ?_
                              exact j_zret C E (by first | rfl | decide) (sI (sF (sF (sF σ 24 fN) 25 fF) 26 fL) 353 ((σ.1 353) + (nI 1))) ⟨_, rfl, ⟨fN, fF, fL, ((σ.1 353) + (nI 1)), rfl, (Or.inl ⟨⟨by omega, fun j z1 z2 => hz j z1 (by omega)⟩, rfl, fR_e hN (by omega), fR_e hF (by omega), fR_e hLl (by omega), rfl⟩), hs⟩⟩ rfl dX5_takeItem_171
                            · refine j_aload_n C 5 rfl dX5_takeItem_115 ?_
                              refine gX_22_3 C tb_173 dX5_takeItem_116 ?_
                              refine j_iload C 0 rfl dX5_takeItem_119 ?_
                              refine rX_24 C d rfl (by omega) (fN d) rfl dX5_takeItem_121 ?_
                              refine j_if_eq C 127 (by decide) dX5_takeItem_122 (fun c13 => ?_) (fun c13 => ?_)
                              · refine j_aload_n C 5 rfl dX5_takeItem_127 ?_
                                refine gX_22_3 C tb_173 dX5_takeItem_128 ?_
                                refine j_iload C 0 rfl dX5_takeItem_131 ?_
                                refine j_iload C 1 rfl dX5_takeItem_133 ?_
                                refine tX_24 C d rfl (by omega) dX5_takeItem_135 ?_
                                refine j_aload_n C 5 rfl dX5_takeItem_136 ?_
                                refine gX_22_4 C tb_175 dX5_takeItem_137 ?_
                                refine j_iload C 0 rfl dX5_takeItem_140 ?_
                                refine j_iload C 2 rfl dX5_takeItem_142 ?_
                                refine tX_25 C d rfl (by omega) dX5_takeItem_144 ?_
                                refine j_aload_n C 5 rfl dX5_takeItem_145 ?_
                                refine gX_22_5 C tb_177 dX5_takeItem_146 ?_
                                refine j_iload C 0 rfl dX5_takeItem_149 ?_
                                refine j_iload C 3 rfl dX5_takeItem_151 ?_
                                refine tX_26 C d rfl (by omega) dX5_takeItem_153 ?_
                                refine j_iinc C (nI (d + 1)) [(8, .int (nI (d + 1))), (7, .int (nI 2)), (6, .int (nI b)), (5, .int (nI b)), (4, .int (nI 1)), (0, .ref (g 22)), (1, .int (nI 108)), (2, .int (nI b)), (3, .int (-1))] 0 rfl (by rw [show Int32.ofInt 1 = nI 1 from by decide, nI_add]) (by decide) rfl dX5_takeItem_154 ?_
                                refine j_goto C 108 (by decide) dX5_takeItem_157 ?_
                                refine j_w (cX g kk (sF (sF (sF σ 24 (upd fN d (nI 2))) 25 (upd fF d (nI b))) 26 (upd fL d (nI b)))) (congrArg (cX g kk) (show sF (sF (sF (sF (sF (sF σ 24 fN) 25 fF) 26 fL) 24 (upd fN d (nI 2))) 25 (upd fF d (nI b))) 26 (upd fL d (nI b)) = sF (sF (sF σ 24 (upd fN d (nI 2))) 25 (upd fF d (nI b))) 26 (upd fL d (nI b)) from (Eq.trans (wrF (Eq.trans (wrF (Eq.trans (wrFc (by decide)) (wrF (Eq.trans (wrFc (by decide)) (wrF wrFs))))) (Eq.trans (wrFc (by decide)) (wrF wrFs)))) wrFs))) ?_
                                exact ih108 (d + 1) (upd fN d (nI 2)) (upd fF d (nI b)) (upd fL d (nI b)) (by omega) (by omega) (fR_s hN (by omega)) (fR_s hF (by omega)) (fR_s hLl (by omega)) (hz_s hN hz c13) (al_upd hs ⟨_, by omega, rfl⟩) (by omega)
                              · refine j_iconst C (nI 0) (by decide) dX5_takeItem_125 ?_
                                refine j_w (cX g kk (sI (sF (sF (sF σ 24 fN) 25 fF) 26 fL) 353 (σ.1 353))) (congrArg (cX g kk) (wrIi (S := (sF (sF (sF σ 24 fN) 25 fF) 26 fL)) (c := 353) (v := σ.1 353) (gtIF (gtIF (gtIF rfl))))) ?_
                                exact j_zret C E (by first | rfl | decide) (sI (sF (sF (sF σ 24 fN) 25 fF) 26 fL) 353 (σ.1 353)) ⟨_, rfl, ⟨fN, fF, fL, (σ.1 353), rfl, (Or.inr ⟨fun z => absurd (z.2 d (by omega) (by omega)) (by rw [← fR_d hN]; exact c13), rfl⟩), hs⟩⟩ rfl dX5_takeItem_126
                        refine j_w (cX g kk (sF σ 24 (σ.2.1 24))) (congrArg (cX g kk) (wrFi (S := σ) (c := 24) (v := σ.2.1 24) rfl)) ?_
                        refine j_w (cX g kk (sF (sF σ 24 (σ.2.1 24)) 25 (σ.2.1 25))) (congrArg (cX g kk) (wrFi (S := (sF σ 24 (σ.2.1 24))) (c := 25) (v := σ.2.1 25) (gtFF (by decide) rfl))) ?_
                        refine j_w (cX g kk (sF (sF (sF σ 24 (σ.2.1 24)) 25 (σ.2.1 25)) 26 (σ.2.1 26))) (congrArg (cX g kk) (wrFi (S := (sF (sF σ 24 (σ.2.1 24)) 25 (σ.2.1 25))) (c := 26) (v := σ.2.1 26) (gtFF (by decide) (gtFF (by decide) rfl)))) ?_
                        exact L108 _ b (σ.2.1 24) (σ.2.1 25) (σ.2.1 26) (by omega) (by omega) fR_00 fR_00 fR_00 (fun j z1 z2 => absurd z2 (by omega)) hS (Nat.lt_succ_self _)
                    · exact absurd c10 (by decide)
                  · refine j_iconst C (nI 0) (by decide) dX5_takeItem_79 ?_
                    refine j_w (cX g kk (sF σ 24 (σ.2.1 24))) (congrArg (cX g kk) (wrFi (S := σ) (c := 24) (v := σ.2.1 24) rfl)) ?_
                    refine j_w (cX g kk (sF (sF σ 24 (σ.2.1 24)) 25 (σ.2.1 25))) (congrArg (cX g kk) (wrFi (S := (sF σ 24 (σ.2.1 24))) (c := 25) (v := σ.2.1 25) (gtFF (by decide) rfl))) ?_
                    refine j_w (cX g kk (sF (sF (sF σ 24 (σ.2.1 24)) 25 (σ.2.1 25)) 26 (σ.2.1 26))) (congrArg (cX g kk) (wrFi (S := (sF (sF σ 24 (σ.2.1 24)) 25 (σ.2.1 25))) (c := 26) (v := σ.2.1 26) (gtFF (by decide) (gtFF (by decide) rfl)))) ?_
                    refine j_w (cX g kk (sI (sF (sF (sF σ 24 (σ.2.1 24)) 25 (σ.2.1 25)) 26 (σ.2.1 26)) 353 (σ.1 353))) (congrArg (cX g kk) (wrIi (S := (sF (sF (sF σ 24 (σ.2.1 24)) 25 (σ.2.1 25)) 26 (σ.2.1 26))) (c := 353) (v := σ.1 353) (gtIF (gtIF (gtIF rfl))))) ?_
                    exact j_zret C E (by first | rfl | decide) (sI (sF (sF (sF σ 24 (σ.2.1 24)) 25 (σ.2.1 25)) 26 (σ.2.1 26)) 353 (σ.1 353)) ⟨_, rfl, ⟨(σ.2.1 24), (σ.2.1 25), (σ.2.1 26), (σ.1 353), rfl, (Or.inr ⟨fun z => by have z1 := z.1; omega, rfl⟩), hS⟩⟩ rfl dX5_takeItem_80
          · exact absurd c5 (by decide)
    · exact absurd c2 (by decide)
set_option maxRecDepth 100000 in
set_option maxHeartbeats 4000000 in
theorem e_tk115_1 (g kk : Nat → Nat) (σ : St) (k : Nat) (hk : σ.1 16 = nI k) (hk6 : k ≤ 6) (hI : iX σ) (hS : al_ 28 27 (σ.2.1 25)) (b : Nat) (hb0 : 1 ≤ b) (hb1 : b ≤ 99) : jM (S := St) yX5_takeItem cX5_takeItem 9 (some .boolean) { frames := 0, cells := 0, slots := 0, locals := 0 } kk (cX g kk σ) [.ref (g 22), .int (nI 115), .int (nI b), .int (-1)] (cX g kk) (rI (fun (r : Int32) (u : St) => ∃ (pF24 : Nat → Int32) (pF25 : Nat → Int32) (pF26 : Nat → Int32) (pI353 : Int32), u = sI (sF (sF (sF σ 24 pF24) 25 pF25) 26 pF26) 353 pI353 ∧ ((((b ≤ 27) ∧ okR (σ.2.1 24) (b - 1) (b)) ∧ r = nI 1 ∧ pF24 = fillR (σ.2.1 24) (b - 1) (b + 1 - (b - 1)) (nI 3) ∧ pF25 = fillR (σ.2.1 25) (b - 1) (b + 1 - (b - 1)) (nI (b - 1)) ∧ pF26 = fillR (σ.2.1 26) (b - 1) (b + 1 - (b - 1)) (nI (b)) ∧ pI353 = σ.1 353 + nI 1) ∨ (¬ ((b ≤ 27) ∧ okR (σ.2.1 24) (b - 1) (b)) ∧ r = nI 0)) ∧ (al_ 28 27 pF25))) := by
  refine j_entry [(0, .ref (g 22)), (1, .int (nI 115)), (2, .int (nI b)), (3, .int (-1))] (by decide) (Nat.le_of_ble_eq_true rfl) rfl ?_
  intro X C E HI
  refine j_iload_n C 3 rfl dX5_takeItem_0 ?_
  refine j_iconst C ((-1)) (by decide) dX5_takeItem_1 ?_
  refine j_icmp_ne C 9 (by decide) dX5_takeItem_2 (fun c1 => ?_) (fun c1 => ?_)
  · exact absurd rfl c1
  · refine j_iconst C (nI 1) (by decide) dX5_takeItem_5 ?_
    refine j_goto C 10 (by decide) dX5_takeItem_6 ?_
    refine j_istore C [(4, .int (nI 1)), (0, .ref (g 22)), (1, .int (nI 115)), (2, .int (nI b)), (3, .int (-1))] (by decide) rfl dX5_takeItem_10 ?_
    refine j_iload C 0 rfl dX5_takeItem_12 ?_
    refine j_if_neN C 24 (by decide) (by omega) dX5_takeItem_14 (fun c2 => ?_) (fun c2 => ?_)
    · refine j_iload C 0 rfl dX5_takeItem_24 ?_
      refine j_if_eqN C 33 (by decide) (by omega) dX5_takeItem_26 (fun c3 => ?_) (fun c3 => ?_)
      · exact absurd c3 (by decide)
      · refine j_iload_n C 3 rfl dX5_takeItem_29 ?_
        refine j_goto C 34 (by decide) dX5_takeItem_30 ?_
        refine j_istore C [(5, .int (nI b)), (4, .int (nI 1)), (0, .ref (g 22)), (1, .int (nI 115)), (2, .int (nI b)), (3, .int (-1))] (by decide) rfl dX5_takeItem_34 ?_
        refine j_iload C 1 rfl dX5_takeItem_36 ?_
        refine j_if_eqN C 53 (by decide) (by omega) dX5_takeItem_38 (fun c4 => ?_) (fun c4 => ?_)
        · exact absurd c4 (by decide)
        · refine j_iload_n C 3 rfl dX5_takeItem_41 ?_
          refine j_bipush C (nI 115) (by decide) dX5_takeItem_42 ?_
          refine j_icmp_neN C 53 (by decide) (by omega) (by omega) dX5_takeItem_44 (fun c5 => ?_) (fun c5 => ?_)
          · exact absurd c5 (by decide)
          · refine j_iload_n C 4 rfl dX5_takeItem_47 ?_
            refine j_iconst C (nI 1) (by decide) dX5_takeItem_48 ?_
            refine j_isubN C (by omega) dX5_takeItem_49 ?_
            refine j_goto C 54 (by decide) dX5_takeItem_50 ?_
            refine j_istore C [(6, .int (nI (b - 1))), (5, .int (nI b)), (4, .int (nI 1)), (0, .ref (g 22)), (1, .int (nI 115)), (2, .int (nI b)), (3, .int (-1))] (by decide) rfl dX5_takeItem_54 ?_
            refine j_iload C 0 rfl dX5_takeItem_56 ?_
            refine j_if_ltN C 79 (by decide) (by omega) dX5_takeItem_58 (fun c6 => ?_) (fun c6 => ?_)
            · refine j_iconst C (nI 0) (by decide) dX5_takeItem_79 ?_
              refine j_w (cX g kk (sF σ 24 (σ.2.1 24))) (congrArg (cX g kk) (wrFi (S := σ) (c := 24) (v := σ.2.1 24) rfl)) ?_
              refine j_w (cX g kk (sF (sF σ 24 (σ.2.1 24)) 25 (σ.2.1 25))) (congrArg (cX g kk) (wrFi (S := (sF σ 24 (σ.2.1 24))) (c := 25) (v := σ.2.1 25) (gtFF (by decide) rfl))) ?_
              refine j_w (cX g kk (sF (sF (sF σ 24 (σ.2.1 24)) 25 (σ.2.1 25)) 26 (σ.2.1 26))) (congrArg (cX g kk) (wrFi (S := (sF (sF σ 24 (σ.2.1 24)) 25 (σ.2.1 25))) (c := 26) (v := σ.2.1 26) (gtFF (by decide) (gtFF (by decide) rfl)))) ?_
              refine j_w (cX g kk (sI (sF (sF (sF σ 24 (σ.2.1 24)) 25 (σ.2.1 25)) 26 (σ.2.1 26)) 353 (σ.1 353))) (congrArg (cX g kk) (wrIi (S := (sF (sF (sF σ 24 (σ.2.1 24)) 25 (σ.2.1 25)) 26 (σ.2.1 26))) (c := 353) (v := σ.1 353) (gtIF (gtIF (gtIF rfl))))) ?_
              exact j_zret C E (by first | rfl | decide) (sI (sF (sF (sF σ 24 (σ.2.1 24)) 25 (σ.2.1 25)) 26 (σ.2.1 26)) 353 (σ.1 353)) ⟨_, rfl, ⟨(σ.2.1 24), (σ.2.1 25), (σ.2.1 26), (σ.1 353), rfl, (Or.inr ⟨fun z => by have z1 := z.1; omega, rfl⟩), hS⟩⟩ rfl dX5_takeItem_80
            · refine j_iload C 1 rfl dX5_takeItem_61 ?_
              refine j_bipush C (nI 28) (by decide) dX5_takeItem_63 ?_
              refine j_icmp_geN C 79 (by decide) (by omega) (by omega) dX5_takeItem_65 (fun c7 => ?_) (fun c7 => ?_)
              · refine j_iconst C (nI 0) (by decide) dX5_takeItem_79 ?_
                refine j_w (cX g kk (sF σ 24 (σ.2.1 24))) (congrArg (cX g kk) (wrFi (S := σ) (c := 24) (v := σ.2.1 24) rfl)) ?_
                refine j_w (cX g kk (sF (sF σ 24 (σ.2.1 24)) 25 (σ.2.1 25))) (congrArg (cX g kk) (wrFi (S := (sF σ 24 (σ.2.1 24))) (c := 25) (v := σ.2.1 25) (gtFF (by decide) rfl))) ?_
                refine j_w (cX g kk (sF (sF (sF σ 24 (σ.2.1 24)) 25 (σ.2.1 25)) 26 (σ.2.1 26))) (congrArg (cX g kk) (wrFi (S := (sF (sF σ 24 (σ.2.1 24)) 25 (σ.2.1 25))) (c := 26) (v := σ.2.1 26) (gtFF (by decide) (gtFF (by decide) rfl)))) ?_
                refine j_w (cX g kk (sI (sF (sF (sF σ 24 (σ.2.1 24)) 25 (σ.2.1 25)) 26 (σ.2.1 26)) 353 (σ.1 353))) (congrArg (cX g kk) (wrIi (S := (sF (sF (sF σ 24 (σ.2.1 24)) 25 (σ.2.1 25)) 26 (σ.2.1 26))) (c := 353) (v := σ.1 353) (gtIF (gtIF (gtIF rfl))))) ?_
                exact j_zret C E (by first | rfl | decide) (sI (sF (sF (sF σ 24 (σ.2.1 24)) 25 (σ.2.1 25)) 26 (σ.2.1 26)) 353 (σ.1 353)) ⟨_, rfl, ⟨(σ.2.1 24), (σ.2.1 25), (σ.2.1 26), (σ.1 353), rfl, (Or.inr ⟨fun z => by have z1 := z.1; omega, rfl⟩), hS⟩⟩ rfl dX5_takeItem_80
              · refine j_iload_n C 4 rfl dX5_takeItem_68 ?_
                refine j_bipush C (nI 108) (by decide) dX5_takeItem_69 ?_
                refine j_icmp_neN C 81 (by decide) (by omega) (by omega) dX5_takeItem_71 (fun c8 => ?_) (fun c8 => ?_)
                · refine j_iload_n C 4 rfl dX5_takeItem_81 ?_
                  refine j_bipush C (nI 120) (by decide) dX5_takeItem_82 ?_
                  refine j_icmp_neN C 91 (by decide) (by omega) (by omega) dX5_takeItem_84 (fun c9 => ?_) (fun c9 => ?_)
                  · refine j_iload_n C 4 rfl dX5_takeItem_91 ?_
                    refine j_bipush C (nI 108) (by decide) dX5_takeItem_92 ?_
                    refine j_icmp_neN C 101 (by decide) (by omega) (by omega) dX5_takeItem_94 (fun c10 => ?_) (fun c10 => ?_)
                    · refine j_iconst C (nI 3) (by decide) dX5_takeItem_101 ?_
                      refine j_istore C [(7, .int (nI 3)), (6, .int (nI (b - 1))), (5, .int (nI b)), (4, .int (nI 1)), (0, .ref (g 22)), (1, .int (nI 115)), (2, .int (nI b)), (3, .int (-1))] (by decide) rfl dX5_takeItem_102 ?_
                      refine j_iload C 1 rfl dX5_takeItem_104 ?_
                      refine j_istore C [(8, .int (nI (b - 1))), (7, .int (nI 3)), (6, .int (nI (b - 1))), (5, .int (nI b)), (4, .int (nI 1)), (0, .ref (g 22)), (1, .int (nI 115)), (2, .int (nI b)), (3, .int (-1))] (by decide) rfl dX5_takeItem_106 ?_
                      have L108 : ∀ (n108 : Nat) (d : Nat) (fN : Nat → Int32) (fF : Nat → Int32) (fL : Nat → Int32) (i108_0 : b - 1 ≤ d) (i108_1 : d ≤ b + 1) (hN : fN = fillR (σ.2.1 24) (b - 1) (d - (b - 1)) (nI 3)) (hF : fF = fillR (σ.2.1 25) (b - 1) (d - (b - 1)) (nI (b - 1))) (hLl : fL = fillR (σ.2.1 26) (b - 1) (d - (b - 1)) (nI b)) (hz : ∀ j, b - 1 ≤ j → j < d → σ.2.1 24 j = 0) (hs : al_ 28 27 fF) (hm108 : 28 - d < n108), J X 0 0 (cX g kk (sF (sF (sF σ 24 fN) 25 fF) 26 fL)) [(8, .int (nI d)), (7, .int (nI 3)), (6, .int (nI (b - 1))), (5, .int (nI b)), (4, .int (nI 1)), (0, .ref (g 22)), (1, .int (nI 115)), (2, .int (nI b)), (3, .int (-1))] 108 [] := by
                        intro n108
                        induction n108 with
                        | zero => intro d fN fF fL i108_0 i108_1 hN hF hLl hz hs hm; exact absurd hm (Nat.not_lt_zero _)
                        | succ n108 ih108 =>
                          intro d fN fF fL i108_0 i108_1 hN hF hLl hz hs hm108
                          refine j_iload C 0 rfl dX5_takeItem_108 ?_
                          refine j_iload C 3 rfl dX5_takeItem_110 ?_
                          refine j_icmp_gtN C 160 (by decide) (by omega) (by omega) dX5_takeItem_112 (fun c11 => ?_) (fun c11 => ?_)
                          · refine j_aload_n C 5 rfl dX5_takeItem_160 ?_
                            refine j_dup C rfl dX5_takeItem_161 ?_
                            refine gX_22_1 C tb_170 (σ.1 353) rfl dX5_takeItem_162 ?_
                            refine j_iconst C (nI 1) (by decide) dX5_takeItem_165 ?_
                            refine j_iadd C dX5_takeItem_166 ?_
                            refine pX_22_1 C tb_170 dX5_takeItem_167 ?_
                            refine j_iconst C (nI 1) (by decide) dX5_takeItem_170 ?_
                            exact j_zret C E (by first | rfl | decide) (sI (sF (sF (sF σ 24 fN) 25 fF) 26 fL) 353 ((σ.1 353) + (nI 1))) ⟨_, rfl, ⟨fN, fF, fL, ((σ.1 353) + (nI 1)), rfl, (Or.inl ⟨⟨by omega, fun j z1 z2 => hz j z1 (by omega)⟩, rfl, fR_e hN (by omega), fR_e hF (by omega), fR_e hLl (by omega), rfl⟩), hs⟩⟩ rfl dX5_takeItem_171
                          · refine j_aload_n C 5 rfl dX5_takeItem_115 ?_
                            refine gX_22_3 C tb_173 dX5_takeItem_116 ?_
                            refine j_iload C 0 rfl dX5_takeItem_119 ?_
                            refine rX_24 C d rfl (by omega) (fN d) rfl dX5_takeItem_121 ?_
                            refine j_if_eq C 127 (by decide) dX5_takeItem_122 (fun c12 => ?_) (fun c12 => ?_)
                            · refine j_aload_n C 5 rfl dX5_takeItem_127 ?_
                              refine gX_22_3 C tb_173 dX5_takeItem_128 ?_
                              refine j_iload C 0 rfl dX5_takeItem_131 ?_
                              refine j_iload C 1 rfl dX5_takeItem_133 ?_
                              refine tX_24 C d rfl (by omega) dX5_takeItem_135 ?_
                              refine j_aload_n C 5 rfl dX5_takeItem_136 ?_
                              refine gX_22_4 C tb_175 dX5_takeItem_137 ?_
                              refine j_iload C 0 rfl dX5_takeItem_140 ?_
                              refine j_iload C 2 rfl dX5_takeItem_142 ?_
                              refine tX_25 C d rfl (by omega) dX5_takeItem_144 ?_
                              refine j_aload_n C 5 rfl dX5_takeItem_145 ?_
                              refine gX_22_5 C tb_177 dX5_takeItem_146 ?_
                              refine j_iload C 0 rfl dX5_takeItem_149 ?_
                              refine j_iload C 3 rfl dX5_takeItem_151 ?_
                              refine tX_26 C d rfl (by omega) dX5_takeItem_153 ?_
                              refine j_iinc C (nI (d + 1)) [(8, .int (nI (d + 1))), (7, .int (nI 3)), (6, .int (nI (b - 1))), (5, .int (nI b)), (4, .int (nI 1)), (0, .ref (g 22)), (1, .int (nI 115)), (2, .int (nI b)), (3, .int (-1))] 0 rfl (by rw [show Int32.ofInt 1 = nI 1 from by decide, nI_add]) (by decide) rfl dX5_takeItem_154 ?_
                              refine j_goto C 108 (by decide) dX5_takeItem_157 ?_
                              refine j_w (cX g kk (sF (sF (sF σ 24 (upd fN d (nI 3))) 25 (upd fF d (nI (b - 1)))) 26 (upd fL d (nI b)))) (congrArg (cX g kk) (show sF (sF (sF (sF (sF (sF σ 24 fN) 25 fF) 26 fL) 24 (upd fN d (nI 3))) 25 (upd fF d (nI (b - 1)))) 26 (upd fL d (nI b)) = sF (sF (sF σ 24 (upd fN d (nI 3))) 25 (upd fF d (nI (b - 1)))) 26 (upd fL d (nI b)) from (Eq.trans (wrF (Eq.trans (wrF (Eq.trans (wrFc (by decide)) (wrF (Eq.trans (wrFc (by decide)) (wrF wrFs))))) (Eq.trans (wrFc (by decide)) (wrF wrFs)))) wrFs))) ?_
                              exact ih108 (d + 1) (upd fN d (nI 3)) (upd fF d (nI (b - 1))) (upd fL d (nI b)) (by omega) (by omega) (fR_s hN (by omega)) (fR_s hF (by omega)) (fR_s hLl (by omega)) (hz_s hN hz c12) (al_upd hs ⟨_, by omega, rfl⟩) (by omega)
                            · refine j_iconst C (nI 0) (by decide) dX5_takeItem_125 ?_
                              refine j_w (cX g kk (sI (sF (sF (sF σ 24 fN) 25 fF) 26 fL) 353 (σ.1 353))) (congrArg (cX g kk) (wrIi (S := (sF (sF (sF σ 24 fN) 25 fF) 26 fL)) (c := 353) (v := σ.1 353) (gtIF (gtIF (gtIF rfl))))) ?_
                              exact j_zret C E (by first | rfl | decide) (sI (sF (sF (sF σ 24 fN) 25 fF) 26 fL) 353 (σ.1 353)) ⟨_, rfl, ⟨fN, fF, fL, (σ.1 353), rfl, (Or.inr ⟨fun z => absurd (z.2 d (by omega) (by omega)) (by rw [← fR_d hN]; exact c12), rfl⟩), hs⟩⟩ rfl dX5_takeItem_126
                      refine j_w (cX g kk (sF σ 24 (σ.2.1 24))) (congrArg (cX g kk) (wrFi (S := σ) (c := 24) (v := σ.2.1 24) rfl)) ?_
                      refine j_w (cX g kk (sF (sF σ 24 (σ.2.1 24)) 25 (σ.2.1 25))) (congrArg (cX g kk) (wrFi (S := (sF σ 24 (σ.2.1 24))) (c := 25) (v := σ.2.1 25) (gtFF (by decide) rfl))) ?_
                      refine j_w (cX g kk (sF (sF (sF σ 24 (σ.2.1 24)) 25 (σ.2.1 25)) 26 (σ.2.1 26))) (congrArg (cX g kk) (wrFi (S := (sF (sF σ 24 (σ.2.1 24)) 25 (σ.2.1 25))) (c := 26) (v := σ.2.1 26) (gtFF (by decide) (gtFF (by decide) rfl)))) ?_
                      exact L108 _ (b - 1) (σ.2.1 24) (σ.2.1 25) (σ.2.1 26) (by omega) (by omega) fR_00 fR_00 fR_00 (fun j z1 z2 => absurd z2 (by omega)) hS (Nat.lt_succ_self _)
                    · exact absurd c10 (by decide)
                  · exact absurd c9 (by decide)
                · exact absurd c8 (by decide)
    · exact absurd c2 (by decide)
set_option maxRecDepth 100000 in
set_option maxHeartbeats 4000000 in
theorem e_tk115_z (g kk : Nat → Nat) (σ : St) (k : Nat) (hk : σ.1 16 = nI k) (hk6 : k ≤ 6) (hI : iX σ) (hS : al_ 28 27 (σ.2.1 25))  : jM (S := St) yX5_takeItem cX5_takeItem 9 (some .boolean) { frames := 0, cells := 0, slots := 0, locals := 0 } kk (cX g kk σ) [.ref (g 22), .int (nI 115), .int (nI 0), .int (-1)] (cX g kk) (rI (fun (r : Int32) (u : St) => u = σ ∧ (r = nI 0))) := by
  refine j_entry [(0, .ref (g 22)), (1, .int (nI 115)), (2, .int (nI 0)), (3, .int (-1))] (by decide) (Nat.le_of_ble_eq_true rfl) rfl ?_
  intro X C E HI
  refine j_iload_n C 3 rfl dX5_takeItem_0 ?_
  refine j_iconst C ((-1)) (by decide) dX5_takeItem_1 ?_
  refine j_icmp_ne C 9 (by decide) dX5_takeItem_2 (fun c1 => ?_) (fun c1 => ?_)
  · exact absurd rfl c1
  · refine j_iconst C (nI 1) (by decide) dX5_takeItem_5 ?_
    refine j_goto C 10 (by decide) dX5_takeItem_6 ?_
    refine j_istore C [(4, .int (nI 1)), (0, .ref (g 22)), (1, .int (nI 115)), (2, .int (nI 0)), (3, .int (-1))] (by decide) rfl dX5_takeItem_10 ?_
    refine j_iload C 0 rfl dX5_takeItem_12 ?_
    refine j_if_neN C 24 (by decide) (by omega) dX5_takeItem_14 (fun c2 => ?_) (fun c2 => ?_)
    · refine j_iload C 0 rfl dX5_takeItem_24 ?_
      refine j_if_eqN C 33 (by decide) (by omega) dX5_takeItem_26 (fun c3 => ?_) (fun c3 => ?_)
      · exact absurd c3 (by decide)
      · refine j_iload_n C 3 rfl dX5_takeItem_29 ?_
        refine j_goto C 34 (by decide) dX5_takeItem_30 ?_
        refine j_istore C [(5, .int (nI 0)), (4, .int (nI 1)), (0, .ref (g 22)), (1, .int (nI 115)), (2, .int (nI 0)), (3, .int (-1))] (by decide) rfl dX5_takeItem_34 ?_
        refine j_iload C 1 rfl dX5_takeItem_36 ?_
        refine j_if_eqN C 53 (by decide) (by omega) dX5_takeItem_38 (fun c4 => ?_) (fun c4 => ?_)
        · exact absurd c4 (by decide)
        · refine j_iload_n C 3 rfl dX5_takeItem_41 ?_
          refine j_bipush C (nI 115) (by decide) dX5_takeItem_42 ?_
          refine j_icmp_neN C 53 (by decide) (by omega) (by omega) dX5_takeItem_44 (fun c5 => ?_) (fun c5 => ?_)
          · exact absurd c5 (by decide)
          · refine j_iload_n C 4 rfl dX5_takeItem_47 ?_
            refine j_iconst C (nI 1) (by decide) dX5_takeItem_48 ?_
            refine j_isub C dX5_takeItem_49 ?_
            refine j_teq (show nI 0 - nI 1 = (-1) from by decide) ?_
            refine j_goto C 54 (by decide) dX5_takeItem_50 ?_
            refine j_istore C [(6, .int (-1)), (5, .int (nI 0)), (4, .int (nI 1)), (0, .ref (g 22)), (1, .int (nI 115)), (2, .int (nI 0)), (3, .int (-1))] (by decide) rfl dX5_takeItem_54 ?_
            refine j_iload C 0 rfl dX5_takeItem_56 ?_
            refine j_if_lt C 79 (by decide) dX5_takeItem_58 (fun c6 => ?_) (fun c6 => ?_)
            · refine j_iconst C (nI 0) (by decide) dX5_takeItem_79 ?_
              exact j_zret C E (by first | rfl | decide) (σ) ⟨_, rfl, ⟨rfl, rfl⟩⟩ rfl dX5_takeItem_80
            · exact absurd c6 (by decide)
    · exact absurd c2 (by decide)
set_option maxRecDepth 100000 in
set_option maxHeartbeats 4000000 in
theorem e_tk120_2 (g kk : Nat → Nat) (σ : St) (k : Nat) (hk : σ.1 16 = nI k) (hk6 : k ≤ 6) (hI : iX σ) (hS : al_ 28 27 (σ.2.1 25)) (b : Nat) (hb0 : b ≤ 99) (c : Nat) (hc0 : c ≤ 99) : jM (S := St) yX5_takeItem cX5_takeItem 9 (some .boolean) { frames := 0, cells := 0, slots := 0, locals := 0 } kk (cX g kk σ) [.ref (g 22), .int (nI 120), .int (nI b), .int (nI c)] (cX g kk) (rI (fun (r : Int32) (u : St) => ∃ (pF24 : Nat → Int32) (pF25 : Nat → Int32) (pF26 : Nat → Int32) (pI353 : Int32), u = sI (sF (sF (sF σ 24 pF24) 25 pF25) 26 pF26) 353 pI353 ∧ ((((b < c ∧ c ≤ 27) ∧ okR (σ.2.1 24) (b) (c)) ∧ r = nI 1 ∧ pF24 = fillR (σ.2.1 24) (b) (c + 1 - (b)) (nI 1) ∧ pF25 = fillR (σ.2.1 25) (b) (c + 1 - (b)) (nI (b)) ∧ pF26 = fillR (σ.2.1 26) (b) (c + 1 - (b)) (nI (c)) ∧ pI353 = σ.1 353 + nI 1) ∨ (¬ ((b < c ∧ c ≤ 27) ∧ okR (σ.2.1 24) (b) (c)) ∧ r = nI 0)) ∧ (al_ 28 27 pF25))) := by
  refine j_entry [(0, .ref (g 22)), (1, .int (nI 120)), (2, .int (nI b)), (3, .int (nI c))] (by decide) (Nat.le_of_ble_eq_true rfl) rfl ?_
  intro X C E HI
  refine j_iload_n C 3 rfl dX5_takeItem_0 ?_
  refine j_iconst C ((-1)) (by decide) dX5_takeItem_1 ?_
  refine j_icmp_ne C 9 (by decide) dX5_takeItem_2 (fun c1 => ?_) (fun c1 => ?_)
  · refine j_iconst C (nI 0) (by decide) dX5_takeItem_9 ?_
    refine j_istore C [(4, .int (nI 0)), (0, .ref (g 22)), (1, .int (nI 120)), (2, .int (nI b)), (3, .int (nI c))] (by decide) rfl dX5_takeItem_10 ?_
    refine j_iload C 0 rfl dX5_takeItem_12 ?_
    refine j_if_neN C 24 (by decide) (by omega) dX5_takeItem_14 (fun c2 => ?_) (fun c2 => ?_)
    · exact absurd c2 (by decide)
    · refine j_iload_n C 4 rfl dX5_takeItem_17 ?_
      refine j_iload_n C 3 rfl dX5_takeItem_18 ?_
      refine j_icmp_gtN C 24 (by decide) (by omega) (by omega) dX5_takeItem_19 (fun c3 => ?_) (fun c3 => ?_)
      · refine j_iload C 0 rfl dX5_takeItem_24 ?_
        refine j_if_eqN C 33 (by decide) (by omega) dX5_takeItem_26 (fun c4 => ?_) (fun c4 => ?_)
        · refine j_iload_n C 4 rfl dX5_takeItem_33 ?_
          refine j_istore C [(5, .int (nI c)), (4, .int (nI 0)), (0, .ref (g 22)), (1, .int (nI 120)), (2, .int (nI b)), (3, .int (nI c))] (by decide) rfl dX5_takeItem_34 ?_
          refine j_iload C 1 rfl dX5_takeItem_36 ?_
          refine j_if_eqN C 53 (by decide) (by omega) dX5_takeItem_38 (fun c5 => ?_) (fun c5 => ?_)
          · refine j_iload_n C 4 rfl dX5_takeItem_53 ?_
            refine j_istore C [(6, .int (nI b)), (5, .int (nI c)), (4, .int (nI 0)), (0, .ref (g 22)), (1, .int (nI 120)), (2, .int (nI b)), (3, .int (nI c))] (by decide) rfl dX5_takeItem_54 ?_
            refine j_iload C 0 rfl dX5_takeItem_56 ?_
            refine j_if_ltN C 79 (by decide) (by omega) dX5_takeItem_58 (fun c6 => ?_) (fun c6 => ?_)
            · refine j_iconst C (nI 0) (by decide) dX5_takeItem_79 ?_
              refine j_w (cX g kk (sF σ 24 (σ.2.1 24))) (congrArg (cX g kk) (wrFi (S := σ) (c := 24) (v := σ.2.1 24) rfl)) ?_
              refine j_w (cX g kk (sF (sF σ 24 (σ.2.1 24)) 25 (σ.2.1 25))) (congrArg (cX g kk) (wrFi (S := (sF σ 24 (σ.2.1 24))) (c := 25) (v := σ.2.1 25) (gtFF (by decide) rfl))) ?_
              refine j_w (cX g kk (sF (sF (sF σ 24 (σ.2.1 24)) 25 (σ.2.1 25)) 26 (σ.2.1 26))) (congrArg (cX g kk) (wrFi (S := (sF (sF σ 24 (σ.2.1 24)) 25 (σ.2.1 25))) (c := 26) (v := σ.2.1 26) (gtFF (by decide) (gtFF (by decide) rfl)))) ?_
              refine j_w (cX g kk (sI (sF (sF (sF σ 24 (σ.2.1 24)) 25 (σ.2.1 25)) 26 (σ.2.1 26)) 353 (σ.1 353))) (congrArg (cX g kk) (wrIi (S := (sF (sF (sF σ 24 (σ.2.1 24)) 25 (σ.2.1 25)) 26 (σ.2.1 26))) (c := 353) (v := σ.1 353) (gtIF (gtIF (gtIF rfl))))) ?_
              exact j_zret C E (by first | rfl | decide) (sI (sF (sF (sF σ 24 (σ.2.1 24)) 25 (σ.2.1 25)) 26 (σ.2.1 26)) 353 (σ.1 353)) ⟨_, rfl, ⟨(σ.2.1 24), (σ.2.1 25), (σ.2.1 26), (σ.1 353), rfl, (Or.inr ⟨fun z => by have z1 := z.1; omega, rfl⟩), hS⟩⟩ rfl dX5_takeItem_80
            · refine j_iload C 1 rfl dX5_takeItem_61 ?_
              refine j_bipush C (nI 28) (by decide) dX5_takeItem_63 ?_
              refine j_icmp_geN C 79 (by decide) (by omega) (by omega) dX5_takeItem_65 (fun c7 => ?_) (fun c7 => ?_)
              · refine j_iconst C (nI 0) (by decide) dX5_takeItem_79 ?_
                refine j_w (cX g kk (sF σ 24 (σ.2.1 24))) (congrArg (cX g kk) (wrFi (S := σ) (c := 24) (v := σ.2.1 24) rfl)) ?_
                refine j_w (cX g kk (sF (sF σ 24 (σ.2.1 24)) 25 (σ.2.1 25))) (congrArg (cX g kk) (wrFi (S := (sF σ 24 (σ.2.1 24))) (c := 25) (v := σ.2.1 25) (gtFF (by decide) rfl))) ?_
                refine j_w (cX g kk (sF (sF (sF σ 24 (σ.2.1 24)) 25 (σ.2.1 25)) 26 (σ.2.1 26))) (congrArg (cX g kk) (wrFi (S := (sF (sF σ 24 (σ.2.1 24)) 25 (σ.2.1 25))) (c := 26) (v := σ.2.1 26) (gtFF (by decide) (gtFF (by decide) rfl)))) ?_
                refine j_w (cX g kk (sI (sF (sF (sF σ 24 (σ.2.1 24)) 25 (σ.2.1 25)) 26 (σ.2.1 26)) 353 (σ.1 353))) (congrArg (cX g kk) (wrIi (S := (sF (sF (sF σ 24 (σ.2.1 24)) 25 (σ.2.1 25)) 26 (σ.2.1 26))) (c := 353) (v := σ.1 353) (gtIF (gtIF (gtIF rfl))))) ?_
                exact j_zret C E (by first | rfl | decide) (sI (sF (sF (sF σ 24 (σ.2.1 24)) 25 (σ.2.1 25)) 26 (σ.2.1 26)) 353 (σ.1 353)) ⟨_, rfl, ⟨(σ.2.1 24), (σ.2.1 25), (σ.2.1 26), (σ.1 353), rfl, (Or.inr ⟨fun z => by have z1 := z.1; omega, rfl⟩), hS⟩⟩ rfl dX5_takeItem_80
              · refine j_iload_n C 4 rfl dX5_takeItem_68 ?_
                refine j_bipush C (nI 108) (by decide) dX5_takeItem_69 ?_
                refine j_icmp_neN C 81 (by decide) (by omega) (by omega) dX5_takeItem_71 (fun c8 => ?_) (fun c8 => ?_)
                · refine j_iload_n C 4 rfl dX5_takeItem_81 ?_
                  refine j_bipush C (nI 120) (by decide) dX5_takeItem_82 ?_
                  refine j_icmp_neN C 91 (by decide) (by omega) (by omega) dX5_takeItem_84 (fun c9 => ?_) (fun c9 => ?_)
                  · exact absurd c9 (by decide)
                  · refine j_iconst C (nI 1) (by decide) dX5_takeItem_87 ?_
                    refine j_goto C 102 (by decide) dX5_takeItem_88 ?_
                    refine j_istore C [(7, .int (nI 1)), (6, .int (nI b)), (5, .int (nI c)), (4, .int (nI 0)), (0, .ref (g 22)), (1, .int (nI 120)), (2, .int (nI b)), (3, .int (nI c))] (by decide) rfl dX5_takeItem_102 ?_
                    refine j_iload C 1 rfl dX5_takeItem_104 ?_
                    refine j_istore C [(8, .int (nI b)), (7, .int (nI 1)), (6, .int (nI b)), (5, .int (nI c)), (4, .int (nI 0)), (0, .ref (g 22)), (1, .int (nI 120)), (2, .int (nI b)), (3, .int (nI c))] (by decide) rfl dX5_takeItem_106 ?_
                    have L108 : ∀ (n108 : Nat) (d : Nat) (fN : Nat → Int32) (fF : Nat → Int32) (fL : Nat → Int32) (i108_0 : b ≤ d) (i108_1 : d ≤ c + 1) (hN : fN = fillR (σ.2.1 24) b (d - b) (nI 1)) (hF : fF = fillR (σ.2.1 25) b (d - b) (nI b)) (hLl : fL = fillR (σ.2.1 26) b (d - b) (nI c)) (hz : ∀ j, b ≤ j → j < d → σ.2.1 24 j = 0) (hs : al_ 28 27 fF) (hm108 : 28 - d < n108), J X 0 0 (cX g kk (sF (sF (sF σ 24 fN) 25 fF) 26 fL)) [(8, .int (nI d)), (7, .int (nI 1)), (6, .int (nI b)), (5, .int (nI c)), (4, .int (nI 0)), (0, .ref (g 22)), (1, .int (nI 120)), (2, .int (nI b)), (3, .int (nI c))] 108 [] := by
                      intro n108
                      induction n108 with
                      | zero => intro d fN fF fL i108_0 i108_1 hN hF hLl hz hs hm; exact absurd hm (Nat.not_lt_zero _)
                      | succ n108 ih108 =>
                        intro d fN fF fL i108_0 i108_1 hN hF hLl hz hs hm108
                        refine j_iload C 0 rfl dX5_takeItem_108 ?_
                        refine j_iload C 3 rfl dX5_takeItem_110 ?_
                        refine j_icmp_gtN C 160 (by decide) (by omega) (by omega) dX5_takeItem_112 (fun c10 => ?_) (fun c10 => ?_)
                        · refine j_aload_n C 5 rfl dX5_takeItem_160 ?_
                          refine j_dup C rfl dX5_takeItem_161 ?_
                          refine gX_22_1 C tb_170 (σ.1 353) rfl dX5_takeItem_162 ?_
                          refine j_iconst C (nI 1) (by decide) dX5_takeItem_165 ?_
                          refine j_iadd C dX5_takeItem_166 ?_
                          refine pX_22_1 C tb_170 dX5_takeItem_167 ?_
                          refine j_iconst C (nI 1) (by decide) dX5_takeItem_170 ?_
                          exact j_zret C E (by first | rfl | decide) (sI (sF (sF (sF σ 24 fN) 25 fF) 26 fL) 353 ((σ.1 353) + (nI 1))) ⟨_, rfl, ⟨fN, fF, fL, ((σ.1 353) + (nI 1)), rfl, (Or.inl ⟨⟨by omega, fun j z1 z2 => hz j z1 (by omega)⟩, rfl, fR_e hN (by omega), fR_e hF (by omega), fR_e hLl (by omega), rfl⟩), hs⟩⟩ rfl dX5_takeItem_171
                        · refine j_aload_n C 5 rfl dX5_takeItem_115 ?_
                          refine gX_22_3 C tb_173 dX5_takeItem_116 ?_
                          refine j_iload C 0 rfl dX5_takeItem_119 ?_
                          refine rX_24 C d rfl (by omega) (fN d) rfl dX5_takeItem_121 ?_
                          refine j_if_eq C 127 (by decide) dX5_takeItem_122 (fun c11 => ?_) (fun c11 => ?_)
                          · refine j_aload_n C 5 rfl dX5_takeItem_127 ?_
                            refine gX_22_3 C tb_173 dX5_takeItem_128 ?_
                            refine j_iload C 0 rfl dX5_takeItem_131 ?_
                            refine j_iload C 1 rfl dX5_takeItem_133 ?_
                            refine tX_24 C d rfl (by omega) dX5_takeItem_135 ?_
                            refine j_aload_n C 5 rfl dX5_takeItem_136 ?_
                            refine gX_22_4 C tb_175 dX5_takeItem_137 ?_
                            refine j_iload C 0 rfl dX5_takeItem_140 ?_
                            refine j_iload C 2 rfl dX5_takeItem_142 ?_
                            refine tX_25 C d rfl (by omega) dX5_takeItem_144 ?_
                            refine j_aload_n C 5 rfl dX5_takeItem_145 ?_
                            refine gX_22_5 C tb_177 dX5_takeItem_146 ?_
                            refine j_iload C 0 rfl dX5_takeItem_149 ?_
                            refine j_iload C 3 rfl dX5_takeItem_151 ?_
                            refine tX_26 C d rfl (by omega) dX5_takeItem_153 ?_
                            refine j_iinc C (nI (d + 1)) [(8, .int (nI (d + 1))), (7, .int (nI 1)), (6, .int (nI b)), (5, .int (nI c)), (4, .int (nI 0)), (0, .ref (g 22)), (1, .int (nI 120)), (2, .int (nI b)), (3, .int (nI c))] 0 rfl (by rw [show Int32.ofInt 1 = nI 1 from by decide, nI_add]) (by decide) rfl dX5_takeItem_154 ?_
                            refine j_goto C 108 (by decide) dX5_takeItem_157 ?_
                            refine j_w (cX g kk (sF (sF (sF σ 24 (upd fN d (nI 1))) 25 (upd fF d (nI b))) 26 (upd fL d (nI c)))) (congrArg (cX g kk) (show sF (sF (sF (sF (sF (sF σ 24 fN) 25 fF) 26 fL) 24 (upd fN d (nI 1))) 25 (upd fF d (nI b))) 26 (upd fL d (nI c)) = sF (sF (sF σ 24 (upd fN d (nI 1))) 25 (upd fF d (nI b))) 26 (upd fL d (nI c)) from (Eq.trans (wrF (Eq.trans (wrF (Eq.trans (wrFc (by decide)) (wrF (Eq.trans (wrFc (by decide)) (wrF wrFs))))) (Eq.trans (wrFc (by decide)) (wrF wrFs)))) wrFs))) ?_
                            exact ih108 (d + 1) (upd fN d (nI 1)) (upd fF d (nI b)) (upd fL d (nI c)) (by omega) (by omega) (fR_s hN (by omega)) (fR_s hF (by omega)) (fR_s hLl (by omega)) (hz_s hN hz c11) (al_upd hs ⟨_, by omega, rfl⟩) (by omega)
                          · refine j_iconst C (nI 0) (by decide) dX5_takeItem_125 ?_
                            refine j_w (cX g kk (sI (sF (sF (sF σ 24 fN) 25 fF) 26 fL) 353 (σ.1 353))) (congrArg (cX g kk) (wrIi (S := (sF (sF (sF σ 24 fN) 25 fF) 26 fL)) (c := 353) (v := σ.1 353) (gtIF (gtIF (gtIF rfl))))) ?_
                            exact j_zret C E (by first | rfl | decide) (sI (sF (sF (sF σ 24 fN) 25 fF) 26 fL) 353 (σ.1 353)) ⟨_, rfl, ⟨fN, fF, fL, (σ.1 353), rfl, (Or.inr ⟨fun z => absurd (z.2 d (by omega) (by omega)) (by rw [← fR_d hN]; exact c11), rfl⟩), hs⟩⟩ rfl dX5_takeItem_126
                    refine j_w (cX g kk (sF σ 24 (σ.2.1 24))) (congrArg (cX g kk) (wrFi (S := σ) (c := 24) (v := σ.2.1 24) rfl)) ?_
                    refine j_w (cX g kk (sF (sF σ 24 (σ.2.1 24)) 25 (σ.2.1 25))) (congrArg (cX g kk) (wrFi (S := (sF σ 24 (σ.2.1 24))) (c := 25) (v := σ.2.1 25) (gtFF (by decide) rfl))) ?_
                    refine j_w (cX g kk (sF (sF (sF σ 24 (σ.2.1 24)) 25 (σ.2.1 25)) 26 (σ.2.1 26))) (congrArg (cX g kk) (wrFi (S := (sF (sF σ 24 (σ.2.1 24)) 25 (σ.2.1 25))) (c := 26) (v := σ.2.1 26) (gtFF (by decide) (gtFF (by decide) rfl)))) ?_
                    exact L108 _ b (σ.2.1 24) (σ.2.1 25) (σ.2.1 26) (by omega) (by omega) fR_00 fR_00 fR_00 (fun j z1 z2 => absurd z2 (by omega)) hS (Nat.lt_succ_self _)
                · exact absurd c8 (by decide)
          · exact absurd c5 (by decide)
        · exact absurd c4 (by decide)
      · refine j_iconst C (nI 0) (by decide) dX5_takeItem_22 ?_
        refine j_w (cX g kk (sF σ 24 (σ.2.1 24))) (congrArg (cX g kk) (wrFi (S := σ) (c := 24) (v := σ.2.1 24) rfl)) ?_
        refine j_w (cX g kk (sF (sF σ 24 (σ.2.1 24)) 25 (σ.2.1 25))) (congrArg (cX g kk) (wrFi (S := (sF σ 24 (σ.2.1 24))) (c := 25) (v := σ.2.1 25) (gtFF (by decide) rfl))) ?_
        refine j_w (cX g kk (sF (sF (sF σ 24 (σ.2.1 24)) 25 (σ.2.1 25)) 26 (σ.2.1 26))) (congrArg (cX g kk) (wrFi (S := (sF (sF σ 24 (σ.2.1 24)) 25 (σ.2.1 25))) (c := 26) (v := σ.2.1 26) (gtFF (by decide) (gtFF (by decide) rfl)))) ?_
        refine j_w (cX g kk (sI (sF (sF (sF σ 24 (σ.2.1 24)) 25 (σ.2.1 25)) 26 (σ.2.1 26)) 353 (σ.1 353))) (congrArg (cX g kk) (wrIi (S := (sF (sF (sF σ 24 (σ.2.1 24)) 25 (σ.2.1 25)) 26 (σ.2.1 26))) (c := 353) (v := σ.1 353) (gtIF (gtIF (gtIF rfl))))) ?_
        exact j_zret C E (by first | rfl | decide) (sI (sF (sF (sF σ 24 (σ.2.1 24)) 25 (σ.2.1 25)) 26 (σ.2.1 26)) 353 (σ.1 353)) ⟨_, rfl, ⟨(σ.2.1 24), (σ.2.1 25), (σ.2.1 26), (σ.1 353), rfl, (Or.inr ⟨fun z => by have z1 := z.1; omega, rfl⟩), hS⟩⟩ rfl dX5_takeItem_23
  · exact absurd c1 (nI_nm1 (by omega))
set_option maxRecDepth 100000 in
set_option maxHeartbeats 4000000 in
theorem e_tk108_2 (g kk : Nat → Nat) (σ : St) (k : Nat) (hk : σ.1 16 = nI k) (hk6 : k ≤ 6) (hI : iX σ) (hS : al_ 28 27 (σ.2.1 25)) (b : Nat) (hb0 : b ≤ 99) (c : Nat) (hc0 : c ≤ 99) : jM (S := St) yX5_takeItem cX5_takeItem 9 (some .boolean) { frames := 0, cells := 0, slots := 0, locals := 0 } kk (cX g kk σ) [.ref (g 22), .int (nI 108), .int (nI b), .int (nI c)] (cX g kk) (rI (fun (r : Int32) (u : St) => ∃ (pF24 : Nat → Int32) (pF25 : Nat → Int32) (pF26 : Nat → Int32) (pI353 : Int32), u = sI (sF (sF (sF σ 24 pF24) 25 pF25) 26 pF26) 353 pI353 ∧ ((((1 ≤ b ∧ b < c ∧ c ≤ 27) ∧ okR (σ.2.1 24) (b) (c)) ∧ r = nI 1 ∧ pF24 = fillR (σ.2.1 24) (b) (c + 1 - (b)) (nI 2) ∧ pF25 = fillR (σ.2.1 25) (b) (c + 1 - (b)) (nI (b)) ∧ pF26 = fillR (σ.2.1 26) (b) (c + 1 - (b)) (nI (c)) ∧ pI353 = σ.1 353 + nI 1) ∨ (¬ ((1 ≤ b ∧ b < c ∧ c ≤ 27) ∧ okR (σ.2.1 24) (b) (c)) ∧ r = nI 0)) ∧ (al_ 28 27 pF25))) := by
  refine j_entry [(0, .ref (g 22)), (1, .int (nI 108)), (2, .int (nI b)), (3, .int (nI c))] (by decide) (Nat.le_of_ble_eq_true rfl) rfl ?_
  intro X C E HI
  refine j_iload_n C 3 rfl dX5_takeItem_0 ?_
  refine j_iconst C ((-1)) (by decide) dX5_takeItem_1 ?_
  refine j_icmp_ne C 9 (by decide) dX5_takeItem_2 (fun c1 => ?_) (fun c1 => ?_)
  · refine j_iconst C (nI 0) (by decide) dX5_takeItem_9 ?_
    refine j_istore C [(4, .int (nI 0)), (0, .ref (g 22)), (1, .int (nI 108)), (2, .int (nI b)), (3, .int (nI c))] (by decide) rfl dX5_takeItem_10 ?_
    refine j_iload C 0 rfl dX5_takeItem_12 ?_
    refine j_if_neN C 24 (by decide) (by omega) dX5_takeItem_14 (fun c2 => ?_) (fun c2 => ?_)
    · exact absurd c2 (by decide)
    · refine j_iload_n C 4 rfl dX5_takeItem_17 ?_
      refine j_iload_n C 3 rfl dX5_takeItem_18 ?_
      refine j_icmp_gtN C 24 (by decide) (by omega) (by omega) dX5_takeItem_19 (fun c3 => ?_) (fun c3 => ?_)
      · refine j_iload C 0 rfl dX5_takeItem_24 ?_
        refine j_if_eqN C 33 (by decide) (by omega) dX5_takeItem_26 (fun c4 => ?_) (fun c4 => ?_)
        · refine j_iload_n C 4 rfl dX5_takeItem_33 ?_
          refine j_istore C [(5, .int (nI c)), (4, .int (nI 0)), (0, .ref (g 22)), (1, .int (nI 108)), (2, .int (nI b)), (3, .int (nI c))] (by decide) rfl dX5_takeItem_34 ?_
          refine j_iload C 1 rfl dX5_takeItem_36 ?_
          refine j_if_eqN C 53 (by decide) (by omega) dX5_takeItem_38 (fun c5 => ?_) (fun c5 => ?_)
          · refine j_iload_n C 4 rfl dX5_takeItem_53 ?_
            refine j_istore C [(6, .int (nI b)), (5, .int (nI c)), (4, .int (nI 0)), (0, .ref (g 22)), (1, .int (nI 108)), (2, .int (nI b)), (3, .int (nI c))] (by decide) rfl dX5_takeItem_54 ?_
            refine j_iload C 0 rfl dX5_takeItem_56 ?_
            refine j_if_ltN C 79 (by decide) (by omega) dX5_takeItem_58 (fun c6 => ?_) (fun c6 => ?_)
            · refine j_iconst C (nI 0) (by decide) dX5_takeItem_79 ?_
              refine j_w (cX g kk (sF σ 24 (σ.2.1 24))) (congrArg (cX g kk) (wrFi (S := σ) (c := 24) (v := σ.2.1 24) rfl)) ?_
              refine j_w (cX g kk (sF (sF σ 24 (σ.2.1 24)) 25 (σ.2.1 25))) (congrArg (cX g kk) (wrFi (S := (sF σ 24 (σ.2.1 24))) (c := 25) (v := σ.2.1 25) (gtFF (by decide) rfl))) ?_
              refine j_w (cX g kk (sF (sF (sF σ 24 (σ.2.1 24)) 25 (σ.2.1 25)) 26 (σ.2.1 26))) (congrArg (cX g kk) (wrFi (S := (sF (sF σ 24 (σ.2.1 24)) 25 (σ.2.1 25))) (c := 26) (v := σ.2.1 26) (gtFF (by decide) (gtFF (by decide) rfl)))) ?_
              refine j_w (cX g kk (sI (sF (sF (sF σ 24 (σ.2.1 24)) 25 (σ.2.1 25)) 26 (σ.2.1 26)) 353 (σ.1 353))) (congrArg (cX g kk) (wrIi (S := (sF (sF (sF σ 24 (σ.2.1 24)) 25 (σ.2.1 25)) 26 (σ.2.1 26))) (c := 353) (v := σ.1 353) (gtIF (gtIF (gtIF rfl))))) ?_
              exact j_zret C E (by first | rfl | decide) (sI (sF (sF (sF σ 24 (σ.2.1 24)) 25 (σ.2.1 25)) 26 (σ.2.1 26)) 353 (σ.1 353)) ⟨_, rfl, ⟨(σ.2.1 24), (σ.2.1 25), (σ.2.1 26), (σ.1 353), rfl, (Or.inr ⟨fun z => by have z1 := z.1; omega, rfl⟩), hS⟩⟩ rfl dX5_takeItem_80
            · refine j_iload C 1 rfl dX5_takeItem_61 ?_
              refine j_bipush C (nI 28) (by decide) dX5_takeItem_63 ?_
              refine j_icmp_geN C 79 (by decide) (by omega) (by omega) dX5_takeItem_65 (fun c7 => ?_) (fun c7 => ?_)
              · refine j_iconst C (nI 0) (by decide) dX5_takeItem_79 ?_
                refine j_w (cX g kk (sF σ 24 (σ.2.1 24))) (congrArg (cX g kk) (wrFi (S := σ) (c := 24) (v := σ.2.1 24) rfl)) ?_
                refine j_w (cX g kk (sF (sF σ 24 (σ.2.1 24)) 25 (σ.2.1 25))) (congrArg (cX g kk) (wrFi (S := (sF σ 24 (σ.2.1 24))) (c := 25) (v := σ.2.1 25) (gtFF (by decide) rfl))) ?_
                refine j_w (cX g kk (sF (sF (sF σ 24 (σ.2.1 24)) 25 (σ.2.1 25)) 26 (σ.2.1 26))) (congrArg (cX g kk) (wrFi (S := (sF (sF σ 24 (σ.2.1 24)) 25 (σ.2.1 25))) (c := 26) (v := σ.2.1 26) (gtFF (by decide) (gtFF (by decide) rfl)))) ?_
                refine j_w (cX g kk (sI (sF (sF (sF σ 24 (σ.2.1 24)) 25 (σ.2.1 25)) 26 (σ.2.1 26)) 353 (σ.1 353))) (congrArg (cX g kk) (wrIi (S := (sF (sF (sF σ 24 (σ.2.1 24)) 25 (σ.2.1 25)) 26 (σ.2.1 26))) (c := 353) (v := σ.1 353) (gtIF (gtIF (gtIF rfl))))) ?_
                exact j_zret C E (by first | rfl | decide) (sI (sF (sF (sF σ 24 (σ.2.1 24)) 25 (σ.2.1 25)) 26 (σ.2.1 26)) 353 (σ.1 353)) ⟨_, rfl, ⟨(σ.2.1 24), (σ.2.1 25), (σ.2.1 26), (σ.1 353), rfl, (Or.inr ⟨fun z => by have z1 := z.1; omega, rfl⟩), hS⟩⟩ rfl dX5_takeItem_80
              · refine j_iload_n C 4 rfl dX5_takeItem_68 ?_
                refine j_bipush C (nI 108) (by decide) dX5_takeItem_69 ?_
                refine j_icmp_neN C 81 (by decide) (by omega) (by omega) dX5_takeItem_71 (fun c8 => ?_) (fun c8 => ?_)
                · exact absurd c8 (by decide)
                · refine j_iload C 0 rfl dX5_takeItem_74 ?_
                  refine j_if_neN C 81 (by decide) (by omega) dX5_takeItem_76 (fun c9 => ?_) (fun c9 => ?_)
                  · refine j_iload_n C 4 rfl dX5_takeItem_81 ?_
                    refine j_bipush C (nI 120) (by decide) dX5_takeItem_82 ?_
                    refine j_icmp_neN C 91 (by decide) (by omega) (by omega) dX5_takeItem_84 (fun c10 => ?_) (fun c10 => ?_)
                    · refine j_iload_n C 4 rfl dX5_takeItem_91 ?_
                      refine j_bipush C (nI 108) (by decide) dX5_takeItem_92 ?_
                      refine j_icmp_neN C 101 (by decide) (by omega) (by omega) dX5_takeItem_94 (fun c11 => ?_) (fun c11 => ?_)
                      · exact absurd c11 (by decide)
                      · refine j_iconst C (nI 2) (by decide) dX5_takeItem_97 ?_
                        refine j_goto C 102 (by decide) dX5_takeItem_98 ?_
                        refine j_istore C [(7, .int (nI 2)), (6, .int (nI b)), (5, .int (nI c)), (4, .int (nI 0)), (0, .ref (g 22)), (1, .int (nI 108)), (2, .int (nI b)), (3, .int (nI c))] (by decide) rfl dX5_takeItem_102 ?_
                        refine j_iload C 1 rfl dX5_takeItem_104 ?_
                        refine j_istore C [(8, .int (nI b)), (7, .int (nI 2)), (6, .int (nI b)), (5, .int (nI c)), (4, .int (nI 0)), (0, .ref (g 22)), (1, .int (nI 108)), (2, .int (nI b)), (3, .int (nI c))] (by decide) rfl dX5_takeItem_106 ?_
                        have L108 : ∀ (n108 : Nat) (d : Nat) (fN : Nat → Int32) (fF : Nat → Int32) (fL : Nat → Int32) (i108_0 : b ≤ d) (i108_1 : d ≤ c + 1) (hN : fN = fillR (σ.2.1 24) b (d - b) (nI 2)) (hF : fF = fillR (σ.2.1 25) b (d - b) (nI b)) (hLl : fL = fillR (σ.2.1 26) b (d - b) (nI c)) (hz : ∀ j, b ≤ j → j < d → σ.2.1 24 j = 0) (hs : al_ 28 27 fF) (hm108 : 28 - d < n108), J X 0 0 (cX g kk (sF (sF (sF σ 24 fN) 25 fF) 26 fL)) [(8, .int (nI d)), (7, .int (nI 2)), (6, .int (nI b)), (5, .int (nI c)), (4, .int (nI 0)), (0, .ref (g 22)), (1, .int (nI 108)), (2, .int (nI b)), (3, .int (nI c))] 108 [] := by
                          intro n108
                          induction n108 with
                          | zero => intro d fN fF fL i108_0 i108_1 hN hF hLl hz hs hm; exact absurd hm (Nat.not_lt_zero _)
                          | succ n108 ih108 =>
                            intro d fN fF fL i108_0 i108_1 hN hF hLl hz hs hm108
                            refine j_iload C 0 rfl dX5_takeItem_108 ?_
                            refine j_iload C 3 rfl dX5_takeItem_110 ?_
                            refine j_icmp_gtN C 160 (by decide) (by omega) (by omega) dX5_takeItem_112 (fun c12 => ?_) (fun c12 => ?_)
                            · refine j_aload_n C 5 rfl dX5_takeItem_160 ?_
                              refine j_dup C rfl dX5_takeItem_161 ?_
                              refine gX_22_1 C tb_170 (σ.1 353) rfl dX5_takeItem_162 ?_
                              refine j_iconst C (nI 1) (by decide) dX5_takeItem_165 ?_
                              refine j_iadd C dX5_takeItem_166 ?_
                              refine pX_22_1 C tb_170 dX5_takeItem_167 ?_
                              refine j_iconst C (nI 1) (by decide) dX5_takeItem_170 ?_
                              exact j_zret C E (by first | rfl | decide) (sI (sF (sF (sF σ 24 fN) 25 fF) 26 fL) 353 ((σ.1 353) + (nI 1))) ⟨_, rfl, ⟨fN, fF, fL, ((σ.1 353) + (nI 1)), rfl, (Or.inl ⟨⟨by omega, fun j z1 z2 => hz j z1 (by omega)⟩, rfl, fR_e hN (by omega), fR_e hF (by omega), fR_e hLl (by omega), rfl⟩), hs⟩⟩ rfl dX5_takeItem_171
                            · refine j_aload_n C 5 rfl dX5_takeItem_115 ?_
                              refine gX_22_3 C tb_173 dX5_takeItem_116 ?_
                              refine j_iload C 0 rfl dX5_takeItem_119 ?_
                              refine rX_24 C d rfl (by omega) (fN d) rfl dX5_takeItem_121 ?_
                              refine j_if_eq C 127 (by decide) dX5_takeItem_122 (fun c13 => ?_) (fun c13 => ?_)
                              · refine j_aload_n C 5 rfl dX5_takeItem_127 ?_
                                refine gX_22_3 C tb_173 dX5_takeItem_128 ?_
                                refine j_iload C 0 rfl dX5_takeItem_131 ?_
                                refine j_iload C 1 rfl dX5_takeItem_133 ?_
                                refine tX_24 C d rfl (by omega) dX5_takeItem_135 ?_
                                refine j_aload_n C 5 rfl dX5_takeItem_136 ?_
                                refine gX_22_4 C tb_175 dX5_takeItem_137 ?_
                                refine j_iload C 0 rfl dX5_takeItem_140 ?_
                                refine j_iload C 2 rfl dX5_takeItem_142 ?_
                                refine tX_25 C d rfl (by omega) dX5_takeItem_144 ?_
                                refine j_aload_n C 5 rfl dX5_takeItem_145 ?_
                                refine gX_22_5 C tb_177 dX5_takeItem_146 ?_
                                refine j_iload C 0 rfl dX5_takeItem_149 ?_
                                refine j_iload C 3 rfl dX5_takeItem_151 ?_
                                refine tX_26 C d rfl (by omega) dX5_takeItem_153 ?_
                                refine j_iinc C (nI (d + 1)) [(8, .int (nI (d + 1))), (7, .int (nI 2)), (6, .int (nI b)), (5, .int (nI c)), (4, .int (nI 0)), (0, .ref (g 22)), (1, .int (nI 108)), (2, .int (nI b)), (3, .int (nI c))] 0 rfl (by rw [show Int32.ofInt 1 = nI 1 from by decide, nI_add]) (by decide) rfl dX5_takeItem_154 ?_
                                refine j_goto C 108 (by decide) dX5_takeItem_157 ?_
                                refine j_w (cX g kk (sF (sF (sF σ 24 (upd fN d (nI 2))) 25 (upd fF d (nI b))) 26 (upd fL d (nI c)))) (congrArg (cX g kk) (show sF (sF (sF (sF (sF (sF σ 24 fN) 25 fF) 26 fL) 24 (upd fN d (nI 2))) 25 (upd fF d (nI b))) 26 (upd fL d (nI c)) = sF (sF (sF σ 24 (upd fN d (nI 2))) 25 (upd fF d (nI b))) 26 (upd fL d (nI c)) from (Eq.trans (wrF (Eq.trans (wrF (Eq.trans (wrFc (by decide)) (wrF (Eq.trans (wrFc (by decide)) (wrF wrFs))))) (Eq.trans (wrFc (by decide)) (wrF wrFs)))) wrFs))) ?_
                                exact ih108 (d + 1) (upd fN d (nI 2)) (upd fF d (nI b)) (upd fL d (nI c)) (by omega) (by omega) (fR_s hN (by omega)) (fR_s hF (by omega)) (fR_s hLl (by omega)) (hz_s hN hz c13) (al_upd hs ⟨_, by omega, rfl⟩) (by omega)
                              · refine j_iconst C (nI 0) (by decide) dX5_takeItem_125 ?_
                                refine j_w (cX g kk (sI (sF (sF (sF σ 24 fN) 25 fF) 26 fL) 353 (σ.1 353))) (congrArg (cX g kk) (wrIi (S := (sF (sF (sF σ 24 fN) 25 fF) 26 fL)) (c := 353) (v := σ.1 353) (gtIF (gtIF (gtIF rfl))))) ?_
                                exact j_zret C E (by first | rfl | decide) (sI (sF (sF (sF σ 24 fN) 25 fF) 26 fL) 353 (σ.1 353)) ⟨_, rfl, ⟨fN, fF, fL, (σ.1 353), rfl, (Or.inr ⟨fun z => absurd (z.2 d (by omega) (by omega)) (by rw [← fR_d hN]; exact c13), rfl⟩), hs⟩⟩ rfl dX5_takeItem_126
                        refine j_w (cX g kk (sF σ 24 (σ.2.1 24))) (congrArg (cX g kk) (wrFi (S := σ) (c := 24) (v := σ.2.1 24) rfl)) ?_
                        refine j_w (cX g kk (sF (sF σ 24 (σ.2.1 24)) 25 (σ.2.1 25))) (congrArg (cX g kk) (wrFi (S := (sF σ 24 (σ.2.1 24))) (c := 25) (v := σ.2.1 25) (gtFF (by decide) rfl))) ?_
                        refine j_w (cX g kk (sF (sF (sF σ 24 (σ.2.1 24)) 25 (σ.2.1 25)) 26 (σ.2.1 26))) (congrArg (cX g kk) (wrFi (S := (sF (sF σ 24 (σ.2.1 24)) 25 (σ.2.1 25))) (c := 26) (v := σ.2.1 26) (gtFF (by decide) (gtFF (by decide) rfl)))) ?_
                        exact L108 _ b (σ.2.1 24) (σ.2.1 25) (σ.2.1 26) (by omega) (by omega) fR_00 fR_00 fR_00 (fun j z1 z2 => absurd z2 (by omega)) hS (Nat.lt_succ_self _)
                    · exact absurd c10 (by decide)
                  · refine j_iconst C (nI 0) (by decide) dX5_takeItem_79 ?_
                    refine j_w (cX g kk (sF σ 24 (σ.2.1 24))) (congrArg (cX g kk) (wrFi (S := σ) (c := 24) (v := σ.2.1 24) rfl)) ?_
                    refine j_w (cX g kk (sF (sF σ 24 (σ.2.1 24)) 25 (σ.2.1 25))) (congrArg (cX g kk) (wrFi (S := (sF σ 24 (σ.2.1 24))) (c := 25) (v := σ.2.1 25) (gtFF (by decide) rfl))) ?_
                    refine j_w (cX g kk (sF (sF (sF σ 24 (σ.2.1 24)) 25 (σ.2.1 25)) 26 (σ.2.1 26))) (congrArg (cX g kk) (wrFi (S := (sF (sF σ 24 (σ.2.1 24)) 25 (σ.2.1 25))) (c := 26) (v := σ.2.1 26) (gtFF (by decide) (gtFF (by decide) rfl)))) ?_
                    refine j_w (cX g kk (sI (sF (sF (sF σ 24 (σ.2.1 24)) 25 (σ.2.1 25)) 26 (σ.2.1 26)) 353 (σ.1 353))) (congrArg (cX g kk) (wrIi (S := (sF (sF (sF σ 24 (σ.2.1 24)) 25 (σ.2.1 25)) 26 (σ.2.1 26))) (c := 353) (v := σ.1 353) (gtIF (gtIF (gtIF rfl))))) ?_
                    exact j_zret C E (by first | rfl | decide) (sI (sF (sF (sF σ 24 (σ.2.1 24)) 25 (σ.2.1 25)) 26 (σ.2.1 26)) 353 (σ.1 353)) ⟨_, rfl, ⟨(σ.2.1 24), (σ.2.1 25), (σ.2.1 26), (σ.1 353), rfl, (Or.inr ⟨fun z => by have z1 := z.1; omega, rfl⟩), hS⟩⟩ rfl dX5_takeItem_80
          · exact absurd c5 (by decide)
        · exact absurd c4 (by decide)
      · refine j_iconst C (nI 0) (by decide) dX5_takeItem_22 ?_
        refine j_w (cX g kk (sF σ 24 (σ.2.1 24))) (congrArg (cX g kk) (wrFi (S := σ) (c := 24) (v := σ.2.1 24) rfl)) ?_
        refine j_w (cX g kk (sF (sF σ 24 (σ.2.1 24)) 25 (σ.2.1 25))) (congrArg (cX g kk) (wrFi (S := (sF σ 24 (σ.2.1 24))) (c := 25) (v := σ.2.1 25) (gtFF (by decide) rfl))) ?_
        refine j_w (cX g kk (sF (sF (sF σ 24 (σ.2.1 24)) 25 (σ.2.1 25)) 26 (σ.2.1 26))) (congrArg (cX g kk) (wrFi (S := (sF (sF σ 24 (σ.2.1 24)) 25 (σ.2.1 25))) (c := 26) (v := σ.2.1 26) (gtFF (by decide) (gtFF (by decide) rfl)))) ?_
        refine j_w (cX g kk (sI (sF (sF (sF σ 24 (σ.2.1 24)) 25 (σ.2.1 25)) 26 (σ.2.1 26)) 353 (σ.1 353))) (congrArg (cX g kk) (wrIi (S := (sF (sF (sF σ 24 (σ.2.1 24)) 25 (σ.2.1 25)) 26 (σ.2.1 26))) (c := 353) (v := σ.1 353) (gtIF (gtIF (gtIF rfl))))) ?_
        exact j_zret C E (by first | rfl | decide) (sI (sF (sF (sF σ 24 (σ.2.1 24)) 25 (σ.2.1 25)) 26 (σ.2.1 26)) 353 (σ.1 353)) ⟨_, rfl, ⟨(σ.2.1 24), (σ.2.1 25), (σ.2.1 26), (σ.1 353), rfl, (Or.inr ⟨fun z => by have z1 := z.1; omega, rfl⟩), hS⟩⟩ rfl dX5_takeItem_23
  · exact absurd c1 (nI_nm1 (by omega))
set_option maxRecDepth 100000 in
set_option maxHeartbeats 4000000 in
theorem e_tk115_2 (g kk : Nat → Nat) (σ : St) (k : Nat) (hk : σ.1 16 = nI k) (hk6 : k ≤ 6) (hI : iX σ) (hS : al_ 28 27 (σ.2.1 25)) (b : Nat) (hb0 : b ≤ 99) (c : Nat) (hc0 : c ≤ 99) : jM (S := St) yX5_takeItem cX5_takeItem 9 (some .boolean) { frames := 0, cells := 0, slots := 0, locals := 0 } kk (cX g kk σ) [.ref (g 22), .int (nI 115), .int (nI b), .int (nI c)] (cX g kk) (rI (fun (r : Int32) (u : St) => ∃ (pF24 : Nat → Int32) (pF25 : Nat → Int32) (pF26 : Nat → Int32) (pI353 : Int32), u = sI (sF (sF (sF σ 24 pF24) 25 pF25) 26 pF26) 353 pI353 ∧ ((((b < c ∧ c ≤ 27) ∧ okR (σ.2.1 24) (b) (c)) ∧ r = nI 1 ∧ pF24 = fillR (σ.2.1 24) (b) (c + 1 - (b)) (nI 3) ∧ pF25 = fillR (σ.2.1 25) (b) (c + 1 - (b)) (nI (b)) ∧ pF26 = fillR (σ.2.1 26) (b) (c + 1 - (b)) (nI (c)) ∧ pI353 = σ.1 353 + nI 1) ∨ (¬ ((b < c ∧ c ≤ 27) ∧ okR (σ.2.1 24) (b) (c)) ∧ r = nI 0)) ∧ (al_ 28 27 pF25))) := by
  refine j_entry [(0, .ref (g 22)), (1, .int (nI 115)), (2, .int (nI b)), (3, .int (nI c))] (by decide) (Nat.le_of_ble_eq_true rfl) rfl ?_
  intro X C E HI
  refine j_iload_n C 3 rfl dX5_takeItem_0 ?_
  refine j_iconst C ((-1)) (by decide) dX5_takeItem_1 ?_
  refine j_icmp_ne C 9 (by decide) dX5_takeItem_2 (fun c1 => ?_) (fun c1 => ?_)
  · refine j_iconst C (nI 0) (by decide) dX5_takeItem_9 ?_
    refine j_istore C [(4, .int (nI 0)), (0, .ref (g 22)), (1, .int (nI 115)), (2, .int (nI b)), (3, .int (nI c))] (by decide) rfl dX5_takeItem_10 ?_
    refine j_iload C 0 rfl dX5_takeItem_12 ?_
    refine j_if_neN C 24 (by decide) (by omega) dX5_takeItem_14 (fun c2 => ?_) (fun c2 => ?_)
    · exact absurd c2 (by decide)
    · refine j_iload_n C 4 rfl dX5_takeItem_17 ?_
      refine j_iload_n C 3 rfl dX5_takeItem_18 ?_
      refine j_icmp_gtN C 24 (by decide) (by omega) (by omega) dX5_takeItem_19 (fun c3 => ?_) (fun c3 => ?_)
      · refine j_iload C 0 rfl dX5_takeItem_24 ?_
        refine j_if_eqN C 33 (by decide) (by omega) dX5_takeItem_26 (fun c4 => ?_) (fun c4 => ?_)
        · refine j_iload_n C 4 rfl dX5_takeItem_33 ?_
          refine j_istore C [(5, .int (nI c)), (4, .int (nI 0)), (0, .ref (g 22)), (1, .int (nI 115)), (2, .int (nI b)), (3, .int (nI c))] (by decide) rfl dX5_takeItem_34 ?_
          refine j_iload C 1 rfl dX5_takeItem_36 ?_
          refine j_if_eqN C 53 (by decide) (by omega) dX5_takeItem_38 (fun c5 => ?_) (fun c5 => ?_)
          · refine j_iload_n C 4 rfl dX5_takeItem_53 ?_
            refine j_istore C [(6, .int (nI b)), (5, .int (nI c)), (4, .int (nI 0)), (0, .ref (g 22)), (1, .int (nI 115)), (2, .int (nI b)), (3, .int (nI c))] (by decide) rfl dX5_takeItem_54 ?_
            refine j_iload C 0 rfl dX5_takeItem_56 ?_
            refine j_if_ltN C 79 (by decide) (by omega) dX5_takeItem_58 (fun c6 => ?_) (fun c6 => ?_)
            · refine j_iconst C (nI 0) (by decide) dX5_takeItem_79 ?_
              refine j_w (cX g kk (sF σ 24 (σ.2.1 24))) (congrArg (cX g kk) (wrFi (S := σ) (c := 24) (v := σ.2.1 24) rfl)) ?_
              refine j_w (cX g kk (sF (sF σ 24 (σ.2.1 24)) 25 (σ.2.1 25))) (congrArg (cX g kk) (wrFi (S := (sF σ 24 (σ.2.1 24))) (c := 25) (v := σ.2.1 25) (gtFF (by decide) rfl))) ?_
              refine j_w (cX g kk (sF (sF (sF σ 24 (σ.2.1 24)) 25 (σ.2.1 25)) 26 (σ.2.1 26))) (congrArg (cX g kk) (wrFi (S := (sF (sF σ 24 (σ.2.1 24)) 25 (σ.2.1 25))) (c := 26) (v := σ.2.1 26) (gtFF (by decide) (gtFF (by decide) rfl)))) ?_
              refine j_w (cX g kk (sI (sF (sF (sF σ 24 (σ.2.1 24)) 25 (σ.2.1 25)) 26 (σ.2.1 26)) 353 (σ.1 353))) (congrArg (cX g kk) (wrIi (S := (sF (sF (sF σ 24 (σ.2.1 24)) 25 (σ.2.1 25)) 26 (σ.2.1 26))) (c := 353) (v := σ.1 353) (gtIF (gtIF (gtIF rfl))))) ?_
              exact j_zret C E (by first | rfl | decide) (sI (sF (sF (sF σ 24 (σ.2.1 24)) 25 (σ.2.1 25)) 26 (σ.2.1 26)) 353 (σ.1 353)) ⟨_, rfl, ⟨(σ.2.1 24), (σ.2.1 25), (σ.2.1 26), (σ.1 353), rfl, (Or.inr ⟨fun z => by have z1 := z.1; omega, rfl⟩), hS⟩⟩ rfl dX5_takeItem_80
            · refine j_iload C 1 rfl dX5_takeItem_61 ?_
              refine j_bipush C (nI 28) (by decide) dX5_takeItem_63 ?_
              refine j_icmp_geN C 79 (by decide) (by omega) (by omega) dX5_takeItem_65 (fun c7 => ?_) (fun c7 => ?_)
              · refine j_iconst C (nI 0) (by decide) dX5_takeItem_79 ?_
                refine j_w (cX g kk (sF σ 24 (σ.2.1 24))) (congrArg (cX g kk) (wrFi (S := σ) (c := 24) (v := σ.2.1 24) rfl)) ?_
                refine j_w (cX g kk (sF (sF σ 24 (σ.2.1 24)) 25 (σ.2.1 25))) (congrArg (cX g kk) (wrFi (S := (sF σ 24 (σ.2.1 24))) (c := 25) (v := σ.2.1 25) (gtFF (by decide) rfl))) ?_
                refine j_w (cX g kk (sF (sF (sF σ 24 (σ.2.1 24)) 25 (σ.2.1 25)) 26 (σ.2.1 26))) (congrArg (cX g kk) (wrFi (S := (sF (sF σ 24 (σ.2.1 24)) 25 (σ.2.1 25))) (c := 26) (v := σ.2.1 26) (gtFF (by decide) (gtFF (by decide) rfl)))) ?_
                refine j_w (cX g kk (sI (sF (sF (sF σ 24 (σ.2.1 24)) 25 (σ.2.1 25)) 26 (σ.2.1 26)) 353 (σ.1 353))) (congrArg (cX g kk) (wrIi (S := (sF (sF (sF σ 24 (σ.2.1 24)) 25 (σ.2.1 25)) 26 (σ.2.1 26))) (c := 353) (v := σ.1 353) (gtIF (gtIF (gtIF rfl))))) ?_
                exact j_zret C E (by first | rfl | decide) (sI (sF (sF (sF σ 24 (σ.2.1 24)) 25 (σ.2.1 25)) 26 (σ.2.1 26)) 353 (σ.1 353)) ⟨_, rfl, ⟨(σ.2.1 24), (σ.2.1 25), (σ.2.1 26), (σ.1 353), rfl, (Or.inr ⟨fun z => by have z1 := z.1; omega, rfl⟩), hS⟩⟩ rfl dX5_takeItem_80
              · refine j_iload_n C 4 rfl dX5_takeItem_68 ?_
                refine j_bipush C (nI 108) (by decide) dX5_takeItem_69 ?_
                refine j_icmp_neN C 81 (by decide) (by omega) (by omega) dX5_takeItem_71 (fun c8 => ?_) (fun c8 => ?_)
                · refine j_iload_n C 4 rfl dX5_takeItem_81 ?_
                  refine j_bipush C (nI 120) (by decide) dX5_takeItem_82 ?_
                  refine j_icmp_neN C 91 (by decide) (by omega) (by omega) dX5_takeItem_84 (fun c9 => ?_) (fun c9 => ?_)
                  · refine j_iload_n C 4 rfl dX5_takeItem_91 ?_
                    refine j_bipush C (nI 108) (by decide) dX5_takeItem_92 ?_
                    refine j_icmp_neN C 101 (by decide) (by omega) (by omega) dX5_takeItem_94 (fun c10 => ?_) (fun c10 => ?_)
                    · refine j_iconst C (nI 3) (by decide) dX5_takeItem_101 ?_
                      refine j_istore C [(7, .int (nI 3)), (6, .int (nI b)), (5, .int (nI c)), (4, .int (nI 0)), (0, .ref (g 22)), (1, .int (nI 115)), (2, .int (nI b)), (3, .int (nI c))] (by decide) rfl dX5_takeItem_102 ?_
                      refine j_iload C 1 rfl dX5_takeItem_104 ?_
                      refine j_istore C [(8, .int (nI b)), (7, .int (nI 3)), (6, .int (nI b)), (5, .int (nI c)), (4, .int (nI 0)), (0, .ref (g 22)), (1, .int (nI 115)), (2, .int (nI b)), (3, .int (nI c))] (by decide) rfl dX5_takeItem_106 ?_
                      have L108 : ∀ (n108 : Nat) (d : Nat) (fN : Nat → Int32) (fF : Nat → Int32) (fL : Nat → Int32) (i108_0 : b ≤ d) (i108_1 : d ≤ c + 1) (hN : fN = fillR (σ.2.1 24) b (d - b) (nI 3)) (hF : fF = fillR (σ.2.1 25) b (d - b) (nI b)) (hLl : fL = fillR (σ.2.1 26) b (d - b) (nI c)) (hz : ∀ j, b ≤ j → j < d → σ.2.1 24 j = 0) (hs : al_ 28 27 fF) (hm108 : 28 - d < n108), J X 0 0 (cX g kk (sF (sF (sF σ 24 fN) 25 fF) 26 fL)) [(8, .int (nI d)), (7, .int (nI 3)), (6, .int (nI b)), (5, .int (nI c)), (4, .int (nI 0)), (0, .ref (g 22)), (1, .int (nI 115)), (2, .int (nI b)), (3, .int (nI c))] 108 [] := by
                        intro n108
                        induction n108 with
                        | zero => intro d fN fF fL i108_0 i108_1 hN hF hLl hz hs hm; exact absurd hm (Nat.not_lt_zero _)
                        | succ n108 ih108 =>
                          intro d fN fF fL i108_0 i108_1 hN hF hLl hz hs hm108
                          refine j_iload C 0 rfl dX5_takeItem_108 ?_
                          refine j_iload C 3 rfl dX5_takeItem_110 ?_
                          refine j_icmp_gtN C 160 (by decide) (by omega) (by omega) dX5_takeItem_112 (fun c11 => ?_) (fun c11 => ?_)
                          · refine j_aload_n C 5 rfl dX5_takeItem_160 ?_
                            refine j_dup C rfl dX5_takeItem_161 ?_
                            refine gX_22_1 C tb_170 (σ.1 353) rfl dX5_takeItem_162 ?_
                            refine j_iconst C (nI 1) (by decide) dX5_takeItem_165 ?_
                            refine j_iadd C dX5_takeItem_166 ?_
                            refine pX_22_1 C tb_170 dX5_takeItem_167 ?_
                            refine j_iconst C (nI 1) (by decide) dX5_takeItem_170 ?_
                            exact j_zret C E (by first | rfl | decide) (sI (sF (sF (sF σ 24 fN) 25 fF) 26 fL) 353 ((σ.1 353) + (nI 1))) ⟨_, rfl, ⟨fN, fF, fL, ((σ.1 353) + (nI 1)), rfl, (Or.inl ⟨⟨by omega, fun j z1 z2 => hz j z1 (by omega)⟩, rfl, fR_e hN (by omega), fR_e hF (by omega), fR_e hLl (by omega), rfl⟩), hs⟩⟩ rfl dX5_takeItem_171
                          · refine j_aload_n C 5 rfl dX5_takeItem_115 ?_
                            refine gX_22_3 C tb_173 dX5_takeItem_116 ?_
                            refine j_iload C 0 rfl dX5_takeItem_119 ?_
                            refine rX_24 C d rfl (by omega) (fN d) rfl dX5_takeItem_121 ?_
                            refine j_if_eq C 127 (by decide) dX5_takeItem_122 (fun c12 => ?_) (fun c12 => ?_)
                            · refine j_aload_n C 5 rfl dX5_takeItem_127 ?_
                              refine gX_22_3 C tb_173 dX5_takeItem_128 ?_
                              refine j_iload C 0 rfl dX5_takeItem_131 ?_
                              refine j_iload C 1 rfl dX5_takeItem_133 ?_
                              refine tX_24 C d rfl (by omega) dX5_takeItem_135 ?_
                              refine j_aload_n C 5 rfl dX5_takeItem_136 ?_
                              refine gX_22_4 C tb_175 dX5_takeItem_137 ?_
                              refine j_iload C 0 rfl dX5_takeItem_140 ?_
                              refine j_iload C 2 rfl dX5_takeItem_142 ?_
                              refine tX_25 C d rfl (by omega) dX5_takeItem_144 ?_
                              refine j_aload_n C 5 rfl dX5_takeItem_145 ?_
                              refine gX_22_5 C tb_177 dX5_takeItem_146 ?_
                              refine j_iload C 0 rfl dX5_takeItem_149 ?_
                              refine j_iload C 3 rfl dX5_takeItem_151 ?_
                              refine tX_26 C d rfl (by omega) dX5_takeItem_153 ?_
                              refine j_iinc C (nI (d + 1)) [(8, .int (nI (d + 1))), (7, .int (nI 3)), (6, .int (nI b)), (5, .int (nI c)), (4, .int (nI 0)), (0, .ref (g 22)), (1, .int (nI 115)), (2, .int (nI b)), (3, .int (nI c))] 0 rfl (by rw [show Int32.ofInt 1 = nI 1 from by decide, nI_add]) (by decide) rfl dX5_takeItem_154 ?_
                              refine j_goto C 108 (by decide) dX5_takeItem_157 ?_
                              refine j_w (cX g kk (sF (sF (sF σ 24 (upd fN d (nI 3))) 25 (upd fF d (nI b))) 26 (upd fL d (nI c)))) (congrArg (cX g kk) (show sF (sF (sF (sF (sF (sF σ 24 fN) 25 fF) 26 fL) 24 (upd fN d (nI 3))) 25 (upd fF d (nI b))) 26 (upd fL d (nI c)) = sF (sF (sF σ 24 (upd fN d (nI 3))) 25 (upd fF d (nI b))) 26 (upd fL d (nI c)) from (Eq.trans (wrF (Eq.trans (wrF (Eq.trans (wrFc (by decide)) (wrF (Eq.trans (wrFc (by decide)) (wrF wrFs))))) (Eq.trans (wrFc (by decide)) (wrF wrFs)))) wrFs))) ?_
                              exact ih108 (d + 1) (upd fN d (nI 3)) (upd fF d (nI b)) (upd fL d (nI c)) (by omega) (by omega) (fR_s hN (by omega)) (fR_s hF (by omega)) (fR_s hLl (by omega)) (hz_s hN hz c12) (al_upd hs ⟨_, by omega, rfl⟩) (by omega)
                            · refine j_iconst C (nI 0) (by decide) dX5_takeItem_125 ?_
                              refine j_w (cX g kk (sI (sF (sF (sF σ 24 fN) 25 fF) 26 fL) 353 (σ.1 353))) (congrArg (cX g kk) (wrIi (S := (sF (sF (sF σ 24 fN) 25 fF) 26 fL)) (c := 353) (v := σ.1 353) (gtIF (gtIF (gtIF rfl))))) ?_
                              exact j_zret C E (by first | rfl | decide) (sI (sF (sF (sF σ 24 fN) 25 fF) 26 fL) 353 (σ.1 353)) ⟨_, rfl, ⟨fN, fF, fL, (σ.1 353), rfl, (Or.inr ⟨fun z => absurd (z.2 d (by omega) (by omega)) (by rw [← fR_d hN]; exact c12), rfl⟩), hs⟩⟩ rfl dX5_takeItem_126
                      refine j_w (cX g kk (sF σ 24 (σ.2.1 24))) (congrArg (cX g kk) (wrFi (S := σ) (c := 24) (v := σ.2.1 24) rfl)) ?_
                      refine j_w (cX g kk (sF (sF σ 24 (σ.2.1 24)) 25 (σ.2.1 25))) (congrArg (cX g kk) (wrFi (S := (sF σ 24 (σ.2.1 24))) (c := 25) (v := σ.2.1 25) (gtFF (by decide) rfl))) ?_
                      refine j_w (cX g kk (sF (sF (sF σ 24 (σ.2.1 24)) 25 (σ.2.1 25)) 26 (σ.2.1 26))) (congrArg (cX g kk) (wrFi (S := (sF (sF σ 24 (σ.2.1 24)) 25 (σ.2.1 25))) (c := 26) (v := σ.2.1 26) (gtFF (by decide) (gtFF (by decide) rfl)))) ?_
                      exact L108 _ b (σ.2.1 24) (σ.2.1 25) (σ.2.1 26) (by omega) (by omega) fR_00 fR_00 fR_00 (fun j z1 z2 => absurd z2 (by omega)) hS (Nat.lt_succ_self _)
                    · exact absurd c10 (by decide)
                  · exact absurd c9 (by decide)
                · exact absurd c8 (by decide)
          · exact absurd c5 (by decide)
        · exact absurd c4 (by decide)
      · refine j_iconst C (nI 0) (by decide) dX5_takeItem_22 ?_
        refine j_w (cX g kk (sF σ 24 (σ.2.1 24))) (congrArg (cX g kk) (wrFi (S := σ) (c := 24) (v := σ.2.1 24) rfl)) ?_
        refine j_w (cX g kk (sF (sF σ 24 (σ.2.1 24)) 25 (σ.2.1 25))) (congrArg (cX g kk) (wrFi (S := (sF σ 24 (σ.2.1 24))) (c := 25) (v := σ.2.1 25) (gtFF (by decide) rfl))) ?_
        refine j_w (cX g kk (sF (sF (sF σ 24 (σ.2.1 24)) 25 (σ.2.1 25)) 26 (σ.2.1 26))) (congrArg (cX g kk) (wrFi (S := (sF (sF σ 24 (σ.2.1 24)) 25 (σ.2.1 25))) (c := 26) (v := σ.2.1 26) (gtFF (by decide) (gtFF (by decide) rfl)))) ?_
        refine j_w (cX g kk (sI (sF (sF (sF σ 24 (σ.2.1 24)) 25 (σ.2.1 25)) 26 (σ.2.1 26)) 353 (σ.1 353))) (congrArg (cX g kk) (wrIi (S := (sF (sF (sF σ 24 (σ.2.1 24)) 25 (σ.2.1 25)) 26 (σ.2.1 26))) (c := 353) (v := σ.1 353) (gtIF (gtIF (gtIF rfl))))) ?_
        exact j_zret C E (by first | rfl | decide) (sI (sF (sF (sF σ 24 (σ.2.1 24)) 25 (σ.2.1 25)) 26 (σ.2.1 26)) 353 (σ.1 353)) ⟨_, rfl, ⟨(σ.2.1 24), (σ.2.1 25), (σ.2.1 26), (σ.1 353), rfl, (Or.inr ⟨fun z => by have z1 := z.1; omega, rfl⟩), hS⟩⟩ rfl dX5_takeItem_23
  · exact absurd c1 (nI_nm1 (by omega))
set_option maxRecDepth 100000 in
set_option maxHeartbeats 4000000 in
theorem o_ly120_1 (g kk : Nat → Nat) (σ : St) (k : Nat) (hk : σ.1 3 = nI k) (hk6 : k ≤ 6) (hI : iM σ) (hS : al_ 28 27 (σ.2.1 14)) (b : Nat) (hb0 : b ≤ 99) : jM (S := St) yX11_lay cX11_lay 9 (some .boolean) { frames := 1, cells := 0, slots := 0, locals := 25 } kk (cM g kk σ) [.ref (g 0), .int (nI 120), .int (nI b), .int (-6)] (cM g kk) (rI (fun (r : Int32) (u : St) => ∃ (pF13 : Nat → Int32) (pF14 : Nat → Int32) (pF15 : Nat → Int32), u = sF (sF (sF σ 13 pF13) 14 pF14) 15 pF15 ∧ ((((b ≤ 27) ∧ okR (σ.2.1 13) (b) (b)) ∧ r = nI 1 ∧ pF13 = fillR (σ.2.1 13) (b) (b + 1 - (b)) (nI 1) ∧ pF14 = fillR (σ.2.1 14) (b) (b + 1 - (b)) (nI (b)) ∧ pF15 = fillR (σ.2.1 15) (b) (b + 1 - (b)) (nI (b))) ∨ (¬ ((b ≤ 27) ∧ okR (σ.2.1 13) (b) (b)) ∧ r = nI 0)) ∧ (al_ 28 27 pF14))) := by
  refine j_entry [(0, .ref (g 0)), (1, .int (nI 120)), (2, .int (nI b)), (3, .int (-6))] (by decide) (Nat.le_of_ble_eq_true rfl) rfl ?_
  intro X C E HI
  refine j_iload_n C 3 rfl dX11_lay_0 ?_
  refine j_if_ge C 8 (by decide) dX11_lay_1 (fun c1 => ?_) (fun c1 => ?_)
  · exact absurd c1 (by decide)
  · refine j_iconst C (nI 1) (by decide) dX11_lay_4 ?_
    refine j_goto C 9 (by decide) dX11_lay_5 ?_
    refine j_istore C [(4, .int (nI 1)), (0, .ref (g 0)), (1, .int (nI 120)), (2, .int (nI b)), (3, .int (-6))] (by decide) rfl dX11_lay_9 ?_
    refine j_iload C 0 rfl dX11_lay_11 ?_
    refine j_if_eqN C 28 (by decide) (by omega) dX11_lay_13 (fun c2 => ?_) (fun c2 => ?_)
    · exact absurd c2 (by decide)
    · refine j_iload_n C 2 rfl dX11_lay_16 ?_
      refine j_bipush C (nI 115) (by decide) dX11_lay_17 ?_
      refine j_icmp_neN C 28 (by decide) (by omega) (by omega) dX11_lay_19 (fun c3 => ?_) (fun c3 => ?_)
      · refine j_iload_n C 3 rfl dX11_lay_28 ?_
        refine j_istore C [(5, .int (nI b)), (4, .int (nI 1)), (0, .ref (g 0)), (1, .int (nI 120)), (2, .int (nI b)), (3, .int (-6))] (by decide) rfl dX11_lay_29 ?_
        refine j_iload C 1 rfl dX11_lay_31 ?_
        refine j_if_eqN C 40 (by decide) (by omega) dX11_lay_33 (fun c4 => ?_) (fun c4 => ?_)
        · exact absurd c4 (by decide)
        · refine j_iload_n C 4 rfl dX11_lay_36 ?_
          refine j_goto C 41 (by decide) dX11_lay_37 ?_
          refine j_istore C [(6, .int (nI b)), (5, .int (nI b)), (4, .int (nI 1)), (0, .ref (g 0)), (1, .int (nI 120)), (2, .int (nI b)), (3, .int (-6))] (by decide) rfl dX11_lay_41 ?_
          refine j_iload C 1 rfl dX11_lay_43 ?_
          refine j_i2l C dX11_lay_45 ?_
          refine j_iload_n C 4 rfl dX11_lay_46 ?_
          refine j_bipush C (nI 108) (by decide) dX11_lay_47 ?_
          refine j_icmp_neN C 56 (by decide) (by omega) (by omega) dX11_lay_49 (fun c5 => ?_) (fun c5 => ?_)
          · refine j_lconst C 0 (by decide) dX11_lay_56 ?_
            refine j_ldc2 C tb_1080 dX11_lay_57 ?_
            refine j_S01 C (m_inB (nI b) (nI 0) (nI 27) 0 (27) (by decide) (by decide)) kyX11_in tb_1057 tb_1058 rfl (Nat.le_of_ble_eq_true rfl) ⟨by decide, by decide⟩ ⟨by decide, by decide⟩ dX11_lay_60 rfl ?_
            refine j_if_eq C 95 (by decide) dX11_lay_63 (fun c6 => ?_) (fun c6 => ?_)
            · replace c6 := bI_f c6
              refine j_iconst C (nI 0) (by decide) dX11_lay_95 ?_
              refine j_istore C [(7, .int (nI 0)), (6, .int (nI b)), (5, .int (nI b)), (4, .int (nI 1)), (0, .ref (g 0)), (1, .int (nI 120)), (2, .int (nI b)), (3, .int (-6))] (by decide) rfl dX11_lay_96 ?_
              refine j_iload C 2 rfl dX11_lay_98 ?_
              refine j_istore C [(8, .int (nI b)), (7, .int (nI 0)), (6, .int (nI b)), (5, .int (nI b)), (4, .int (nI 1)), (0, .ref (g 0)), (1, .int (nI 120)), (2, .int (nI b)), (3, .int (-6))] (by decide) rfl dX11_lay_100 ?_
              refine j_iload C 0 rfl dX11_lay_102 ?_
              refine j_iload C 2 rfl dX11_lay_104 ?_
              refine j_icmp_gtN C 183 (by decide) (by omega) (by omega) dX11_lay_106 (fun c7 => ?_) (fun c7 => ?_)
              · refine j_iload C 1 rfl dX11_lay_183 ?_
                refine j_w (cM g kk (sF σ 13 (σ.2.1 13))) (congrArg (cM g kk) (wrFi (S := σ) (c := 13) (v := σ.2.1 13) rfl)) ?_
                refine j_w (cM g kk (sF (sF σ 13 (σ.2.1 13)) 14 (σ.2.1 14))) (congrArg (cM g kk) (wrFi (S := (sF σ 13 (σ.2.1 13))) (c := 14) (v := σ.2.1 14) (gtFF (by decide) rfl))) ?_
                refine j_w (cM g kk (sF (sF (sF σ 13 (σ.2.1 13)) 14 (σ.2.1 14)) 15 (σ.2.1 15))) (congrArg (cM g kk) (wrFi (S := (sF (sF σ 13 (σ.2.1 13)) 14 (σ.2.1 14))) (c := 15) (v := σ.2.1 15) (gtFF (by decide) (gtFF (by decide) rfl)))) ?_
                exact j_zret C E (nbz (by omega)) (sF (sF (sF σ 13 (σ.2.1 13)) 14 (σ.2.1 14)) 15 (σ.2.1 15)) ⟨_, rfl, ⟨(σ.2.1 13), (σ.2.1 14), (σ.2.1 15), rfl, (Or.inr ⟨fun z => by have qc6 := wB_f c6 (by omega) (by decide) (by decide); have z1 := z.1; omega, rfl⟩), hS⟩⟩ rfl dX11_lay_185
              · refine j_iload C 1 rfl dX11_lay_109 ?_
                refine j_if_eqN C 183 (by decide) (by omega) dX11_lay_111 (fun c8 => ?_) (fun c8 => ?_)
                · refine j_iload C 1 rfl dX11_lay_183 ?_
                  refine j_w (cM g kk (sF σ 13 (σ.2.1 13))) (congrArg (cM g kk) (wrFi (S := σ) (c := 13) (v := σ.2.1 13) rfl)) ?_
                  refine j_w (cM g kk (sF (sF σ 13 (σ.2.1 13)) 14 (σ.2.1 14))) (congrArg (cM g kk) (wrFi (S := (sF σ 13 (σ.2.1 13))) (c := 14) (v := σ.2.1 14) (gtFF (by decide) rfl))) ?_
                  refine j_w (cM g kk (sF (sF (sF σ 13 (σ.2.1 13)) 14 (σ.2.1 14)) 15 (σ.2.1 15))) (congrArg (cM g kk) (wrFi (S := (sF (sF σ 13 (σ.2.1 13)) 14 (σ.2.1 14))) (c := 15) (v := σ.2.1 15) (gtFF (by decide) (gtFF (by decide) rfl)))) ?_
                  exact j_zret C E (nbz (by omega)) (sF (sF (sF σ 13 (σ.2.1 13)) 14 (σ.2.1 14)) 15 (σ.2.1 15)) ⟨_, rfl, ⟨(σ.2.1 13), (σ.2.1 14), (σ.2.1 15), rfl, (Or.inr ⟨fun z => by have qc6 := wB_f c6 (by omega) (by decide) (by decide); have z1 := z.1; omega, rfl⟩), hS⟩⟩ rfl dX11_lay_185
                · exact absurd c8 (by decide)
            · replace c6 := bI_t c6
              refine j_iload C 0 rfl dX11_lay_66 ?_
              refine j_i2l C dX11_lay_68 ?_
              refine j_lconst C 0 (by decide) dX11_lay_69 ?_
              refine j_ldc2 C tb_1080 dX11_lay_70 ?_
              refine j_S01 C (m_inB (nI b) (nI 0) (nI 27) 0 (27) (by decide) (by decide)) kyX11_in tb_1057 tb_1058 rfl (Nat.le_of_ble_eq_true rfl) ⟨by decide, by decide⟩ ⟨by decide, by decide⟩ dX11_lay_73 rfl ?_
              refine j_if_eq C 95 (by decide) dX11_lay_76 (fun c9 => ?_) (fun c9 => ?_)
              · replace c9 := bI_f c9
                refine j_iconst C (nI 0) (by decide) dX11_lay_95 ?_
                refine j_istore C [(7, .int (nI 0)), (6, .int (nI b)), (5, .int (nI b)), (4, .int (nI 1)), (0, .ref (g 0)), (1, .int (nI 120)), (2, .int (nI b)), (3, .int (-6))] (by decide) rfl dX11_lay_96 ?_
                refine j_iload C 2 rfl dX11_lay_98 ?_
                refine j_istore C [(8, .int (nI b)), (7, .int (nI 0)), (6, .int (nI b)), (5, .int (nI b)), (4, .int (nI 1)), (0, .ref (g 0)), (1, .int (nI 120)), (2, .int (nI b)), (3, .int (-6))] (by decide) rfl dX11_lay_100 ?_
                refine j_iload C 0 rfl dX11_lay_102 ?_
                refine j_iload C 2 rfl dX11_lay_104 ?_
                refine j_icmp_gtN C 183 (by decide) (by omega) (by omega) dX11_lay_106 (fun c10 => ?_) (fun c10 => ?_)
                · refine j_iload C 1 rfl dX11_lay_183 ?_
                  refine j_w (cM g kk (sF σ 13 (σ.2.1 13))) (congrArg (cM g kk) (wrFi (S := σ) (c := 13) (v := σ.2.1 13) rfl)) ?_
                  refine j_w (cM g kk (sF (sF σ 13 (σ.2.1 13)) 14 (σ.2.1 14))) (congrArg (cM g kk) (wrFi (S := (sF σ 13 (σ.2.1 13))) (c := 14) (v := σ.2.1 14) (gtFF (by decide) rfl))) ?_
                  refine j_w (cM g kk (sF (sF (sF σ 13 (σ.2.1 13)) 14 (σ.2.1 14)) 15 (σ.2.1 15))) (congrArg (cM g kk) (wrFi (S := (sF (sF σ 13 (σ.2.1 13)) 14 (σ.2.1 14))) (c := 15) (v := σ.2.1 15) (gtFF (by decide) (gtFF (by decide) rfl)))) ?_
                  exact j_zret C E (nbz (by omega)) (sF (sF (sF σ 13 (σ.2.1 13)) 14 (σ.2.1 14)) 15 (σ.2.1 15)) ⟨_, rfl, ⟨(σ.2.1 13), (σ.2.1 14), (σ.2.1 15), rfl, (Or.inr ⟨fun z => by have qc6 := wB_t c6 (by omega) (by decide) (by decide); have qc9 := wB_f c9 (by omega) (by decide) (by decide); have z1 := z.1; omega, rfl⟩), hS⟩⟩ rfl dX11_lay_185
                · refine j_iload C 1 rfl dX11_lay_109 ?_
                  refine j_if_eqN C 183 (by decide) (by omega) dX11_lay_111 (fun c11 => ?_) (fun c11 => ?_)
                  · refine j_iload C 1 rfl dX11_lay_183 ?_
                    refine j_w (cM g kk (sF σ 13 (σ.2.1 13))) (congrArg (cM g kk) (wrFi (S := σ) (c := 13) (v := σ.2.1 13) rfl)) ?_
                    refine j_w (cM g kk (sF (sF σ 13 (σ.2.1 13)) 14 (σ.2.1 14))) (congrArg (cM g kk) (wrFi (S := (sF σ 13 (σ.2.1 13))) (c := 14) (v := σ.2.1 14) (gtFF (by decide) rfl))) ?_
                    refine j_w (cM g kk (sF (sF (sF σ 13 (σ.2.1 13)) 14 (σ.2.1 14)) 15 (σ.2.1 15))) (congrArg (cM g kk) (wrFi (S := (sF (sF σ 13 (σ.2.1 13)) 14 (σ.2.1 14))) (c := 15) (v := σ.2.1 15) (gtFF (by decide) (gtFF (by decide) rfl)))) ?_
                    exact j_zret C E (nbz (by omega)) (sF (sF (sF σ 13 (σ.2.1 13)) 14 (σ.2.1 14)) 15 (σ.2.1 15)) ⟨_, rfl, ⟨(σ.2.1 13), (σ.2.1 14), (σ.2.1 15), rfl, (Or.inr ⟨fun z => by have qc6 := wB_t c6 (by omega) (by decide) (by decide); have qc9 := wB_f c9 (by omega) (by decide) (by decide); have z1 := z.1; omega, rfl⟩), hS⟩⟩ rfl dX11_lay_185
                  · exact absurd c11 (by decide)
              · replace c9 := bI_t c9
                refine j_iload C 2 rfl dX11_lay_79 ?_
                refine j_if_neN C 91 (by decide) (by omega) dX11_lay_81 (fun c12 => ?_) (fun c12 => ?_)
                · refine j_iconst C (nI 1) (by decide) dX11_lay_91 ?_
                  refine j_goto C 96 (by decide) dX11_lay_92 ?_
                  refine j_istore C [(7, .int (nI 1)), (6, .int (nI b)), (5, .int (nI b)), (4, .int (nI 1)), (0, .ref (g 0)), (1, .int (nI 120)), (2, .int (nI b)), (3, .int (-6))] (by decide) rfl dX11_lay_96 ?_
                  have qc6 := wB_t c6 (by omega) (by decide) (by decide)
                  have qc9 := wB_t c9 (by omega) (by decide) (by decide)
                  refine j_iload C 2 rfl dX11_lay_98 ?_
                  refine j_istore C [(8, .int (nI b)), (7, .int (nI 1)), (6, .int (nI b)), (5, .int (nI b)), (4, .int (nI 1)), (0, .ref (g 0)), (1, .int (nI 120)), (2, .int (nI b)), (3, .int (-6))] (by decide) rfl dX11_lay_100 ?_
                  have L102 : ∀ (n102 : Nat) (d : Nat) (g2 : Nat) (fN : Nat → Int32) (fF : Nat → Int32) (fL : Nat → Int32) (i102_0 : b ≤ d) (i102_1 : d ≤ b + 1) (i102_2 : g2 ≤ 1) (hN : fN = fillR (σ.2.1 13) b (d - b) (nI 1)) (hF : fF = fillR (σ.2.1 14) b (d - b) (nI b)) (hLl : fL = fillR (σ.2.1 15) b (d - b) (nI b)) (hz1 : g2 = 1 → ∀ j, b ≤ j → j < d → σ.2.1 13 j = 0) (hz0 : g2 = 0 → ∃ j, b ≤ j ∧ j ≤ b ∧ ¬ σ.2.1 13 j = 0) (hs : al_ 28 27 fF) (hm102 : 28 - d < n102), J X 0 0 (cM g kk (sF (sF (sF σ 13 fN) 14 fF) 15 fL)) [(8, .int (nI d)), (7, .int (nI g2)), (6, .int (nI b)), (5, .int (nI b)), (4, .int (nI 1)), (0, .ref (g 0)), (1, .int (nI 120)), (2, .int (nI b)), (3, .int (-6))] 102 [] := by
                    intro n102
                    induction n102 with
                    | zero => intro d g2 fN fF fL i102_0 i102_1 i102_2 hN hF hLl hz1 hz0 hs hm; exact absurd hm (Nat.not_lt_zero _)
                    | succ n102 ih102 =>
                      intro d g2 fN fF fL i102_0 i102_1 i102_2 hN hF hLl hz1 hz0 hs hm102
                      refine j_iload C 0 rfl dX11_lay_102 ?_
                      refine j_iload C 2 rfl dX11_lay_104 ?_
                      refine j_icmp_gtN C 183 (by decide) (by omega) (by omega) dX11_lay_106 (fun c13 => ?_) (fun c13 => ?_)
                      · refine j_iload C 1 rfl dX11_lay_183 ?_
                        exact j_zret C E (nbz (by omega)) (sF (sF (sF σ 13 fN) 14 fF) 15 fL) ⟨_, rfl, ⟨fN, fF, fL, rfl, (by rcases (show g2 = 0 ∨ g2 = 1 by omega) with w | w; exact Or.inr ⟨fun z => by obtain ⟨j, j1, j2, j3⟩ := hz0 w; exact j3 (z.2 j j1 j2), by rw [w]⟩; exact Or.inl ⟨⟨by omega, fun j z1 z2 => hz1 w j z1 (by omega)⟩, by rw [w], fR_e hN (by omega), fR_e hF (by omega), fR_e hLl (by omega)⟩), hs⟩⟩ rfl dX11_lay_185
                      · refine j_iload C 1 rfl dX11_lay_109 ?_
                        refine j_if_eqN C 183 (by decide) (by omega) dX11_lay_111 (fun c14 => ?_) (fun c14 => ?_)
                        · refine j_iload C 1 rfl dX11_lay_183 ?_
                          exact j_zret C E (nbz (by omega)) (sF (sF (sF σ 13 fN) 14 fF) 15 fL) ⟨_, rfl, ⟨fN, fF, fL, rfl, (by have w := c14; exact Or.inr ⟨fun z => by obtain ⟨j, j1, j2, j3⟩ := hz0 w; exact j3 (z.2 j j1 j2), by rw [w]⟩), hs⟩⟩ rfl dX11_lay_185
                        · refine j_aload_n C 5 rfl dX11_lay_114 ?_
                          refine gM_0_19 C tb_892 dX11_lay_115 ?_
                          refine j_iload C 0 rfl dX11_lay_118 ?_
                          refine rM_13 C d rfl (by omega) (fN d) rfl dX11_lay_120 ?_
                          refine j_if_ne C 128 (by decide) dX11_lay_121 (fun c15 => ?_) (fun c15 => ?_)
                          · refine j_iconst C (nI 0) (by decide) dX11_lay_128 ?_
                            refine j_istore C [(7, .int (nI 0)), (8, .int (nI d)), (6, .int (nI b)), (5, .int (nI b)), (4, .int (nI 1)), (0, .ref (g 0)), (1, .int (nI 120)), (2, .int (nI b)), (3, .int (-6))] (by decide) rfl dX11_lay_129 ?_
                            refine j_aload_n C 5 rfl dX11_lay_131 ?_
                            refine gM_0_19 C tb_892 dX11_lay_132 ?_
                            refine j_iload C 1 rfl dX11_lay_135 ?_
                            refine j_iload_n C 6 rfl dX11_lay_137 ?_
                            refine j_bipush C (nI 120) (by decide) dX11_lay_138 ?_
                            refine j_icmp_neN C 147 (by decide) (by omega) (by omega) dX11_lay_140 (fun c16 => ?_) (fun c16 => ?_)
                            · exact absurd c16 (by decide)
                            · refine j_iconst C (nI 1) (by decide) dX11_lay_143 ?_
                              refine j_goto C 158 (by decide) dX11_lay_144 ?_
                              refine tM_13 C d rfl (by omega) dX11_lay_158 ?_
                              refine j_aload_n C 5 rfl dX11_lay_159 ?_
                              refine gM_0_20 C tb_893 dX11_lay_160 ?_
                              refine j_iload C 1 rfl dX11_lay_163 ?_
                              refine j_iload C 3 rfl dX11_lay_165 ?_
                              refine tM_14 C d rfl (by omega) dX11_lay_167 ?_
                              refine j_aload_n C 5 rfl dX11_lay_168 ?_
                              refine gM_0_21 C tb_894 dX11_lay_169 ?_
                              refine j_iload C 1 rfl dX11_lay_172 ?_
                              refine j_iload C 2 rfl dX11_lay_174 ?_
                              refine tM_15 C d rfl (by omega) dX11_lay_176 ?_
                              refine j_iinc C (nI (d + 1)) [(8, .int (nI (d + 1))), (7, .int (nI 0)), (6, .int (nI b)), (5, .int (nI b)), (4, .int (nI 1)), (0, .ref (g 0)), (1, .int (nI 120)), (2, .int (nI b)), (3, .int (-6))] 1 rfl (by rw [show Int32.ofInt 1 = nI 1 from by decide, nI_add]) (by decide) rfl dX11_lay_177 ?_
                              refine j_goto C 102 (by decide) dX11_lay_180 ?_
                              refine j_w (cM g kk (sF (sF (sF σ 13 (upd fN d (nI 1))) 14 (upd fF d (nI b))) 15 (upd fL d (nI b)))) (congrArg (cM g kk) (show sF (sF (sF (sF (sF (sF σ 13 fN) 14 fF) 15 fL) 13 (upd fN d (nI 1))) 14 (upd fF d (nI b))) 15 (upd fL d (nI b)) = sF (sF (sF σ 13 (upd fN d (nI 1))) 14 (upd fF d (nI b))) 15 (upd fL d (nI b)) from (Eq.trans (wrF (Eq.trans (wrF (Eq.trans (wrFc (by decide)) (wrF (Eq.trans (wrFc (by decide)) (wrF wrFs))))) (Eq.trans (wrFc (by decide)) (wrF wrFs)))) wrFs))) ?_
                              exact ih102 (d + 1) 0 (upd fN d (nI 1)) (upd fF d (nI b)) (upd fL d (nI b)) (by omega) (by omega) (by omega) (fR_s hN (by omega)) (fR_s hF (by omega)) (fR_s hLl (by omega)) (fun q => absurd q (by decide)) (fun _ => ⟨d, by omega, by omega, by rw [← fR_d hN]; exact c15⟩) (al_upd hs ⟨_, by omega, rfl⟩) (by omega)
                          · refine j_iconst C (nI 1) (by decide) dX11_lay_124 ?_
                            refine j_goto C 129 (by decide) dX11_lay_125 ?_
                            refine j_istore C [(7, .int (nI 1)), (8, .int (nI d)), (6, .int (nI b)), (5, .int (nI b)), (4, .int (nI 1)), (0, .ref (g 0)), (1, .int (nI 120)), (2, .int (nI b)), (3, .int (-6))] (by decide) rfl dX11_lay_129 ?_
                            refine j_aload_n C 5 rfl dX11_lay_131 ?_
                            refine gM_0_19 C tb_892 dX11_lay_132 ?_
                            refine j_iload C 1 rfl dX11_lay_135 ?_
                            refine j_iload_n C 6 rfl dX11_lay_137 ?_
                            refine j_bipush C (nI 120) (by decide) dX11_lay_138 ?_
                            refine j_icmp_neN C 147 (by decide) (by omega) (by omega) dX11_lay_140 (fun c17 => ?_) (fun c17 => ?_)
                            · exact absurd c17 (by decide)
                            · refine j_iconst C (nI 1) (by decide) dX11_lay_143 ?_
                              refine j_goto C 158 (by decide) dX11_lay_144 ?_
                              refine tM_13 C d rfl (by omega) dX11_lay_158 ?_
                              refine j_aload_n C 5 rfl dX11_lay_159 ?_
                              refine gM_0_20 C tb_893 dX11_lay_160 ?_
                              refine j_iload C 1 rfl dX11_lay_163 ?_
                              refine j_iload C 3 rfl dX11_lay_165 ?_
                              refine tM_14 C d rfl (by omega) dX11_lay_167 ?_
                              refine j_aload_n C 5 rfl dX11_lay_168 ?_
                              refine gM_0_21 C tb_894 dX11_lay_169 ?_
                              refine j_iload C 1 rfl dX11_lay_172 ?_
                              refine j_iload C 2 rfl dX11_lay_174 ?_
                              refine tM_15 C d rfl (by omega) dX11_lay_176 ?_
                              refine j_iinc C (nI (d + 1)) [(8, .int (nI (d + 1))), (7, .int (nI 1)), (6, .int (nI b)), (5, .int (nI b)), (4, .int (nI 1)), (0, .ref (g 0)), (1, .int (nI 120)), (2, .int (nI b)), (3, .int (-6))] 1 rfl (by rw [show Int32.ofInt 1 = nI 1 from by decide, nI_add]) (by decide) rfl dX11_lay_177 ?_
                              refine j_goto C 102 (by decide) dX11_lay_180 ?_
                              refine j_w (cM g kk (sF (sF (sF σ 13 (upd fN d (nI 1))) 14 (upd fF d (nI b))) 15 (upd fL d (nI b)))) (congrArg (cM g kk) (show sF (sF (sF (sF (sF (sF σ 13 fN) 14 fF) 15 fL) 13 (upd fN d (nI 1))) 14 (upd fF d (nI b))) 15 (upd fL d (nI b)) = sF (sF (sF σ 13 (upd fN d (nI 1))) 14 (upd fF d (nI b))) 15 (upd fL d (nI b)) from (Eq.trans (wrF (Eq.trans (wrF (Eq.trans (wrFc (by decide)) (wrF (Eq.trans (wrFc (by decide)) (wrF wrFs))))) (Eq.trans (wrFc (by decide)) (wrF wrFs)))) wrFs))) ?_
                              exact ih102 (d + 1) 1 (upd fN d (nI 1)) (upd fF d (nI b)) (upd fL d (nI b)) (by omega) (by omega) (by omega) (fR_s hN (by omega)) (fR_s hF (by omega)) (fR_s hLl (by omega)) (fun _ => hz_s hN (hz1 (by omega)) c15) (fun q => absurd q (by decide)) (al_upd hs ⟨_, by omega, rfl⟩) (by omega)
                  refine j_w (cM g kk (sF σ 13 (σ.2.1 13))) (congrArg (cM g kk) (wrFi (S := σ) (c := 13) (v := σ.2.1 13) rfl)) ?_
                  refine j_w (cM g kk (sF (sF σ 13 (σ.2.1 13)) 14 (σ.2.1 14))) (congrArg (cM g kk) (wrFi (S := (sF σ 13 (σ.2.1 13))) (c := 14) (v := σ.2.1 14) (gtFF (by decide) rfl))) ?_
                  refine j_w (cM g kk (sF (sF (sF σ 13 (σ.2.1 13)) 14 (σ.2.1 14)) 15 (σ.2.1 15))) (congrArg (cM g kk) (wrFi (S := (sF (sF σ 13 (σ.2.1 13)) 14 (σ.2.1 14))) (c := 15) (v := σ.2.1 15) (gtFF (by decide) (gtFF (by decide) rfl)))) ?_
                  exact L102 _ b 1 (σ.2.1 13) (σ.2.1 14) (σ.2.1 15) (by omega) (by omega) (by omega) fR_00 fR_00 fR_00 (fun _ j z1 z2 => absurd z2 (by omega)) (fun q => absurd q (by decide)) hS (Nat.lt_succ_self _)
                · exact absurd c12 (by decide)
          · exact absurd c5 (by decide)
      · exact absurd c3 (by decide)
set_option maxRecDepth 100000 in
set_option maxHeartbeats 4000000 in
theorem o_ly108_1 (g kk : Nat → Nat) (σ : St) (k : Nat) (hk : σ.1 3 = nI k) (hk6 : k ≤ 6) (hI : iM σ) (hS : al_ 28 27 (σ.2.1 14)) (b : Nat) (hb0 : b ≤ 99) : jM (S := St) yX11_lay cX11_lay 9 (some .boolean) { frames := 1, cells := 0, slots := 0, locals := 25 } kk (cM g kk σ) [.ref (g 0), .int (nI 108), .int (nI b), .int (-6)] (cM g kk) (rI (fun (r : Int32) (u : St) => ∃ (pF13 : Nat → Int32) (pF14 : Nat → Int32) (pF15 : Nat → Int32), u = sF (sF (sF σ 13 pF13) 14 pF14) 15 pF15 ∧ ((((1 ≤ b ∧ b ≤ 27) ∧ okR (σ.2.1 13) (b) (b)) ∧ r = nI 1 ∧ pF13 = fillR (σ.2.1 13) (b) (b + 1 - (b)) (nI 2) ∧ pF14 = fillR (σ.2.1 14) (b) (b + 1 - (b)) (nI (b)) ∧ pF15 = fillR (σ.2.1 15) (b) (b + 1 - (b)) (nI (b))) ∨ (¬ ((1 ≤ b ∧ b ≤ 27) ∧ okR (σ.2.1 13) (b) (b)) ∧ r = nI 0)) ∧ (al_ 28 27 pF14))) := by
  refine j_entry [(0, .ref (g 0)), (1, .int (nI 108)), (2, .int (nI b)), (3, .int (-6))] (by decide) (Nat.le_of_ble_eq_true rfl) rfl ?_
  intro X C E HI
  refine j_iload_n C 3 rfl dX11_lay_0 ?_
  refine j_if_ge C 8 (by decide) dX11_lay_1 (fun c1 => ?_) (fun c1 => ?_)
  · exact absurd c1 (by decide)
  · refine j_iconst C (nI 1) (by decide) dX11_lay_4 ?_
    refine j_goto C 9 (by decide) dX11_lay_5 ?_
    refine j_istore C [(4, .int (nI 1)), (0, .ref (g 0)), (1, .int (nI 108)), (2, .int (nI b)), (3, .int (-6))] (by decide) rfl dX11_lay_9 ?_
    refine j_iload C 0 rfl dX11_lay_11 ?_
    refine j_if_eqN C 28 (by decide) (by omega) dX11_lay_13 (fun c2 => ?_) (fun c2 => ?_)
    · exact absurd c2 (by decide)
    · refine j_iload_n C 2 rfl dX11_lay_16 ?_
      refine j_bipush C (nI 115) (by decide) dX11_lay_17 ?_
      refine j_icmp_neN C 28 (by decide) (by omega) (by omega) dX11_lay_19 (fun c3 => ?_) (fun c3 => ?_)
      · refine j_iload_n C 3 rfl dX11_lay_28 ?_
        refine j_istore C [(5, .int (nI b)), (4, .int (nI 1)), (0, .ref (g 0)), (1, .int (nI 108)), (2, .int (nI b)), (3, .int (-6))] (by decide) rfl dX11_lay_29 ?_
        refine j_iload C 1 rfl dX11_lay_31 ?_
        refine j_if_eqN C 40 (by decide) (by omega) dX11_lay_33 (fun c4 => ?_) (fun c4 => ?_)
        · exact absurd c4 (by decide)
        · refine j_iload_n C 4 rfl dX11_lay_36 ?_
          refine j_goto C 41 (by decide) dX11_lay_37 ?_
          refine j_istore C [(6, .int (nI b)), (5, .int (nI b)), (4, .int (nI 1)), (0, .ref (g 0)), (1, .int (nI 108)), (2, .int (nI b)), (3, .int (-6))] (by decide) rfl dX11_lay_41 ?_
          refine j_iload C 1 rfl dX11_lay_43 ?_
          refine j_i2l C dX11_lay_45 ?_
          refine j_iload_n C 4 rfl dX11_lay_46 ?_
          refine j_bipush C (nI 108) (by decide) dX11_lay_47 ?_
          refine j_icmp_neN C 56 (by decide) (by omega) (by omega) dX11_lay_49 (fun c5 => ?_) (fun c5 => ?_)
          · exact absurd c5 (by decide)
          · refine j_lconst C 1 (by decide) dX11_lay_52 ?_
            refine j_goto C 57 (by decide) dX11_lay_53 ?_
            refine j_ldc2 C tb_1080 dX11_lay_57 ?_
            refine j_S01 C (m_inB (nI b) (nI 1) (nI 27) 1 (27) (by decide) (by decide)) kyX11_in tb_1057 tb_1058 rfl (Nat.le_of_ble_eq_true rfl) ⟨by decide, by decide⟩ ⟨by decide, by decide⟩ dX11_lay_60 rfl ?_
            refine j_if_eq C 95 (by decide) dX11_lay_63 (fun c6 => ?_) (fun c6 => ?_)
            · replace c6 := bI_f c6
              refine j_iconst C (nI 0) (by decide) dX11_lay_95 ?_
              refine j_istore C [(7, .int (nI 0)), (6, .int (nI b)), (5, .int (nI b)), (4, .int (nI 1)), (0, .ref (g 0)), (1, .int (nI 108)), (2, .int (nI b)), (3, .int (-6))] (by decide) rfl dX11_lay_96 ?_
              refine j_iload C 2 rfl dX11_lay_98 ?_
              refine j_istore C [(8, .int (nI b)), (7, .int (nI 0)), (6, .int (nI b)), (5, .int (nI b)), (4, .int (nI 1)), (0, .ref (g 0)), (1, .int (nI 108)), (2, .int (nI b)), (3, .int (-6))] (by decide) rfl dX11_lay_100 ?_
              refine j_iload C 0 rfl dX11_lay_102 ?_
              refine j_iload C 2 rfl dX11_lay_104 ?_
              refine j_icmp_gtN C 183 (by decide) (by omega) (by omega) dX11_lay_106 (fun c7 => ?_) (fun c7 => ?_)
              · refine j_iload C 1 rfl dX11_lay_183 ?_
                refine j_w (cM g kk (sF σ 13 (σ.2.1 13))) (congrArg (cM g kk) (wrFi (S := σ) (c := 13) (v := σ.2.1 13) rfl)) ?_
                refine j_w (cM g kk (sF (sF σ 13 (σ.2.1 13)) 14 (σ.2.1 14))) (congrArg (cM g kk) (wrFi (S := (sF σ 13 (σ.2.1 13))) (c := 14) (v := σ.2.1 14) (gtFF (by decide) rfl))) ?_
                refine j_w (cM g kk (sF (sF (sF σ 13 (σ.2.1 13)) 14 (σ.2.1 14)) 15 (σ.2.1 15))) (congrArg (cM g kk) (wrFi (S := (sF (sF σ 13 (σ.2.1 13)) 14 (σ.2.1 14))) (c := 15) (v := σ.2.1 15) (gtFF (by decide) (gtFF (by decide) rfl)))) ?_
                exact j_zret C E (nbz (by omega)) (sF (sF (sF σ 13 (σ.2.1 13)) 14 (σ.2.1 14)) 15 (σ.2.1 15)) ⟨_, rfl, ⟨(σ.2.1 13), (σ.2.1 14), (σ.2.1 15), rfl, (Or.inr ⟨fun z => by have qc6 := wB_f c6 (by omega) (by decide) (by decide); have z1 := z.1; omega, rfl⟩), hS⟩⟩ rfl dX11_lay_185
              · refine j_iload C 1 rfl dX11_lay_109 ?_
                refine j_if_eqN C 183 (by decide) (by omega) dX11_lay_111 (fun c8 => ?_) (fun c8 => ?_)
                · refine j_iload C 1 rfl dX11_lay_183 ?_
                  refine j_w (cM g kk (sF σ 13 (σ.2.1 13))) (congrArg (cM g kk) (wrFi (S := σ) (c := 13) (v := σ.2.1 13) rfl)) ?_
                  refine j_w (cM g kk (sF (sF σ 13 (σ.2.1 13)) 14 (σ.2.1 14))) (congrArg (cM g kk) (wrFi (S := (sF σ 13 (σ.2.1 13))) (c := 14) (v := σ.2.1 14) (gtFF (by decide) rfl))) ?_
                  refine j_w (cM g kk (sF (sF (sF σ 13 (σ.2.1 13)) 14 (σ.2.1 14)) 15 (σ.2.1 15))) (congrArg (cM g kk) (wrFi (S := (sF (sF σ 13 (σ.2.1 13)) 14 (σ.2.1 14))) (c := 15) (v := σ.2.1 15) (gtFF (by decide) (gtFF (by decide) rfl)))) ?_
                  exact j_zret C E (nbz (by omega)) (sF (sF (sF σ 13 (σ.2.1 13)) 14 (σ.2.1 14)) 15 (σ.2.1 15)) ⟨_, rfl, ⟨(σ.2.1 13), (σ.2.1 14), (σ.2.1 15), rfl, (Or.inr ⟨fun z => by have qc6 := wB_f c6 (by omega) (by decide) (by decide); have z1 := z.1; omega, rfl⟩), hS⟩⟩ rfl dX11_lay_185
                · exact absurd c8 (by decide)
            · replace c6 := bI_t c6
              refine j_iload C 0 rfl dX11_lay_66 ?_
              refine j_i2l C dX11_lay_68 ?_
              refine j_lconst C 0 (by decide) dX11_lay_69 ?_
              refine j_ldc2 C tb_1080 dX11_lay_70 ?_
              refine j_S01 C (m_inB (nI b) (nI 0) (nI 27) 0 (27) (by decide) (by decide)) kyX11_in tb_1057 tb_1058 rfl (Nat.le_of_ble_eq_true rfl) ⟨by decide, by decide⟩ ⟨by decide, by decide⟩ dX11_lay_73 rfl ?_
              refine j_if_eq C 95 (by decide) dX11_lay_76 (fun c9 => ?_) (fun c9 => ?_)
              · replace c9 := bI_f c9
                refine j_iconst C (nI 0) (by decide) dX11_lay_95 ?_
                refine j_istore C [(7, .int (nI 0)), (6, .int (nI b)), (5, .int (nI b)), (4, .int (nI 1)), (0, .ref (g 0)), (1, .int (nI 108)), (2, .int (nI b)), (3, .int (-6))] (by decide) rfl dX11_lay_96 ?_
                refine j_iload C 2 rfl dX11_lay_98 ?_
                refine j_istore C [(8, .int (nI b)), (7, .int (nI 0)), (6, .int (nI b)), (5, .int (nI b)), (4, .int (nI 1)), (0, .ref (g 0)), (1, .int (nI 108)), (2, .int (nI b)), (3, .int (-6))] (by decide) rfl dX11_lay_100 ?_
                refine j_iload C 0 rfl dX11_lay_102 ?_
                refine j_iload C 2 rfl dX11_lay_104 ?_
                refine j_icmp_gtN C 183 (by decide) (by omega) (by omega) dX11_lay_106 (fun c10 => ?_) (fun c10 => ?_)
                · refine j_iload C 1 rfl dX11_lay_183 ?_
                  refine j_w (cM g kk (sF σ 13 (σ.2.1 13))) (congrArg (cM g kk) (wrFi (S := σ) (c := 13) (v := σ.2.1 13) rfl)) ?_
                  refine j_w (cM g kk (sF (sF σ 13 (σ.2.1 13)) 14 (σ.2.1 14))) (congrArg (cM g kk) (wrFi (S := (sF σ 13 (σ.2.1 13))) (c := 14) (v := σ.2.1 14) (gtFF (by decide) rfl))) ?_
                  refine j_w (cM g kk (sF (sF (sF σ 13 (σ.2.1 13)) 14 (σ.2.1 14)) 15 (σ.2.1 15))) (congrArg (cM g kk) (wrFi (S := (sF (sF σ 13 (σ.2.1 13)) 14 (σ.2.1 14))) (c := 15) (v := σ.2.1 15) (gtFF (by decide) (gtFF (by decide) rfl)))) ?_
                  exact j_zret C E (nbz (by omega)) (sF (sF (sF σ 13 (σ.2.1 13)) 14 (σ.2.1 14)) 15 (σ.2.1 15)) ⟨_, rfl, ⟨(σ.2.1 13), (σ.2.1 14), (σ.2.1 15), rfl, (Or.inr ⟨fun z => by have qc6 := wB_t c6 (by omega) (by decide) (by decide); have qc9 := wB_f c9 (by omega) (by decide) (by decide); have z1 := z.1; omega, rfl⟩), hS⟩⟩ rfl dX11_lay_185
                · refine j_iload C 1 rfl dX11_lay_109 ?_
                  refine j_if_eqN C 183 (by decide) (by omega) dX11_lay_111 (fun c11 => ?_) (fun c11 => ?_)
                  · refine j_iload C 1 rfl dX11_lay_183 ?_
                    refine j_w (cM g kk (sF σ 13 (σ.2.1 13))) (congrArg (cM g kk) (wrFi (S := σ) (c := 13) (v := σ.2.1 13) rfl)) ?_
                    refine j_w (cM g kk (sF (sF σ 13 (σ.2.1 13)) 14 (σ.2.1 14))) (congrArg (cM g kk) (wrFi (S := (sF σ 13 (σ.2.1 13))) (c := 14) (v := σ.2.1 14) (gtFF (by decide) rfl))) ?_
                    refine j_w (cM g kk (sF (sF (sF σ 13 (σ.2.1 13)) 14 (σ.2.1 14)) 15 (σ.2.1 15))) (congrArg (cM g kk) (wrFi (S := (sF (sF σ 13 (σ.2.1 13)) 14 (σ.2.1 14))) (c := 15) (v := σ.2.1 15) (gtFF (by decide) (gtFF (by decide) rfl)))) ?_
                    exact j_zret C E (nbz (by omega)) (sF (sF (sF σ 13 (σ.2.1 13)) 14 (σ.2.1 14)) 15 (σ.2.1 15)) ⟨_, rfl, ⟨(σ.2.1 13), (σ.2.1 14), (σ.2.1 15), rfl, (Or.inr ⟨fun z => by have qc6 := wB_t c6 (by omega) (by decide) (by decide); have qc9 := wB_f c9 (by omega) (by decide) (by decide); have z1 := z.1; omega, rfl⟩), hS⟩⟩ rfl dX11_lay_185
                  · exact absurd c11 (by decide)
              · replace c9 := bI_t c9
                refine j_iload C 2 rfl dX11_lay_79 ?_
                refine j_if_neN C 91 (by decide) (by omega) dX11_lay_81 (fun c12 => ?_) (fun c12 => ?_)
                · refine j_iconst C (nI 1) (by decide) dX11_lay_91 ?_
                  refine j_goto C 96 (by decide) dX11_lay_92 ?_
                  refine j_istore C [(7, .int (nI 1)), (6, .int (nI b)), (5, .int (nI b)), (4, .int (nI 1)), (0, .ref (g 0)), (1, .int (nI 108)), (2, .int (nI b)), (3, .int (-6))] (by decide) rfl dX11_lay_96 ?_
                  have qc6 := wB_t c6 (by omega) (by decide) (by decide)
                  have qc9 := wB_t c9 (by omega) (by decide) (by decide)
                  refine j_iload C 2 rfl dX11_lay_98 ?_
                  refine j_istore C [(8, .int (nI b)), (7, .int (nI 1)), (6, .int (nI b)), (5, .int (nI b)), (4, .int (nI 1)), (0, .ref (g 0)), (1, .int (nI 108)), (2, .int (nI b)), (3, .int (-6))] (by decide) rfl dX11_lay_100 ?_
                  have L102 : ∀ (n102 : Nat) (d : Nat) (g2 : Nat) (fN : Nat → Int32) (fF : Nat → Int32) (fL : Nat → Int32) (i102_0 : b ≤ d) (i102_1 : d ≤ b + 1) (i102_2 : g2 ≤ 1) (hN : fN = fillR (σ.2.1 13) b (d - b) (nI 2)) (hF : fF = fillR (σ.2.1 14) b (d - b) (nI b)) (hLl : fL = fillR (σ.2.1 15) b (d - b) (nI b)) (hz1 : g2 = 1 → ∀ j, b ≤ j → j < d → σ.2.1 13 j = 0) (hz0 : g2 = 0 → ∃ j, b ≤ j ∧ j ≤ b ∧ ¬ σ.2.1 13 j = 0) (hs : al_ 28 27 fF) (hm102 : 28 - d < n102), J X 0 0 (cM g kk (sF (sF (sF σ 13 fN) 14 fF) 15 fL)) [(8, .int (nI d)), (7, .int (nI g2)), (6, .int (nI b)), (5, .int (nI b)), (4, .int (nI 1)), (0, .ref (g 0)), (1, .int (nI 108)), (2, .int (nI b)), (3, .int (-6))] 102 [] := by
                    intro n102
                    induction n102 with
                    | zero => intro d g2 fN fF fL i102_0 i102_1 i102_2 hN hF hLl hz1 hz0 hs hm; exact absurd hm (Nat.not_lt_zero _)
                    | succ n102 ih102 =>
                      intro d g2 fN fF fL i102_0 i102_1 i102_2 hN hF hLl hz1 hz0 hs hm102
                      refine j_iload C 0 rfl dX11_lay_102 ?_
                      refine j_iload C 2 rfl dX11_lay_104 ?_
                      refine j_icmp_gtN C 183 (by decide) (by omega) (by omega) dX11_lay_106 (fun c13 => ?_) (fun c13 => ?_)
                      · refine j_iload C 1 rfl dX11_lay_183 ?_
                        exact j_zret C E (nbz (by omega)) (sF (sF (sF σ 13 fN) 14 fF) 15 fL) ⟨_, rfl, ⟨fN, fF, fL, rfl, (by rcases (show g2 = 0 ∨ g2 = 1 by omega) with w | w; exact Or.inr ⟨fun z => by obtain ⟨j, j1, j2, j3⟩ := hz0 w; exact j3 (z.2 j j1 j2), by rw [w]⟩; exact Or.inl ⟨⟨by omega, fun j z1 z2 => hz1 w j z1 (by omega)⟩, by rw [w], fR_e hN (by omega), fR_e hF (by omega), fR_e hLl (by omega)⟩), hs⟩⟩ rfl dX11_lay_185
                      · refine j_iload C 1 rfl dX11_lay_109 ?_
                        refine j_if_eqN C 183 (by decide) (by omega) dX11_lay_111 (fun c14 => ?_) (fun c14 => ?_)
                        · refine j_iload C 1 rfl dX11_lay_183 ?_
                          exact j_zret C E (nbz (by omega)) (sF (sF (sF σ 13 fN) 14 fF) 15 fL) ⟨_, rfl, ⟨fN, fF, fL, rfl, (by have w := c14; exact Or.inr ⟨fun z => by obtain ⟨j, j1, j2, j3⟩ := hz0 w; exact j3 (z.2 j j1 j2), by rw [w]⟩), hs⟩⟩ rfl dX11_lay_185
                        · refine j_aload_n C 5 rfl dX11_lay_114 ?_
                          refine gM_0_19 C tb_892 dX11_lay_115 ?_
                          refine j_iload C 0 rfl dX11_lay_118 ?_
                          refine rM_13 C d rfl (by omega) (fN d) rfl dX11_lay_120 ?_
                          refine j_if_ne C 128 (by decide) dX11_lay_121 (fun c15 => ?_) (fun c15 => ?_)
                          · refine j_iconst C (nI 0) (by decide) dX11_lay_128 ?_
                            refine j_istore C [(7, .int (nI 0)), (8, .int (nI d)), (6, .int (nI b)), (5, .int (nI b)), (4, .int (nI 1)), (0, .ref (g 0)), (1, .int (nI 108)), (2, .int (nI b)), (3, .int (-6))] (by decide) rfl dX11_lay_129 ?_
                            refine j_aload_n C 5 rfl dX11_lay_131 ?_
                            refine gM_0_19 C tb_892 dX11_lay_132 ?_
                            refine j_iload C 1 rfl dX11_lay_135 ?_
                            refine j_iload_n C 6 rfl dX11_lay_137 ?_
                            refine j_bipush C (nI 120) (by decide) dX11_lay_138 ?_
                            refine j_icmp_neN C 147 (by decide) (by omega) (by omega) dX11_lay_140 (fun c16 => ?_) (fun c16 => ?_)
                            · refine j_iload_n C 6 rfl dX11_lay_147 ?_
                              refine j_bipush C (nI 108) (by decide) dX11_lay_148 ?_
                              refine j_icmp_neN C 157 (by decide) (by omega) (by omega) dX11_lay_150 (fun c17 => ?_) (fun c17 => ?_)
                              · exact absurd c17 (by decide)
                              · refine j_iconst C (nI 2) (by decide) dX11_lay_153 ?_
                                refine j_goto C 158 (by decide) dX11_lay_154 ?_
                                refine tM_13 C d rfl (by omega) dX11_lay_158 ?_
                                refine j_aload_n C 5 rfl dX11_lay_159 ?_
                                refine gM_0_20 C tb_893 dX11_lay_160 ?_
                                refine j_iload C 1 rfl dX11_lay_163 ?_
                                refine j_iload C 3 rfl dX11_lay_165 ?_
                                refine tM_14 C d rfl (by omega) dX11_lay_167 ?_
                                refine j_aload_n C 5 rfl dX11_lay_168 ?_
                                refine gM_0_21 C tb_894 dX11_lay_169 ?_
                                refine j_iload C 1 rfl dX11_lay_172 ?_
                                refine j_iload C 2 rfl dX11_lay_174 ?_
                                refine tM_15 C d rfl (by omega) dX11_lay_176 ?_
                                refine j_iinc C (nI (d + 1)) [(8, .int (nI (d + 1))), (7, .int (nI 0)), (6, .int (nI b)), (5, .int (nI b)), (4, .int (nI 1)), (0, .ref (g 0)), (1, .int (nI 108)), (2, .int (nI b)), (3, .int (-6))] 1 rfl (by rw [show Int32.ofInt 1 = nI 1 from by decide, nI_add]) (by decide) rfl dX11_lay_177 ?_
                                refine j_goto C 102 (by decide) dX11_lay_180 ?_
                                refine j_w (cM g kk (sF (sF (sF σ 13 (upd fN d (nI 2))) 14 (upd fF d (nI b))) 15 (upd fL d (nI b)))) (congrArg (cM g kk) (show sF (sF (sF (sF (sF (sF σ 13 fN) 14 fF) 15 fL) 13 (upd fN d (nI 2))) 14 (upd fF d (nI b))) 15 (upd fL d (nI b)) = sF (sF (sF σ 13 (upd fN d (nI 2))) 14 (upd fF d (nI b))) 15 (upd fL d (nI b)) from (Eq.trans (wrF (Eq.trans (wrF (Eq.trans (wrFc (by decide)) (wrF (Eq.trans (wrFc (by decide)) (wrF wrFs))))) (Eq.trans (wrFc (by decide)) (wrF wrFs)))) wrFs))) ?_
                                exact ih102 (d + 1) 0 (upd fN d (nI 2)) (upd fF d (nI b)) (upd fL d (nI b)) (by omega) (by omega) (by omega) (fR_s hN (by omega)) (fR_s hF (by omega)) (fR_s hLl (by omega)) (fun q => absurd q (by decide)) (fun _ => ⟨d, by omega, by omega, by rw [← fR_d hN]; exact c15⟩) (al_upd hs ⟨_, by omega, rfl⟩) (by omega)
                            · exact absurd c16 (by decide)
                          · refine j_iconst C (nI 1) (by decide) dX11_lay_124 ?_
                            refine j_goto C 129 (by decide) dX11_lay_125 ?_
                            refine j_istore C [(7, .int (nI 1)), (8, .int (nI d)), (6, .int (nI b)), (5, .int (nI b)), (4, .int (nI 1)), (0, .ref (g 0)), (1, .int (nI 108)), (2, .int (nI b)), (3, .int (-6))] (by decide) rfl dX11_lay_129 ?_
                            refine j_aload_n C 5 rfl dX11_lay_131 ?_
                            refine gM_0_19 C tb_892 dX11_lay_132 ?_
                            refine j_iload C 1 rfl dX11_lay_135 ?_
                            refine j_iload_n C 6 rfl dX11_lay_137 ?_
                            refine j_bipush C (nI 120) (by decide) dX11_lay_138 ?_
                            refine j_icmp_neN C 147 (by decide) (by omega) (by omega) dX11_lay_140 (fun c18 => ?_) (fun c18 => ?_)
                            · refine j_iload_n C 6 rfl dX11_lay_147 ?_
                              refine j_bipush C (nI 108) (by decide) dX11_lay_148 ?_
                              refine j_icmp_neN C 157 (by decide) (by omega) (by omega) dX11_lay_150 (fun c19 => ?_) (fun c19 => ?_)
                              · exact absurd c19 (by decide)
                              · refine j_iconst C (nI 2) (by decide) dX11_lay_153 ?_
                                refine j_goto C 158 (by decide) dX11_lay_154 ?_
                                refine tM_13 C d rfl (by omega) dX11_lay_158 ?_
                                refine j_aload_n C 5 rfl dX11_lay_159 ?_
                                refine gM_0_20 C tb_893 dX11_lay_160 ?_
                                refine j_iload C 1 rfl dX11_lay_163 ?_
                                refine j_iload C 3 rfl dX11_lay_165 ?_
                                refine tM_14 C d rfl (by omega) dX11_lay_167 ?_
                                refine j_aload_n C 5 rfl dX11_lay_168 ?_
                                refine gM_0_21 C tb_894 dX11_lay_169 ?_
                                refine j_iload C 1 rfl dX11_lay_172 ?_
                                refine j_iload C 2 rfl dX11_lay_174 ?_
                                refine tM_15 C d rfl (by omega) dX11_lay_176 ?_
                                refine j_iinc C (nI (d + 1)) [(8, .int (nI (d + 1))), (7, .int (nI 1)), (6, .int (nI b)), (5, .int (nI b)), (4, .int (nI 1)), (0, .ref (g 0)), (1, .int (nI 108)), (2, .int (nI b)), (3, .int (-6))] 1 rfl (by rw [show Int32.ofInt 1 = nI 1 from by decide, nI_add]) (by decide) rfl dX11_lay_177 ?_
                                refine j_goto C 102 (by decide) dX11_lay_180 ?_
                                refine j_w (cM g kk (sF (sF (sF σ 13 (upd fN d (nI 2))) 14 (upd fF d (nI b))) 15 (upd fL d (nI b)))) (congrArg (cM g kk) (show sF (sF (sF (sF (sF (sF σ 13 fN) 14 fF) 15 fL) 13 (upd fN d (nI 2))) 14 (upd fF d (nI b))) 15 (upd fL d (nI b)) = sF (sF (sF σ 13 (upd fN d (nI 2))) 14 (upd fF d (nI b))) 15 (upd fL d (nI b)) from (Eq.trans (wrF (Eq.trans (wrF (Eq.trans (wrFc (by decide)) (wrF (Eq.trans (wrFc (by decide)) (wrF wrFs))))) (Eq.trans (wrFc (by decide)) (wrF wrFs)))) wrFs))) ?_
                                exact ih102 (d + 1) 1 (upd fN d (nI 2)) (upd fF d (nI b)) (upd fL d (nI b)) (by omega) (by omega) (by omega) (fR_s hN (by omega)) (fR_s hF (by omega)) (fR_s hLl (by omega)) (fun _ => hz_s hN (hz1 (by omega)) c15) (fun q => absurd q (by decide)) (al_upd hs ⟨_, by omega, rfl⟩) (by omega)
                            · exact absurd c18 (by decide)
                  refine j_w (cM g kk (sF σ 13 (σ.2.1 13))) (congrArg (cM g kk) (wrFi (S := σ) (c := 13) (v := σ.2.1 13) rfl)) ?_
                  refine j_w (cM g kk (sF (sF σ 13 (σ.2.1 13)) 14 (σ.2.1 14))) (congrArg (cM g kk) (wrFi (S := (sF σ 13 (σ.2.1 13))) (c := 14) (v := σ.2.1 14) (gtFF (by decide) rfl))) ?_
                  refine j_w (cM g kk (sF (sF (sF σ 13 (σ.2.1 13)) 14 (σ.2.1 14)) 15 (σ.2.1 15))) (congrArg (cM g kk) (wrFi (S := (sF (sF σ 13 (σ.2.1 13)) 14 (σ.2.1 14))) (c := 15) (v := σ.2.1 15) (gtFF (by decide) (gtFF (by decide) rfl)))) ?_
                  exact L102 _ b 1 (σ.2.1 13) (σ.2.1 14) (σ.2.1 15) (by omega) (by omega) (by omega) fR_00 fR_00 fR_00 (fun _ j z1 z2 => absurd z2 (by omega)) (fun q => absurd q (by decide)) hS (Nat.lt_succ_self _)
                · exact absurd c12 (by decide)
      · exact absurd c3 (by decide)
set_option maxRecDepth 100000 in
set_option maxHeartbeats 4000000 in
theorem o_ly115_1 (g kk : Nat → Nat) (σ : St) (k : Nat) (hk : σ.1 3 = nI k) (hk6 : k ≤ 6) (hI : iM σ) (hS : al_ 28 27 (σ.2.1 14)) (b : Nat) (hb0 : 1 ≤ b) (hb1 : b ≤ 99) : jM (S := St) yX11_lay cX11_lay 9 (some .boolean) { frames := 1, cells := 0, slots := 0, locals := 25 } kk (cM g kk σ) [.ref (g 0), .int (nI 115), .int (nI b), .int (-6)] (cM g kk) (rI (fun (r : Int32) (u : St) => ∃ (pF13 : Nat → Int32) (pF14 : Nat → Int32) (pF15 : Nat → Int32), u = sF (sF (sF σ 13 pF13) 14 pF14) 15 pF15 ∧ ((((b ≤ 27) ∧ okR (σ.2.1 13) (b - 1) (b)) ∧ r = nI 1 ∧ pF13 = fillR (σ.2.1 13) (b - 1) (b + 1 - (b - 1)) (nI 3) ∧ pF14 = fillR (σ.2.1 14) (b - 1) (b + 1 - (b - 1)) (nI (b - 1)) ∧ pF15 = fillR (σ.2.1 15) (b - 1) (b + 1 - (b - 1)) (nI (b))) ∨ (¬ ((b ≤ 27) ∧ okR (σ.2.1 13) (b - 1) (b)) ∧ r = nI 0)) ∧ (al_ 28 27 pF14))) := by
  refine j_entry [(0, .ref (g 0)), (1, .int (nI 115)), (2, .int (nI b)), (3, .int (-6))] (by decide) (Nat.le_of_ble_eq_true rfl) rfl ?_
  intro X C E HI
  refine j_iload_n C 3 rfl dX11_lay_0 ?_
  refine j_if_ge C 8 (by decide) dX11_lay_1 (fun c1 => ?_) (fun c1 => ?_)
  · exact absurd c1 (by decide)
  · refine j_iconst C (nI 1) (by decide) dX11_lay_4 ?_
    refine j_goto C 9 (by decide) dX11_lay_5 ?_
    refine j_istore C [(4, .int (nI 1)), (0, .ref (g 0)), (1, .int (nI 115)), (2, .int (nI b)), (3, .int (-6))] (by decide) rfl dX11_lay_9 ?_
    refine j_iload C 0 rfl dX11_lay_11 ?_
    refine j_if_eqN C 28 (by decide) (by omega) dX11_lay_13 (fun c2 => ?_) (fun c2 => ?_)
    · exact absurd c2 (by decide)
    · refine j_iload_n C 2 rfl dX11_lay_16 ?_
      refine j_bipush C (nI 115) (by decide) dX11_lay_17 ?_
      refine j_icmp_neN C 28 (by decide) (by omega) (by omega) dX11_lay_19 (fun c3 => ?_) (fun c3 => ?_)
      · exact absurd c3 (by decide)
      · refine j_iload_n C 3 rfl dX11_lay_22 ?_
        refine j_iconst C (nI 1) (by decide) dX11_lay_23 ?_
        refine j_isubN C (by omega) dX11_lay_24 ?_
        refine j_goto C 29 (by decide) dX11_lay_25 ?_
        refine j_istore C [(5, .int (nI (b - 1))), (4, .int (nI 1)), (0, .ref (g 0)), (1, .int (nI 115)), (2, .int (nI b)), (3, .int (-6))] (by decide) rfl dX11_lay_29 ?_
        refine j_iload C 1 rfl dX11_lay_31 ?_
        refine j_if_eqN C 40 (by decide) (by omega) dX11_lay_33 (fun c4 => ?_) (fun c4 => ?_)
        · exact absurd c4 (by decide)
        · refine j_iload_n C 4 rfl dX11_lay_36 ?_
          refine j_goto C 41 (by decide) dX11_lay_37 ?_
          refine j_istore C [(6, .int (nI b)), (5, .int (nI (b - 1))), (4, .int (nI 1)), (0, .ref (g 0)), (1, .int (nI 115)), (2, .int (nI b)), (3, .int (-6))] (by decide) rfl dX11_lay_41 ?_
          refine j_iload C 1 rfl dX11_lay_43 ?_
          refine j_i2l C dX11_lay_45 ?_
          refine j_iload_n C 4 rfl dX11_lay_46 ?_
          refine j_bipush C (nI 108) (by decide) dX11_lay_47 ?_
          refine j_icmp_neN C 56 (by decide) (by omega) (by omega) dX11_lay_49 (fun c5 => ?_) (fun c5 => ?_)
          · refine j_lconst C 0 (by decide) dX11_lay_56 ?_
            refine j_ldc2 C tb_1080 dX11_lay_57 ?_
            refine j_S01 C (m_inB (nI (b - 1)) (nI 0) (nI 27) 0 (27) (by decide) (by decide)) kyX11_in tb_1057 tb_1058 rfl (Nat.le_of_ble_eq_true rfl) ⟨by decide, by decide⟩ ⟨by decide, by decide⟩ dX11_lay_60 rfl ?_
            refine j_if_eq C 95 (by decide) dX11_lay_63 (fun c6 => ?_) (fun c6 => ?_)
            · replace c6 := bI_f c6
              refine j_iconst C (nI 0) (by decide) dX11_lay_95 ?_
              refine j_istore C [(7, .int (nI 0)), (6, .int (nI b)), (5, .int (nI (b - 1))), (4, .int (nI 1)), (0, .ref (g 0)), (1, .int (nI 115)), (2, .int (nI b)), (3, .int (-6))] (by decide) rfl dX11_lay_96 ?_
              refine j_iload C 2 rfl dX11_lay_98 ?_
              refine j_istore C [(8, .int (nI (b - 1))), (7, .int (nI 0)), (6, .int (nI b)), (5, .int (nI (b - 1))), (4, .int (nI 1)), (0, .ref (g 0)), (1, .int (nI 115)), (2, .int (nI b)), (3, .int (-6))] (by decide) rfl dX11_lay_100 ?_
              refine j_iload C 0 rfl dX11_lay_102 ?_
              refine j_iload C 2 rfl dX11_lay_104 ?_
              refine j_icmp_gtN C 183 (by decide) (by omega) (by omega) dX11_lay_106 (fun c7 => ?_) (fun c7 => ?_)
              · refine j_iload C 1 rfl dX11_lay_183 ?_
                refine j_w (cM g kk (sF σ 13 (σ.2.1 13))) (congrArg (cM g kk) (wrFi (S := σ) (c := 13) (v := σ.2.1 13) rfl)) ?_
                refine j_w (cM g kk (sF (sF σ 13 (σ.2.1 13)) 14 (σ.2.1 14))) (congrArg (cM g kk) (wrFi (S := (sF σ 13 (σ.2.1 13))) (c := 14) (v := σ.2.1 14) (gtFF (by decide) rfl))) ?_
                refine j_w (cM g kk (sF (sF (sF σ 13 (σ.2.1 13)) 14 (σ.2.1 14)) 15 (σ.2.1 15))) (congrArg (cM g kk) (wrFi (S := (sF (sF σ 13 (σ.2.1 13)) 14 (σ.2.1 14))) (c := 15) (v := σ.2.1 15) (gtFF (by decide) (gtFF (by decide) rfl)))) ?_
                exact j_zret C E (nbz (by omega)) (sF (sF (sF σ 13 (σ.2.1 13)) 14 (σ.2.1 14)) 15 (σ.2.1 15)) ⟨_, rfl, ⟨(σ.2.1 13), (σ.2.1 14), (σ.2.1 15), rfl, (Or.inr ⟨fun z => by have qc6 := wB_f c6 (by omega) (by decide) (by decide); have z1 := z.1; omega, rfl⟩), hS⟩⟩ rfl dX11_lay_185
              · refine j_iload C 1 rfl dX11_lay_109 ?_
                refine j_if_eqN C 183 (by decide) (by omega) dX11_lay_111 (fun c8 => ?_) (fun c8 => ?_)
                · refine j_iload C 1 rfl dX11_lay_183 ?_
                  refine j_w (cM g kk (sF σ 13 (σ.2.1 13))) (congrArg (cM g kk) (wrFi (S := σ) (c := 13) (v := σ.2.1 13) rfl)) ?_
                  refine j_w (cM g kk (sF (sF σ 13 (σ.2.1 13)) 14 (σ.2.1 14))) (congrArg (cM g kk) (wrFi (S := (sF σ 13 (σ.2.1 13))) (c := 14) (v := σ.2.1 14) (gtFF (by decide) rfl))) ?_
                  refine j_w (cM g kk (sF (sF (sF σ 13 (σ.2.1 13)) 14 (σ.2.1 14)) 15 (σ.2.1 15))) (congrArg (cM g kk) (wrFi (S := (sF (sF σ 13 (σ.2.1 13)) 14 (σ.2.1 14))) (c := 15) (v := σ.2.1 15) (gtFF (by decide) (gtFF (by decide) rfl)))) ?_
                  exact j_zret C E (nbz (by omega)) (sF (sF (sF σ 13 (σ.2.1 13)) 14 (σ.2.1 14)) 15 (σ.2.1 15)) ⟨_, rfl, ⟨(σ.2.1 13), (σ.2.1 14), (σ.2.1 15), rfl, (Or.inr ⟨fun z => by have qc6 := wB_f c6 (by omega) (by decide) (by decide); have z1 := z.1; omega, rfl⟩), hS⟩⟩ rfl dX11_lay_185
                · exact absurd c8 (by decide)
            · replace c6 := bI_t c6
              refine j_iload C 0 rfl dX11_lay_66 ?_
              refine j_i2l C dX11_lay_68 ?_
              refine j_lconst C 0 (by decide) dX11_lay_69 ?_
              refine j_ldc2 C tb_1080 dX11_lay_70 ?_
              refine j_S01 C (m_inB (nI b) (nI 0) (nI 27) 0 (27) (by decide) (by decide)) kyX11_in tb_1057 tb_1058 rfl (Nat.le_of_ble_eq_true rfl) ⟨by decide, by decide⟩ ⟨by decide, by decide⟩ dX11_lay_73 rfl ?_
              refine j_if_eq C 95 (by decide) dX11_lay_76 (fun c9 => ?_) (fun c9 => ?_)
              · replace c9 := bI_f c9
                refine j_iconst C (nI 0) (by decide) dX11_lay_95 ?_
                refine j_istore C [(7, .int (nI 0)), (6, .int (nI b)), (5, .int (nI (b - 1))), (4, .int (nI 1)), (0, .ref (g 0)), (1, .int (nI 115)), (2, .int (nI b)), (3, .int (-6))] (by decide) rfl dX11_lay_96 ?_
                refine j_iload C 2 rfl dX11_lay_98 ?_
                refine j_istore C [(8, .int (nI (b - 1))), (7, .int (nI 0)), (6, .int (nI b)), (5, .int (nI (b - 1))), (4, .int (nI 1)), (0, .ref (g 0)), (1, .int (nI 115)), (2, .int (nI b)), (3, .int (-6))] (by decide) rfl dX11_lay_100 ?_
                refine j_iload C 0 rfl dX11_lay_102 ?_
                refine j_iload C 2 rfl dX11_lay_104 ?_
                refine j_icmp_gtN C 183 (by decide) (by omega) (by omega) dX11_lay_106 (fun c10 => ?_) (fun c10 => ?_)
                · refine j_iload C 1 rfl dX11_lay_183 ?_
                  refine j_w (cM g kk (sF σ 13 (σ.2.1 13))) (congrArg (cM g kk) (wrFi (S := σ) (c := 13) (v := σ.2.1 13) rfl)) ?_
                  refine j_w (cM g kk (sF (sF σ 13 (σ.2.1 13)) 14 (σ.2.1 14))) (congrArg (cM g kk) (wrFi (S := (sF σ 13 (σ.2.1 13))) (c := 14) (v := σ.2.1 14) (gtFF (by decide) rfl))) ?_
                  refine j_w (cM g kk (sF (sF (sF σ 13 (σ.2.1 13)) 14 (σ.2.1 14)) 15 (σ.2.1 15))) (congrArg (cM g kk) (wrFi (S := (sF (sF σ 13 (σ.2.1 13)) 14 (σ.2.1 14))) (c := 15) (v := σ.2.1 15) (gtFF (by decide) (gtFF (by decide) rfl)))) ?_
                  exact j_zret C E (nbz (by omega)) (sF (sF (sF σ 13 (σ.2.1 13)) 14 (σ.2.1 14)) 15 (σ.2.1 15)) ⟨_, rfl, ⟨(σ.2.1 13), (σ.2.1 14), (σ.2.1 15), rfl, (Or.inr ⟨fun z => by have qc6 := wB_t c6 (by omega) (by decide) (by decide); have qc9 := wB_f c9 (by omega) (by decide) (by decide); have z1 := z.1; omega, rfl⟩), hS⟩⟩ rfl dX11_lay_185
                · refine j_iload C 1 rfl dX11_lay_109 ?_
                  refine j_if_eqN C 183 (by decide) (by omega) dX11_lay_111 (fun c11 => ?_) (fun c11 => ?_)
                  · refine j_iload C 1 rfl dX11_lay_183 ?_
                    refine j_w (cM g kk (sF σ 13 (σ.2.1 13))) (congrArg (cM g kk) (wrFi (S := σ) (c := 13) (v := σ.2.1 13) rfl)) ?_
                    refine j_w (cM g kk (sF (sF σ 13 (σ.2.1 13)) 14 (σ.2.1 14))) (congrArg (cM g kk) (wrFi (S := (sF σ 13 (σ.2.1 13))) (c := 14) (v := σ.2.1 14) (gtFF (by decide) rfl))) ?_
                    refine j_w (cM g kk (sF (sF (sF σ 13 (σ.2.1 13)) 14 (σ.2.1 14)) 15 (σ.2.1 15))) (congrArg (cM g kk) (wrFi (S := (sF (sF σ 13 (σ.2.1 13)) 14 (σ.2.1 14))) (c := 15) (v := σ.2.1 15) (gtFF (by decide) (gtFF (by decide) rfl)))) ?_
                    exact j_zret C E (nbz (by omega)) (sF (sF (sF σ 13 (σ.2.1 13)) 14 (σ.2.1 14)) 15 (σ.2.1 15)) ⟨_, rfl, ⟨(σ.2.1 13), (σ.2.1 14), (σ.2.1 15), rfl, (Or.inr ⟨fun z => by have qc6 := wB_t c6 (by omega) (by decide) (by decide); have qc9 := wB_f c9 (by omega) (by decide) (by decide); have z1 := z.1; omega, rfl⟩), hS⟩⟩ rfl dX11_lay_185
                  · exact absurd c11 (by decide)
              · replace c9 := bI_t c9
                refine j_iload C 2 rfl dX11_lay_79 ?_
                refine j_if_neN C 91 (by decide) (by omega) dX11_lay_81 (fun c12 => ?_) (fun c12 => ?_)
                · refine j_iconst C (nI 1) (by decide) dX11_lay_91 ?_
                  refine j_goto C 96 (by decide) dX11_lay_92 ?_
                  refine j_istore C [(7, .int (nI 1)), (6, .int (nI b)), (5, .int (nI (b - 1))), (4, .int (nI 1)), (0, .ref (g 0)), (1, .int (nI 115)), (2, .int (nI b)), (3, .int (-6))] (by decide) rfl dX11_lay_96 ?_
                  have qc6 := wB_t c6 (by omega) (by decide) (by decide)
                  have qc9 := wB_t c9 (by omega) (by decide) (by decide)
                  refine j_iload C 2 rfl dX11_lay_98 ?_
                  refine j_istore C [(8, .int (nI (b - 1))), (7, .int (nI 1)), (6, .int (nI b)), (5, .int (nI (b - 1))), (4, .int (nI 1)), (0, .ref (g 0)), (1, .int (nI 115)), (2, .int (nI b)), (3, .int (-6))] (by decide) rfl dX11_lay_100 ?_
                  have L102 : ∀ (n102 : Nat) (d : Nat) (g2 : Nat) (fN : Nat → Int32) (fF : Nat → Int32) (fL : Nat → Int32) (i102_0 : b - 1 ≤ d) (i102_1 : d ≤ b + 1) (i102_2 : g2 ≤ 1) (hN : fN = fillR (σ.2.1 13) (b - 1) (d - (b - 1)) (nI 3)) (hF : fF = fillR (σ.2.1 14) (b - 1) (d - (b - 1)) (nI (b - 1))) (hLl : fL = fillR (σ.2.1 15) (b - 1) (d - (b - 1)) (nI b)) (hz1 : g2 = 1 → ∀ j, b - 1 ≤ j → j < d → σ.2.1 13 j = 0) (hz0 : g2 = 0 → ∃ j, b - 1 ≤ j ∧ j ≤ b ∧ ¬ σ.2.1 13 j = 0) (hs : al_ 28 27 fF) (hm102 : 28 - d < n102), J X 0 0 (cM g kk (sF (sF (sF σ 13 fN) 14 fF) 15 fL)) [(8, .int (nI d)), (7, .int (nI g2)), (6, .int (nI b)), (5, .int (nI (b - 1))), (4, .int (nI 1)), (0, .ref (g 0)), (1, .int (nI 115)), (2, .int (nI b)), (3, .int (-6))] 102 [] := by
                    intro n102
                    induction n102 with
                    | zero => intro d g2 fN fF fL i102_0 i102_1 i102_2 hN hF hLl hz1 hz0 hs hm; exact absurd hm (Nat.not_lt_zero _)
                    | succ n102 ih102 =>
                      intro d g2 fN fF fL i102_0 i102_1 i102_2 hN hF hLl hz1 hz0 hs hm102
                      refine j_iload C 0 rfl dX11_lay_102 ?_
                      refine j_iload C 2 rfl dX11_lay_104 ?_
                      refine j_icmp_gtN C 183 (by decide) (by omega) (by omega) dX11_lay_106 (fun c13 => ?_) (fun c13 => ?_)
                      · refine j_iload C 1 rfl dX11_lay_183 ?_
                        exact j_zret C E (nbz (by omega)) (sF (sF (sF σ 13 fN) 14 fF) 15 fL) ⟨_, rfl, ⟨fN, fF, fL, rfl, (by rcases (show g2 = 0 ∨ g2 = 1 by omega) with w | w; exact Or.inr ⟨fun z => by obtain ⟨j, j1, j2, j3⟩ := hz0 w; exact j3 (z.2 j j1 j2), by rw [w]⟩; exact Or.inl ⟨⟨by omega, fun j z1 z2 => hz1 w j z1 (by omega)⟩, by rw [w], fR_e hN (by omega), fR_e hF (by omega), fR_e hLl (by omega)⟩), hs⟩⟩ rfl dX11_lay_185
                      · refine j_iload C 1 rfl dX11_lay_109 ?_
                        refine j_if_eqN C 183 (by decide) (by omega) dX11_lay_111 (fun c14 => ?_) (fun c14 => ?_)
                        · refine j_iload C 1 rfl dX11_lay_183 ?_
                          exact j_zret C E (nbz (by omega)) (sF (sF (sF σ 13 fN) 14 fF) 15 fL) ⟨_, rfl, ⟨fN, fF, fL, rfl, (by have w := c14; exact Or.inr ⟨fun z => by obtain ⟨j, j1, j2, j3⟩ := hz0 w; exact j3 (z.2 j j1 j2), by rw [w]⟩), hs⟩⟩ rfl dX11_lay_185
                        · refine j_aload_n C 5 rfl dX11_lay_114 ?_
                          refine gM_0_19 C tb_892 dX11_lay_115 ?_
                          refine j_iload C 0 rfl dX11_lay_118 ?_
                          refine rM_13 C d rfl (by omega) (fN d) rfl dX11_lay_120 ?_
                          refine j_if_ne C 128 (by decide) dX11_lay_121 (fun c15 => ?_) (fun c15 => ?_)
                          · refine j_iconst C (nI 0) (by decide) dX11_lay_128 ?_
                            refine j_istore C [(7, .int (nI 0)), (8, .int (nI d)), (6, .int (nI b)), (5, .int (nI (b - 1))), (4, .int (nI 1)), (0, .ref (g 0)), (1, .int (nI 115)), (2, .int (nI b)), (3, .int (-6))] (by decide) rfl dX11_lay_129 ?_
                            refine j_aload_n C 5 rfl dX11_lay_131 ?_
                            refine gM_0_19 C tb_892 dX11_lay_132 ?_
                            refine j_iload C 1 rfl dX11_lay_135 ?_
                            refine j_iload_n C 6 rfl dX11_lay_137 ?_
                            refine j_bipush C (nI 120) (by decide) dX11_lay_138 ?_
                            refine j_icmp_neN C 147 (by decide) (by omega) (by omega) dX11_lay_140 (fun c16 => ?_) (fun c16 => ?_)
                            · refine j_iload_n C 6 rfl dX11_lay_147 ?_
                              refine j_bipush C (nI 108) (by decide) dX11_lay_148 ?_
                              refine j_icmp_neN C 157 (by decide) (by omega) (by omega) dX11_lay_150 (fun c17 => ?_) (fun c17 => ?_)
                              · refine j_iconst C (nI 3) (by decide) dX11_lay_157 ?_
                                refine tM_13 C d rfl (by omega) dX11_lay_158 ?_
                                refine j_aload_n C 5 rfl dX11_lay_159 ?_
                                refine gM_0_20 C tb_893 dX11_lay_160 ?_
                                refine j_iload C 1 rfl dX11_lay_163 ?_
                                refine j_iload C 3 rfl dX11_lay_165 ?_
                                refine tM_14 C d rfl (by omega) dX11_lay_167 ?_
                                refine j_aload_n C 5 rfl dX11_lay_168 ?_
                                refine gM_0_21 C tb_894 dX11_lay_169 ?_
                                refine j_iload C 1 rfl dX11_lay_172 ?_
                                refine j_iload C 2 rfl dX11_lay_174 ?_
                                refine tM_15 C d rfl (by omega) dX11_lay_176 ?_
                                refine j_iinc C (nI (d + 1)) [(8, .int (nI (d + 1))), (7, .int (nI 0)), (6, .int (nI b)), (5, .int (nI (b - 1))), (4, .int (nI 1)), (0, .ref (g 0)), (1, .int (nI 115)), (2, .int (nI b)), (3, .int (-6))] 1 rfl (by rw [show Int32.ofInt 1 = nI 1 from by decide, nI_add]) (by decide) rfl dX11_lay_177 ?_
                                refine j_goto C 102 (by decide) dX11_lay_180 ?_
                                refine j_w (cM g kk (sF (sF (sF σ 13 (upd fN d (nI 3))) 14 (upd fF d (nI (b - 1)))) 15 (upd fL d (nI b)))) (congrArg (cM g kk) (show sF (sF (sF (sF (sF (sF σ 13 fN) 14 fF) 15 fL) 13 (upd fN d (nI 3))) 14 (upd fF d (nI (b - 1)))) 15 (upd fL d (nI b)) = sF (sF (sF σ 13 (upd fN d (nI 3))) 14 (upd fF d (nI (b - 1)))) 15 (upd fL d (nI b)) from (Eq.trans (wrF (Eq.trans (wrF (Eq.trans (wrFc (by decide)) (wrF (Eq.trans (wrFc (by decide)) (wrF wrFs))))) (Eq.trans (wrFc (by decide)) (wrF wrFs)))) wrFs))) ?_
                                exact ih102 (d + 1) 0 (upd fN d (nI 3)) (upd fF d (nI (b - 1))) (upd fL d (nI b)) (by omega) (by omega) (by omega) (fR_s hN (by omega)) (fR_s hF (by omega)) (fR_s hLl (by omega)) (fun q => absurd q (by decide)) (fun _ => ⟨d, by omega, by omega, by rw [← fR_d hN]; exact c15⟩) (al_upd hs ⟨_, by omega, rfl⟩) (by omega)
                              · exact absurd c17 (by decide)
                            · exact absurd c16 (by decide)
                          · refine j_iconst C (nI 1) (by decide) dX11_lay_124 ?_
                            refine j_goto C 129 (by decide) dX11_lay_125 ?_
                            refine j_istore C [(7, .int (nI 1)), (8, .int (nI d)), (6, .int (nI b)), (5, .int (nI (b - 1))), (4, .int (nI 1)), (0, .ref (g 0)), (1, .int (nI 115)), (2, .int (nI b)), (3, .int (-6))] (by decide) rfl dX11_lay_129 ?_
                            refine j_aload_n C 5 rfl dX11_lay_131 ?_
                            refine gM_0_19 C tb_892 dX11_lay_132 ?_
                            refine j_iload C 1 rfl dX11_lay_135 ?_
                            refine j_iload_n C 6 rfl dX11_lay_137 ?_
                            refine j_bipush C (nI 120) (by decide) dX11_lay_138 ?_
                            refine j_icmp_neN C 147 (by decide) (by omega) (by omega) dX11_lay_140 (fun c18 => ?_) (fun c18 => ?_)
                            · refine j_iload_n C 6 rfl dX11_lay_147 ?_
                              refine j_bipush C (nI 108) (by decide) dX11_lay_148 ?_
                              refine j_icmp_neN C 157 (by decide) (by omega) (by omega) dX11_lay_150 (fun c19 => ?_) (fun c19 => ?_)
                              · refine j_iconst C (nI 3) (by decide) dX11_lay_157 ?_
                                refine tM_13 C d rfl (by omega) dX11_lay_158 ?_
                                refine j_aload_n C 5 rfl dX11_lay_159 ?_
                                refine gM_0_20 C tb_893 dX11_lay_160 ?_
                                refine j_iload C 1 rfl dX11_lay_163 ?_
                                refine j_iload C 3 rfl dX11_lay_165 ?_
                                refine tM_14 C d rfl (by omega) dX11_lay_167 ?_
                                refine j_aload_n C 5 rfl dX11_lay_168 ?_
                                refine gM_0_21 C tb_894 dX11_lay_169 ?_
                                refine j_iload C 1 rfl dX11_lay_172 ?_
                                refine j_iload C 2 rfl dX11_lay_174 ?_
                                refine tM_15 C d rfl (by omega) dX11_lay_176 ?_
                                refine j_iinc C (nI (d + 1)) [(8, .int (nI (d + 1))), (7, .int (nI 1)), (6, .int (nI b)), (5, .int (nI (b - 1))), (4, .int (nI 1)), (0, .ref (g 0)), (1, .int (nI 115)), (2, .int (nI b)), (3, .int (-6))] 1 rfl (by rw [show Int32.ofInt 1 = nI 1 from by decide, nI_add]) (by decide) rfl dX11_lay_177 ?_
                                refine j_goto C 102 (by decide) dX11_lay_180 ?_
                                refine j_w (cM g kk (sF (sF (sF σ 13 (upd fN d (nI 3))) 14 (upd fF d (nI (b - 1)))) 15 (upd fL d (nI b)))) (congrArg (cM g kk) (show sF (sF (sF (sF (sF (sF σ 13 fN) 14 fF) 15 fL) 13 (upd fN d (nI 3))) 14 (upd fF d (nI (b - 1)))) 15 (upd fL d (nI b)) = sF (sF (sF σ 13 (upd fN d (nI 3))) 14 (upd fF d (nI (b - 1)))) 15 (upd fL d (nI b)) from (Eq.trans (wrF (Eq.trans (wrF (Eq.trans (wrFc (by decide)) (wrF (Eq.trans (wrFc (by decide)) (wrF wrFs))))) (Eq.trans (wrFc (by decide)) (wrF wrFs)))) wrFs))) ?_
                                exact ih102 (d + 1) 1 (upd fN d (nI 3)) (upd fF d (nI (b - 1))) (upd fL d (nI b)) (by omega) (by omega) (by omega) (fR_s hN (by omega)) (fR_s hF (by omega)) (fR_s hLl (by omega)) (fun _ => hz_s hN (hz1 (by omega)) c15) (fun q => absurd q (by decide)) (al_upd hs ⟨_, by omega, rfl⟩) (by omega)
                              · exact absurd c19 (by decide)
                            · exact absurd c18 (by decide)
                  refine j_w (cM g kk (sF σ 13 (σ.2.1 13))) (congrArg (cM g kk) (wrFi (S := σ) (c := 13) (v := σ.2.1 13) rfl)) ?_
                  refine j_w (cM g kk (sF (sF σ 13 (σ.2.1 13)) 14 (σ.2.1 14))) (congrArg (cM g kk) (wrFi (S := (sF σ 13 (σ.2.1 13))) (c := 14) (v := σ.2.1 14) (gtFF (by decide) rfl))) ?_
                  refine j_w (cM g kk (sF (sF (sF σ 13 (σ.2.1 13)) 14 (σ.2.1 14)) 15 (σ.2.1 15))) (congrArg (cM g kk) (wrFi (S := (sF (sF σ 13 (σ.2.1 13)) 14 (σ.2.1 14))) (c := 15) (v := σ.2.1 15) (gtFF (by decide) (gtFF (by decide) rfl)))) ?_
                  exact L102 _ (b - 1) 1 (σ.2.1 13) (σ.2.1 14) (σ.2.1 15) (by omega) (by omega) (by omega) fR_00 fR_00 fR_00 (fun _ j z1 z2 => absurd z2 (by omega)) (fun q => absurd q (by decide)) hS (Nat.lt_succ_self _)
                · exact absurd c12 (by decide)
          · exact absurd c5 (by decide)
set_option maxRecDepth 100000 in
set_option maxHeartbeats 4000000 in
theorem o_ly115_z (g kk : Nat → Nat) (σ : St) (k : Nat) (hk : σ.1 3 = nI k) (hk6 : k ≤ 6) (hI : iM σ) (hS : al_ 28 27 (σ.2.1 14))  : jM (S := St) yX11_lay cX11_lay 9 (some .boolean) { frames := 1, cells := 0, slots := 0, locals := 25 } kk (cM g kk σ) [.ref (g 0), .int (nI 115), .int (nI 0), .int (-6)] (cM g kk) (rI (fun (r : Int32) (u : St) => u = σ ∧ (r = nI 0))) := by
  refine j_entry [(0, .ref (g 0)), (1, .int (nI 115)), (2, .int (nI 0)), (3, .int (-6))] (by decide) (Nat.le_of_ble_eq_true rfl) rfl ?_
  intro X C E HI
  refine j_iload_n C 3 rfl dX11_lay_0 ?_
  refine j_if_ge C 8 (by decide) dX11_lay_1 (fun c1 => ?_) (fun c1 => ?_)
  · exact absurd c1 (by decide)
  · refine j_iconst C (nI 1) (by decide) dX11_lay_4 ?_
    refine j_goto C 9 (by decide) dX11_lay_5 ?_
    refine j_istore C [(4, .int (nI 1)), (0, .ref (g 0)), (1, .int (nI 115)), (2, .int (nI 0)), (3, .int (-6))] (by decide) rfl dX11_lay_9 ?_
    refine j_iload C 0 rfl dX11_lay_11 ?_
    refine j_if_eqN C 28 (by decide) (by omega) dX11_lay_13 (fun c2 => ?_) (fun c2 => ?_)
    · exact absurd c2 (by decide)
    · refine j_iload_n C 2 rfl dX11_lay_16 ?_
      refine j_bipush C (nI 115) (by decide) dX11_lay_17 ?_
      refine j_icmp_neN C 28 (by decide) (by omega) (by omega) dX11_lay_19 (fun c3 => ?_) (fun c3 => ?_)
      · exact absurd c3 (by decide)
      · refine j_iload_n C 3 rfl dX11_lay_22 ?_
        refine j_iconst C (nI 1) (by decide) dX11_lay_23 ?_
        refine j_isub C dX11_lay_24 ?_
        refine j_teq (show nI 0 - nI 1 = (-1) from by decide) ?_
        refine j_goto C 29 (by decide) dX11_lay_25 ?_
        refine j_istore C [(5, .int (-1)), (4, .int (nI 1)), (0, .ref (g 0)), (1, .int (nI 115)), (2, .int (nI 0)), (3, .int (-6))] (by decide) rfl dX11_lay_29 ?_
        refine j_iload C 1 rfl dX11_lay_31 ?_
        refine j_if_eqN C 40 (by decide) (by omega) dX11_lay_33 (fun c4 => ?_) (fun c4 => ?_)
        · exact absurd c4 (by decide)
        · refine j_iload_n C 4 rfl dX11_lay_36 ?_
          refine j_goto C 41 (by decide) dX11_lay_37 ?_
          refine j_istore C [(6, .int (nI 0)), (5, .int (-1)), (4, .int (nI 1)), (0, .ref (g 0)), (1, .int (nI 115)), (2, .int (nI 0)), (3, .int (-6))] (by decide) rfl dX11_lay_41 ?_
          refine j_iload C 1 rfl dX11_lay_43 ?_
          refine j_i2l C dX11_lay_45 ?_
          refine j_iload_n C 4 rfl dX11_lay_46 ?_
          refine j_bipush C (nI 108) (by decide) dX11_lay_47 ?_
          refine j_icmp_neN C 56 (by decide) (by omega) (by omega) dX11_lay_49 (fun c5 => ?_) (fun c5 => ?_)
          · refine j_lconst C 0 (by decide) dX11_lay_56 ?_
            refine j_ldc2 C tb_1080 dX11_lay_57 ?_
            refine j_S01 C (m_inB (-1) (nI 0) (nI 27) 0 (27) (by decide) (by decide)) kyX11_in tb_1057 tb_1058 rfl (Nat.le_of_ble_eq_true rfl) ⟨by decide, by decide⟩ ⟨by decide, by decide⟩ dX11_lay_60 rfl ?_
            refine j_if_eq C 95 (by decide) dX11_lay_63 (fun c6 => ?_) (fun c6 => ?_)
            · replace c6 := bI_f c6
              refine j_iconst C (nI 0) (by decide) dX11_lay_95 ?_
              refine j_istore C [(7, .int (nI 0)), (6, .int (nI 0)), (5, .int (-1)), (4, .int (nI 1)), (0, .ref (g 0)), (1, .int (nI 115)), (2, .int (nI 0)), (3, .int (-6))] (by decide) rfl dX11_lay_96 ?_
              refine j_iload C 2 rfl dX11_lay_98 ?_
              refine j_istore C [(8, .int (-1)), (7, .int (nI 0)), (6, .int (nI 0)), (5, .int (-1)), (4, .int (nI 1)), (0, .ref (g 0)), (1, .int (nI 115)), (2, .int (nI 0)), (3, .int (-6))] (by decide) rfl dX11_lay_100 ?_
              refine j_iload C 0 rfl dX11_lay_102 ?_
              refine j_iload C 2 rfl dX11_lay_104 ?_
              refine j_icmp_gt C 183 (by decide) dX11_lay_106 (fun c7 => ?_) (fun c7 => ?_)
              · refine j_iload C 1 rfl dX11_lay_183 ?_
                exact j_zret C E (nbz (by omega)) (σ) ⟨_, rfl, ⟨rfl, rfl⟩⟩ rfl dX11_lay_185
              · refine j_iload C 1 rfl dX11_lay_109 ?_
                refine j_if_eqN C 183 (by decide) (by omega) dX11_lay_111 (fun c8 => ?_) (fun c8 => ?_)
                · refine j_iload C 1 rfl dX11_lay_183 ?_
                  exact j_zret C E (nbz (by omega)) (σ) ⟨_, rfl, ⟨rfl, rfl⟩⟩ rfl dX11_lay_185
                · exact absurd c8 (by decide)
            · replace c6 := bI_t c6
              exact absurd c6 (by decide)
          · exact absurd c5 (by decide)
set_option maxRecDepth 100000 in
set_option maxHeartbeats 4000000 in
theorem o_ly120_2 (g kk : Nat → Nat) (σ : St) (k : Nat) (hk : σ.1 3 = nI k) (hk6 : k ≤ 6) (hI : iM σ) (hS : al_ 28 27 (σ.2.1 14)) (b : Nat) (hb0 : b ≤ 99) (c : Nat) (hc0 : c ≤ 99) : jM (S := St) yX11_lay cX11_lay 9 (some .boolean) { frames := 1, cells := 0, slots := 0, locals := 25 } kk (cM g kk σ) [.ref (g 0), .int (nI 120), .int (nI b), .int (nI c)] (cM g kk) (rI (fun (r : Int32) (u : St) => ∃ (pF13 : Nat → Int32) (pF14 : Nat → Int32) (pF15 : Nat → Int32), u = sF (sF (sF σ 13 pF13) 14 pF14) 15 pF15 ∧ ((((b < c ∧ c ≤ 27) ∧ okR (σ.2.1 13) (b) (c)) ∧ r = nI 1 ∧ pF13 = fillR (σ.2.1 13) (b) (c + 1 - (b)) (nI 1) ∧ pF14 = fillR (σ.2.1 14) (b) (c + 1 - (b)) (nI (b)) ∧ pF15 = fillR (σ.2.1 15) (b) (c + 1 - (b)) (nI (c))) ∨ (¬ ((b < c ∧ c ≤ 27) ∧ okR (σ.2.1 13) (b) (c)) ∧ r = nI 0)) ∧ (al_ 28 27 pF14))) := by
  refine j_entry [(0, .ref (g 0)), (1, .int (nI 120)), (2, .int (nI b)), (3, .int (nI c))] (by decide) (Nat.le_of_ble_eq_true rfl) rfl ?_
  intro X C E HI
  refine j_iload_n C 3 rfl dX11_lay_0 ?_
  refine j_if_geN C 8 (by decide) (by omega) dX11_lay_1 (fun c1 => ?_) (fun c1 => ?_)
  · refine j_iconst C (nI 0) (by decide) dX11_lay_8 ?_
    refine j_istore C [(4, .int (nI 0)), (0, .ref (g 0)), (1, .int (nI 120)), (2, .int (nI b)), (3, .int (nI c))] (by decide) rfl dX11_lay_9 ?_
    refine j_iload C 0 rfl dX11_lay_11 ?_
    refine j_if_eqN C 28 (by decide) (by omega) dX11_lay_13 (fun c2 => ?_) (fun c2 => ?_)
    · refine j_iload_n C 3 rfl dX11_lay_28 ?_
      refine j_istore C [(5, .int (nI b)), (4, .int (nI 0)), (0, .ref (g 0)), (1, .int (nI 120)), (2, .int (nI b)), (3, .int (nI c))] (by decide) rfl dX11_lay_29 ?_
      refine j_iload C 1 rfl dX11_lay_31 ?_
      refine j_if_eqN C 40 (by decide) (by omega) dX11_lay_33 (fun c3 => ?_) (fun c3 => ?_)
      · refine j_iload_n C 5 rfl dX11_lay_40 ?_
        refine j_istore C [(6, .int (nI c)), (5, .int (nI b)), (4, .int (nI 0)), (0, .ref (g 0)), (1, .int (nI 120)), (2, .int (nI b)), (3, .int (nI c))] (by decide) rfl dX11_lay_41 ?_
        refine j_iload C 1 rfl dX11_lay_43 ?_
        refine j_i2l C dX11_lay_45 ?_
        refine j_iload_n C 4 rfl dX11_lay_46 ?_
        refine j_bipush C (nI 108) (by decide) dX11_lay_47 ?_
        refine j_icmp_neN C 56 (by decide) (by omega) (by omega) dX11_lay_49 (fun c4 => ?_) (fun c4 => ?_)
        · refine j_lconst C 0 (by decide) dX11_lay_56 ?_
          refine j_ldc2 C tb_1080 dX11_lay_57 ?_
          refine j_S01 C (m_inB (nI b) (nI 0) (nI 27) 0 (27) (by decide) (by decide)) kyX11_in tb_1057 tb_1058 rfl (Nat.le_of_ble_eq_true rfl) ⟨by decide, by decide⟩ ⟨by decide, by decide⟩ dX11_lay_60 rfl ?_
          refine j_if_eq C 95 (by decide) dX11_lay_63 (fun c5 => ?_) (fun c5 => ?_)
          · replace c5 := bI_f c5
            refine j_iconst C (nI 0) (by decide) dX11_lay_95 ?_
            refine j_istore C [(7, .int (nI 0)), (6, .int (nI c)), (5, .int (nI b)), (4, .int (nI 0)), (0, .ref (g 0)), (1, .int (nI 120)), (2, .int (nI b)), (3, .int (nI c))] (by decide) rfl dX11_lay_96 ?_
            refine j_iload C 2 rfl dX11_lay_98 ?_
            refine j_istore C [(8, .int (nI b)), (7, .int (nI 0)), (6, .int (nI c)), (5, .int (nI b)), (4, .int (nI 0)), (0, .ref (g 0)), (1, .int (nI 120)), (2, .int (nI b)), (3, .int (nI c))] (by decide) rfl dX11_lay_100 ?_
            refine j_iload C 0 rfl dX11_lay_102 ?_
            refine j_iload C 2 rfl dX11_lay_104 ?_
            refine j_icmp_gtN C 183 (by decide) (by omega) (by omega) dX11_lay_106 (fun c6 => ?_) (fun c6 => ?_)
            · refine j_iload C 1 rfl dX11_lay_183 ?_
              refine j_w (cM g kk (sF σ 13 (σ.2.1 13))) (congrArg (cM g kk) (wrFi (S := σ) (c := 13) (v := σ.2.1 13) rfl)) ?_
              refine j_w (cM g kk (sF (sF σ 13 (σ.2.1 13)) 14 (σ.2.1 14))) (congrArg (cM g kk) (wrFi (S := (sF σ 13 (σ.2.1 13))) (c := 14) (v := σ.2.1 14) (gtFF (by decide) rfl))) ?_
              refine j_w (cM g kk (sF (sF (sF σ 13 (σ.2.1 13)) 14 (σ.2.1 14)) 15 (σ.2.1 15))) (congrArg (cM g kk) (wrFi (S := (sF (sF σ 13 (σ.2.1 13)) 14 (σ.2.1 14))) (c := 15) (v := σ.2.1 15) (gtFF (by decide) (gtFF (by decide) rfl)))) ?_
              exact j_zret C E (nbz (by omega)) (sF (sF (sF σ 13 (σ.2.1 13)) 14 (σ.2.1 14)) 15 (σ.2.1 15)) ⟨_, rfl, ⟨(σ.2.1 13), (σ.2.1 14), (σ.2.1 15), rfl, (Or.inr ⟨fun z => by have qc5 := wB_f c5 (by omega) (by decide) (by decide); have z1 := z.1; omega, rfl⟩), hS⟩⟩ rfl dX11_lay_185
            · refine j_iload C 1 rfl dX11_lay_109 ?_
              refine j_if_eqN C 183 (by decide) (by omega) dX11_lay_111 (fun c7 => ?_) (fun c7 => ?_)
              · refine j_iload C 1 rfl dX11_lay_183 ?_
                refine j_w (cM g kk (sF σ 13 (σ.2.1 13))) (congrArg (cM g kk) (wrFi (S := σ) (c := 13) (v := σ.2.1 13) rfl)) ?_
                refine j_w (cM g kk (sF (sF σ 13 (σ.2.1 13)) 14 (σ.2.1 14))) (congrArg (cM g kk) (wrFi (S := (sF σ 13 (σ.2.1 13))) (c := 14) (v := σ.2.1 14) (gtFF (by decide) rfl))) ?_
                refine j_w (cM g kk (sF (sF (sF σ 13 (σ.2.1 13)) 14 (σ.2.1 14)) 15 (σ.2.1 15))) (congrArg (cM g kk) (wrFi (S := (sF (sF σ 13 (σ.2.1 13)) 14 (σ.2.1 14))) (c := 15) (v := σ.2.1 15) (gtFF (by decide) (gtFF (by decide) rfl)))) ?_
                exact j_zret C E (nbz (by omega)) (sF (sF (sF σ 13 (σ.2.1 13)) 14 (σ.2.1 14)) 15 (σ.2.1 15)) ⟨_, rfl, ⟨(σ.2.1 13), (σ.2.1 14), (σ.2.1 15), rfl, (Or.inr ⟨fun z => by have qc5 := wB_f c5 (by omega) (by decide) (by decide); have z1 := z.1; omega, rfl⟩), hS⟩⟩ rfl dX11_lay_185
              · exact absurd c7 (by decide)
          · replace c5 := bI_t c5
            refine j_iload C 0 rfl dX11_lay_66 ?_
            refine j_i2l C dX11_lay_68 ?_
            refine j_lconst C 0 (by decide) dX11_lay_69 ?_
            refine j_ldc2 C tb_1080 dX11_lay_70 ?_
            refine j_S01 C (m_inB (nI c) (nI 0) (nI 27) 0 (27) (by decide) (by decide)) kyX11_in tb_1057 tb_1058 rfl (Nat.le_of_ble_eq_true rfl) ⟨by decide, by decide⟩ ⟨by decide, by decide⟩ dX11_lay_73 rfl ?_
            refine j_if_eq C 95 (by decide) dX11_lay_76 (fun c8 => ?_) (fun c8 => ?_)
            · replace c8 := bI_f c8
              refine j_iconst C (nI 0) (by decide) dX11_lay_95 ?_
              refine j_istore C [(7, .int (nI 0)), (6, .int (nI c)), (5, .int (nI b)), (4, .int (nI 0)), (0, .ref (g 0)), (1, .int (nI 120)), (2, .int (nI b)), (3, .int (nI c))] (by decide) rfl dX11_lay_96 ?_
              refine j_iload C 2 rfl dX11_lay_98 ?_
              refine j_istore C [(8, .int (nI b)), (7, .int (nI 0)), (6, .int (nI c)), (5, .int (nI b)), (4, .int (nI 0)), (0, .ref (g 0)), (1, .int (nI 120)), (2, .int (nI b)), (3, .int (nI c))] (by decide) rfl dX11_lay_100 ?_
              refine j_iload C 0 rfl dX11_lay_102 ?_
              refine j_iload C 2 rfl dX11_lay_104 ?_
              refine j_icmp_gtN C 183 (by decide) (by omega) (by omega) dX11_lay_106 (fun c9 => ?_) (fun c9 => ?_)
              · refine j_iload C 1 rfl dX11_lay_183 ?_
                refine j_w (cM g kk (sF σ 13 (σ.2.1 13))) (congrArg (cM g kk) (wrFi (S := σ) (c := 13) (v := σ.2.1 13) rfl)) ?_
                refine j_w (cM g kk (sF (sF σ 13 (σ.2.1 13)) 14 (σ.2.1 14))) (congrArg (cM g kk) (wrFi (S := (sF σ 13 (σ.2.1 13))) (c := 14) (v := σ.2.1 14) (gtFF (by decide) rfl))) ?_
                refine j_w (cM g kk (sF (sF (sF σ 13 (σ.2.1 13)) 14 (σ.2.1 14)) 15 (σ.2.1 15))) (congrArg (cM g kk) (wrFi (S := (sF (sF σ 13 (σ.2.1 13)) 14 (σ.2.1 14))) (c := 15) (v := σ.2.1 15) (gtFF (by decide) (gtFF (by decide) rfl)))) ?_
                exact j_zret C E (nbz (by omega)) (sF (sF (sF σ 13 (σ.2.1 13)) 14 (σ.2.1 14)) 15 (σ.2.1 15)) ⟨_, rfl, ⟨(σ.2.1 13), (σ.2.1 14), (σ.2.1 15), rfl, (Or.inr ⟨fun z => by have qc5 := wB_t c5 (by omega) (by decide) (by decide); have qc8 := wB_f c8 (by omega) (by decide) (by decide); have z1 := z.1; omega, rfl⟩), hS⟩⟩ rfl dX11_lay_185
              · refine j_iload C 1 rfl dX11_lay_109 ?_
                refine j_if_eqN C 183 (by decide) (by omega) dX11_lay_111 (fun c10 => ?_) (fun c10 => ?_)
                · refine j_iload C 1 rfl dX11_lay_183 ?_
                  refine j_w (cM g kk (sF σ 13 (σ.2.1 13))) (congrArg (cM g kk) (wrFi (S := σ) (c := 13) (v := σ.2.1 13) rfl)) ?_
                  refine j_w (cM g kk (sF (sF σ 13 (σ.2.1 13)) 14 (σ.2.1 14))) (congrArg (cM g kk) (wrFi (S := (sF σ 13 (σ.2.1 13))) (c := 14) (v := σ.2.1 14) (gtFF (by decide) rfl))) ?_
                  refine j_w (cM g kk (sF (sF (sF σ 13 (σ.2.1 13)) 14 (σ.2.1 14)) 15 (σ.2.1 15))) (congrArg (cM g kk) (wrFi (S := (sF (sF σ 13 (σ.2.1 13)) 14 (σ.2.1 14))) (c := 15) (v := σ.2.1 15) (gtFF (by decide) (gtFF (by decide) rfl)))) ?_
                  exact j_zret C E (nbz (by omega)) (sF (sF (sF σ 13 (σ.2.1 13)) 14 (σ.2.1 14)) 15 (σ.2.1 15)) ⟨_, rfl, ⟨(σ.2.1 13), (σ.2.1 14), (σ.2.1 15), rfl, (Or.inr ⟨fun z => by have qc5 := wB_t c5 (by omega) (by decide) (by decide); have qc8 := wB_f c8 (by omega) (by decide) (by decide); have z1 := z.1; omega, rfl⟩), hS⟩⟩ rfl dX11_lay_185
                · exact absurd c10 (by decide)
            · replace c8 := bI_t c8
              refine j_iload C 2 rfl dX11_lay_79 ?_
              refine j_if_neN C 91 (by decide) (by omega) dX11_lay_81 (fun c11 => ?_) (fun c11 => ?_)
              · exact absurd c11 (by decide)
              · refine j_iload C 1 rfl dX11_lay_84 ?_
                refine j_iload C 0 rfl dX11_lay_86 ?_
                refine j_icmp_geN C 95 (by decide) (by omega) (by omega) dX11_lay_88 (fun c12 => ?_) (fun c12 => ?_)
                · refine j_iconst C (nI 0) (by decide) dX11_lay_95 ?_
                  refine j_istore C [(7, .int (nI 0)), (6, .int (nI c)), (5, .int (nI b)), (4, .int (nI 0)), (0, .ref (g 0)), (1, .int (nI 120)), (2, .int (nI b)), (3, .int (nI c))] (by decide) rfl dX11_lay_96 ?_
                  refine j_iload C 2 rfl dX11_lay_98 ?_
                  refine j_istore C [(8, .int (nI b)), (7, .int (nI 0)), (6, .int (nI c)), (5, .int (nI b)), (4, .int (nI 0)), (0, .ref (g 0)), (1, .int (nI 120)), (2, .int (nI b)), (3, .int (nI c))] (by decide) rfl dX11_lay_100 ?_
                  refine j_iload C 0 rfl dX11_lay_102 ?_
                  refine j_iload C 2 rfl dX11_lay_104 ?_
                  refine j_icmp_gtN C 183 (by decide) (by omega) (by omega) dX11_lay_106 (fun c13 => ?_) (fun c13 => ?_)
                  · refine j_iload C 1 rfl dX11_lay_183 ?_
                    refine j_w (cM g kk (sF σ 13 (σ.2.1 13))) (congrArg (cM g kk) (wrFi (S := σ) (c := 13) (v := σ.2.1 13) rfl)) ?_
                    refine j_w (cM g kk (sF (sF σ 13 (σ.2.1 13)) 14 (σ.2.1 14))) (congrArg (cM g kk) (wrFi (S := (sF σ 13 (σ.2.1 13))) (c := 14) (v := σ.2.1 14) (gtFF (by decide) rfl))) ?_
                    refine j_w (cM g kk (sF (sF (sF σ 13 (σ.2.1 13)) 14 (σ.2.1 14)) 15 (σ.2.1 15))) (congrArg (cM g kk) (wrFi (S := (sF (sF σ 13 (σ.2.1 13)) 14 (σ.2.1 14))) (c := 15) (v := σ.2.1 15) (gtFF (by decide) (gtFF (by decide) rfl)))) ?_
                    exact j_zret C E (nbz (by omega)) (sF (sF (sF σ 13 (σ.2.1 13)) 14 (σ.2.1 14)) 15 (σ.2.1 15)) ⟨_, rfl, ⟨(σ.2.1 13), (σ.2.1 14), (σ.2.1 15), rfl, (Or.inr ⟨fun z => by have qc5 := wB_t c5 (by omega) (by decide) (by decide); have qc8 := wB_t c8 (by omega) (by decide) (by decide); have z1 := z.1; omega, rfl⟩), hS⟩⟩ rfl dX11_lay_185
                  · refine j_iload C 1 rfl dX11_lay_109 ?_
                    refine j_if_eqN C 183 (by decide) (by omega) dX11_lay_111 (fun c14 => ?_) (fun c14 => ?_)
                    · refine j_iload C 1 rfl dX11_lay_183 ?_
                      refine j_w (cM g kk (sF σ 13 (σ.2.1 13))) (congrArg (cM g kk) (wrFi (S := σ) (c := 13) (v := σ.2.1 13) rfl)) ?_
                      refine j_w (cM g kk (sF (sF σ 13 (σ.2.1 13)) 14 (σ.2.1 14))) (congrArg (cM g kk) (wrFi (S := (sF σ 13 (σ.2.1 13))) (c := 14) (v := σ.2.1 14) (gtFF (by decide) rfl))) ?_
                      refine j_w (cM g kk (sF (sF (sF σ 13 (σ.2.1 13)) 14 (σ.2.1 14)) 15 (σ.2.1 15))) (congrArg (cM g kk) (wrFi (S := (sF (sF σ 13 (σ.2.1 13)) 14 (σ.2.1 14))) (c := 15) (v := σ.2.1 15) (gtFF (by decide) (gtFF (by decide) rfl)))) ?_
                      exact j_zret C E (nbz (by omega)) (sF (sF (sF σ 13 (σ.2.1 13)) 14 (σ.2.1 14)) 15 (σ.2.1 15)) ⟨_, rfl, ⟨(σ.2.1 13), (σ.2.1 14), (σ.2.1 15), rfl, (Or.inr ⟨fun z => by have qc5 := wB_t c5 (by omega) (by decide) (by decide); have qc8 := wB_t c8 (by omega) (by decide) (by decide); have z1 := z.1; omega, rfl⟩), hS⟩⟩ rfl dX11_lay_185
                    · exact absurd c14 (by decide)
                · refine j_iconst C (nI 1) (by decide) dX11_lay_91 ?_
                  refine j_goto C 96 (by decide) dX11_lay_92 ?_
                  refine j_istore C [(7, .int (nI 1)), (6, .int (nI c)), (5, .int (nI b)), (4, .int (nI 0)), (0, .ref (g 0)), (1, .int (nI 120)), (2, .int (nI b)), (3, .int (nI c))] (by decide) rfl dX11_lay_96 ?_
                  have qc5 := wB_t c5 (by omega) (by decide) (by decide)
                  have qc8 := wB_t c8 (by omega) (by decide) (by decide)
                  refine j_iload C 2 rfl dX11_lay_98 ?_
                  refine j_istore C [(8, .int (nI b)), (7, .int (nI 1)), (6, .int (nI c)), (5, .int (nI b)), (4, .int (nI 0)), (0, .ref (g 0)), (1, .int (nI 120)), (2, .int (nI b)), (3, .int (nI c))] (by decide) rfl dX11_lay_100 ?_
                  have L102 : ∀ (n102 : Nat) (d : Nat) (g2 : Nat) (fN : Nat → Int32) (fF : Nat → Int32) (fL : Nat → Int32) (i102_0 : b ≤ d) (i102_1 : d ≤ c + 1) (i102_2 : g2 ≤ 1) (hN : fN = fillR (σ.2.1 13) b (d - b) (nI 1)) (hF : fF = fillR (σ.2.1 14) b (d - b) (nI b)) (hLl : fL = fillR (σ.2.1 15) b (d - b) (nI c)) (hz1 : g2 = 1 → ∀ j, b ≤ j → j < d → σ.2.1 13 j = 0) (hz0 : g2 = 0 → ∃ j, b ≤ j ∧ j ≤ c ∧ ¬ σ.2.1 13 j = 0) (hs : al_ 28 27 fF) (hm102 : 28 - d < n102), J X 0 0 (cM g kk (sF (sF (sF σ 13 fN) 14 fF) 15 fL)) [(8, .int (nI d)), (7, .int (nI g2)), (6, .int (nI c)), (5, .int (nI b)), (4, .int (nI 0)), (0, .ref (g 0)), (1, .int (nI 120)), (2, .int (nI b)), (3, .int (nI c))] 102 [] := by
                    intro n102
                    induction n102 with
                    | zero => intro d g2 fN fF fL i102_0 i102_1 i102_2 hN hF hLl hz1 hz0 hs hm; exact absurd hm (Nat.not_lt_zero _)
                    | succ n102 ih102 =>
                      intro d g2 fN fF fL i102_0 i102_1 i102_2 hN hF hLl hz1 hz0 hs hm102
                      refine j_iload C 0 rfl dX11_lay_102 ?_
                      refine j_iload C 2 rfl dX11_lay_104 ?_
                      refine j_icmp_gtN C 183 (by decide) (by omega) (by omega) dX11_lay_106 (fun c15 => ?_) (fun c15 => ?_)
                      · refine j_iload C 1 rfl dX11_lay_183 ?_
                        exact j_zret C E (nbz (by omega)) (sF (sF (sF σ 13 fN) 14 fF) 15 fL) ⟨_, rfl, ⟨fN, fF, fL, rfl, (by rcases (show g2 = 0 ∨ g2 = 1 by omega) with w | w; exact Or.inr ⟨fun z => by obtain ⟨j, j1, j2, j3⟩ := hz0 w; exact j3 (z.2 j j1 j2), by rw [w]⟩; exact Or.inl ⟨⟨by omega, fun j z1 z2 => hz1 w j z1 (by omega)⟩, by rw [w], fR_e hN (by omega), fR_e hF (by omega), fR_e hLl (by omega)⟩), hs⟩⟩ rfl dX11_lay_185
                      · refine j_iload C 1 rfl dX11_lay_109 ?_
                        refine j_if_eqN C 183 (by decide) (by omega) dX11_lay_111 (fun c16 => ?_) (fun c16 => ?_)
                        · refine j_iload C 1 rfl dX11_lay_183 ?_
                          exact j_zret C E (nbz (by omega)) (sF (sF (sF σ 13 fN) 14 fF) 15 fL) ⟨_, rfl, ⟨fN, fF, fL, rfl, (by have w := c16; exact Or.inr ⟨fun z => by obtain ⟨j, j1, j2, j3⟩ := hz0 w; exact j3 (z.2 j j1 j2), by rw [w]⟩), hs⟩⟩ rfl dX11_lay_185
                        · refine j_aload_n C 5 rfl dX11_lay_114 ?_
                          refine gM_0_19 C tb_892 dX11_lay_115 ?_
                          refine j_iload C 0 rfl dX11_lay_118 ?_
                          refine rM_13 C d rfl (by omega) (fN d) rfl dX11_lay_120 ?_
                          refine j_if_ne C 128 (by decide) dX11_lay_121 (fun c17 => ?_) (fun c17 => ?_)
                          · refine j_iconst C (nI 0) (by decide) dX11_lay_128 ?_
                            refine j_istore C [(7, .int (nI 0)), (8, .int (nI d)), (6, .int (nI c)), (5, .int (nI b)), (4, .int (nI 0)), (0, .ref (g 0)), (1, .int (nI 120)), (2, .int (nI b)), (3, .int (nI c))] (by decide) rfl dX11_lay_129 ?_
                            refine j_aload_n C 5 rfl dX11_lay_131 ?_
                            refine gM_0_19 C tb_892 dX11_lay_132 ?_
                            refine j_iload C 1 rfl dX11_lay_135 ?_
                            refine j_iload_n C 6 rfl dX11_lay_137 ?_
                            refine j_bipush C (nI 120) (by decide) dX11_lay_138 ?_
                            refine j_icmp_neN C 147 (by decide) (by omega) (by omega) dX11_lay_140 (fun c18 => ?_) (fun c18 => ?_)
                            · exact absurd c18 (by decide)
                            · refine j_iconst C (nI 1) (by decide) dX11_lay_143 ?_
                              refine j_goto C 158 (by decide) dX11_lay_144 ?_
                              refine tM_13 C d rfl (by omega) dX11_lay_158 ?_
                              refine j_aload_n C 5 rfl dX11_lay_159 ?_
                              refine gM_0_20 C tb_893 dX11_lay_160 ?_
                              refine j_iload C 1 rfl dX11_lay_163 ?_
                              refine j_iload C 3 rfl dX11_lay_165 ?_
                              refine tM_14 C d rfl (by omega) dX11_lay_167 ?_
                              refine j_aload_n C 5 rfl dX11_lay_168 ?_
                              refine gM_0_21 C tb_894 dX11_lay_169 ?_
                              refine j_iload C 1 rfl dX11_lay_172 ?_
                              refine j_iload C 2 rfl dX11_lay_174 ?_
                              refine tM_15 C d rfl (by omega) dX11_lay_176 ?_
                              refine j_iinc C (nI (d + 1)) [(8, .int (nI (d + 1))), (7, .int (nI 0)), (6, .int (nI c)), (5, .int (nI b)), (4, .int (nI 0)), (0, .ref (g 0)), (1, .int (nI 120)), (2, .int (nI b)), (3, .int (nI c))] 1 rfl (by rw [show Int32.ofInt 1 = nI 1 from by decide, nI_add]) (by decide) rfl dX11_lay_177 ?_
                              refine j_goto C 102 (by decide) dX11_lay_180 ?_
                              refine j_w (cM g kk (sF (sF (sF σ 13 (upd fN d (nI 1))) 14 (upd fF d (nI b))) 15 (upd fL d (nI c)))) (congrArg (cM g kk) (show sF (sF (sF (sF (sF (sF σ 13 fN) 14 fF) 15 fL) 13 (upd fN d (nI 1))) 14 (upd fF d (nI b))) 15 (upd fL d (nI c)) = sF (sF (sF σ 13 (upd fN d (nI 1))) 14 (upd fF d (nI b))) 15 (upd fL d (nI c)) from (Eq.trans (wrF (Eq.trans (wrF (Eq.trans (wrFc (by decide)) (wrF (Eq.trans (wrFc (by decide)) (wrF wrFs))))) (Eq.trans (wrFc (by decide)) (wrF wrFs)))) wrFs))) ?_
                              exact ih102 (d + 1) 0 (upd fN d (nI 1)) (upd fF d (nI b)) (upd fL d (nI c)) (by omega) (by omega) (by omega) (fR_s hN (by omega)) (fR_s hF (by omega)) (fR_s hLl (by omega)) (fun q => absurd q (by decide)) (fun _ => ⟨d, by omega, by omega, by rw [← fR_d hN]; exact c17⟩) (al_upd hs ⟨_, by omega, rfl⟩) (by omega)
                          · refine j_iconst C (nI 1) (by decide) dX11_lay_124 ?_
                            refine j_goto C 129 (by decide) dX11_lay_125 ?_
                            refine j_istore C [(7, .int (nI 1)), (8, .int (nI d)), (6, .int (nI c)), (5, .int (nI b)), (4, .int (nI 0)), (0, .ref (g 0)), (1, .int (nI 120)), (2, .int (nI b)), (3, .int (nI c))] (by decide) rfl dX11_lay_129 ?_
                            refine j_aload_n C 5 rfl dX11_lay_131 ?_
                            refine gM_0_19 C tb_892 dX11_lay_132 ?_
                            refine j_iload C 1 rfl dX11_lay_135 ?_
                            refine j_iload_n C 6 rfl dX11_lay_137 ?_
                            refine j_bipush C (nI 120) (by decide) dX11_lay_138 ?_
                            refine j_icmp_neN C 147 (by decide) (by omega) (by omega) dX11_lay_140 (fun c19 => ?_) (fun c19 => ?_)
                            · exact absurd c19 (by decide)
                            · refine j_iconst C (nI 1) (by decide) dX11_lay_143 ?_
                              refine j_goto C 158 (by decide) dX11_lay_144 ?_
                              refine tM_13 C d rfl (by omega) dX11_lay_158 ?_
                              refine j_aload_n C 5 rfl dX11_lay_159 ?_
                              refine gM_0_20 C tb_893 dX11_lay_160 ?_
                              refine j_iload C 1 rfl dX11_lay_163 ?_
                              refine j_iload C 3 rfl dX11_lay_165 ?_
                              refine tM_14 C d rfl (by omega) dX11_lay_167 ?_
                              refine j_aload_n C 5 rfl dX11_lay_168 ?_
                              refine gM_0_21 C tb_894 dX11_lay_169 ?_
                              refine j_iload C 1 rfl dX11_lay_172 ?_
                              refine j_iload C 2 rfl dX11_lay_174 ?_
                              refine tM_15 C d rfl (by omega) dX11_lay_176 ?_
                              refine j_iinc C (nI (d + 1)) [(8, .int (nI (d + 1))), (7, .int (nI 1)), (6, .int (nI c)), (5, .int (nI b)), (4, .int (nI 0)), (0, .ref (g 0)), (1, .int (nI 120)), (2, .int (nI b)), (3, .int (nI c))] 1 rfl (by rw [show Int32.ofInt 1 = nI 1 from by decide, nI_add]) (by decide) rfl dX11_lay_177 ?_
                              refine j_goto C 102 (by decide) dX11_lay_180 ?_
                              refine j_w (cM g kk (sF (sF (sF σ 13 (upd fN d (nI 1))) 14 (upd fF d (nI b))) 15 (upd fL d (nI c)))) (congrArg (cM g kk) (show sF (sF (sF (sF (sF (sF σ 13 fN) 14 fF) 15 fL) 13 (upd fN d (nI 1))) 14 (upd fF d (nI b))) 15 (upd fL d (nI c)) = sF (sF (sF σ 13 (upd fN d (nI 1))) 14 (upd fF d (nI b))) 15 (upd fL d (nI c)) from (Eq.trans (wrF (Eq.trans (wrF (Eq.trans (wrFc (by decide)) (wrF (Eq.trans (wrFc (by decide)) (wrF wrFs))))) (Eq.trans (wrFc (by decide)) (wrF wrFs)))) wrFs))) ?_
                              exact ih102 (d + 1) 1 (upd fN d (nI 1)) (upd fF d (nI b)) (upd fL d (nI c)) (by omega) (by omega) (by omega) (fR_s hN (by omega)) (fR_s hF (by omega)) (fR_s hLl (by omega)) (fun _ => hz_s hN (hz1 (by omega)) c17) (fun q => absurd q (by decide)) (al_upd hs ⟨_, by omega, rfl⟩) (by omega)
                  refine j_w (cM g kk (sF σ 13 (σ.2.1 13))) (congrArg (cM g kk) (wrFi (S := σ) (c := 13) (v := σ.2.1 13) rfl)) ?_
                  refine j_w (cM g kk (sF (sF σ 13 (σ.2.1 13)) 14 (σ.2.1 14))) (congrArg (cM g kk) (wrFi (S := (sF σ 13 (σ.2.1 13))) (c := 14) (v := σ.2.1 14) (gtFF (by decide) rfl))) ?_
                  refine j_w (cM g kk (sF (sF (sF σ 13 (σ.2.1 13)) 14 (σ.2.1 14)) 15 (σ.2.1 15))) (congrArg (cM g kk) (wrFi (S := (sF (sF σ 13 (σ.2.1 13)) 14 (σ.2.1 14))) (c := 15) (v := σ.2.1 15) (gtFF (by decide) (gtFF (by decide) rfl)))) ?_
                  exact L102 _ b 1 (σ.2.1 13) (σ.2.1 14) (σ.2.1 15) (by omega) (by omega) (by omega) fR_00 fR_00 fR_00 (fun _ j z1 z2 => absurd z2 (by omega)) (fun q => absurd q (by decide)) hS (Nat.lt_succ_self _)
        · exact absurd c4 (by decide)
      · exact absurd c3 (by decide)
    · exact absurd c2 (by decide)
  · exact absurd c1 (Nat.not_lt_zero _)
set_option maxRecDepth 100000 in
set_option maxHeartbeats 4000000 in
theorem o_ly108_2 (g kk : Nat → Nat) (σ : St) (k : Nat) (hk : σ.1 3 = nI k) (hk6 : k ≤ 6) (hI : iM σ) (hS : al_ 28 27 (σ.2.1 14)) (b : Nat) (hb0 : b ≤ 99) (c : Nat) (hc0 : c ≤ 99) : jM (S := St) yX11_lay cX11_lay 9 (some .boolean) { frames := 1, cells := 0, slots := 0, locals := 25 } kk (cM g kk σ) [.ref (g 0), .int (nI 108), .int (nI b), .int (nI c)] (cM g kk) (rI (fun (r : Int32) (u : St) => ∃ (pF13 : Nat → Int32) (pF14 : Nat → Int32) (pF15 : Nat → Int32), u = sF (sF (sF σ 13 pF13) 14 pF14) 15 pF15 ∧ ((((1 ≤ b ∧ b < c ∧ c ≤ 27) ∧ okR (σ.2.1 13) (b) (c)) ∧ r = nI 1 ∧ pF13 = fillR (σ.2.1 13) (b) (c + 1 - (b)) (nI 2) ∧ pF14 = fillR (σ.2.1 14) (b) (c + 1 - (b)) (nI (b)) ∧ pF15 = fillR (σ.2.1 15) (b) (c + 1 - (b)) (nI (c))) ∨ (¬ ((1 ≤ b ∧ b < c ∧ c ≤ 27) ∧ okR (σ.2.1 13) (b) (c)) ∧ r = nI 0)) ∧ (al_ 28 27 pF14))) := by
  refine j_entry [(0, .ref (g 0)), (1, .int (nI 108)), (2, .int (nI b)), (3, .int (nI c))] (by decide) (Nat.le_of_ble_eq_true rfl) rfl ?_
  intro X C E HI
  refine j_iload_n C 3 rfl dX11_lay_0 ?_
  refine j_if_geN C 8 (by decide) (by omega) dX11_lay_1 (fun c1 => ?_) (fun c1 => ?_)
  · refine j_iconst C (nI 0) (by decide) dX11_lay_8 ?_
    refine j_istore C [(4, .int (nI 0)), (0, .ref (g 0)), (1, .int (nI 108)), (2, .int (nI b)), (3, .int (nI c))] (by decide) rfl dX11_lay_9 ?_
    refine j_iload C 0 rfl dX11_lay_11 ?_
    refine j_if_eqN C 28 (by decide) (by omega) dX11_lay_13 (fun c2 => ?_) (fun c2 => ?_)
    · refine j_iload_n C 3 rfl dX11_lay_28 ?_
      refine j_istore C [(5, .int (nI b)), (4, .int (nI 0)), (0, .ref (g 0)), (1, .int (nI 108)), (2, .int (nI b)), (3, .int (nI c))] (by decide) rfl dX11_lay_29 ?_
      refine j_iload C 1 rfl dX11_lay_31 ?_
      refine j_if_eqN C 40 (by decide) (by omega) dX11_lay_33 (fun c3 => ?_) (fun c3 => ?_)
      · refine j_iload_n C 5 rfl dX11_lay_40 ?_
        refine j_istore C [(6, .int (nI c)), (5, .int (nI b)), (4, .int (nI 0)), (0, .ref (g 0)), (1, .int (nI 108)), (2, .int (nI b)), (3, .int (nI c))] (by decide) rfl dX11_lay_41 ?_
        refine j_iload C 1 rfl dX11_lay_43 ?_
        refine j_i2l C dX11_lay_45 ?_
        refine j_iload_n C 4 rfl dX11_lay_46 ?_
        refine j_bipush C (nI 108) (by decide) dX11_lay_47 ?_
        refine j_icmp_neN C 56 (by decide) (by omega) (by omega) dX11_lay_49 (fun c4 => ?_) (fun c4 => ?_)
        · exact absurd c4 (by decide)
        · refine j_lconst C 1 (by decide) dX11_lay_52 ?_
          refine j_goto C 57 (by decide) dX11_lay_53 ?_
          refine j_ldc2 C tb_1080 dX11_lay_57 ?_
          refine j_S01 C (m_inB (nI b) (nI 1) (nI 27) 1 (27) (by decide) (by decide)) kyX11_in tb_1057 tb_1058 rfl (Nat.le_of_ble_eq_true rfl) ⟨by decide, by decide⟩ ⟨by decide, by decide⟩ dX11_lay_60 rfl ?_
          refine j_if_eq C 95 (by decide) dX11_lay_63 (fun c5 => ?_) (fun c5 => ?_)
          · replace c5 := bI_f c5
            refine j_iconst C (nI 0) (by decide) dX11_lay_95 ?_
            refine j_istore C [(7, .int (nI 0)), (6, .int (nI c)), (5, .int (nI b)), (4, .int (nI 0)), (0, .ref (g 0)), (1, .int (nI 108)), (2, .int (nI b)), (3, .int (nI c))] (by decide) rfl dX11_lay_96 ?_
            refine j_iload C 2 rfl dX11_lay_98 ?_
            refine j_istore C [(8, .int (nI b)), (7, .int (nI 0)), (6, .int (nI c)), (5, .int (nI b)), (4, .int (nI 0)), (0, .ref (g 0)), (1, .int (nI 108)), (2, .int (nI b)), (3, .int (nI c))] (by decide) rfl dX11_lay_100 ?_
            refine j_iload C 0 rfl dX11_lay_102 ?_
            refine j_iload C 2 rfl dX11_lay_104 ?_
            refine j_icmp_gtN C 183 (by decide) (by omega) (by omega) dX11_lay_106 (fun c6 => ?_) (fun c6 => ?_)
            · refine j_iload C 1 rfl dX11_lay_183 ?_
              refine j_w (cM g kk (sF σ 13 (σ.2.1 13))) (congrArg (cM g kk) (wrFi (S := σ) (c := 13) (v := σ.2.1 13) rfl)) ?_
              refine j_w (cM g kk (sF (sF σ 13 (σ.2.1 13)) 14 (σ.2.1 14))) (congrArg (cM g kk) (wrFi (S := (sF σ 13 (σ.2.1 13))) (c := 14) (v := σ.2.1 14) (gtFF (by decide) rfl))) ?_
              refine j_w (cM g kk (sF (sF (sF σ 13 (σ.2.1 13)) 14 (σ.2.1 14)) 15 (σ.2.1 15))) (congrArg (cM g kk) (wrFi (S := (sF (sF σ 13 (σ.2.1 13)) 14 (σ.2.1 14))) (c := 15) (v := σ.2.1 15) (gtFF (by decide) (gtFF (by decide) rfl)))) ?_
              exact j_zret C E (nbz (by omega)) (sF (sF (sF σ 13 (σ.2.1 13)) 14 (σ.2.1 14)) 15 (σ.2.1 15)) ⟨_, rfl, ⟨(σ.2.1 13), (σ.2.1 14), (σ.2.1 15), rfl, (Or.inr ⟨fun z => by have qc5 := wB_f c5 (by omega) (by decide) (by decide); have z1 := z.1; omega, rfl⟩), hS⟩⟩ rfl dX11_lay_185
            · refine j_iload C 1 rfl dX11_lay_109 ?_
              refine j_if_eqN C 183 (by decide) (by omega) dX11_lay_111 (fun c7 => ?_) (fun c7 => ?_)
              · refine j_iload C 1 rfl dX11_lay_183 ?_
                refine j_w (cM g kk (sF σ 13 (σ.2.1 13))) (congrArg (cM g kk) (wrFi (S := σ) (c := 13) (v := σ.2.1 13) rfl)) ?_
                refine j_w (cM g kk (sF (sF σ 13 (σ.2.1 13)) 14 (σ.2.1 14))) (congrArg (cM g kk) (wrFi (S := (sF σ 13 (σ.2.1 13))) (c := 14) (v := σ.2.1 14) (gtFF (by decide) rfl))) ?_
                refine j_w (cM g kk (sF (sF (sF σ 13 (σ.2.1 13)) 14 (σ.2.1 14)) 15 (σ.2.1 15))) (congrArg (cM g kk) (wrFi (S := (sF (sF σ 13 (σ.2.1 13)) 14 (σ.2.1 14))) (c := 15) (v := σ.2.1 15) (gtFF (by decide) (gtFF (by decide) rfl)))) ?_
                exact j_zret C E (nbz (by omega)) (sF (sF (sF σ 13 (σ.2.1 13)) 14 (σ.2.1 14)) 15 (σ.2.1 15)) ⟨_, rfl, ⟨(σ.2.1 13), (σ.2.1 14), (σ.2.1 15), rfl, (Or.inr ⟨fun z => by have qc5 := wB_f c5 (by omega) (by decide) (by decide); have z1 := z.1; omega, rfl⟩), hS⟩⟩ rfl dX11_lay_185
              · exact absurd c7 (by decide)
          · replace c5 := bI_t c5
            refine j_iload C 0 rfl dX11_lay_66 ?_
            refine j_i2l C dX11_lay_68 ?_
            refine j_lconst C 0 (by decide) dX11_lay_69 ?_
            refine j_ldc2 C tb_1080 dX11_lay_70 ?_
            refine j_S01 C (m_inB (nI c) (nI 0) (nI 27) 0 (27) (by decide) (by decide)) kyX11_in tb_1057 tb_1058 rfl (Nat.le_of_ble_eq_true rfl) ⟨by decide, by decide⟩ ⟨by decide, by decide⟩ dX11_lay_73 rfl ?_
            refine j_if_eq C 95 (by decide) dX11_lay_76 (fun c8 => ?_) (fun c8 => ?_)
            · replace c8 := bI_f c8
              refine j_iconst C (nI 0) (by decide) dX11_lay_95 ?_
              refine j_istore C [(7, .int (nI 0)), (6, .int (nI c)), (5, .int (nI b)), (4, .int (nI 0)), (0, .ref (g 0)), (1, .int (nI 108)), (2, .int (nI b)), (3, .int (nI c))] (by decide) rfl dX11_lay_96 ?_
              refine j_iload C 2 rfl dX11_lay_98 ?_
              refine j_istore C [(8, .int (nI b)), (7, .int (nI 0)), (6, .int (nI c)), (5, .int (nI b)), (4, .int (nI 0)), (0, .ref (g 0)), (1, .int (nI 108)), (2, .int (nI b)), (3, .int (nI c))] (by decide) rfl dX11_lay_100 ?_
              refine j_iload C 0 rfl dX11_lay_102 ?_
              refine j_iload C 2 rfl dX11_lay_104 ?_
              refine j_icmp_gtN C 183 (by decide) (by omega) (by omega) dX11_lay_106 (fun c9 => ?_) (fun c9 => ?_)
              · refine j_iload C 1 rfl dX11_lay_183 ?_
                refine j_w (cM g kk (sF σ 13 (σ.2.1 13))) (congrArg (cM g kk) (wrFi (S := σ) (c := 13) (v := σ.2.1 13) rfl)) ?_
                refine j_w (cM g kk (sF (sF σ 13 (σ.2.1 13)) 14 (σ.2.1 14))) (congrArg (cM g kk) (wrFi (S := (sF σ 13 (σ.2.1 13))) (c := 14) (v := σ.2.1 14) (gtFF (by decide) rfl))) ?_
                refine j_w (cM g kk (sF (sF (sF σ 13 (σ.2.1 13)) 14 (σ.2.1 14)) 15 (σ.2.1 15))) (congrArg (cM g kk) (wrFi (S := (sF (sF σ 13 (σ.2.1 13)) 14 (σ.2.1 14))) (c := 15) (v := σ.2.1 15) (gtFF (by decide) (gtFF (by decide) rfl)))) ?_
                exact j_zret C E (nbz (by omega)) (sF (sF (sF σ 13 (σ.2.1 13)) 14 (σ.2.1 14)) 15 (σ.2.1 15)) ⟨_, rfl, ⟨(σ.2.1 13), (σ.2.1 14), (σ.2.1 15), rfl, (Or.inr ⟨fun z => by have qc5 := wB_t c5 (by omega) (by decide) (by decide); have qc8 := wB_f c8 (by omega) (by decide) (by decide); have z1 := z.1; omega, rfl⟩), hS⟩⟩ rfl dX11_lay_185
              · refine j_iload C 1 rfl dX11_lay_109 ?_
                refine j_if_eqN C 183 (by decide) (by omega) dX11_lay_111 (fun c10 => ?_) (fun c10 => ?_)
                · refine j_iload C 1 rfl dX11_lay_183 ?_
                  refine j_w (cM g kk (sF σ 13 (σ.2.1 13))) (congrArg (cM g kk) (wrFi (S := σ) (c := 13) (v := σ.2.1 13) rfl)) ?_
                  refine j_w (cM g kk (sF (sF σ 13 (σ.2.1 13)) 14 (σ.2.1 14))) (congrArg (cM g kk) (wrFi (S := (sF σ 13 (σ.2.1 13))) (c := 14) (v := σ.2.1 14) (gtFF (by decide) rfl))) ?_
                  refine j_w (cM g kk (sF (sF (sF σ 13 (σ.2.1 13)) 14 (σ.2.1 14)) 15 (σ.2.1 15))) (congrArg (cM g kk) (wrFi (S := (sF (sF σ 13 (σ.2.1 13)) 14 (σ.2.1 14))) (c := 15) (v := σ.2.1 15) (gtFF (by decide) (gtFF (by decide) rfl)))) ?_
                  exact j_zret C E (nbz (by omega)) (sF (sF (sF σ 13 (σ.2.1 13)) 14 (σ.2.1 14)) 15 (σ.2.1 15)) ⟨_, rfl, ⟨(σ.2.1 13), (σ.2.1 14), (σ.2.1 15), rfl, (Or.inr ⟨fun z => by have qc5 := wB_t c5 (by omega) (by decide) (by decide); have qc8 := wB_f c8 (by omega) (by decide) (by decide); have z1 := z.1; omega, rfl⟩), hS⟩⟩ rfl dX11_lay_185
                · exact absurd c10 (by decide)
            · replace c8 := bI_t c8
              refine j_iload C 2 rfl dX11_lay_79 ?_
              refine j_if_neN C 91 (by decide) (by omega) dX11_lay_81 (fun c11 => ?_) (fun c11 => ?_)
              · exact absurd c11 (by decide)
              · refine j_iload C 1 rfl dX11_lay_84 ?_
                refine j_iload C 0 rfl dX11_lay_86 ?_
                refine j_icmp_geN C 95 (by decide) (by omega) (by omega) dX11_lay_88 (fun c12 => ?_) (fun c12 => ?_)
                · refine j_iconst C (nI 0) (by decide) dX11_lay_95 ?_
                  refine j_istore C [(7, .int (nI 0)), (6, .int (nI c)), (5, .int (nI b)), (4, .int (nI 0)), (0, .ref (g 0)), (1, .int (nI 108)), (2, .int (nI b)), (3, .int (nI c))] (by decide) rfl dX11_lay_96 ?_
                  refine j_iload C 2 rfl dX11_lay_98 ?_
                  refine j_istore C [(8, .int (nI b)), (7, .int (nI 0)), (6, .int (nI c)), (5, .int (nI b)), (4, .int (nI 0)), (0, .ref (g 0)), (1, .int (nI 108)), (2, .int (nI b)), (3, .int (nI c))] (by decide) rfl dX11_lay_100 ?_
                  refine j_iload C 0 rfl dX11_lay_102 ?_
                  refine j_iload C 2 rfl dX11_lay_104 ?_
                  refine j_icmp_gtN C 183 (by decide) (by omega) (by omega) dX11_lay_106 (fun c13 => ?_) (fun c13 => ?_)
                  · refine j_iload C 1 rfl dX11_lay_183 ?_
                    refine j_w (cM g kk (sF σ 13 (σ.2.1 13))) (congrArg (cM g kk) (wrFi (S := σ) (c := 13) (v := σ.2.1 13) rfl)) ?_
                    refine j_w (cM g kk (sF (sF σ 13 (σ.2.1 13)) 14 (σ.2.1 14))) (congrArg (cM g kk) (wrFi (S := (sF σ 13 (σ.2.1 13))) (c := 14) (v := σ.2.1 14) (gtFF (by decide) rfl))) ?_
                    refine j_w (cM g kk (sF (sF (sF σ 13 (σ.2.1 13)) 14 (σ.2.1 14)) 15 (σ.2.1 15))) (congrArg (cM g kk) (wrFi (S := (sF (sF σ 13 (σ.2.1 13)) 14 (σ.2.1 14))) (c := 15) (v := σ.2.1 15) (gtFF (by decide) (gtFF (by decide) rfl)))) ?_
                    exact j_zret C E (nbz (by omega)) (sF (sF (sF σ 13 (σ.2.1 13)) 14 (σ.2.1 14)) 15 (σ.2.1 15)) ⟨_, rfl, ⟨(σ.2.1 13), (σ.2.1 14), (σ.2.1 15), rfl, (Or.inr ⟨fun z => by have qc5 := wB_t c5 (by omega) (by decide) (by decide); have qc8 := wB_t c8 (by omega) (by decide) (by decide); have z1 := z.1; omega, rfl⟩), hS⟩⟩ rfl dX11_lay_185
                  · refine j_iload C 1 rfl dX11_lay_109 ?_
                    refine j_if_eqN C 183 (by decide) (by omega) dX11_lay_111 (fun c14 => ?_) (fun c14 => ?_)
                    · refine j_iload C 1 rfl dX11_lay_183 ?_
                      refine j_w (cM g kk (sF σ 13 (σ.2.1 13))) (congrArg (cM g kk) (wrFi (S := σ) (c := 13) (v := σ.2.1 13) rfl)) ?_
                      refine j_w (cM g kk (sF (sF σ 13 (σ.2.1 13)) 14 (σ.2.1 14))) (congrArg (cM g kk) (wrFi (S := (sF σ 13 (σ.2.1 13))) (c := 14) (v := σ.2.1 14) (gtFF (by decide) rfl))) ?_
                      refine j_w (cM g kk (sF (sF (sF σ 13 (σ.2.1 13)) 14 (σ.2.1 14)) 15 (σ.2.1 15))) (congrArg (cM g kk) (wrFi (S := (sF (sF σ 13 (σ.2.1 13)) 14 (σ.2.1 14))) (c := 15) (v := σ.2.1 15) (gtFF (by decide) (gtFF (by decide) rfl)))) ?_
                      exact j_zret C E (nbz (by omega)) (sF (sF (sF σ 13 (σ.2.1 13)) 14 (σ.2.1 14)) 15 (σ.2.1 15)) ⟨_, rfl, ⟨(σ.2.1 13), (σ.2.1 14), (σ.2.1 15), rfl, (Or.inr ⟨fun z => by have qc5 := wB_t c5 (by omega) (by decide) (by decide); have qc8 := wB_t c8 (by omega) (by decide) (by decide); have z1 := z.1; omega, rfl⟩), hS⟩⟩ rfl dX11_lay_185
                    · exact absurd c14 (by decide)
                · refine j_iconst C (nI 1) (by decide) dX11_lay_91 ?_
                  refine j_goto C 96 (by decide) dX11_lay_92 ?_
                  refine j_istore C [(7, .int (nI 1)), (6, .int (nI c)), (5, .int (nI b)), (4, .int (nI 0)), (0, .ref (g 0)), (1, .int (nI 108)), (2, .int (nI b)), (3, .int (nI c))] (by decide) rfl dX11_lay_96 ?_
                  have qc5 := wB_t c5 (by omega) (by decide) (by decide)
                  have qc8 := wB_t c8 (by omega) (by decide) (by decide)
                  refine j_iload C 2 rfl dX11_lay_98 ?_
                  refine j_istore C [(8, .int (nI b)), (7, .int (nI 1)), (6, .int (nI c)), (5, .int (nI b)), (4, .int (nI 0)), (0, .ref (g 0)), (1, .int (nI 108)), (2, .int (nI b)), (3, .int (nI c))] (by decide) rfl dX11_lay_100 ?_
                  have L102 : ∀ (n102 : Nat) (d : Nat) (g2 : Nat) (fN : Nat → Int32) (fF : Nat → Int32) (fL : Nat → Int32) (i102_0 : b ≤ d) (i102_1 : d ≤ c + 1) (i102_2 : g2 ≤ 1) (hN : fN = fillR (σ.2.1 13) b (d - b) (nI 2)) (hF : fF = fillR (σ.2.1 14) b (d - b) (nI b)) (hLl : fL = fillR (σ.2.1 15) b (d - b) (nI c)) (hz1 : g2 = 1 → ∀ j, b ≤ j → j < d → σ.2.1 13 j = 0) (hz0 : g2 = 0 → ∃ j, b ≤ j ∧ j ≤ c ∧ ¬ σ.2.1 13 j = 0) (hs : al_ 28 27 fF) (hm102 : 28 - d < n102), J X 0 0 (cM g kk (sF (sF (sF σ 13 fN) 14 fF) 15 fL)) [(8, .int (nI d)), (7, .int (nI g2)), (6, .int (nI c)), (5, .int (nI b)), (4, .int (nI 0)), (0, .ref (g 0)), (1, .int (nI 108)), (2, .int (nI b)), (3, .int (nI c))] 102 [] := by
                    intro n102
                    induction n102 with
                    | zero => intro d g2 fN fF fL i102_0 i102_1 i102_2 hN hF hLl hz1 hz0 hs hm; exact absurd hm (Nat.not_lt_zero _)
                    | succ n102 ih102 =>
                      intro d g2 fN fF fL i102_0 i102_1 i102_2 hN hF hLl hz1 hz0 hs hm102
                      refine j_iload C 0 rfl dX11_lay_102 ?_
                      refine j_iload C 2 rfl dX11_lay_104 ?_
                      refine j_icmp_gtN C 183 (by decide) (by omega) (by omega) dX11_lay_106 (fun c15 => ?_) (fun c15 => ?_)
                      · refine j_iload C 1 rfl dX11_lay_183 ?_
                        exact j_zret C E (nbz (by omega)) (sF (sF (sF σ 13 fN) 14 fF) 15 fL) ⟨_, rfl, ⟨fN, fF, fL, rfl, (by rcases (show g2 = 0 ∨ g2 = 1 by omega) with w | w; exact Or.inr ⟨fun z => by obtain ⟨j, j1, j2, j3⟩ := hz0 w; exact j3 (z.2 j j1 j2), by rw [w]⟩; exact Or.inl ⟨⟨by omega, fun j z1 z2 => hz1 w j z1 (by omega)⟩, by rw [w], fR_e hN (by omega), fR_e hF (by omega), fR_e hLl (by omega)⟩), hs⟩⟩ rfl dX11_lay_185
                      · refine j_iload C 1 rfl dX11_lay_109 ?_
                        refine j_if_eqN C 183 (by decide) (by omega) dX11_lay_111 (fun c16 => ?_) (fun c16 => ?_)
                        · refine j_iload C 1 rfl dX11_lay_183 ?_
                          exact j_zret C E (nbz (by omega)) (sF (sF (sF σ 13 fN) 14 fF) 15 fL) ⟨_, rfl, ⟨fN, fF, fL, rfl, (by have w := c16; exact Or.inr ⟨fun z => by obtain ⟨j, j1, j2, j3⟩ := hz0 w; exact j3 (z.2 j j1 j2), by rw [w]⟩), hs⟩⟩ rfl dX11_lay_185
                        · refine j_aload_n C 5 rfl dX11_lay_114 ?_
                          refine gM_0_19 C tb_892 dX11_lay_115 ?_
                          refine j_iload C 0 rfl dX11_lay_118 ?_
                          refine rM_13 C d rfl (by omega) (fN d) rfl dX11_lay_120 ?_
                          refine j_if_ne C 128 (by decide) dX11_lay_121 (fun c17 => ?_) (fun c17 => ?_)
                          · refine j_iconst C (nI 0) (by decide) dX11_lay_128 ?_
                            refine j_istore C [(7, .int (nI 0)), (8, .int (nI d)), (6, .int (nI c)), (5, .int (nI b)), (4, .int (nI 0)), (0, .ref (g 0)), (1, .int (nI 108)), (2, .int (nI b)), (3, .int (nI c))] (by decide) rfl dX11_lay_129 ?_
                            refine j_aload_n C 5 rfl dX11_lay_131 ?_
                            refine gM_0_19 C tb_892 dX11_lay_132 ?_
                            refine j_iload C 1 rfl dX11_lay_135 ?_
                            refine j_iload_n C 6 rfl dX11_lay_137 ?_
                            refine j_bipush C (nI 120) (by decide) dX11_lay_138 ?_
                            refine j_icmp_neN C 147 (by decide) (by omega) (by omega) dX11_lay_140 (fun c18 => ?_) (fun c18 => ?_)
                            · refine j_iload_n C 6 rfl dX11_lay_147 ?_
                              refine j_bipush C (nI 108) (by decide) dX11_lay_148 ?_
                              refine j_icmp_neN C 157 (by decide) (by omega) (by omega) dX11_lay_150 (fun c19 => ?_) (fun c19 => ?_)
                              · exact absurd c19 (by decide)
                              · refine j_iconst C (nI 2) (by decide) dX11_lay_153 ?_
                                refine j_goto C 158 (by decide) dX11_lay_154 ?_
                                refine tM_13 C d rfl (by omega) dX11_lay_158 ?_
                                refine j_aload_n C 5 rfl dX11_lay_159 ?_
                                refine gM_0_20 C tb_893 dX11_lay_160 ?_
                                refine j_iload C 1 rfl dX11_lay_163 ?_
                                refine j_iload C 3 rfl dX11_lay_165 ?_
                                refine tM_14 C d rfl (by omega) dX11_lay_167 ?_
                                refine j_aload_n C 5 rfl dX11_lay_168 ?_
                                refine gM_0_21 C tb_894 dX11_lay_169 ?_
                                refine j_iload C 1 rfl dX11_lay_172 ?_
                                refine j_iload C 2 rfl dX11_lay_174 ?_
                                refine tM_15 C d rfl (by omega) dX11_lay_176 ?_
                                refine j_iinc C (nI (d + 1)) [(8, .int (nI (d + 1))), (7, .int (nI 0)), (6, .int (nI c)), (5, .int (nI b)), (4, .int (nI 0)), (0, .ref (g 0)), (1, .int (nI 108)), (2, .int (nI b)), (3, .int (nI c))] 1 rfl (by rw [show Int32.ofInt 1 = nI 1 from by decide, nI_add]) (by decide) rfl dX11_lay_177 ?_
                                refine j_goto C 102 (by decide) dX11_lay_180 ?_
                                refine j_w (cM g kk (sF (sF (sF σ 13 (upd fN d (nI 2))) 14 (upd fF d (nI b))) 15 (upd fL d (nI c)))) (congrArg (cM g kk) (show sF (sF (sF (sF (sF (sF σ 13 fN) 14 fF) 15 fL) 13 (upd fN d (nI 2))) 14 (upd fF d (nI b))) 15 (upd fL d (nI c)) = sF (sF (sF σ 13 (upd fN d (nI 2))) 14 (upd fF d (nI b))) 15 (upd fL d (nI c)) from (Eq.trans (wrF (Eq.trans (wrF (Eq.trans (wrFc (by decide)) (wrF (Eq.trans (wrFc (by decide)) (wrF wrFs))))) (Eq.trans (wrFc (by decide)) (wrF wrFs)))) wrFs))) ?_
                                exact ih102 (d + 1) 0 (upd fN d (nI 2)) (upd fF d (nI b)) (upd fL d (nI c)) (by omega) (by omega) (by omega) (fR_s hN (by omega)) (fR_s hF (by omega)) (fR_s hLl (by omega)) (fun q => absurd q (by decide)) (fun _ => ⟨d, by omega, by omega, by rw [← fR_d hN]; exact c17⟩) (al_upd hs ⟨_, by omega, rfl⟩) (by omega)
                            · exact absurd c18 (by decide)
                          · refine j_iconst C (nI 1) (by decide) dX11_lay_124 ?_
                            refine j_goto C 129 (by decide) dX11_lay_125 ?_
                            refine j_istore C [(7, .int (nI 1)), (8, .int (nI d)), (6, .int (nI c)), (5, .int (nI b)), (4, .int (nI 0)), (0, .ref (g 0)), (1, .int (nI 108)), (2, .int (nI b)), (3, .int (nI c))] (by decide) rfl dX11_lay_129 ?_
                            refine j_aload_n C 5 rfl dX11_lay_131 ?_
                            refine gM_0_19 C tb_892 dX11_lay_132 ?_
                            refine j_iload C 1 rfl dX11_lay_135 ?_
                            refine j_iload_n C 6 rfl dX11_lay_137 ?_
                            refine j_bipush C (nI 120) (by decide) dX11_lay_138 ?_
                            refine j_icmp_neN C 147 (by decide) (by omega) (by omega) dX11_lay_140 (fun c20 => ?_) (fun c20 => ?_)
                            · refine j_iload_n C 6 rfl dX11_lay_147 ?_
                              refine j_bipush C (nI 108) (by decide) dX11_lay_148 ?_
                              refine j_icmp_neN C 157 (by decide) (by omega) (by omega) dX11_lay_150 (fun c21 => ?_) (fun c21 => ?_)
                              · exact absurd c21 (by decide)
                              · refine j_iconst C (nI 2) (by decide) dX11_lay_153 ?_
                                refine j_goto C 158 (by decide) dX11_lay_154 ?_
                                refine tM_13 C d rfl (by omega) dX11_lay_158 ?_
                                refine j_aload_n C 5 rfl dX11_lay_159 ?_
                                refine gM_0_20 C tb_893 dX11_lay_160 ?_
                                refine j_iload C 1 rfl dX11_lay_163 ?_
                                refine j_iload C 3 rfl dX11_lay_165 ?_
                                refine tM_14 C d rfl (by omega) dX11_lay_167 ?_
                                refine j_aload_n C 5 rfl dX11_lay_168 ?_
                                refine gM_0_21 C tb_894 dX11_lay_169 ?_
                                refine j_iload C 1 rfl dX11_lay_172 ?_
                                refine j_iload C 2 rfl dX11_lay_174 ?_
                                refine tM_15 C d rfl (by omega) dX11_lay_176 ?_
                                refine j_iinc C (nI (d + 1)) [(8, .int (nI (d + 1))), (7, .int (nI 1)), (6, .int (nI c)), (5, .int (nI b)), (4, .int (nI 0)), (0, .ref (g 0)), (1, .int (nI 108)), (2, .int (nI b)), (3, .int (nI c))] 1 rfl (by rw [show Int32.ofInt 1 = nI 1 from by decide, nI_add]) (by decide) rfl dX11_lay_177 ?_
                                refine j_goto C 102 (by decide) dX11_lay_180 ?_
                                refine j_w (cM g kk (sF (sF (sF σ 13 (upd fN d (nI 2))) 14 (upd fF d (nI b))) 15 (upd fL d (nI c)))) (congrArg (cM g kk) (show sF (sF (sF (sF (sF (sF σ 13 fN) 14 fF) 15 fL) 13 (upd fN d (nI 2))) 14 (upd fF d (nI b))) 15 (upd fL d (nI c)) = sF (sF (sF σ 13 (upd fN d (nI 2))) 14 (upd fF d (nI b))) 15 (upd fL d (nI c)) from (Eq.trans (wrF (Eq.trans (wrF (Eq.trans (wrFc (by decide)) (wrF (Eq.trans (wrFc (by decide)) (wrF wrFs))))) (Eq.trans (wrFc (by decide)) (wrF wrFs)))) wrFs))) ?_
                                exact ih102 (d + 1) 1 (upd fN d (nI 2)) (upd fF d (nI b)) (upd fL d (nI c)) (by omega) (by omega) (by omega) (fR_s hN (by omega)) (fR_s hF (by omega)) (fR_s hLl (by omega)) (fun _ => hz_s hN (hz1 (by omega)) c17) (fun q => absurd q (by decide)) (al_upd hs ⟨_, by omega, rfl⟩) (by omega)
                            · exact absurd c20 (by decide)
                  refine j_w (cM g kk (sF σ 13 (σ.2.1 13))) (congrArg (cM g kk) (wrFi (S := σ) (c := 13) (v := σ.2.1 13) rfl)) ?_
                  refine j_w (cM g kk (sF (sF σ 13 (σ.2.1 13)) 14 (σ.2.1 14))) (congrArg (cM g kk) (wrFi (S := (sF σ 13 (σ.2.1 13))) (c := 14) (v := σ.2.1 14) (gtFF (by decide) rfl))) ?_
                  refine j_w (cM g kk (sF (sF (sF σ 13 (σ.2.1 13)) 14 (σ.2.1 14)) 15 (σ.2.1 15))) (congrArg (cM g kk) (wrFi (S := (sF (sF σ 13 (σ.2.1 13)) 14 (σ.2.1 14))) (c := 15) (v := σ.2.1 15) (gtFF (by decide) (gtFF (by decide) rfl)))) ?_
                  exact L102 _ b 1 (σ.2.1 13) (σ.2.1 14) (σ.2.1 15) (by omega) (by omega) (by omega) fR_00 fR_00 fR_00 (fun _ j z1 z2 => absurd z2 (by omega)) (fun q => absurd q (by decide)) hS (Nat.lt_succ_self _)
      · exact absurd c3 (by decide)
    · exact absurd c2 (by decide)
  · exact absurd c1 (Nat.not_lt_zero _)
set_option maxRecDepth 100000 in
set_option maxHeartbeats 4000000 in
theorem o_ly115_2 (g kk : Nat → Nat) (σ : St) (k : Nat) (hk : σ.1 3 = nI k) (hk6 : k ≤ 6) (hI : iM σ) (hS : al_ 28 27 (σ.2.1 14)) (b : Nat) (hb0 : b ≤ 99) (c : Nat) (hc0 : c ≤ 99) : jM (S := St) yX11_lay cX11_lay 9 (some .boolean) { frames := 1, cells := 0, slots := 0, locals := 25 } kk (cM g kk σ) [.ref (g 0), .int (nI 115), .int (nI b), .int (nI c)] (cM g kk) (rI (fun (r : Int32) (u : St) => ∃ (pF13 : Nat → Int32) (pF14 : Nat → Int32) (pF15 : Nat → Int32), u = sF (sF (sF σ 13 pF13) 14 pF14) 15 pF15 ∧ ((((b < c ∧ c ≤ 27) ∧ okR (σ.2.1 13) (b) (c)) ∧ r = nI 1 ∧ pF13 = fillR (σ.2.1 13) (b) (c + 1 - (b)) (nI 3) ∧ pF14 = fillR (σ.2.1 14) (b) (c + 1 - (b)) (nI (b)) ∧ pF15 = fillR (σ.2.1 15) (b) (c + 1 - (b)) (nI (c))) ∨ (¬ ((b < c ∧ c ≤ 27) ∧ okR (σ.2.1 13) (b) (c)) ∧ r = nI 0)) ∧ (al_ 28 27 pF14))) := by
  refine j_entry [(0, .ref (g 0)), (1, .int (nI 115)), (2, .int (nI b)), (3, .int (nI c))] (by decide) (Nat.le_of_ble_eq_true rfl) rfl ?_
  intro X C E HI
  refine j_iload_n C 3 rfl dX11_lay_0 ?_
  refine j_if_geN C 8 (by decide) (by omega) dX11_lay_1 (fun c1 => ?_) (fun c1 => ?_)
  · refine j_iconst C (nI 0) (by decide) dX11_lay_8 ?_
    refine j_istore C [(4, .int (nI 0)), (0, .ref (g 0)), (1, .int (nI 115)), (2, .int (nI b)), (3, .int (nI c))] (by decide) rfl dX11_lay_9 ?_
    refine j_iload C 0 rfl dX11_lay_11 ?_
    refine j_if_eqN C 28 (by decide) (by omega) dX11_lay_13 (fun c2 => ?_) (fun c2 => ?_)
    · refine j_iload_n C 3 rfl dX11_lay_28 ?_
      refine j_istore C [(5, .int (nI b)), (4, .int (nI 0)), (0, .ref (g 0)), (1, .int (nI 115)), (2, .int (nI b)), (3, .int (nI c))] (by decide) rfl dX11_lay_29 ?_
      refine j_iload C 1 rfl dX11_lay_31 ?_
      refine j_if_eqN C 40 (by decide) (by omega) dX11_lay_33 (fun c3 => ?_) (fun c3 => ?_)
      · refine j_iload_n C 5 rfl dX11_lay_40 ?_
        refine j_istore C [(6, .int (nI c)), (5, .int (nI b)), (4, .int (nI 0)), (0, .ref (g 0)), (1, .int (nI 115)), (2, .int (nI b)), (3, .int (nI c))] (by decide) rfl dX11_lay_41 ?_
        refine j_iload C 1 rfl dX11_lay_43 ?_
        refine j_i2l C dX11_lay_45 ?_
        refine j_iload_n C 4 rfl dX11_lay_46 ?_
        refine j_bipush C (nI 108) (by decide) dX11_lay_47 ?_
        refine j_icmp_neN C 56 (by decide) (by omega) (by omega) dX11_lay_49 (fun c4 => ?_) (fun c4 => ?_)
        · refine j_lconst C 0 (by decide) dX11_lay_56 ?_
          refine j_ldc2 C tb_1080 dX11_lay_57 ?_
          refine j_S01 C (m_inB (nI b) (nI 0) (nI 27) 0 (27) (by decide) (by decide)) kyX11_in tb_1057 tb_1058 rfl (Nat.le_of_ble_eq_true rfl) ⟨by decide, by decide⟩ ⟨by decide, by decide⟩ dX11_lay_60 rfl ?_
          refine j_if_eq C 95 (by decide) dX11_lay_63 (fun c5 => ?_) (fun c5 => ?_)
          · replace c5 := bI_f c5
            refine j_iconst C (nI 0) (by decide) dX11_lay_95 ?_
            refine j_istore C [(7, .int (nI 0)), (6, .int (nI c)), (5, .int (nI b)), (4, .int (nI 0)), (0, .ref (g 0)), (1, .int (nI 115)), (2, .int (nI b)), (3, .int (nI c))] (by decide) rfl dX11_lay_96 ?_
            refine j_iload C 2 rfl dX11_lay_98 ?_
            refine j_istore C [(8, .int (nI b)), (7, .int (nI 0)), (6, .int (nI c)), (5, .int (nI b)), (4, .int (nI 0)), (0, .ref (g 0)), (1, .int (nI 115)), (2, .int (nI b)), (3, .int (nI c))] (by decide) rfl dX11_lay_100 ?_
            refine j_iload C 0 rfl dX11_lay_102 ?_
            refine j_iload C 2 rfl dX11_lay_104 ?_
            refine j_icmp_gtN C 183 (by decide) (by omega) (by omega) dX11_lay_106 (fun c6 => ?_) (fun c6 => ?_)
            · refine j_iload C 1 rfl dX11_lay_183 ?_
              refine j_w (cM g kk (sF σ 13 (σ.2.1 13))) (congrArg (cM g kk) (wrFi (S := σ) (c := 13) (v := σ.2.1 13) rfl)) ?_
              refine j_w (cM g kk (sF (sF σ 13 (σ.2.1 13)) 14 (σ.2.1 14))) (congrArg (cM g kk) (wrFi (S := (sF σ 13 (σ.2.1 13))) (c := 14) (v := σ.2.1 14) (gtFF (by decide) rfl))) ?_
              refine j_w (cM g kk (sF (sF (sF σ 13 (σ.2.1 13)) 14 (σ.2.1 14)) 15 (σ.2.1 15))) (congrArg (cM g kk) (wrFi (S := (sF (sF σ 13 (σ.2.1 13)) 14 (σ.2.1 14))) (c := 15) (v := σ.2.1 15) (gtFF (by decide) (gtFF (by decide) rfl)))) ?_
              exact j_zret C E (nbz (by omega)) (sF (sF (sF σ 13 (σ.2.1 13)) 14 (σ.2.1 14)) 15 (σ.2.1 15)) ⟨_, rfl, ⟨(σ.2.1 13), (σ.2.1 14), (σ.2.1 15), rfl, (Or.inr ⟨fun z => by have qc5 := wB_f c5 (by omega) (by decide) (by decide); have z1 := z.1; omega, rfl⟩), hS⟩⟩ rfl dX11_lay_185
            · refine j_iload C 1 rfl dX11_lay_109 ?_
              refine j_if_eqN C 183 (by decide) (by omega) dX11_lay_111 (fun c7 => ?_) (fun c7 => ?_)
              · refine j_iload C 1 rfl dX11_lay_183 ?_
                refine j_w (cM g kk (sF σ 13 (σ.2.1 13))) (congrArg (cM g kk) (wrFi (S := σ) (c := 13) (v := σ.2.1 13) rfl)) ?_
                refine j_w (cM g kk (sF (sF σ 13 (σ.2.1 13)) 14 (σ.2.1 14))) (congrArg (cM g kk) (wrFi (S := (sF σ 13 (σ.2.1 13))) (c := 14) (v := σ.2.1 14) (gtFF (by decide) rfl))) ?_
                refine j_w (cM g kk (sF (sF (sF σ 13 (σ.2.1 13)) 14 (σ.2.1 14)) 15 (σ.2.1 15))) (congrArg (cM g kk) (wrFi (S := (sF (sF σ 13 (σ.2.1 13)) 14 (σ.2.1 14))) (c := 15) (v := σ.2.1 15) (gtFF (by decide) (gtFF (by decide) rfl)))) ?_
                exact j_zret C E (nbz (by omega)) (sF (sF (sF σ 13 (σ.2.1 13)) 14 (σ.2.1 14)) 15 (σ.2.1 15)) ⟨_, rfl, ⟨(σ.2.1 13), (σ.2.1 14), (σ.2.1 15), rfl, (Or.inr ⟨fun z => by have qc5 := wB_f c5 (by omega) (by decide) (by decide); have z1 := z.1; omega, rfl⟩), hS⟩⟩ rfl dX11_lay_185
              · exact absurd c7 (by decide)
          · replace c5 := bI_t c5
            refine j_iload C 0 rfl dX11_lay_66 ?_
            refine j_i2l C dX11_lay_68 ?_
            refine j_lconst C 0 (by decide) dX11_lay_69 ?_
            refine j_ldc2 C tb_1080 dX11_lay_70 ?_
            refine j_S01 C (m_inB (nI c) (nI 0) (nI 27) 0 (27) (by decide) (by decide)) kyX11_in tb_1057 tb_1058 rfl (Nat.le_of_ble_eq_true rfl) ⟨by decide, by decide⟩ ⟨by decide, by decide⟩ dX11_lay_73 rfl ?_
            refine j_if_eq C 95 (by decide) dX11_lay_76 (fun c8 => ?_) (fun c8 => ?_)
            · replace c8 := bI_f c8
              refine j_iconst C (nI 0) (by decide) dX11_lay_95 ?_
              refine j_istore C [(7, .int (nI 0)), (6, .int (nI c)), (5, .int (nI b)), (4, .int (nI 0)), (0, .ref (g 0)), (1, .int (nI 115)), (2, .int (nI b)), (3, .int (nI c))] (by decide) rfl dX11_lay_96 ?_
              refine j_iload C 2 rfl dX11_lay_98 ?_
              refine j_istore C [(8, .int (nI b)), (7, .int (nI 0)), (6, .int (nI c)), (5, .int (nI b)), (4, .int (nI 0)), (0, .ref (g 0)), (1, .int (nI 115)), (2, .int (nI b)), (3, .int (nI c))] (by decide) rfl dX11_lay_100 ?_
              refine j_iload C 0 rfl dX11_lay_102 ?_
              refine j_iload C 2 rfl dX11_lay_104 ?_
              refine j_icmp_gtN C 183 (by decide) (by omega) (by omega) dX11_lay_106 (fun c9 => ?_) (fun c9 => ?_)
              · refine j_iload C 1 rfl dX11_lay_183 ?_
                refine j_w (cM g kk (sF σ 13 (σ.2.1 13))) (congrArg (cM g kk) (wrFi (S := σ) (c := 13) (v := σ.2.1 13) rfl)) ?_
                refine j_w (cM g kk (sF (sF σ 13 (σ.2.1 13)) 14 (σ.2.1 14))) (congrArg (cM g kk) (wrFi (S := (sF σ 13 (σ.2.1 13))) (c := 14) (v := σ.2.1 14) (gtFF (by decide) rfl))) ?_
                refine j_w (cM g kk (sF (sF (sF σ 13 (σ.2.1 13)) 14 (σ.2.1 14)) 15 (σ.2.1 15))) (congrArg (cM g kk) (wrFi (S := (sF (sF σ 13 (σ.2.1 13)) 14 (σ.2.1 14))) (c := 15) (v := σ.2.1 15) (gtFF (by decide) (gtFF (by decide) rfl)))) ?_
                exact j_zret C E (nbz (by omega)) (sF (sF (sF σ 13 (σ.2.1 13)) 14 (σ.2.1 14)) 15 (σ.2.1 15)) ⟨_, rfl, ⟨(σ.2.1 13), (σ.2.1 14), (σ.2.1 15), rfl, (Or.inr ⟨fun z => by have qc5 := wB_t c5 (by omega) (by decide) (by decide); have qc8 := wB_f c8 (by omega) (by decide) (by decide); have z1 := z.1; omega, rfl⟩), hS⟩⟩ rfl dX11_lay_185
              · refine j_iload C 1 rfl dX11_lay_109 ?_
                refine j_if_eqN C 183 (by decide) (by omega) dX11_lay_111 (fun c10 => ?_) (fun c10 => ?_)
                · refine j_iload C 1 rfl dX11_lay_183 ?_
                  refine j_w (cM g kk (sF σ 13 (σ.2.1 13))) (congrArg (cM g kk) (wrFi (S := σ) (c := 13) (v := σ.2.1 13) rfl)) ?_
                  refine j_w (cM g kk (sF (sF σ 13 (σ.2.1 13)) 14 (σ.2.1 14))) (congrArg (cM g kk) (wrFi (S := (sF σ 13 (σ.2.1 13))) (c := 14) (v := σ.2.1 14) (gtFF (by decide) rfl))) ?_
                  refine j_w (cM g kk (sF (sF (sF σ 13 (σ.2.1 13)) 14 (σ.2.1 14)) 15 (σ.2.1 15))) (congrArg (cM g kk) (wrFi (S := (sF (sF σ 13 (σ.2.1 13)) 14 (σ.2.1 14))) (c := 15) (v := σ.2.1 15) (gtFF (by decide) (gtFF (by decide) rfl)))) ?_
                  exact j_zret C E (nbz (by omega)) (sF (sF (sF σ 13 (σ.2.1 13)) 14 (σ.2.1 14)) 15 (σ.2.1 15)) ⟨_, rfl, ⟨(σ.2.1 13), (σ.2.1 14), (σ.2.1 15), rfl, (Or.inr ⟨fun z => by have qc5 := wB_t c5 (by omega) (by decide) (by decide); have qc8 := wB_f c8 (by omega) (by decide) (by decide); have z1 := z.1; omega, rfl⟩), hS⟩⟩ rfl dX11_lay_185
                · exact absurd c10 (by decide)
            · replace c8 := bI_t c8
              refine j_iload C 2 rfl dX11_lay_79 ?_
              refine j_if_neN C 91 (by decide) (by omega) dX11_lay_81 (fun c11 => ?_) (fun c11 => ?_)
              · exact absurd c11 (by decide)
              · refine j_iload C 1 rfl dX11_lay_84 ?_
                refine j_iload C 0 rfl dX11_lay_86 ?_
                refine j_icmp_geN C 95 (by decide) (by omega) (by omega) dX11_lay_88 (fun c12 => ?_) (fun c12 => ?_)
                · refine j_iconst C (nI 0) (by decide) dX11_lay_95 ?_
                  refine j_istore C [(7, .int (nI 0)), (6, .int (nI c)), (5, .int (nI b)), (4, .int (nI 0)), (0, .ref (g 0)), (1, .int (nI 115)), (2, .int (nI b)), (3, .int (nI c))] (by decide) rfl dX11_lay_96 ?_
                  refine j_iload C 2 rfl dX11_lay_98 ?_
                  refine j_istore C [(8, .int (nI b)), (7, .int (nI 0)), (6, .int (nI c)), (5, .int (nI b)), (4, .int (nI 0)), (0, .ref (g 0)), (1, .int (nI 115)), (2, .int (nI b)), (3, .int (nI c))] (by decide) rfl dX11_lay_100 ?_
                  refine j_iload C 0 rfl dX11_lay_102 ?_
                  refine j_iload C 2 rfl dX11_lay_104 ?_
                  refine j_icmp_gtN C 183 (by decide) (by omega) (by omega) dX11_lay_106 (fun c13 => ?_) (fun c13 => ?_)
                  · refine j_iload C 1 rfl dX11_lay_183 ?_
                    refine j_w (cM g kk (sF σ 13 (σ.2.1 13))) (congrArg (cM g kk) (wrFi (S := σ) (c := 13) (v := σ.2.1 13) rfl)) ?_
                    refine j_w (cM g kk (sF (sF σ 13 (σ.2.1 13)) 14 (σ.2.1 14))) (congrArg (cM g kk) (wrFi (S := (sF σ 13 (σ.2.1 13))) (c := 14) (v := σ.2.1 14) (gtFF (by decide) rfl))) ?_
                    refine j_w (cM g kk (sF (sF (sF σ 13 (σ.2.1 13)) 14 (σ.2.1 14)) 15 (σ.2.1 15))) (congrArg (cM g kk) (wrFi (S := (sF (sF σ 13 (σ.2.1 13)) 14 (σ.2.1 14))) (c := 15) (v := σ.2.1 15) (gtFF (by decide) (gtFF (by decide) rfl)))) ?_
                    exact j_zret C E (nbz (by omega)) (sF (sF (sF σ 13 (σ.2.1 13)) 14 (σ.2.1 14)) 15 (σ.2.1 15)) ⟨_, rfl, ⟨(σ.2.1 13), (σ.2.1 14), (σ.2.1 15), rfl, (Or.inr ⟨fun z => by have qc5 := wB_t c5 (by omega) (by decide) (by decide); have qc8 := wB_t c8 (by omega) (by decide) (by decide); have z1 := z.1; omega, rfl⟩), hS⟩⟩ rfl dX11_lay_185
                  · refine j_iload C 1 rfl dX11_lay_109 ?_
                    refine j_if_eqN C 183 (by decide) (by omega) dX11_lay_111 (fun c14 => ?_) (fun c14 => ?_)
                    · refine j_iload C 1 rfl dX11_lay_183 ?_
                      refine j_w (cM g kk (sF σ 13 (σ.2.1 13))) (congrArg (cM g kk) (wrFi (S := σ) (c := 13) (v := σ.2.1 13) rfl)) ?_
                      refine j_w (cM g kk (sF (sF σ 13 (σ.2.1 13)) 14 (σ.2.1 14))) (congrArg (cM g kk) (wrFi (S := (sF σ 13 (σ.2.1 13))) (c := 14) (v := σ.2.1 14) (gtFF (by decide) rfl))) ?_
                      refine j_w (cM g kk (sF (sF (sF σ 13 (σ.2.1 13)) 14 (σ.2.1 14)) 15 (σ.2.1 15))) (congrArg (cM g kk) (wrFi (S := (sF (sF σ 13 (σ.2.1 13)) 14 (σ.2.1 14))) (c := 15) (v := σ.2.1 15) (gtFF (by decide) (gtFF (by decide) rfl)))) ?_
                      exact j_zret C E (nbz (by omega)) (sF (sF (sF σ 13 (σ.2.1 13)) 14 (σ.2.1 14)) 15 (σ.2.1 15)) ⟨_, rfl, ⟨(σ.2.1 13), (σ.2.1 14), (σ.2.1 15), rfl, (Or.inr ⟨fun z => by have qc5 := wB_t c5 (by omega) (by decide) (by decide); have qc8 := wB_t c8 (by omega) (by decide) (by decide); have z1 := z.1; omega, rfl⟩), hS⟩⟩ rfl dX11_lay_185
                    · exact absurd c14 (by decide)
                · refine j_iconst C (nI 1) (by decide) dX11_lay_91 ?_
                  refine j_goto C 96 (by decide) dX11_lay_92 ?_
                  refine j_istore C [(7, .int (nI 1)), (6, .int (nI c)), (5, .int (nI b)), (4, .int (nI 0)), (0, .ref (g 0)), (1, .int (nI 115)), (2, .int (nI b)), (3, .int (nI c))] (by decide) rfl dX11_lay_96 ?_
                  have qc5 := wB_t c5 (by omega) (by decide) (by decide)
                  have qc8 := wB_t c8 (by omega) (by decide) (by decide)
                  refine j_iload C 2 rfl dX11_lay_98 ?_
                  refine j_istore C [(8, .int (nI b)), (7, .int (nI 1)), (6, .int (nI c)), (5, .int (nI b)), (4, .int (nI 0)), (0, .ref (g 0)), (1, .int (nI 115)), (2, .int (nI b)), (3, .int (nI c))] (by decide) rfl dX11_lay_100 ?_
                  have L102 : ∀ (n102 : Nat) (d : Nat) (g2 : Nat) (fN : Nat → Int32) (fF : Nat → Int32) (fL : Nat → Int32) (i102_0 : b ≤ d) (i102_1 : d ≤ c + 1) (i102_2 : g2 ≤ 1) (hN : fN = fillR (σ.2.1 13) b (d - b) (nI 3)) (hF : fF = fillR (σ.2.1 14) b (d - b) (nI b)) (hLl : fL = fillR (σ.2.1 15) b (d - b) (nI c)) (hz1 : g2 = 1 → ∀ j, b ≤ j → j < d → σ.2.1 13 j = 0) (hz0 : g2 = 0 → ∃ j, b ≤ j ∧ j ≤ c ∧ ¬ σ.2.1 13 j = 0) (hs : al_ 28 27 fF) (hm102 : 28 - d < n102), J X 0 0 (cM g kk (sF (sF (sF σ 13 fN) 14 fF) 15 fL)) [(8, .int (nI d)), (7, .int (nI g2)), (6, .int (nI c)), (5, .int (nI b)), (4, .int (nI 0)), (0, .ref (g 0)), (1, .int (nI 115)), (2, .int (nI b)), (3, .int (nI c))] 102 [] := by
                    intro n102
                    induction n102 with
                    | zero => intro d g2 fN fF fL i102_0 i102_1 i102_2 hN hF hLl hz1 hz0 hs hm; exact absurd hm (Nat.not_lt_zero _)
                    | succ n102 ih102 =>
                      intro d g2 fN fF fL i102_0 i102_1 i102_2 hN hF hLl hz1 hz0 hs hm102
                      refine j_iload C 0 rfl dX11_lay_102 ?_
                      refine j_iload C 2 rfl dX11_lay_104 ?_
                      refine j_icmp_gtN C 183 (by decide) (by omega) (by omega) dX11_lay_106 (fun c15 => ?_) (fun c15 => ?_)
                      · refine j_iload C 1 rfl dX11_lay_183 ?_
                        exact j_zret C E (nbz (by omega)) (sF (sF (sF σ 13 fN) 14 fF) 15 fL) ⟨_, rfl, ⟨fN, fF, fL, rfl, (by rcases (show g2 = 0 ∨ g2 = 1 by omega) with w | w; exact Or.inr ⟨fun z => by obtain ⟨j, j1, j2, j3⟩ := hz0 w; exact j3 (z.2 j j1 j2), by rw [w]⟩; exact Or.inl ⟨⟨by omega, fun j z1 z2 => hz1 w j z1 (by omega)⟩, by rw [w], fR_e hN (by omega), fR_e hF (by omega), fR_e hLl (by omega)⟩), hs⟩⟩ rfl dX11_lay_185
                      · refine j_iload C 1 rfl dX11_lay_109 ?_
                        refine j_if_eqN C 183 (by decide) (by omega) dX11_lay_111 (fun c16 => ?_) (fun c16 => ?_)
                        · refine j_iload C 1 rfl dX11_lay_183 ?_
                          exact j_zret C E (nbz (by omega)) (sF (sF (sF σ 13 fN) 14 fF) 15 fL) ⟨_, rfl, ⟨fN, fF, fL, rfl, (by have w := c16; exact Or.inr ⟨fun z => by obtain ⟨j, j1, j2, j3⟩ := hz0 w; exact j3 (z.2 j j1 j2), by rw [w]⟩), hs⟩⟩ rfl dX11_lay_185
                        · refine j_aload_n C 5 rfl dX11_lay_114 ?_
                          refine gM_0_19 C tb_892 dX11_lay_115 ?_
                          refine j_iload C 0 rfl dX11_lay_118 ?_
                          refine rM_13 C d rfl (by omega) (fN d) rfl dX11_lay_120 ?_
                          refine j_if_ne C 128 (by decide) dX11_lay_121 (fun c17 => ?_) (fun c17 => ?_)
                          · refine j_iconst C (nI 0) (by decide) dX11_lay_128 ?_
                            refine j_istore C [(7, .int (nI 0)), (8, .int (nI d)), (6, .int (nI c)), (5, .int (nI b)), (4, .int (nI 0)), (0, .ref (g 0)), (1, .int (nI 115)), (2, .int (nI b)), (3, .int (nI c))] (by decide) rfl dX11_lay_129 ?_
                            refine j_aload_n C 5 rfl dX11_lay_131 ?_
                            refine gM_0_19 C tb_892 dX11_lay_132 ?_
                            refine j_iload C 1 rfl dX11_lay_135 ?_
                            refine j_iload_n C 6 rfl dX11_lay_137 ?_
                            refine j_bipush C (nI 120) (by decide) dX11_lay_138 ?_
                            refine j_icmp_neN C 147 (by decide) (by omega) (by omega) dX11_lay_140 (fun c18 => ?_) (fun c18 => ?_)
                            · refine j_iload_n C 6 rfl dX11_lay_147 ?_
                              refine j_bipush C (nI 108) (by decide) dX11_lay_148 ?_
                              refine j_icmp_neN C 157 (by decide) (by omega) (by omega) dX11_lay_150 (fun c19 => ?_) (fun c19 => ?_)
                              · refine j_iconst C (nI 3) (by decide) dX11_lay_157 ?_
                                refine tM_13 C d rfl (by omega) dX11_lay_158 ?_
                                refine j_aload_n C 5 rfl dX11_lay_159 ?_
                                refine gM_0_20 C tb_893 dX11_lay_160 ?_
                                refine j_iload C 1 rfl dX11_lay_163 ?_
                                refine j_iload C 3 rfl dX11_lay_165 ?_
                                refine tM_14 C d rfl (by omega) dX11_lay_167 ?_
                                refine j_aload_n C 5 rfl dX11_lay_168 ?_
                                refine gM_0_21 C tb_894 dX11_lay_169 ?_
                                refine j_iload C 1 rfl dX11_lay_172 ?_
                                refine j_iload C 2 rfl dX11_lay_174 ?_
                                refine tM_15 C d rfl (by omega) dX11_lay_176 ?_
                                refine j_iinc C (nI (d + 1)) [(8, .int (nI (d + 1))), (7, .int (nI 0)), (6, .int (nI c)), (5, .int (nI b)), (4, .int (nI 0)), (0, .ref (g 0)), (1, .int (nI 115)), (2, .int (nI b)), (3, .int (nI c))] 1 rfl (by rw [show Int32.ofInt 1 = nI 1 from by decide, nI_add]) (by decide) rfl dX11_lay_177 ?_
                                refine j_goto C 102 (by decide) dX11_lay_180 ?_
                                refine j_w (cM g kk (sF (sF (sF σ 13 (upd fN d (nI 3))) 14 (upd fF d (nI b))) 15 (upd fL d (nI c)))) (congrArg (cM g kk) (show sF (sF (sF (sF (sF (sF σ 13 fN) 14 fF) 15 fL) 13 (upd fN d (nI 3))) 14 (upd fF d (nI b))) 15 (upd fL d (nI c)) = sF (sF (sF σ 13 (upd fN d (nI 3))) 14 (upd fF d (nI b))) 15 (upd fL d (nI c)) from (Eq.trans (wrF (Eq.trans (wrF (Eq.trans (wrFc (by decide)) (wrF (Eq.trans (wrFc (by decide)) (wrF wrFs))))) (Eq.trans (wrFc (by decide)) (wrF wrFs)))) wrFs))) ?_
                                exact ih102 (d + 1) 0 (upd fN d (nI 3)) (upd fF d (nI b)) (upd fL d (nI c)) (by omega) (by omega) (by omega) (fR_s hN (by omega)) (fR_s hF (by omega)) (fR_s hLl (by omega)) (fun q => absurd q (by decide)) (fun _ => ⟨d, by omega, by omega, by rw [← fR_d hN]; exact c17⟩) (al_upd hs ⟨_, by omega, rfl⟩) (by omega)
                              · exact absurd c19 (by decide)
                            · exact absurd c18 (by decide)
                          · refine j_iconst C (nI 1) (by decide) dX11_lay_124 ?_
                            refine j_goto C 129 (by decide) dX11_lay_125 ?_
                            refine j_istore C [(7, .int (nI 1)), (8, .int (nI d)), (6, .int (nI c)), (5, .int (nI b)), (4, .int (nI 0)), (0, .ref (g 0)), (1, .int (nI 115)), (2, .int (nI b)), (3, .int (nI c))] (by decide) rfl dX11_lay_129 ?_
                            refine j_aload_n C 5 rfl dX11_lay_131 ?_
                            refine gM_0_19 C tb_892 dX11_lay_132 ?_
                            refine j_iload C 1 rfl dX11_lay_135 ?_
                            refine j_iload_n C 6 rfl dX11_lay_137 ?_
                            refine j_bipush C (nI 120) (by decide) dX11_lay_138 ?_
                            refine j_icmp_neN C 147 (by decide) (by omega) (by omega) dX11_lay_140 (fun c20 => ?_) (fun c20 => ?_)
                            · refine j_iload_n C 6 rfl dX11_lay_147 ?_
                              refine j_bipush C (nI 108) (by decide) dX11_lay_148 ?_
                              refine j_icmp_neN C 157 (by decide) (by omega) (by omega) dX11_lay_150 (fun c21 => ?_) (fun c21 => ?_)
                              · refine j_iconst C (nI 3) (by decide) dX11_lay_157 ?_
                                refine tM_13 C d rfl (by omega) dX11_lay_158 ?_
                                refine j_aload_n C 5 rfl dX11_lay_159 ?_
                                refine gM_0_20 C tb_893 dX11_lay_160 ?_
                                refine j_iload C 1 rfl dX11_lay_163 ?_
                                refine j_iload C 3 rfl dX11_lay_165 ?_
                                refine tM_14 C d rfl (by omega) dX11_lay_167 ?_
                                refine j_aload_n C 5 rfl dX11_lay_168 ?_
                                refine gM_0_21 C tb_894 dX11_lay_169 ?_
                                refine j_iload C 1 rfl dX11_lay_172 ?_
                                refine j_iload C 2 rfl dX11_lay_174 ?_
                                refine tM_15 C d rfl (by omega) dX11_lay_176 ?_
                                refine j_iinc C (nI (d + 1)) [(8, .int (nI (d + 1))), (7, .int (nI 1)), (6, .int (nI c)), (5, .int (nI b)), (4, .int (nI 0)), (0, .ref (g 0)), (1, .int (nI 115)), (2, .int (nI b)), (3, .int (nI c))] 1 rfl (by rw [show Int32.ofInt 1 = nI 1 from by decide, nI_add]) (by decide) rfl dX11_lay_177 ?_
                                refine j_goto C 102 (by decide) dX11_lay_180 ?_
                                refine j_w (cM g kk (sF (sF (sF σ 13 (upd fN d (nI 3))) 14 (upd fF d (nI b))) 15 (upd fL d (nI c)))) (congrArg (cM g kk) (show sF (sF (sF (sF (sF (sF σ 13 fN) 14 fF) 15 fL) 13 (upd fN d (nI 3))) 14 (upd fF d (nI b))) 15 (upd fL d (nI c)) = sF (sF (sF σ 13 (upd fN d (nI 3))) 14 (upd fF d (nI b))) 15 (upd fL d (nI c)) from (Eq.trans (wrF (Eq.trans (wrF (Eq.trans (wrFc (by decide)) (wrF (Eq.trans (wrFc (by decide)) (wrF wrFs))))) (Eq.trans (wrFc (by decide)) (wrF wrFs)))) wrFs))) ?_
                                exact ih102 (d + 1) 1 (upd fN d (nI 3)) (upd fF d (nI b)) (upd fL d (nI c)) (by omega) (by omega) (by omega) (fR_s hN (by omega)) (fR_s hF (by omega)) (fR_s hLl (by omega)) (fun _ => hz_s hN (hz1 (by omega)) c17) (fun q => absurd q (by decide)) (al_upd hs ⟨_, by omega, rfl⟩) (by omega)
                              · exact absurd c21 (by decide)
                            · exact absurd c20 (by decide)
                  refine j_w (cM g kk (sF σ 13 (σ.2.1 13))) (congrArg (cM g kk) (wrFi (S := σ) (c := 13) (v := σ.2.1 13) rfl)) ?_
                  refine j_w (cM g kk (sF (sF σ 13 (σ.2.1 13)) 14 (σ.2.1 14))) (congrArg (cM g kk) (wrFi (S := (sF σ 13 (σ.2.1 13))) (c := 14) (v := σ.2.1 14) (gtFF (by decide) rfl))) ?_
                  refine j_w (cM g kk (sF (sF (sF σ 13 (σ.2.1 13)) 14 (σ.2.1 14)) 15 (σ.2.1 15))) (congrArg (cM g kk) (wrFi (S := (sF (sF σ 13 (σ.2.1 13)) 14 (σ.2.1 14))) (c := 15) (v := σ.2.1 15) (gtFF (by decide) (gtFF (by decide) rfl)))) ?_
                  exact L102 _ b 1 (σ.2.1 13) (σ.2.1 14) (σ.2.1 15) (by omega) (by omega) (by omega) fR_00 fR_00 fR_00 (fun _ j z1 z2 => absurd z2 (by omega)) (fun q => absurd q (by decide)) hS (Nat.lt_succ_self _)
        · exact absurd c4 (by decide)
      · exact absurd c3 (by decide)
    · exact absurd c2 (by decide)
  · exact absurd c1 (Nat.not_lt_zero _)
