/-- the class holds G -/
def HX (G : GD) (k : Nat) (σ : St) : Prop := WG G k ∧ (∀ c d : Nat, c < k → d < 28 → ((σ.2.1 15 (c * 28 + d) = -1 ∧ σ.2.1 6 (c * 28 + d) = zC G c d) ∨ ∃ m : Nat, m < 20 ∧ σ.2.1 15 (c * 28 + d) = nI m ∧ σ.2.1 13 m = zC G c d) ∧ σ.2.1 7 (c * 28 + d) = nI (zK G c d) ∧ (zK G c d = 3 → σ.2.1 8 (c * 28 + d) = nI (zF G c d) ∧ σ.2.1 9 (c * 28 + d) = nI (zL G c d)) ∧ ∃ w : Nat, w ≤ 2 ∧ σ.2.1 5 d = nI w ∧ σ.2.1 4 (c * 3 + w) = nI (zM G c d)) ∧ (∀ c : Nat, c < k → σ.2.1 2 c = nI (zX G c) ∧ σ.2.1 3 c = nI (zY G c)) ∧ (∀ j : Nat, j < 4 → σ.2.1 10 j = nI (zS G j))
theorem HX.W {G : GD} {k : Nat} {σ : St} (h : HX G k σ) : WG G k := h.1
theorem HX.C {G : GD} {k : Nat} {σ : St} (h : HX G k σ) {c d : Nat} (hc : c < k) (hd : d < 28) : (σ.2.1 15 (c * 28 + d) = -1 ∧ σ.2.1 6 (c * 28 + d) = zC G c d) ∨ ∃ m : Nat, m < 20 ∧ σ.2.1 15 (c * 28 + d) = nI m ∧ σ.2.1 13 m = zC G c d := (h.2.1 c d hc hd).1
theorem HX.K {G : GD} {k : Nat} {σ : St} (h : HX G k σ) {c d : Nat} (hc : c < k) (hd : d < 28) : σ.2.1 7 (c * 28 + d) = nI (zK G c d) := (h.2.1 c d hc hd).2.1
theorem HX.F {G : GD} {k : Nat} {σ : St} (h : HX G k σ) {c d : Nat} (hc : c < k) (hd : d < 28) (q : zK G c d = 3) : σ.2.1 8 (c * 28 + d) = nI (zF G c d) := ((h.2.1 c d hc hd).2.2.1 q).1
theorem HX.L {G : GD} {k : Nat} {σ : St} (h : HX G k σ) {c d : Nat} (hc : c < k) (hd : d < 28) (q : zK G c d = 3) : σ.2.1 9 (c * 28 + d) = nI (zL G c d) := ((h.2.1 c d hc hd).2.2.1 q).2
theorem HX.M {G : GD} {k : Nat} {σ : St} (h : HX G k σ) {c d : Nat} (hc : c < k) (hd : d < 28) : ∃ w : Nat, w ≤ 2 ∧ σ.2.1 5 d = nI w ∧ σ.2.1 4 (c * 3 + w) = nI (zM G c d) := (h.2.1 c d hc hd).2.2.2
theorem HX.P {G : GD} {k : Nat} {σ : St} (h : HX G k σ) {c : Nat} (hc : c < k) : σ.2.1 2 c = nI (zX G c) ∧ σ.2.1 3 c = nI (zY G c) := h.2.2.1 c hc
theorem HX.S {G : GD} {k : Nat} {σ : St} (h : HX G k σ) {j : Nat} (hj : j < 4) : σ.2.1 10 j = nI (zS G j) := h.2.2.2 j hj
theorem WG.K3 {G : GD} {k : Nat} (h : WG G k) {c d : Nat} (hc : c < k) (hd : d < 28) : zK G c d ≤ 3 := (h.1 c d hc hd).2.1
theorem WG.M9 {G : GD} {k : Nat} (h : WG G k) {c d : Nat} (hc : c < k) (hd : d < 28) : zM G c d ≤ 9 := (h.1 c d hc hd).2.2.1
theorem WG.XY {G : GD} {k : Nat} (h : WG G k) {c : Nat} (hc : c < k) : zX G c ≤ 20 ∧ zY G c ≤ 20 := h.2.1 c hc
theorem WG.R {G : GD} {k : Nat} (h : WG G k) {c d : Nat} (hc : c < k) (hd : d < 28) (q : zK G c d = 3) : zF G c d ≤ d ∧ d ≤ zL G c d ∧ zL G c d ≤ 27 ∧ ∀ e : Nat, zF G c d ≤ e → e ≤ zL G c d → zK G c e = 3 ∧ zF G c e = zF G c d ∧ zL G c e = zL G c d := (h.1 c d hc hd).2.2.2 q
set_option maxRecDepth 100000 in
set_option maxHeartbeats 4000000 in
theorem e_counted (g kk : Nat → Nat) (σ : St) (k : Nat) (hk : σ.1 16 = nI k) (hk6 : k ≤ 6) (hI : iX σ) (G : GD) (hX : HX G k σ) (c d : Nat) (hc : c < k) (hd : d < 28) (q : Nat) (hq0 : q = c * 28 + d) : jM (S := St) yX2_counted cX2_counted 3 (some .int) { frames := 0, cells := 0, slots := 0, locals := 0 } kk (cX g kk σ) [.ref (g 1), .int (nI q)] (cX g kk) (rI (fun (r : Int32) (u : St) => u = σ ∧ (r = zC G c d))) := by
  refine j_entry [(0, .ref (g 1)), (1, .int (nI q))] (by decide) (Nat.le_of_ble_eq_true rfl) rfl ?_
  intro X C E HI
  rcases hX.C hc hd with ⟨e15, e6⟩ | ⟨m9, hm9, e15, e13⟩
  · refine j_aload_n C 0 rfl dX2_counted_0 ?_
    refine gX_1_10 C tb_132 dX2_counted_1 ?_
    refine gX_11_4 C tb_46 dX2_counted_4 ?_
    refine j_iload_n C 1 rfl dX2_counted_7 ?_
    refine rX_15 C q rfl (by omega) ((-1)) (by rw [hq0]; exact e15) dX2_counted_8 ?_
    refine j_istore_n C [(2, .int (-1)), (0, .ref (g 1)), (1, .int (nI q))] rfl (by decide) rfl dX2_counted_9 ?_
    refine j_iload_n C 0 rfl dX2_counted_10 ?_
    refine j_iconst C ((-1)) (by decide) dX2_counted_11 ?_
    refine j_icmp_ne C 24 (by decide) dX2_counted_12 (fun c1 => ?_) (fun c1 => ?_)
    · exact absurd rfl c1
    · refine j_aload_n C 1 rfl dX2_counted_15 ?_
      refine gX_1_5 C tb_116 dX2_counted_16 ?_
      refine j_iload_n C 2 rfl dX2_counted_19 ?_
      refine rX_6 C q rfl (by omega) ((σ.2.1 6) q) rfl dX2_counted_20 ?_
      refine j_goto C 33 (by decide) dX2_counted_21 ?_
      exact j_iret C E (σ) ⟨_, rfl, ⟨rfl, (by rw [hq0]; exact e6)⟩⟩ rfl dX2_counted_33
  · refine j_aload_n C 0 rfl dX2_counted_0 ?_
    refine gX_1_10 C tb_132 dX2_counted_1 ?_
    refine gX_11_4 C tb_46 dX2_counted_4 ?_
    refine j_iload_n C 1 rfl dX2_counted_7 ?_
    refine rX_15 C q rfl (by omega) (nI m9) (by rw [hq0]; exact e15) dX2_counted_8 ?_
    refine j_istore_n C [(2, .int (nI m9)), (0, .ref (g 1)), (1, .int (nI q))] rfl (by decide) rfl dX2_counted_9 ?_
    refine j_iload_n C 0 rfl dX2_counted_10 ?_
    refine j_iconst C ((-1)) (by decide) dX2_counted_11 ?_
    refine j_icmp_ne C 24 (by decide) dX2_counted_12 (fun c2 => ?_) (fun c2 => ?_)
    · refine j_aload_n C 1 rfl dX2_counted_24 ?_
      refine gX_1_10 C tb_132 dX2_counted_25 ?_
      refine gX_11_2 C tb_43 dX2_counted_28 ?_
      refine j_iload_n C 0 rfl dX2_counted_31 ?_
      refine rX_13 C m9 rfl (by omega) ((σ.2.1 13) m9) rfl dX2_counted_32 ?_
      exact j_iret C E (σ) ⟨_, rfl, ⟨rfl, (by exact e13)⟩⟩ rfl dX2_counted_33
    · exact absurd c2 (nI_nm1 (by omega))
set_option maxRecDepth 100000 in
set_option maxHeartbeats 4000000 in
theorem e_fallen (g kk : Nat → Nat) (σ : St) (k : Nat) (hk : σ.1 16 = nI k) (hk6 : k ≤ 6) (hI : iX σ) (G : GD) (hX : HX G k σ)  (c : Nat) (hc0 : c < k) (d : Nat) (hd0 : d < 28) (v : Nat) (hv0 : v ≤ 999) : jM (S := St) yX7_fallen cX7_fallen 5 (some .int) { frames := 0, cells := 0, slots := 0, locals := 0 } kk (cX g kk σ) [.ref (g 27), .int (nI c), .int (nI d), .int (nI v)] (cX g kk) (rI (fun (r : Int32) (u : St) => u = σ ∧ (r = nI (v * 10 / (10 - zM G c d))))) := by
  refine j_entry [(0, .ref (g 27)), (1, .int (nI c)), (2, .int (nI d)), (3, .int (nI v))] (by decide) (Nat.le_of_ble_eq_true rfl) rfl ?_
  intro X C E HI
  refine j_bipush C (nI 10) (by decide) dX7_fallen_0 ?_
  refine j_aload_n C 0 rfl dX7_fallen_2 ?_
  refine gX_27_0 C tb_198 dX7_fallen_3 ?_
  refine gX_1_3 C tb_112 dX7_fallen_6 ?_
  refine j_iload_n C 1 rfl dX7_fallen_9 ?_
  refine j_iconst C (nI 3) (by decide) dX7_fallen_10 ?_
  refine j_imulN C dX7_fallen_11 ?_
  refine j_aload_n C 0 rfl dX7_fallen_12 ?_
  refine gX_27_0 C tb_198 dX7_fallen_13 ?_
  refine gX_1_4 C tb_115 dX7_fallen_16 ?_
  refine j_iload_n C 2 rfl dX7_fallen_19 ?_
  obtain ⟨w9, hw9, ew1, ew2⟩ := hX.M hc0 hd0
  have hm9 := hX.W.M9 hc0 hd0
  refine rX_5 C d rfl (by omega) (nI w9) ew1 dX7_fallen_20 ?_
  refine j_iaddN C dX7_fallen_21 ?_
  refine rX_4 C ((c * 3) + w9) rfl (by omega) (nI (zM G c d)) ew2 dX7_fallen_22 ?_
  refine j_isubN C (by omega) dX7_fallen_23 ?_
  refine j_istore C [(4, .int (nI (10 - (zM G c d)))), (0, .ref (g 27)), (1, .int (nI c)), (2, .int (nI d)), (3, .int (nI v))] (by decide) rfl dX7_fallen_24 ?_
  refine j_iload C 0 rfl dX7_fallen_26 ?_
  refine j_if_neN C 35 (by decide) (by omega) dX7_fallen_28 (fun c1 => ?_) (fun c1 => ?_)
  · refine j_iload_n C 4 rfl dX7_fallen_35 ?_
    refine j_bipush C (nI 10) (by decide) dX7_fallen_36 ?_
    refine j_imulN C dX7_fallen_38 ?_
    refine j_iload C 0 rfl dX7_fallen_39 ?_
    have hq2 := Nat.div_le_self (v * 10) (10 - (zM G c d))
    refine j_idivN C (by omega) (by omega) (by omega) dX7_fallen_41 ?_
    exact j_iret C E (σ) ⟨_, rfl, ⟨rfl, rfl⟩⟩ rfl dX7_fallen_42
  · exact absurd c1 (by omega)
set_option maxRecDepth 100000 in
set_option maxHeartbeats 4000000 in
theorem e_readDay (g kk : Nat → Nat) (σ : St) (k : Nat) (hk : σ.1 16 = nI k) (hk6 : k ≤ 6) (hI : iX σ) (G : GD) (hX : HX G k σ)  (c : Nat) (hc0 : c < k) (d : Nat) (hd0 : d < 28) : jM (S := St) yX7_readDay cX7_readDay 6 none { frames := 1, cells := 0, slots := 0, locals := 24 } kk (cX g kk σ) [.ref (g 27), .int (nI c), .int (nI d)] (cX g kk) (rV (fun u : St => ∃ (pF28 : Nat → Int32) (pF29 : Nat → Int32), u = sF (sF σ 28 pF28) 29 pF29 ∧ (pF28 = upd (σ.2.1 28) (c * 28 + d) (rdV G c d)) ∧ (pF29 = upd (σ.2.1 29) (c * 28 + d) (plV G c d)))) := by
  refine j_entry [(0, .ref (g 27)), (1, .int (nI c)), (2, .int (nI d))] (by decide) (Nat.le_of_ble_eq_true rfl) rfl ?_
  intro X C E HI
  have hk3 := hX.W.K3 hc0 hd0
  refine j_iload_n C 1 rfl dX7_readDay_0 ?_
  refine j_bipush C (nI 28) (by decide) dX7_readDay_1 ?_
  refine j_imulN C dX7_readDay_3 ?_
  refine j_iload_n C 2 rfl dX7_readDay_4 ?_
  refine j_iaddN C dX7_readDay_5 ?_
  refine j_istore_n C [(3, .int (nI ((c * 28) + d))), (0, .ref (g 27)), (1, .int (nI c)), (2, .int (nI d))] rfl (by decide) rfl dX7_readDay_6 ?_
  refine j_aload_n C 1 rfl dX7_readDay_7 ?_
  refine gX_27_0 C tb_198 dX7_readDay_8 ?_
  refine gX_1_6 C tb_121 dX7_readDay_11 ?_
  refine j_iload_n C 0 rfl dX7_readDay_14 ?_
  refine rX_7 C ((c * 28) + d) rfl (by omega) (nI (zK G c d)) (hX.K hc0 hd0) dX7_readDay_15 ?_
  refine j_istore C [(4, .int (nI (zK G c d))), (3, .int (nI ((c * 28) + d))), (0, .ref (g 27)), (1, .int (nI c)), (2, .int (nI d))] (by decide) rfl dX7_readDay_16 ?_
  have K107 : ∀ (y107_5 : Int32) (hg : y107_5 = rdV G c d), J X 0 0 (cX g kk σ) [(4, .int (nI (zK G c d))), (3, .int (nI ((c * 28) + d))), (0, .ref (g 27)), (1, .int (nI c)), (2, .int (nI d)), (5, .int y107_5)] 107 [] := by
    intro y107_5 hg
    rcases (show lm_ 999 y107_5 from by rw [hg]; exact rd_lm hX.W hc0 hd0) with q9 | ⟨m9, hm9, q9⟩
    · subst q9
      refine j_aload_n C 2 rfl dX7_readDay_107 ?_
      refine gX_27_1 C tb_202 dX7_readDay_108 ?_
      refine j_iload_n C 1 rfl dX7_readDay_111 ?_
      refine j_iload C 5 rfl dX7_readDay_112 ?_
      refine tX_28 C ((c * 28) + d) rfl (by omega) dX7_readDay_114 ?_
      refine j_aload_n C 2 rfl dX7_readDay_115 ?_
      refine gX_27_2 C tb_203 dX7_readDay_116 ?_
      refine j_iload_n C 1 rfl dX7_readDay_119 ?_
      refine j_iload C 5 rfl dX7_readDay_120 ?_
      refine j_iconst C ((-1)) (by decide) dX7_readDay_122 ?_
      refine j_icmp_eq C 132 (by decide) dX7_readDay_123 (fun c1 => ?_) (fun c1 => ?_)
      · refine j_iconst C ((-1)) (by decide) dX7_readDay_132 ?_
        refine j_goto C 144 (by decide) dX7_readDay_133 ?_
        refine tX_29 C ((c * 28) + d) rfl (by omega) dX7_readDay_144 ?_
        exact j_vret C E (sF (sF σ 28 (upd (σ.2.1 28) ((c * 28) + d) (-1))) 29 (upd (σ.2.1 29) ((c * 28) + d) (-1))) ⟨rfl, ⟨(upd (σ.2.1 28) ((c * 28) + d) (-1)), (upd (σ.2.1 29) ((c * 28) + d) (-1)), rfl, (by rw [← hg]), (by rw [pl_1 (by first | exact Or.inl hg.symm | exact Or.inr (by omega))])⟩⟩ rfl dX7_readDay_145
      · exact absurd rfl c1
    · subst q9
      refine j_aload_n C 2 rfl dX7_readDay_107 ?_
      refine gX_27_1 C tb_202 dX7_readDay_108 ?_
      refine j_iload_n C 1 rfl dX7_readDay_111 ?_
      refine j_iload C 5 rfl dX7_readDay_112 ?_
      refine tX_28 C ((c * 28) + d) rfl (by omega) dX7_readDay_114 ?_
      refine j_aload_n C 2 rfl dX7_readDay_115 ?_
      refine gX_27_2 C tb_203 dX7_readDay_116 ?_
      refine j_iload_n C 1 rfl dX7_readDay_119 ?_
      refine j_iload C 5 rfl dX7_readDay_120 ?_
      refine j_iconst C ((-1)) (by decide) dX7_readDay_122 ?_
      refine j_icmp_eq C 132 (by decide) dX7_readDay_123 (fun c2 => ?_) (fun c2 => ?_)
      · exact absurd c2 (nI_nm1 (by omega))
      · refine j_iload C 0 rfl dX7_readDay_126 ?_
        refine j_iconst C (nI 3) (by decide) dX7_readDay_128 ?_
        refine j_icmp_neN C 136 (by decide) (by omega) (by omega) dX7_readDay_129 (fun c3 => ?_) (fun c3 => ?_)
        · refine j_aload_n C 2 rfl dX7_readDay_136 ?_
          refine j_iload_n C 3 rfl dX7_readDay_137 ?_
          refine j_iload_n C 4 rfl dX7_readDay_138 ?_
          refine j_iload C 5 rfl dX7_readDay_139 ?_
          refine j_V1 C (e_fallen g kk (sF σ 28 (upd (σ.2.1 28) ((c * 28) + d) (nI m9))) k hk hk6 hI G hX c (by first | assumption | omega) d (by first | assumption | omega) m9 (by first | assumption | omega)) kyX7_fallen tb_574 tb_576 sp_3 27 rfl (eX_27 g kk _) rfl (Nat.le_of_ble_eq_true rfl) ⟨by decide, by decide⟩ dX7_readDay_141 rfl (fun vr ur hp => ?_)
          obtain ⟨r5, rfl, hu, g4⟩ := hp
          replace hu := hu.symm
          subst hu
          subst g4
          refine tX_29 C ((c * 28) + d) rfl (by omega) dX7_readDay_144 ?_
          exact j_vret C E (sF (sF σ 28 (upd (σ.2.1 28) ((c * 28) + d) (nI m9))) 29 (upd (σ.2.1 29) ((c * 28) + d) (nI (m9 * 10 / (10 - zM G c d))))) ⟨rfl, ⟨(upd (σ.2.1 28) ((c * 28) + d) (nI m9)), (upd (σ.2.1 29) ((c * 28) + d) (nI (m9 * 10 / (10 - zM G c d)))), rfl, (by rw [← hg]), (by rw [pl_n (by omega) (by omega) hg.symm])⟩⟩ rfl dX7_readDay_145
        · refine j_iconst C ((-1)) (by decide) dX7_readDay_132 ?_
          refine j_goto C 144 (by decide) dX7_readDay_133 ?_
          refine tX_29 C ((c * 28) + d) rfl (by omega) dX7_readDay_144 ?_
          exact j_vret C E (sF (sF σ 28 (upd (σ.2.1 28) ((c * 28) + d) (nI m9))) 29 (upd (σ.2.1 29) ((c * 28) + d) (-1))) ⟨rfl, ⟨(upd (σ.2.1 28) ((c * 28) + d) (nI m9)), (upd (σ.2.1 29) ((c * 28) + d) (-1)), rfl, (by rw [← hg]), (by rw [pl_1 (by first | exact Or.inl hg.symm | exact Or.inr (by omega))])⟩⟩ rfl dX7_readDay_145
  refine j_iload C 0 rfl dX7_readDay_18 ?_
  refine j_iconst C (nI 1) (by decide) dX7_readDay_20 ?_
  refine j_icmp_eqN C 43 (by decide) (by omega) (by omega) dX7_readDay_21 (fun c6 => ?_) (fun c6 => ?_)
  · refine j_iconst C ((-1)) (by decide) dX7_readDay_43 ?_
    refine j_istore C [(5, .int (-1)), (4, .int (nI (zK G c d))), (3, .int (nI ((c * 28) + d))), (0, .ref (g 27)), (1, .int (nI c)), (2, .int (nI d))] (by decide) rfl dX7_readDay_44 ?_
    refine j_goto C 107 (by decide) dX7_readDay_46 ?_
    refine j_sub (lv' := [(4, .int (nI (zK G c d))), (3, .int (nI ((c * 28) + d))), (0, .ref (g 27)), (1, .int (nI c)), (2, .int (nI d)), (5, .int (-1))]) [1, 2, 3, 4, 5, 0] rfl ?_
    exact K107 (-1) (by unfold rdV; first | rw [if_pos (by omega)] | rw [if_neg (by omega), if_pos (by omega)] | rw [if_neg (by omega), if_neg (by omega), if_pos (by omega)] | rw [if_neg (by omega), if_neg (by omega), if_neg (by omega)])
  · refine j_iload C 0 rfl dX7_readDay_24 ?_
    refine j_iconst C (nI 3) (by decide) dX7_readDay_26 ?_
    refine j_icmp_neN C 49 (by decide) (by omega) (by omega) dX7_readDay_27 (fun c7 => ?_) (fun c7 => ?_)
    · refine j_iload_n C 4 rfl dX7_readDay_49 ?_
      refine j_iconst C (nI 1) (by decide) dX7_readDay_50 ?_
      refine j_iaddN C dX7_readDay_51 ?_
      refine j_bipush C (nI 28) (by decide) dX7_readDay_52 ?_
      refine j_icmp_geN C 87 (by decide) (by omega) (by omega) dX7_readDay_54 (fun c8 => ?_) (fun c8 => ?_)
      · refine j_iload C 0 rfl dX7_readDay_87 ?_
        refine j_iconst C (nI 2) (by decide) dX7_readDay_89 ?_
        refine j_icmp_neN C 97 (by decide) (by omega) (by omega) dX7_readDay_90 (fun c9 => ?_) (fun c9 => ?_)
        · refine j_aload_n C 2 rfl dX7_readDay_97 ?_
          refine gX_27_0 C tb_198 dX7_readDay_98 ?_
          refine j_iload_n C 1 rfl dX7_readDay_101 ?_
          refine j_V1 C (e_counted g kk σ k hk hk6 hI G hX c d hc0 hd0 ((c * 28) + d) (by first | assumption | omega)) kyX2_counted tb_570 tb_571 tb_572 1 rfl (eX_1 g kk _) rfl (Nat.le_of_ble_eq_true rfl) ⟨by decide, by decide⟩ dX7_readDay_102 rfl (fun vr ur hp => ?_)
          obtain ⟨r11, rfl, hu, g10⟩ := hp
          replace hu := hu.symm
          subst hu
          subst g10
          refine j_istore C [(5, .int (zC G c d)), (4, .int (nI (zK G c d))), (3, .int (nI ((c * 28) + d))), (0, .ref (g 27)), (1, .int (nI c)), (2, .int (nI d))] (by decide) rfl dX7_readDay_105 ?_
          refine j_sub (lv' := [(4, .int (nI (zK G c d))), (3, .int (nI ((c * 28) + d))), (0, .ref (g 27)), (1, .int (nI c)), (2, .int (nI d)), (5, .int (zC G c d))]) [1, 2, 3, 4, 5, 0] rfl ?_
          exact K107 (zC G c d) (by unfold rdV; first | rw [if_pos (by omega)] | rw [if_neg (by omega), if_pos (by omega)] | rw [if_neg (by omega), if_neg (by omega), if_pos (by omega)] | rw [if_neg (by omega), if_neg (by omega), if_neg (by omega)])
        · refine j_iconst C ((-1)) (by decide) dX7_readDay_93 ?_
          refine j_goto C 105 (by decide) dX7_readDay_94 ?_
          refine j_istore C [(5, .int (-1)), (4, .int (nI (zK G c d))), (3, .int (nI ((c * 28) + d))), (0, .ref (g 27)), (1, .int (nI c)), (2, .int (nI d))] (by decide) rfl dX7_readDay_105 ?_
          refine j_sub (lv' := [(4, .int (nI (zK G c d))), (3, .int (nI ((c * 28) + d))), (0, .ref (g 27)), (1, .int (nI c)), (2, .int (nI d)), (5, .int (-1))]) [1, 2, 3, 4, 5, 0] rfl ?_
          exact K107 (-1) (by unfold rdV; first | rw [if_pos (by omega)] | rw [if_neg (by omega), if_pos (by omega)] | rw [if_neg (by omega), if_neg (by omega), if_pos (by omega)] | rw [if_neg (by omega), if_neg (by omega), if_neg (by omega)])
      · have hk4 := hX.W.K3 hc0 (show d + 1 < 28 by omega)
        refine j_aload_n C 2 rfl dX7_readDay_57 ?_
        refine gX_27_0 C tb_198 dX7_readDay_58 ?_
        refine gX_1_6 C tb_121 dX7_readDay_61 ?_
        refine j_iload_n C 1 rfl dX7_readDay_64 ?_
        refine j_iconst C (nI 1) (by decide) dX7_readDay_65 ?_
        refine j_iaddN C dX7_readDay_66 ?_
        refine rX_7 C (((c * 28) + d) + 1) rfl (by omega) (nI (zK G c (d + 1))) (by have z := hX.K hc0 (show d + 1 < 28 by omega); rw [← Nat.add_assoc] at z; exact z) dX7_readDay_67 ?_
        refine j_iconst C (nI 2) (by decide) dX7_readDay_68 ?_
        refine j_icmp_neN C 87 (by decide) (by omega) (by omega) dX7_readDay_69 (fun c12 => ?_) (fun c12 => ?_)
        · refine j_iload C 0 rfl dX7_readDay_87 ?_
          refine j_iconst C (nI 2) (by decide) dX7_readDay_89 ?_
          refine j_icmp_neN C 97 (by decide) (by omega) (by omega) dX7_readDay_90 (fun c13 => ?_) (fun c13 => ?_)
          · refine j_aload_n C 2 rfl dX7_readDay_97 ?_
            refine gX_27_0 C tb_198 dX7_readDay_98 ?_
            refine j_iload_n C 1 rfl dX7_readDay_101 ?_
            refine j_V1 C (e_counted g kk σ k hk hk6 hI G hX c d hc0 hd0 ((c * 28) + d) (by first | assumption | omega)) kyX2_counted tb_570 tb_571 tb_572 1 rfl (eX_1 g kk _) rfl (Nat.le_of_ble_eq_true rfl) ⟨by decide, by decide⟩ dX7_readDay_102 rfl (fun vr ur hp => ?_)
            obtain ⟨r15, rfl, hu, g14⟩ := hp
            replace hu := hu.symm
            subst hu
            subst g14
            refine j_istore C [(5, .int (zC G c d)), (4, .int (nI (zK G c d))), (3, .int (nI ((c * 28) + d))), (0, .ref (g 27)), (1, .int (nI c)), (2, .int (nI d))] (by decide) rfl dX7_readDay_105 ?_
            refine j_sub (lv' := [(4, .int (nI (zK G c d))), (3, .int (nI ((c * 28) + d))), (0, .ref (g 27)), (1, .int (nI c)), (2, .int (nI d)), (5, .int (zC G c d))]) [1, 2, 3, 4, 5, 0] rfl ?_
            exact K107 (zC G c d) (by unfold rdV; first | rw [if_pos (by omega)] | rw [if_neg (by omega), if_pos (by omega)] | rw [if_neg (by omega), if_neg (by omega), if_pos (by omega)] | rw [if_neg (by omega), if_neg (by omega), if_neg (by omega)])
          · refine j_iconst C ((-1)) (by decide) dX7_readDay_93 ?_
            refine j_goto C 105 (by decide) dX7_readDay_94 ?_
            refine j_istore C [(5, .int (-1)), (4, .int (nI (zK G c d))), (3, .int (nI ((c * 28) + d))), (0, .ref (g 27)), (1, .int (nI c)), (2, .int (nI d))] (by decide) rfl dX7_readDay_105 ?_
            refine j_sub (lv' := [(4, .int (nI (zK G c d))), (3, .int (nI ((c * 28) + d))), (0, .ref (g 27)), (1, .int (nI c)), (2, .int (nI d)), (5, .int (-1))]) [1, 2, 3, 4, 5, 0] rfl ?_
            exact K107 (-1) (by unfold rdV; first | rw [if_pos (by omega)] | rw [if_neg (by omega), if_pos (by omega)] | rw [if_neg (by omega), if_neg (by omega), if_pos (by omega)] | rw [if_neg (by omega), if_neg (by omega), if_neg (by omega)])
        · refine j_aload_n C 2 rfl dX7_readDay_72 ?_
          refine gX_27_0 C tb_198 dX7_readDay_73 ?_
          refine j_iload_n C 1 rfl dX7_readDay_76 ?_
          refine j_iconst C (nI 1) (by decide) dX7_readDay_77 ?_
          refine j_iaddN C dX7_readDay_78 ?_
          refine j_V1 C (e_counted g kk σ k hk hk6 hI G hX c (d + 1) hc0 (by omega) (((c * 28) + d) + 1) (by first | assumption | omega)) kyX2_counted tb_570 tb_571 tb_572 1 rfl (eX_1 g kk _) rfl (Nat.le_of_ble_eq_true rfl) ⟨by decide, by decide⟩ dX7_readDay_79 rfl (fun vr ur hp => ?_)
          obtain ⟨r17, rfl, hu, g16⟩ := hp
          replace hu := hu.symm
          subst hu
          subst g16
          refine j_istore C [(5, .int (zC G c (d + 1))), (4, .int (nI (zK G c d))), (3, .int (nI ((c * 28) + d))), (0, .ref (g 27)), (1, .int (nI c)), (2, .int (nI d))] (by decide) rfl dX7_readDay_82 ?_
          refine j_goto C 107 (by decide) dX7_readDay_84 ?_
          refine j_sub (lv' := [(4, .int (nI (zK G c d))), (3, .int (nI ((c * 28) + d))), (0, .ref (g 27)), (1, .int (nI c)), (2, .int (nI d)), (5, .int (zC G c (d + 1)))]) [1, 2, 3, 4, 5, 0] rfl ?_
          exact K107 (zC G c (d + 1)) (by unfold rdV; first | rw [if_pos (by omega)] | rw [if_neg (by omega), if_pos (by omega)] | rw [if_neg (by omega), if_neg (by omega), if_pos (by omega)] | rw [if_neg (by omega), if_neg (by omega), if_neg (by omega)])
    · have hl9 := hX.W.R hc0 hd0 (by omega)
      refine j_aload_n C 2 rfl dX7_readDay_30 ?_
      refine gX_27_0 C tb_198 dX7_readDay_31 ?_
      refine gX_1_8 C tb_125 dX7_readDay_34 ?_
      refine j_iload_n C 1 rfl dX7_readDay_37 ?_
      refine rX_9 C ((c * 28) + d) rfl (by omega) (nI (zL G c d)) (hX.L hc0 hd0 (by omega)) dX7_readDay_38 ?_
      refine j_iload_n C 4 rfl dX7_readDay_39 ?_
      refine j_icmp_eqN C 49 (by decide) (by omega) (by omega) dX7_readDay_40 (fun c18 => ?_) (fun c18 => ?_)
      · refine j_iload_n C 4 rfl dX7_readDay_49 ?_
        refine j_iconst C (nI 1) (by decide) dX7_readDay_50 ?_
        refine j_iaddN C dX7_readDay_51 ?_
        refine j_bipush C (nI 28) (by decide) dX7_readDay_52 ?_
        refine j_icmp_geN C 87 (by decide) (by omega) (by omega) dX7_readDay_54 (fun c19 => ?_) (fun c19 => ?_)
        · refine j_iload C 0 rfl dX7_readDay_87 ?_
          refine j_iconst C (nI 2) (by decide) dX7_readDay_89 ?_
          refine j_icmp_neN C 97 (by decide) (by omega) (by omega) dX7_readDay_90 (fun c20 => ?_) (fun c20 => ?_)
          · refine j_aload_n C 2 rfl dX7_readDay_97 ?_
            refine gX_27_0 C tb_198 dX7_readDay_98 ?_
            refine j_iload_n C 1 rfl dX7_readDay_101 ?_
            refine j_V1 C (e_counted g kk σ k hk hk6 hI G hX c d hc0 hd0 ((c * 28) + d) (by first | assumption | omega)) kyX2_counted tb_570 tb_571 tb_572 1 rfl (eX_1 g kk _) rfl (Nat.le_of_ble_eq_true rfl) ⟨by decide, by decide⟩ dX7_readDay_102 rfl (fun vr ur hp => ?_)
            obtain ⟨r22, rfl, hu, g21⟩ := hp
            replace hu := hu.symm
            subst hu
            subst g21
            refine j_istore C [(5, .int (zC G c d)), (4, .int (nI (zK G c d))), (3, .int (nI ((c * 28) + d))), (0, .ref (g 27)), (1, .int (nI c)), (2, .int (nI d))] (by decide) rfl dX7_readDay_105 ?_
            refine j_sub (lv' := [(4, .int (nI (zK G c d))), (3, .int (nI ((c * 28) + d))), (0, .ref (g 27)), (1, .int (nI c)), (2, .int (nI d)), (5, .int (zC G c d))]) [1, 2, 3, 4, 5, 0] rfl ?_
            exact K107 (zC G c d) (by unfold rdV; first | rw [if_pos (by omega)] | rw [if_neg (by omega), if_pos (by omega)] | rw [if_neg (by omega), if_neg (by omega), if_pos (by omega)] | rw [if_neg (by omega), if_neg (by omega), if_neg (by omega)])
          · refine j_iconst C ((-1)) (by decide) dX7_readDay_93 ?_
            refine j_goto C 105 (by decide) dX7_readDay_94 ?_
            refine j_istore C [(5, .int (-1)), (4, .int (nI (zK G c d))), (3, .int (nI ((c * 28) + d))), (0, .ref (g 27)), (1, .int (nI c)), (2, .int (nI d))] (by decide) rfl dX7_readDay_105 ?_
            refine j_sub (lv' := [(4, .int (nI (zK G c d))), (3, .int (nI ((c * 28) + d))), (0, .ref (g 27)), (1, .int (nI c)), (2, .int (nI d)), (5, .int (-1))]) [1, 2, 3, 4, 5, 0] rfl ?_
            exact K107 (-1) (by unfold rdV; first | rw [if_pos (by omega)] | rw [if_neg (by omega), if_pos (by omega)] | rw [if_neg (by omega), if_neg (by omega), if_pos (by omega)] | rw [if_neg (by omega), if_neg (by omega), if_neg (by omega)])
        · have hk4 := hX.W.K3 hc0 (show d + 1 < 28 by omega)
          refine j_aload_n C 2 rfl dX7_readDay_57 ?_
          refine gX_27_0 C tb_198 dX7_readDay_58 ?_
          refine gX_1_6 C tb_121 dX7_readDay_61 ?_
          refine j_iload_n C 1 rfl dX7_readDay_64 ?_
          refine j_iconst C (nI 1) (by decide) dX7_readDay_65 ?_
          refine j_iaddN C dX7_readDay_66 ?_
          refine rX_7 C (((c * 28) + d) + 1) rfl (by omega) (nI (zK G c (d + 1))) (by have z := hX.K hc0 (show d + 1 < 28 by omega); rw [← Nat.add_assoc] at z; exact z) dX7_readDay_67 ?_
          refine j_iconst C (nI 2) (by decide) dX7_readDay_68 ?_
          refine j_icmp_neN C 87 (by decide) (by omega) (by omega) dX7_readDay_69 (fun c23 => ?_) (fun c23 => ?_)
          · refine j_iload C 0 rfl dX7_readDay_87 ?_
            refine j_iconst C (nI 2) (by decide) dX7_readDay_89 ?_
            refine j_icmp_neN C 97 (by decide) (by omega) (by omega) dX7_readDay_90 (fun c24 => ?_) (fun c24 => ?_)
            · refine j_aload_n C 2 rfl dX7_readDay_97 ?_
              refine gX_27_0 C tb_198 dX7_readDay_98 ?_
              refine j_iload_n C 1 rfl dX7_readDay_101 ?_
              refine j_V1 C (e_counted g kk σ k hk hk6 hI G hX c d hc0 hd0 ((c * 28) + d) (by first | assumption | omega)) kyX2_counted tb_570 tb_571 tb_572 1 rfl (eX_1 g kk _) rfl (Nat.le_of_ble_eq_true rfl) ⟨by decide, by decide⟩ dX7_readDay_102 rfl (fun vr ur hp => ?_)
              obtain ⟨r26, rfl, hu, g25⟩ := hp
              replace hu := hu.symm
              subst hu
              subst g25
              refine j_istore C [(5, .int (zC G c d)), (4, .int (nI (zK G c d))), (3, .int (nI ((c * 28) + d))), (0, .ref (g 27)), (1, .int (nI c)), (2, .int (nI d))] (by decide) rfl dX7_readDay_105 ?_
              refine j_sub (lv' := [(4, .int (nI (zK G c d))), (3, .int (nI ((c * 28) + d))), (0, .ref (g 27)), (1, .int (nI c)), (2, .int (nI d)), (5, .int (zC G c d))]) [1, 2, 3, 4, 5, 0] rfl ?_
              exact K107 (zC G c d) (by unfold rdV; first | rw [if_pos (by omega)] | rw [if_neg (by omega), if_pos (by omega)] | rw [if_neg (by omega), if_neg (by omega), if_pos (by omega)] | rw [if_neg (by omega), if_neg (by omega), if_neg (by omega)])
            · refine j_iconst C ((-1)) (by decide) dX7_readDay_93 ?_
              refine j_goto C 105 (by decide) dX7_readDay_94 ?_
              refine j_istore C [(5, .int (-1)), (4, .int (nI (zK G c d))), (3, .int (nI ((c * 28) + d))), (0, .ref (g 27)), (1, .int (nI c)), (2, .int (nI d))] (by decide) rfl dX7_readDay_105 ?_
              refine j_sub (lv' := [(4, .int (nI (zK G c d))), (3, .int (nI ((c * 28) + d))), (0, .ref (g 27)), (1, .int (nI c)), (2, .int (nI d)), (5, .int (-1))]) [1, 2, 3, 4, 5, 0] rfl ?_
              exact K107 (-1) (by unfold rdV; first | rw [if_pos (by omega)] | rw [if_neg (by omega), if_pos (by omega)] | rw [if_neg (by omega), if_neg (by omega), if_pos (by omega)] | rw [if_neg (by omega), if_neg (by omega), if_neg (by omega)])
          · refine j_aload_n C 2 rfl dX7_readDay_72 ?_
            refine gX_27_0 C tb_198 dX7_readDay_73 ?_
            refine j_iload_n C 1 rfl dX7_readDay_76 ?_
            refine j_iconst C (nI 1) (by decide) dX7_readDay_77 ?_
            refine j_iaddN C dX7_readDay_78 ?_
            refine j_V1 C (e_counted g kk σ k hk hk6 hI G hX c (d + 1) hc0 (by omega) (((c * 28) + d) + 1) (by first | assumption | omega)) kyX2_counted tb_570 tb_571 tb_572 1 rfl (eX_1 g kk _) rfl (Nat.le_of_ble_eq_true rfl) ⟨by decide, by decide⟩ dX7_readDay_79 rfl (fun vr ur hp => ?_)
            obtain ⟨r28, rfl, hu, g27⟩ := hp
            replace hu := hu.symm
            subst hu
            subst g27
            refine j_istore C [(5, .int (zC G c (d + 1))), (4, .int (nI (zK G c d))), (3, .int (nI ((c * 28) + d))), (0, .ref (g 27)), (1, .int (nI c)), (2, .int (nI d))] (by decide) rfl dX7_readDay_82 ?_
            refine j_goto C 107 (by decide) dX7_readDay_84 ?_
            refine j_sub (lv' := [(4, .int (nI (zK G c d))), (3, .int (nI ((c * 28) + d))), (0, .ref (g 27)), (1, .int (nI c)), (2, .int (nI d)), (5, .int (zC G c (d + 1)))]) [1, 2, 3, 4, 5, 0] rfl ?_
            exact K107 (zC G c (d + 1)) (by unfold rdV; first | rw [if_pos (by omega)] | rw [if_neg (by omega), if_pos (by omega)] | rw [if_neg (by omega), if_neg (by omega), if_pos (by omega)] | rw [if_neg (by omega), if_neg (by omega), if_neg (by omega)])
      · refine j_iconst C ((-1)) (by decide) dX7_readDay_43 ?_
        refine j_istore C [(5, .int (-1)), (4, .int (nI (zK G c d))), (3, .int (nI ((c * 28) + d))), (0, .ref (g 27)), (1, .int (nI c)), (2, .int (nI d))] (by decide) rfl dX7_readDay_44 ?_
        refine j_goto C 107 (by decide) dX7_readDay_46 ?_
        refine j_sub (lv' := [(4, .int (nI (zK G c d))), (3, .int (nI ((c * 28) + d))), (0, .ref (g 27)), (1, .int (nI c)), (2, .int (nI d)), (5, .int (-1))]) [1, 2, 3, 4, 5, 0] rfl ?_
        exact K107 (-1) (by unfold rdV; first | rw [if_pos (by omega)] | rw [if_neg (by omega), if_pos (by omega)] | rw [if_neg (by omega), if_neg (by omega), if_pos (by omega)] | rw [if_neg (by omega), if_neg (by omega), if_neg (by omega)])
set_option maxRecDepth 100000 in
set_option maxHeartbeats 4000000 in
theorem e_isNeighbour (g kk : Nat → Nat) (σ : St) (k : Nat) (hk : σ.1 16 = nI k) (hk6 : k ≤ 6) (hI : iX σ) (G : GD) (hX : HX G k σ)  (c : Nat) (hc0 : c < k) (d : Nat) (hd0 : d < k) : jM (S := St) yX7_isNeighbour cX7_isNeighbour 3 (some .boolean) { frames := 2, cells := 0, slots := 0, locals := 44 } kk (cX g kk σ) [.ref (g 27), .int (nI c), .int (nI d)] (cX g kk) (rI (fun (r : Int32) (u : St) => u = σ ∧ (r = bI (nbV G c d)))) := by
  refine j_entry [(0, .ref (g 27)), (1, .int (nI c)), (2, .int (nI d))] (by decide) (Nat.le_of_ble_eq_true rfl) rfl ?_
  intro X C E HI
  have hs9 := hX.W.2.2
  refine j_iload_n C 1 rfl dX7_isNeighbour_0 ?_
  refine j_iload_n C 2 rfl dX7_isNeighbour_1 ?_
  refine j_icmp_eqN C 60 (by decide) (by omega) (by omega) dX7_isNeighbour_2 (fun c1 => ?_) (fun c1 => ?_)
  · refine j_iconst C (nI 0) (by decide) dX7_isNeighbour_60 ?_
    exact j_zret C E (by first | rfl | decide) (σ) ⟨_, rfl, ⟨rfl, (bI_0 (decide_eq_false (by omega)))⟩⟩ rfl dX7_isNeighbour_61
  · refine j_aload_n C 0 rfl dX7_isNeighbour_5 ?_
    refine gX_27_0 C tb_198 dX7_isNeighbour_6 ?_
    refine gX_1_1 C tb_104 dX7_isNeighbour_9 ?_
    refine j_iload_n C 1 rfl dX7_isNeighbour_12 ?_
    refine rX_2 C c rfl (by omega) (nI (zX G c)) (hX.P hc0).1 dX7_isNeighbour_13 ?_
    refine j_aload_n C 0 rfl dX7_isNeighbour_14 ?_
    refine gX_27_0 C tb_198 dX7_isNeighbour_15 ?_
    refine gX_1_2 C tb_108 dX7_isNeighbour_18 ?_
    refine j_iload_n C 1 rfl dX7_isNeighbour_21 ?_
    refine rX_3 C c rfl (by omega) (nI (zY G c)) (hX.P hc0).2 dX7_isNeighbour_22 ?_
    refine j_aload_n C 0 rfl dX7_isNeighbour_23 ?_
    refine gX_27_0 C tb_198 dX7_isNeighbour_24 ?_
    refine gX_1_1 C tb_104 dX7_isNeighbour_27 ?_
    refine j_iload_n C 2 rfl dX7_isNeighbour_30 ?_
    refine rX_2 C d rfl (by omega) (nI (zX G d)) (hX.P hd0).1 dX7_isNeighbour_31 ?_
    refine j_aload_n C 0 rfl dX7_isNeighbour_32 ?_
    refine gX_27_0 C tb_198 dX7_isNeighbour_33 ?_
    refine gX_1_2 C tb_108 dX7_isNeighbour_36 ?_
    refine j_iload_n C 2 rfl dX7_isNeighbour_39 ?_
    refine rX_3 C d rfl (by omega) (nI (zY G d)) (hX.P hd0).2 dX7_isNeighbour_40 ?_
    refine j_SN01 C (c_far (nI (zX G c)) (nI (zY G c)) (nI (zX G d)) (nI (zY G d))) kyX10_far (fun _ h => h.2.2.1) tb_587 rfl (Nat.le_of_ble_eq_true rfl) ⟨by decide, by decide⟩ ⟨by decide, by decide⟩ dX7_isNeighbour_41 rfl ?_
    rw [far_n (hX.W.XY hc0).1 (hX.W.XY hc0).2 (hX.W.XY hd0).1 (hX.W.XY hd0).2]
    have hfr := frN_le (hX.W.XY hc0).1 (hX.W.XY hc0).2 (hX.W.XY hd0).1 (hX.W.XY hd0).2
    refine j_aload_n C 0 rfl dX7_isNeighbour_44 ?_
    refine gX_27_0 C tb_198 dX7_isNeighbour_45 ?_
    refine gX_1_9 C tb_130 dX7_isNeighbour_48 ?_
    refine j_iconst C (nI 0) (by decide) dX7_isNeighbour_51 ?_
    refine rX_10 C 0 rfl (by omega) (nI (zS G 0)) (hX.S (by decide)) dX7_isNeighbour_52 ?_
    refine j_icmp_gtN C 60 (by decide) (by omega) (by omega) dX7_isNeighbour_53 (fun c2 => ?_) (fun c2 => ?_)
    · refine j_iconst C (nI 0) (by decide) dX7_isNeighbour_60 ?_
      exact j_zret C E (by first | rfl | decide) (σ) ⟨_, rfl, ⟨rfl, (bI_0 (decide_eq_false (by omega)))⟩⟩ rfl dX7_isNeighbour_61
    · refine j_iconst C (nI 1) (by decide) dX7_isNeighbour_56 ?_
      refine j_goto C 61 (by decide) dX7_isNeighbour_57 ?_
      exact j_zret C E (by first | rfl | decide) (σ) ⟨_, rfl, ⟨rfl, (bI_1 (decide_eq_true ⟨by omega, by omega⟩))⟩⟩ rfl dX7_isNeighbour_61
/-- a row of one can, up to a day; the rest stays -/
def rwP (f g : Nat → Int32) (V : Nat → Int32) (c d : Nat) : Prop := (∀ e : Nat, e < d → f (c * 28 + e) = V e) ∧ ∀ j : Nat, ¬ (c * 28 ≤ j ∧ j < c * 28 + 28) → f j = g j
theorem rw_0 {g : Nat → Int32} {V : Nat → Int32} {c : Nat} : rwP g g V c 0 := ⟨fun e he => absurd he (by omega), fun _ _ => rfl⟩
theorem rw_s {f g : Nat → Int32} {V : Nat → Int32} {c d : Nat} {v : Int32} (h : rwP f g V c d) (hv : v = V d) (hd : d < 28 := by omega) : rwP (upd f (c * 28 + d) v) g V c (d + 1) := by
  subst hv
  refine ⟨fun e he => ?_, fun j hj => ?_⟩
  · by_cases q : e = d
    · rw [q, pk_us]
    · rw [pk_un (by omega)]; exact h.1 e (by omega)
  · rw [pk_un (by omega)]; exact h.2 j hj
set_option maxRecDepth 100000 in
set_option maxHeartbeats 4000000 in
theorem e_expectDays (g kk : Nat → Nat) (σ : St) (k : Nat) (hk : σ.1 16 = nI k) (hk6 : k ≤ 6) (hI : iX σ) (G : GD) (hX : HX G k σ) (hP : ∀ o d : Nat, o < k → d < 28 → σ.2.1 29 (o * 28 + d) = plV G o d) (c : Nat) (hc0 : c < k) : jM (S := St) yX7_expectDays cX7_expectDays 8 none { frames := 3, cells := 0, slots := 0, locals := 66 } kk (cX g kk σ) [.ref (g 27), .int (nI c)] (cX g kk) (rV (fun u : St => ∃ (pF30 : Nat → Int32), u = sF σ 30 pF30 ∧ (rwP pF30 (σ.2.1 30) (exV G k c) c 28))) := by
  refine j_entry [(0, .ref (g 27)), (1, .int (nI c))] (by decide) (Nat.le_of_ble_eq_true rfl) rfl ?_
  intro X C E HI
  refine j_iload_n C 1 rfl dX7_expectDays_0 ?_
  refine j_bipush C (nI 28) (by decide) dX7_expectDays_1 ?_
  refine j_imulN C dX7_expectDays_3 ?_
  refine j_istore_n C [(2, .int (nI (c * 28))), (0, .ref (g 27)), (1, .int (nI c))] rfl (by decide) rfl dX7_expectDays_4 ?_
  refine j_iconst C (nI 0) (by decide) dX7_expectDays_5 ?_
  refine j_istore_n C [(3, .int (nI 0)), (2, .int (nI (c * 28))), (0, .ref (g 27)), (1, .int (nI c))] rfl (by decide) rfl dX7_expectDays_6 ?_
  have L7 : ∀ (n7 : Nat) (d : Nat) (fe : Nat → Int32) (i7_0 : d ≤ 28) (hf : rwP fe (σ.2.1 30) (exV G k c) c d) (hm7 : 28 - d < n7), J X 0 0 (cX g kk (sF σ 30 fe)) [(3, .int (nI d)), (2, .int (nI (c * 28))), (0, .ref (g 27)), (1, .int (nI c))] 7 [] := by
    intro n7
    induction n7 with
    | zero => intro d fe i7_0 hf hm; exact absurd hm (Nat.not_lt_zero _)
    | succ n7 ih7 =>
      intro d fe i7_0 hf hm7
      refine j_iload_n C 0 rfl dX7_expectDays_7 ?_
      refine j_bipush C (nI 28) (by decide) dX7_expectDays_8 ?_
      refine j_icmp_geN C 108 (by decide) (by omega) (by omega) dX7_expectDays_10 (fun c1 => ?_) (fun c1 => ?_)
      · exact j_vret C E (sF σ 30 fe) ⟨rfl, ⟨fe, rfl, (by have z := hf; rw [show d = 28 by omega] at z; exact z)⟩⟩ rfl dX7_expectDays_108
      · refine j_iconst C (nI 0) (by decide) dX7_expectDays_13 ?_
        refine j_istore C [(4, .int (nI 0)), (3, .int (nI d)), (2, .int (nI (c * 28))), (0, .ref (g 27)), (1, .int (nI c))] (by decide) rfl dX7_expectDays_14 ?_
        refine j_iconst C (nI 0) (by decide) dX7_expectDays_16 ?_
        refine j_istore C [(5, .int (nI 0)), (4, .int (nI 0)), (3, .int (nI d)), (2, .int (nI (c * 28))), (0, .ref (g 27)), (1, .int (nI c))] (by decide) rfl dX7_expectDays_17 ?_
        refine j_iconst C (nI 0) (by decide) dX7_expectDays_19 ?_
        refine j_istore C [(6, .int (nI 0)), (5, .int (nI 0)), (4, .int (nI 0)), (3, .int (nI d)), (2, .int (nI (c * 28))), (0, .ref (g 27)), (1, .int (nI c))] (by decide) rfl dX7_expectDays_20 ?_
        have L22 : ∀ (n22 : Nat) (o : Nat) (mv9 : Nat) (sv : Nat) (i22_0 : o ≤ k) (i22_1 : mv9 ≤ o) (i22_2 : sv ≤ 9990 * o) (he : (sv, mv9) = exS G c d o) (hm22 : k - o < n22), J X 0 0 (cX g kk (sF σ 30 fe)) [(6, .int (nI o)), (5, .int (nI mv9)), (4, .int (nI sv)), (3, .int (nI d)), (2, .int (nI (c * 28))), (0, .ref (g 27)), (1, .int (nI c))] 22 [] := by
          intro n22
          induction n22 with
          | zero => intro o mv9 sv i22_0 i22_1 i22_2 he hm; exact absurd hm (Nat.not_lt_zero _)
          | succ n22 ih22 =>
            intro o mv9 sv i22_0 i22_1 i22_2 he hm22
            refine j_iload C 0 rfl dX7_expectDays_22 ?_
            refine j_aload_n C 5 rfl dX7_expectDays_24 ?_
            refine gX_27_0 C tb_198 dX7_expectDays_25 ?_
            refine gX_1_0 C tb_100 (nI k) hk dX7_expectDays_28 ?_
            refine j_icmp_geN C 80 (by decide) (by omega) (by omega) dX7_expectDays_31 (fun c2 => ?_) (fun c2 => ?_)
            · refine j_aload_n C 5 rfl dX7_expectDays_80 ?_
              refine gX_27_3 C tb_204 dX7_expectDays_81 ?_
              refine j_iload_n C 4 rfl dX7_expectDays_84 ?_
              refine j_iload_n C 3 rfl dX7_expectDays_85 ?_
              refine j_iaddN C dX7_expectDays_86 ?_
              refine j_iload C 1 rfl dX7_expectDays_87 ?_
              refine j_if_neN C 96 (by decide) (by omega) dX7_expectDays_89 (fun c3 => ?_) (fun c3 => ?_)
              · refine j_iload C 2 rfl dX7_expectDays_96 ?_
                refine j_iload C 1 rfl dX7_expectDays_98 ?_
                have hq4 := Nat.div_le_self sv mv9
                refine j_idivN C (by omega) (by omega) (by omega) dX7_expectDays_100 ?_
                refine tX_30 C ((c * 28) + d) rfl (by omega) dX7_expectDays_101 ?_
                refine j_iinc C (nI (d + 1)) [(3, .int (nI (d + 1))), (6, .int (nI o)), (5, .int (nI mv9)), (4, .int (nI sv)), (2, .int (nI (c * 28))), (0, .ref (g 27)), (1, .int (nI c))] 3 rfl (by rw [show Int32.ofInt 1 = nI 1 from by decide, nI_add]) (by decide) rfl dX7_expectDays_102 ?_
                refine j_goto C 7 (by decide) dX7_expectDays_105 ?_
                refine j_sub (lv' := [(3, .int (nI (d + 1))), (2, .int (nI (c * 28))), (0, .ref (g 27)), (1, .int (nI c))]) [0, 4, 5, 6] rfl ?_
                refine j_w (cX g kk (sF σ 30 (upd fe ((c * 28) + d) (nI (sv / mv9))))) (congrArg (cX g kk) (show sF (sF σ 30 fe) 30 (upd fe ((c * 28) + d) (nI (sv / mv9))) = sF σ 30 (upd fe ((c * 28) + d) (nI (sv / mv9))) from wrFs)) ?_
                exact ih7 (d + 1) (upd fe ((c * 28) + d) (nI (sv / mv9))) (by omega) (rw_s hf (by first | exact ex_0 (s := sv) (m := mv9) (by have z := he; rw [show o = k by omega] at z; exact z) (by omega) | exact ex_1 (s := sv) (m := mv9) (by have z := he; rw [show o = k by omega] at z; exact z) (by omega))) (by omega)
              · refine j_iconst C ((-1)) (by decide) dX7_expectDays_92 ?_
                refine j_goto C 101 (by decide) dX7_expectDays_93 ?_
                refine tX_30 C ((c * 28) + d) rfl (by omega) dX7_expectDays_101 ?_
                refine j_iinc C (nI (d + 1)) [(3, .int (nI (d + 1))), (6, .int (nI o)), (5, .int (nI mv9)), (4, .int (nI sv)), (2, .int (nI (c * 28))), (0, .ref (g 27)), (1, .int (nI c))] 3 rfl (by rw [show Int32.ofInt 1 = nI 1 from by decide, nI_add]) (by decide) rfl dX7_expectDays_102 ?_
                refine j_goto C 7 (by decide) dX7_expectDays_105 ?_
                refine j_sub (lv' := [(3, .int (nI (d + 1))), (2, .int (nI (c * 28))), (0, .ref (g 27)), (1, .int (nI c))]) [0, 4, 5, 6] rfl ?_
                refine j_w (cX g kk (sF σ 30 (upd fe ((c * 28) + d) (-1)))) (congrArg (cX g kk) (show sF (sF σ 30 fe) 30 (upd fe ((c * 28) + d) (-1)) = sF σ 30 (upd fe ((c * 28) + d) (-1)) from wrFs)) ?_
                exact ih7 (d + 1) (upd fe ((c * 28) + d) (-1)) (by omega) (rw_s hf (by first | exact ex_0 (s := sv) (m := mv9) (by have z := he; rw [show o = k by omega] at z; exact z) (by omega) | exact ex_1 (s := sv) (m := mv9) (by have z := he; rw [show o = k by omega] at z; exact z) (by omega))) (by omega)
            · refine j_aload_n C 5 rfl dX7_expectDays_34 ?_
              refine gX_27_2 C tb_203 dX7_expectDays_35 ?_
              refine j_iload C 0 rfl dX7_expectDays_38 ?_
              refine j_bipush C (nI 28) (by decide) dX7_expectDays_40 ?_
              refine j_imulN C dX7_expectDays_42 ?_
              refine j_iload_n C 3 rfl dX7_expectDays_43 ?_
              refine j_iaddN C dX7_expectDays_44 ?_
              refine rX_29 C ((o * 28) + d) rfl (by omega) (plV G o d) (hP o d (by omega) (by omega)) dX7_expectDays_45 ?_
              refine j_istore C [(7, .int (plV G o d)), (6, .int (nI o)), (5, .int (nI mv9)), (4, .int (nI sv)), (3, .int (nI d)), (2, .int (nI (c * 28))), (0, .ref (g 27)), (1, .int (nI c))] (by decide) rfl dX7_expectDays_46 ?_
              refine j_iload C 0 rfl dX7_expectDays_48 ?_
              refine j_iconst C ((-1)) (by decide) dX7_expectDays_50 ?_
              refine j_icmp_eq C 74 (by decide) dX7_expectDays_51 (fun c5 => ?_) (fun c5 => ?_)
              · refine j_iinc C (nI (o + 1)) [(6, .int (nI (o + 1))), (7, .int (plV G o d)), (5, .int (nI mv9)), (4, .int (nI sv)), (3, .int (nI d)), (2, .int (nI (c * 28))), (0, .ref (g 27)), (1, .int (nI c))] 1 rfl (by rw [show Int32.ofInt 1 = nI 1 from by decide, nI_add]) (by decide) rfl dX7_expectDays_74 ?_
                refine j_goto C 22 (by decide) dX7_expectDays_77 ?_
                refine j_sub (lv' := [(6, .int (nI (o + 1))), (5, .int (nI mv9)), (4, .int (nI sv)), (3, .int (nI d)), (2, .int (nI (c * 28))), (0, .ref (g 27)), (1, .int (nI c))]) [0, 2, 3, 4, 5, 6, 7] rfl ?_
                exact ih22 (o + 1) mv9 sv (by omega) (by omega) (by omega) (exS_n he (Or.inl c5)) (by omega)
              · refine j_aload_n C 6 rfl dX7_expectDays_54 ?_
                refine j_iload_n C 7 rfl dX7_expectDays_55 ?_
                refine j_iload C 1 rfl dX7_expectDays_56 ?_
                refine j_V1 C (e_isNeighbour g kk (sF σ 30 fe) k hk hk6 hI G hX c (by first | assumption | omega) o (by first | assumption | omega)) kyX7_isNeighbour tb_582 tb_584 sp_5 27 rfl (eX_27 g kk _) rfl (Nat.le_of_ble_eq_true rfl) ⟨by decide, by decide⟩ dX7_expectDays_58 rfl (fun vr ur hp => ?_)
                obtain ⟨r7, rfl, hu, g6⟩ := hp
                replace hu := hu.symm
                subst hu
                subst g6
                refine j_if_eq C 74 (by decide) dX7_expectDays_61 (fun c8 => ?_) (fun c8 => ?_)
                · replace c8 := bI_f c8
                  refine j_iinc C (nI (o + 1)) [(6, .int (nI (o + 1))), (7, .int (plV G o d)), (5, .int (nI mv9)), (4, .int (nI sv)), (3, .int (nI d)), (2, .int (nI (c * 28))), (0, .ref (g 27)), (1, .int (nI c))] 1 rfl (by rw [show Int32.ofInt 1 = nI 1 from by decide, nI_add]) (by decide) rfl dX7_expectDays_74 ?_
                  refine j_goto C 22 (by decide) dX7_expectDays_77 ?_
                  refine j_sub (lv' := [(6, .int (nI (o + 1))), (5, .int (nI mv9)), (4, .int (nI sv)), (3, .int (nI d)), (2, .int (nI (c * 28))), (0, .ref (g 27)), (1, .int (nI c))]) [0, 2, 3, 4, 5, 6, 7] rfl ?_
                  exact ih22 (o + 1) mv9 sv (by omega) (by omega) (by omega) (exS_n he (Or.inr c8)) (by omega)
                · replace c8 := bI_t c8
                  obtain ⟨p9, hp9, ep9⟩ := (pl_lm hX.W (show o < k by omega) (show d < 28 by omega)).resolve_left c5
                  rw [ep9]
                  refine j_iload C 3 rfl dX7_expectDays_64 ?_
                  refine j_iload C 0 rfl dX7_expectDays_66 ?_
                  refine j_iaddN C dX7_expectDays_68 ?_
                  refine j_istore C [(4, .int (nI (sv + p9))), (7, .int (nI p9)), (6, .int (nI o)), (5, .int (nI mv9)), (3, .int (nI d)), (2, .int (nI (c * 28))), (0, .ref (g 27)), (1, .int (nI c))] (by decide) rfl dX7_expectDays_69 ?_
                  refine j_iinc C (nI (mv9 + 1)) [(5, .int (nI (mv9 + 1))), (4, .int (nI (sv + p9))), (7, .int (nI p9)), (6, .int (nI o)), (3, .int (nI d)), (2, .int (nI (c * 28))), (0, .ref (g 27)), (1, .int (nI c))] 3 rfl (by rw [show Int32.ofInt 1 = nI 1 from by decide, nI_add]) (by decide) rfl dX7_expectDays_71 ?_
                  refine j_iinc C (nI (o + 1)) [(6, .int (nI (o + 1))), (5, .int (nI (mv9 + 1))), (4, .int (nI (sv + p9))), (7, .int (nI p9)), (3, .int (nI d)), (2, .int (nI (c * 28))), (0, .ref (g 27)), (1, .int (nI c))] 3 rfl (by rw [show Int32.ofInt 1 = nI 1 from by decide, nI_add]) (by decide) rfl dX7_expectDays_74 ?_
                  refine j_goto C 22 (by decide) dX7_expectDays_77 ?_
                  refine j_sub (lv' := [(6, .int (nI (o + 1))), (5, .int (nI (mv9 + 1))), (4, .int (nI (sv + p9))), (3, .int (nI d)), (2, .int (nI (c * 28))), (0, .ref (g 27)), (1, .int (nI c))]) [0, 1, 2, 4, 5, 6, 7] rfl ?_
                  exact ih22 (o + 1) (mv9 + 1) (sv + p9) (by omega) (by omega) (by omega) (exS_y he (by omega) ep9 c8) (by omega)
        exact L22 _ 0 0 0 (by omega) (by omega) (by omega) rfl (Nat.lt_succ_self _)
  refine j_w (cX g kk (sF σ 30 (σ.2.1 30))) (congrArg (cX g kk) (wrFi (S := σ) (c := 30) (v := σ.2.1 30) rfl)) ?_
  exact L7 _ 0 (σ.2.1 30) (by omega) rw_0 (Nat.lt_succ_self _)
theorem sm_s {E : Nat → Nat} {T a i : Nat} (h : T = sm E a (i - a)) (hi : a ≤ i) : T + E i = sm E a (i + 1 - a) := by
  rw [show i + 1 - a = (i - a) + 1 by omega]
  show T + E i = sm E a (i - a) + E (a + (i - a))
  rw [← h, show a + (i - a) = i by omega]
theorem mulb {x y : Nat} (hx : x ≤ 9990) (hy : y ≤ 9990) : x * y ≤ 99800100 := Nat.le_trans (Nat.mul_le_mul hx hy) (by decide)
def PTP (f g : Nat → Int32) (t T : Nat) (E : Nat → Nat) (a j : Nat) : Prop := (∀ i : Nat, a ≤ i → i < j → f i = nI (shV t T (E i))) ∧ ∀ i : Nat, ¬ (a ≤ i ∧ i < j) → f i = g i
theorem PTP_0 {g : Nat → Int32} {t T a : Nat} {E : Nat → Nat} : PTP g g t T E a a := ⟨fun i h1 h2 => absurd h2 (by omega), fun _ _ => rfl⟩
theorem PTP_s {f g : Nat → Int32} {t T a j : Nat} {E : Nat → Nat} (h : PTP f g t T E a j) (ha : a ≤ j) : PTP (upd f j (nI (shV t T (E j)))) g t T E a (j + 1) := by
  refine ⟨fun i h1 h2 => ?_, fun i hi => ?_⟩
  · by_cases q : i = j
    · rw [q, pk_us]
    · rw [pk_un q]; exact h.1 i h1 (by omega)
  · rw [pk_un (by omega)]; exact h.2 i (by omega)
theorem sb_le {E : Nat → Nat} {t lf a b j : Nat} (hl : lf = t - sm (fun i => shV t (sm E a (b + 1 - a)) (E i)) a (j - a)) (ha : a ≤ j) (hj : j < b) : shV t (sm E a (b + 1 - a)) (E j) ≤ lf ∧ lf - shV t (sm E a (b + 1 - a)) (E j) = t - sm (fun i => shV t (sm E a (b + 1 - a)) (E i)) a (j + 1 - a) := by
  have h := sh_le (E := E) (t := t) (a := a) (m := j + 1 - a) (n := b + 1 - a) (by omega)
  have e := sm_s (E := fun i => shV t (sm E a (b + 1 - a)) (E i)) (T := sm (fun i => shV t (sm E a (b + 1 - a)) (E i)) a (j - a)) rfl ha
  rw [← e] at h ⊢
  omega
theorem PTP_e {f g : Nat → Int32} {t lf a b : Nat} {E : Nat → Nat} (h : PTP f g t (sm E a (b + 1 - a)) E a b) (hl : lf = t - sm (fun i => shV t (sm E a (b + 1 - a)) (E i)) a (b - a)) (hab : a ≤ b) : upd f b (nI lf) = ptF g t E a b := by
  funext j
  by_cases q : j = b
  · rw [q, pk_us, ptF_in hab (Nat.le_refl _)]
    unfold ptV
    rw [if_neg (by omega), hl]
  · rw [pk_un q]
    by_cases w : a ≤ j ∧ j < b
    · rw [ptF_in w.1 (by omega), h.1 j w.1 w.2]
      unfold ptV
      rw [if_pos w.2]
    · rw [ptF_out (by omega), h.2 j w]
set_option maxRecDepth 100000 in
set_option maxHeartbeats 4000000 in
theorem e_part (g kk : Nat → Nat) (σ : St) (k : Nat) (hk : σ.1 16 = nI k) (hk6 : k ≤ 6) (hI : iX σ)  (a : Nat) (ha0 : a < 168) (b : Nat) (hb0 : a ≤ b) (hb1 : b < 168) (hb2 : b ≤ a + 27) (t : Nat) (ht0 : t ≤ 9990) (ht1 : ∀ i : Nat, a ≤ i → i ≤ b → lm_ 9990 (σ.2.1 30 i)) : jM (S := St) yX10_part cX10_part 8 none { frames := 1, cells := 0, slots := 0, locals := 21 } kk (cX g kk σ) [.ref (g 31), .int (nI a), .int (nI b), .int (nI t), .ref (g 30)] (cX g kk) (rV (fun u : St => ∃ (pF31 : Nat → Int32), u = sF σ 31 pF31 ∧ (pF31 = ptF (σ.2.1 31) t (fun i => (σ.2.1 30 i).toNatClampNeg) a b))) := by
  refine j_entry [(0, .ref (g 31)), (1, .int (nI a)), (2, .int (nI b)), (3, .int (nI t)), (4, .ref (g 30))] (by decide) (Nat.le_of_ble_eq_true rfl) rfl ?_
  intro X C E HI
  refine j_iconst C (nI 0) (by decide) dX10_part_0 ?_
  refine j_istore C [(5, .int (nI 0)), (0, .ref (g 31)), (1, .int (nI a)), (2, .int (nI b)), (3, .int (nI t)), (4, .ref (g 30))] (by decide) rfl dX10_part_1 ?_
  refine j_iload_n C 2 rfl dX10_part_3 ?_
  refine j_istore C [(6, .int (nI a)), (5, .int (nI 0)), (0, .ref (g 31)), (1, .int (nI a)), (2, .int (nI b)), (3, .int (nI t)), (4, .ref (g 30))] (by decide) rfl dX10_part_4 ?_
  have L6 : ∀ (n6 : Nat) (i : Nat) (T : Nat) (i6_0 : a ≤ i) (i6_1 : i ≤ b + 1) (i6_2 : T ≤ 9990 * (i - a)) (hT : T = sm (fun i => (σ.2.1 30 i).toNatClampNeg) a (i - a)) (hm6 : b + 1 - i < n6), J X 0 0 (cX g kk σ) [(6, .int (nI i)), (5, .int (nI T)), (0, .ref (g 31)), (1, .int (nI a)), (2, .int (nI b)), (3, .int (nI t)), (4, .ref (g 30))] 6 [] := by
    intro n6
    induction n6 with
    | zero => intro i T i6_0 i6_1 i6_2 hT hm; exact absurd hm (Nat.not_lt_zero _)
    | succ n6 ih6 =>
      intro i T i6_0 i6_1 i6_2 hT hm6
      refine j_iload C 0 rfl dX10_part_6 ?_
      refine j_iload_n C 4 rfl dX10_part_8 ?_
      refine j_icmp_gtN C 32 (by decide) (by omega) (by omega) dX10_part_9 (fun c1 => ?_) (fun c1 => ?_)
      · refine j_iload_n C 5 rfl dX10_part_32 ?_
        refine j_istore C [(6, .int (nI t)), (5, .int (nI T)), (0, .ref (g 31)), (1, .int (nI a)), (2, .int (nI b)), (3, .int (nI t)), (4, .ref (g 30))] (by decide) rfl dX10_part_33 ?_
        refine j_iload_n C 3 rfl dX10_part_35 ?_
        refine j_istore C [(7, .int (nI a)), (6, .int (nI t)), (5, .int (nI T)), (0, .ref (g 31)), (1, .int (nI a)), (2, .int (nI b)), (3, .int (nI t)), (4, .ref (g 30))] (by decide) rfl dX10_part_36 ?_
        have L38 : ∀ (n38 : Nat) (j : Nat) (lf : Nat) (fr9 : Nat → Int32) (i38_0 : a ≤ j) (i38_1 : j ≤ b) (i38_2 : lf ≤ t) (hl : lf = t - sm (fun i => shV t (sm (fun i => (σ.2.1 30 i).toNatClampNeg) a (b + 1 - a)) ((σ.2.1 30 i).toNatClampNeg)) a (j - a)) (hp : PTP fr9 (σ.2.1 31) t (sm (fun i => (σ.2.1 30 i).toNatClampNeg) a (b + 1 - a)) (fun i => (σ.2.1 30 i).toNatClampNeg) a j) (hm38 : b - j < n38), J X 0 0 (cX g kk (sF σ 31 fr9)) [(7, .int (nI j)), (6, .int (nI lf)), (5, .int (nI T)), (0, .ref (g 31)), (1, .int (nI a)), (2, .int (nI b)), (3, .int (nI t)), (4, .ref (g 30))] 38 [] := by
          intro n38
          induction n38 with
          | zero => intro j lf fr9 i38_0 i38_1 i38_2 hl hp hm; exact absurd hm (Nat.not_lt_zero _)
          | succ n38 ih38 =>
            intro j lf fr9 i38_0 i38_1 i38_2 hl hp hm38
            refine j_iload C 0 rfl dX10_part_38 ?_
            refine j_iload_n C 5 rfl dX10_part_40 ?_
            refine j_icmp_geN C 86 (by decide) (by omega) (by omega) dX10_part_41 (fun c2 => ?_) (fun c2 => ?_)
            · refine j_aload_n C 3 rfl dX10_part_86 ?_
              refine j_iload_n C 5 rfl dX10_part_87 ?_
              refine j_iload C 1 rfl dX10_part_88 ?_
              refine tX_31 C b rfl (by omega) dX10_part_90 ?_
              refine j_w (cX g kk (sF σ 31 (upd fr9 b (nI lf)))) (congrArg (cX g kk) (show sF (sF σ 31 fr9) 31 (upd fr9 b (nI lf)) = sF σ 31 (upd fr9 b (nI lf)) from wrFs)) ?_
              exact j_vret C E (sF σ 31 (upd fr9 b (nI lf))) ⟨rfl, ⟨(upd fr9 b (nI lf)), rfl, (PTP_e (by have z := hp; rw [show j = b by omega] at z; exact z) (by have z := hl; rw [show j = b by omega] at z; exact z) (by omega))⟩⟩ rfl dX10_part_91
            · refine j_aload_n C 3 rfl dX10_part_44 ?_
              refine j_iload C 0 rfl dX10_part_45 ?_
              refine j_iload C 2 rfl dX10_part_47 ?_
              refine j_if_neN C 56 (by decide) (by omega) dX10_part_49 (fun c3 => ?_) (fun c3 => ?_)
              · refine j_iload_n C 6 rfl dX10_part_56 ?_
                refine j_iconst C (nI 0) (by decide) dX10_part_57 ?_
                refine j_aload C 7 rfl dX10_part_58 ?_
                refine j_iload C 0 rfl dX10_part_60 ?_
                refine rX_30 C j rfl (by omega) ((σ.2.1 30) j) rfl dX10_part_62 ?_
                refine j_mmax C tb_599 tb_600 tb_15 tb_601 (by decide) (Nat.le_of_ble_eq_true rfl) (by decide) (by decide) dX10_part_63 ?_
                rw [mx0 (by decide) (ht1 j (by omega) (by omega))]
                have hcj9 := cl_le (by decide) (ht1 j (by omega) (by omega))
                have hmul := mulb ht0 hcj9
                refine j_imulN C dX10_part_66 ?_
                refine j_iload C 2 rfl dX10_part_67 ?_
                have hq4 := Nat.div_le_self (t * ((σ.2.1 30 j).toNatClampNeg)) T
                refine j_idivN C (by omega) (by omega) (by omega) dX10_part_69 ?_
                have hTe : T = (sm (fun i => (σ.2.1 30 i).toNatClampNeg) a (b + 1 - a)) := by rw [hT, show i = b + 1 by omega]
                refine j_teq (show nI ((t * ((σ.2.1 30 j).toNatClampNeg)) / T) = nI (shV t (sm (fun i => (σ.2.1 30 i).toNatClampNeg) a (b + 1 - a)) ((σ.2.1 30 j).toNatClampNeg)) from congrArg nI (by unfold shV; rw [← hTe, if_neg (by omega)])) ?_
                refine tX_31 C j rfl (by omega) dX10_part_70 ?_
                refine j_iload C 1 rfl dX10_part_71 ?_
                refine j_aload_n C 3 rfl dX10_part_73 ?_
                refine j_iload C 0 rfl dX10_part_74 ?_
                have hsb := sb_le hl (by omega) (by omega)
                refine rX_31 C j rfl (by omega) (nI (shV t (sm (fun i => (σ.2.1 30 i).toNatClampNeg) a (b + 1 - a)) ((σ.2.1 30 j).toNatClampNeg))) pk_us dX10_part_76 ?_
                refine j_isubN C (by omega) dX10_part_77 ?_
                refine j_istore C [(6, .int (nI (lf - (shV t (sm (fun i => (σ.2.1 30 i).toNatClampNeg) a (b + 1 - a)) ((σ.2.1 30 j).toNatClampNeg))))), (7, .int (nI j)), (5, .int (nI T)), (0, .ref (g 31)), (1, .int (nI a)), (2, .int (nI b)), (3, .int (nI t)), (4, .ref (g 30))] (by decide) rfl dX10_part_78 ?_
                refine j_iinc C (nI (j + 1)) [(7, .int (nI (j + 1))), (6, .int (nI (lf - (shV t (sm (fun i => (σ.2.1 30 i).toNatClampNeg) a (b + 1 - a)) ((σ.2.1 30 j).toNatClampNeg))))), (5, .int (nI T)), (0, .ref (g 31)), (1, .int (nI a)), (2, .int (nI b)), (3, .int (nI t)), (4, .ref (g 30))] 1 rfl (by rw [show Int32.ofInt 1 = nI 1 from by decide, nI_add]) (by decide) rfl dX10_part_80 ?_
                refine j_goto C 38 (by decide) dX10_part_83 ?_
                refine j_w (cX g kk (sF σ 31 (upd fr9 j (nI (shV t (sm (fun i => (σ.2.1 30 i).toNatClampNeg) a (b + 1 - a)) ((σ.2.1 30 j).toNatClampNeg)))))) (congrArg (cX g kk) (show sF (sF σ 31 fr9) 31 (upd fr9 j (nI (shV t (sm (fun i => (σ.2.1 30 i).toNatClampNeg) a (b + 1 - a)) ((σ.2.1 30 j).toNatClampNeg)))) = sF σ 31 (upd fr9 j (nI (shV t (sm (fun i => (σ.2.1 30 i).toNatClampNeg) a (b + 1 - a)) ((σ.2.1 30 j).toNatClampNeg)))) from wrFs)) ?_
                exact ih38 (j + 1) (lf - (shV t (sm (fun i => (σ.2.1 30 i).toNatClampNeg) a (b + 1 - a)) ((σ.2.1 30 j).toNatClampNeg))) (upd fr9 j (nI (shV t (sm (fun i => (σ.2.1 30 i).toNatClampNeg) a (b + 1 - a)) ((σ.2.1 30 j).toNatClampNeg)))) (by omega) (by omega) (by omega) hsb.2 (PTP_s hp (by omega)) (by omega)
              · refine j_iconst C (nI 0) (by decide) dX10_part_52 ?_
                refine j_goto C 70 (by decide) dX10_part_53 ?_
                have hTe : T = (sm (fun i => (σ.2.1 30 i).toNatClampNeg) a (b + 1 - a)) := by rw [hT, show i = b + 1 by omega]
                refine j_teq (show nI (0) = nI (shV t (sm (fun i => (σ.2.1 30 i).toNatClampNeg) a (b + 1 - a)) ((σ.2.1 30 j).toNatClampNeg)) from congrArg nI (by unfold shV; rw [← hTe, if_pos (by omega)])) ?_
                refine tX_31 C j rfl (by omega) dX10_part_70 ?_
                refine j_iload C 1 rfl dX10_part_71 ?_
                refine j_aload_n C 3 rfl dX10_part_73 ?_
                refine j_iload C 0 rfl dX10_part_74 ?_
                have hsb := sb_le hl (by omega) (by omega)
                refine rX_31 C j rfl (by omega) (nI (shV t (sm (fun i => (σ.2.1 30 i).toNatClampNeg) a (b + 1 - a)) ((σ.2.1 30 j).toNatClampNeg))) pk_us dX10_part_76 ?_
                refine j_isubN C (by omega) dX10_part_77 ?_
                refine j_istore C [(6, .int (nI (lf - (shV t (sm (fun i => (σ.2.1 30 i).toNatClampNeg) a (b + 1 - a)) ((σ.2.1 30 j).toNatClampNeg))))), (7, .int (nI j)), (5, .int (nI T)), (0, .ref (g 31)), (1, .int (nI a)), (2, .int (nI b)), (3, .int (nI t)), (4, .ref (g 30))] (by decide) rfl dX10_part_78 ?_
                refine j_iinc C (nI (j + 1)) [(7, .int (nI (j + 1))), (6, .int (nI (lf - (shV t (sm (fun i => (σ.2.1 30 i).toNatClampNeg) a (b + 1 - a)) ((σ.2.1 30 j).toNatClampNeg))))), (5, .int (nI T)), (0, .ref (g 31)), (1, .int (nI a)), (2, .int (nI b)), (3, .int (nI t)), (4, .ref (g 30))] 1 rfl (by rw [show Int32.ofInt 1 = nI 1 from by decide, nI_add]) (by decide) rfl dX10_part_80 ?_
                refine j_goto C 38 (by decide) dX10_part_83 ?_
                refine j_w (cX g kk (sF σ 31 (upd fr9 j (nI (shV t (sm (fun i => (σ.2.1 30 i).toNatClampNeg) a (b + 1 - a)) ((σ.2.1 30 j).toNatClampNeg)))))) (congrArg (cX g kk) (show sF (sF σ 31 fr9) 31 (upd fr9 j (nI (shV t (sm (fun i => (σ.2.1 30 i).toNatClampNeg) a (b + 1 - a)) ((σ.2.1 30 j).toNatClampNeg)))) = sF σ 31 (upd fr9 j (nI (shV t (sm (fun i => (σ.2.1 30 i).toNatClampNeg) a (b + 1 - a)) ((σ.2.1 30 j).toNatClampNeg)))) from wrFs)) ?_
                exact ih38 (j + 1) (lf - (shV t (sm (fun i => (σ.2.1 30 i).toNatClampNeg) a (b + 1 - a)) ((σ.2.1 30 j).toNatClampNeg))) (upd fr9 j (nI (shV t (sm (fun i => (σ.2.1 30 i).toNatClampNeg) a (b + 1 - a)) ((σ.2.1 30 j).toNatClampNeg)))) (by omega) (by omega) (by omega) hsb.2 (PTP_s hp (by omega)) (by omega)
        refine j_w (cX g kk (sF σ 31 (σ.2.1 31))) (congrArg (cX g kk) (wrFi (S := σ) (c := 31) (v := σ.2.1 31) rfl)) ?_
        exact L38 _ a t (σ.2.1 31) (by omega) (by omega) (by omega) (by rw [Nat.sub_self]; rfl) PTP_0 (Nat.lt_succ_self _)
      · refine j_iload C 1 rfl dX10_part_12 ?_
        refine j_iconst C (nI 0) (by decide) dX10_part_14 ?_
        refine j_aload C 6 rfl dX10_part_15 ?_
        refine j_iload C 0 rfl dX10_part_17 ?_
        refine rX_30 C i rfl (by omega) ((σ.2.1 30) i) rfl dX10_part_19 ?_
        refine j_mmax C tb_599 tb_600 tb_15 tb_601 (by decide) (Nat.le_of_ble_eq_true rfl) (by decide) (by decide) dX10_part_20 ?_
        rw [mx0 (by decide) (ht1 i (by omega) (by omega))]
        have hci9 := cl_le (by decide) (ht1 i (by omega) (by omega))
        refine j_iaddN C dX10_part_23 ?_
        refine j_istore C [(5, .int (nI (T + ((σ.2.1 30 i).toNatClampNeg)))), (6, .int (nI i)), (0, .ref (g 31)), (1, .int (nI a)), (2, .int (nI b)), (3, .int (nI t)), (4, .ref (g 30))] (by decide) rfl dX10_part_24 ?_
        refine j_iinc C (nI (i + 1)) [(6, .int (nI (i + 1))), (5, .int (nI (T + ((σ.2.1 30 i).toNatClampNeg)))), (0, .ref (g 31)), (1, .int (nI a)), (2, .int (nI b)), (3, .int (nI t)), (4, .ref (g 30))] 1 rfl (by rw [show Int32.ofInt 1 = nI 1 from by decide, nI_add]) (by decide) rfl dX10_part_26 ?_
        refine j_goto C 6 (by decide) dX10_part_29 ?_
        exact ih6 (i + 1) (T + ((σ.2.1 30 i).toNatClampNeg)) (by omega) (by omega) (by omega) (sm_s hT (by omega)) (by omega)
  exact L6 _ a 0 (by omega) (by omega) (by omega) (by rw [Nat.sub_self]; rfl) (Nat.lt_succ_self _)
theorem ptV_off {E H : Nat → Nat} {t C a b d : Nat} (h : ∀ i, a ≤ i → i ≤ b → E (C + i) = H i) (ha : a ≤ d) (hd : d ≤ b) : ptV t E (C + a) (C + b) (C + d) = ptV t H a b d := by
  have e1 : sm E (C + a) (C + b + 1 - (C + a)) = sm H a (b + 1 - a) := by
    rw [show C + b + 1 - (C + a) = b + 1 - a by omega, ← sm_off]
    exact sm_congr _ (fun i h1 h2 => h i h1 (by omega))
  unfold ptV
  by_cases q : d < b
  · rw [if_pos (by omega), if_pos q, e1, h d ha hd]
  · rw [if_neg (by omega), if_neg q, e1, show C + b - (C + a) = b - a by omega, ← sm_off (E := fun i => shV t (sm H a (b + 1 - a)) (E i))]
    congr 1
    exact sm_congr _ (fun i h1 h2 => by show shV t _ (E (C + i)) = _; rw [h i h1 (by omega)])
def VP (f g : Nat → Int32) (G : GD) (k c d : Nat) : Prop := (∀ e : Nat, e < d → f (c * 28 + e) = if zK G c e = 3 ∧ d ≤ zL G c e then -1 else vaV G k c e) ∧ ∀ j : Nat, ¬ (c * 28 ≤ j ∧ j < c * 28 + 28) → f j = g j
theorem VP_0 {g : Nat → Int32} {G : GD} {k c : Nat} : VP g g G k c 0 := ⟨fun e he => absurd he (by omega), fun _ _ => rfl⟩
theorem VP_x {f g : Nat → Int32} {G : GD} {k c d : Nat} (h : VP f g G k c d) (hd : d < 28) (hn : ∀ e, e < d → zK G c e = 3 → ¬ zL G c e = d) (hv : plV G c d = if zK G c d = 3 ∧ d + 1 ≤ zL G c d then -1 else vaV G k c d) : VP (upd f (c * 28 + d) (plV G c d)) g G k c (d + 1) := by
  refine ⟨fun e he => ?_, fun j hj => by rw [pk_un (by omega)]; exact h.2 j hj⟩
  by_cases q : e = d
  · rw [q, pk_us]; exact hv
  · rw [pk_un (by omega), h.1 e (by omega)]
    have := hn e (by omega)
    by_cases w : zK G c e = 3 ∧ d ≤ zL G c e
    · rw [if_pos w, if_pos ⟨w.1, by have := this w.1; omega⟩]
    · rw [if_neg w, if_neg (fun z => w ⟨z.1, by omega⟩)]
theorem VP_n {f g : Nat → Int32} {G : GD} {k c d : Nat} (hW : WG G k) (hc : c < k) (h : VP f g G k c d) (hd : d < 28) (hk : ¬ zK G c d = 3) : VP (upd f (c * 28 + d) (plV G c d)) g G k c (d + 1) := by
  refine VP_x h hd (fun e he h3 hl => ?_) ?_
  · obtain ⟨w1, w2, w3, w4⟩ := hW.R hc (show e < 28 by omega) h3
    exact hk (w4 d (by omega) (by omega)).1
  · rw [if_neg (fun z => hk z.1)]; unfold vaV; rw [if_neg hk]
theorem VP_l {f g : Nat → Int32} {G : GD} {k c d : Nat} (hW : WG G k) (hc : c < k) (h : VP f g G k c d) (hd : d < 28) (hk : zK G c d = 3) (hl : ¬ zL G c d = d) : VP (upd f (c * 28 + d) (plV G c d)) g G k c (d + 1) := by
  have hr := hW.R hc hd hk
  refine VP_x h hd (fun e he h3 hl2 => ?_) ?_
  · obtain ⟨w1, w2, w3, w4⟩ := hW.R hc (show e < 28 by omega) h3
    exact hl ((w4 d (by omega) (by omega)).2.2.trans hl2)
  · rw [if_pos ⟨hk, by omega⟩]; exact pl_1 (Or.inr hk)
/-- a sum's days behind its last one -/
theorem VP_z {f g : Nat → Int32} {G : GD} {k c d : Nat} (hW : WG G k) (hc : c < k) (h : VP f g G k c d) (hd : d < 28) (hk : zK G c d = 3) (hl : zL G c d = d) {f' : Nat → Int32} (h1 : ∀ e, zF G c d ≤ e → e ≤ d → f' (c * 28 + e) = vaV G k c e) (h2 : ∀ j, ¬ (c * 28 + zF G c d ≤ j ∧ j ≤ c * 28 + d) → f' j = f j) : VP f' g G k c (d + 1) := by
  obtain ⟨r1, r2, r3, r4⟩ := hW.R hc hd hk
  refine ⟨fun e he => ?_, fun j hj => by rw [h2 j (by omega)]; exact h.2 j hj⟩
  by_cases q : zF G c d ≤ e
  · rw [h1 e q (by omega), if_neg (fun z => by have := (r4 e q (by omega)).2.2; omega)]
  · rw [h2 _ (by omega), h.1 e (by omega)]
    by_cases w : zK G c e = 3 ∧ d ≤ zL G c e
    · exfalso
      obtain ⟨w1, w2, w3, w4⟩ := hW.R hc (show e < 28 by omega) w.1
      have := (w4 d (by omega) w.2).2.1
      omega
    · rw [if_neg w, if_neg (fun z => w ⟨z.1, by omega⟩)]
theorem va_1 {G : GD} {k c d e : Nat} (hW : WG G k) (hc : c < k) (hd : d < 28) (hk : zK G c d = 3) (hl : zL G c d = d) (h1 : zF G c d ≤ e) (h2 : e ≤ d) (hr : rdV G c d = -1) : vaV G k c e = -1 := by
  obtain ⟨r1, r2, r3, r4⟩ := hW.R hc hd hk
  obtain ⟨s1, s2, s3⟩ := r4 e h1 (by omega)
  unfold vaV
  rw [if_pos s1, s3, hl, if_pos hr]
theorem va_2 {G : GD} {k c d e m : Nat} (hW : WG G k) (hc : c < k) (hd : d < 28) (hk : zK G c d = 3) (hl : zL G c d = d) (h1 : zF G c d ≤ e) (h2 : e ≤ d) (hm : m ≤ 999) (hr : rdV G c d = nI m) : vaV G k c e = nI (ptV (m * 10 / (10 - zM G c d)) (xe G k c) (zF G c d) d e) := by
  obtain ⟨r1, r2, r3, r4⟩ := hW.R hc hd hk
  obtain ⟨s1, s2, s3⟩ := r4 e h1 (by omega)
  have hb := fl_b hm (hW.M9 hc hd)
  unfold vaV
  rw [if_pos s1, s3, s2, hl, hr, if_neg (nI_nm1 (by omega)), fl_n (by omega), nI_clamp (by omega)]
theorem VP_r {f g : Nat → Int32} {G : GD} {k c d : Nat} (hW : WG G k) (hc : c < k) (h : VP f g G k c d) (hd : d < 28) (hk : zK G c d = 3) (hl : zL G c d = d) (hr : rdV G c d = -1) : VP (upd f (c * 28 + d) (plV G c d)) g G k c (d + 1) := by
  obtain ⟨r1, r2, r3, r4⟩ := hW.R hc hd hk
  refine VP_z hW hc h hd hk hl (fun e h1 h2 => ?_) (fun j hj => by rw [pk_un (by omega)])
  rw [va_1 hW hc hd hk hl h1 h2 hr]
  by_cases q : e = d
  · rw [q, pk_us]; exact pl_1 (Or.inr hk)
  · rw [pk_un (by omega), h.1 e (by omega), if_pos ⟨(r4 e h1 (by omega)).1, by have := (r4 e h1 (by omega)).2.2; omega⟩]
theorem VP_p {f g x : Nat → Int32} {G : GD} {k c d m : Nat} (hW : WG G k) (hc : c < k) (h : VP f g G k c d) (hd : d < 28) (hk : zK G c d = 3) (hl : zL G c d = d) (hm : m ≤ 999) (hr : rdV G c d = nI m) (hE : ∀ e, e < 28 → x (c * 28 + e) = exV G k c e) {f' : Nat → Int32} (e' : f' = ptF (upd f (c * 28 + d) (plV G c d)) (m * 10 / (10 - zM G c d)) (fun i => (x i).toNatClampNeg) (c * 28 + zF G c d) (c * 28 + d)) : VP f' g G k c (d + 1) := by
  subst e'
  obtain ⟨r1, r2, r3, r4⟩ := hW.R hc hd hk
  refine VP_z hW hc h hd hk hl (fun e h1 h2 => ?_) (fun j hj => by rw [ptF_out hj, pk_un (by omega)])
  rw [va_2 hW hc hd hk hl h1 h2 hm hr, ptF_in (by omega) (by omega), ptV_off (H := xe G k c) (fun i i1 i2 => by show (x (c * 28 + i)).toNatClampNeg = _; rw [hE i (by omega)]; rfl) h1 h2]
theorem VP_e {f g : Nat → Int32} {G : GD} {k c d : Nat} (hW : WG G k) (hc : c < k) (h : VP f g G k c d) (hd : d = 28) : rwP f g (vaV G k c) c 28 := by
  subst hd
  refine ⟨fun e he => ?_, h.2⟩
  rw [h.1 e he]
  by_cases q : zK G c e = 3 ∧ 28 ≤ zL G c e
  · have := (hW.R hc he q.1).2.2.1; omega
  · rw [if_neg q]
set_option maxRecDepth 100000 in
set_option maxHeartbeats 4000000 in
theorem e_valueDays (g kk : Nat → Nat) (σ : St) (k : Nat) (hk : σ.1 16 = nI k) (hk6 : k ≤ 6) (hI : iX σ) (G : GD) (hX : HX G k σ)  (c : Nat) (hc0 : c < k) (hc1 : ∀ d : Nat, d < 28 → σ.2.1 28 (c * 28 + d) = rdV G c d) (hc2 : ∀ d : Nat, d < 28 → σ.2.1 29 (c * 28 + d) = plV G c d) (hc3 : ∀ d : Nat, d < 28 → σ.2.1 30 (c * 28 + d) = exV G k c d) : jM (S := St) yX7_valueDays cX7_valueDays 6 none { frames := 2, cells := 0, slots := 0, locals := 48 } kk (cX g kk σ) [.ref (g 27), .int (nI c)] (cX g kk) (rV (fun u : St => ∃ (pF31 : Nat → Int32), u = sF σ 31 pF31 ∧ (rwP pF31 (σ.2.1 31) (vaV G k c) c 28))) := by
  refine j_entry [(0, .ref (g 27)), (1, .int (nI c))] (by decide) (Nat.le_of_ble_eq_true rfl) rfl ?_
  intro X C E HI
  refine j_iload_n C 1 rfl dX7_valueDays_0 ?_
  refine j_bipush C (nI 28) (by decide) dX7_valueDays_1 ?_
  refine j_imulN C dX7_valueDays_3 ?_
  refine j_istore_n C [(2, .int (nI (c * 28))), (0, .ref (g 27)), (1, .int (nI c))] rfl (by decide) rfl dX7_valueDays_4 ?_
  refine j_iconst C (nI 0) (by decide) dX7_valueDays_5 ?_
  refine j_istore_n C [(3, .int (nI 0)), (2, .int (nI (c * 28))), (0, .ref (g 27)), (1, .int (nI c))] rfl (by decide) rfl dX7_valueDays_6 ?_
  have L7 : ∀ (n7 : Nat) (d : Nat) (fv : Nat → Int32) (i7_0 : d ≤ 28) (hf : VP fv (σ.2.1 31) G k c d) (hm7 : 28 - d < n7), J X 0 0 (cX g kk (sF σ 31 fv)) [(3, .int (nI d)), (2, .int (nI (c * 28))), (0, .ref (g 27)), (1, .int (nI c))] 7 [] := by
    intro n7
    induction n7 with
    | zero => intro d fv i7_0 hf hm; exact absurd hm (Nat.not_lt_zero _)
    | succ n7 ih7 =>
      intro d fv i7_0 hf hm7
      refine j_iload_n C 0 rfl dX7_valueDays_7 ?_
      refine j_bipush C (nI 28) (by decide) dX7_valueDays_8 ?_
      refine j_icmp_geN C 119 (by decide) (by omega) (by omega) dX7_valueDays_10 (fun c1 => ?_) (fun c1 => ?_)
      · exact j_vret C E (sF σ 31 fv) ⟨rfl, ⟨fv, rfl, (VP_e hX.W hc0 hf (by omega))⟩⟩ rfl dX7_valueDays_119
      · refine j_iload_n C 1 rfl dX7_valueDays_13 ?_
        refine j_iload_n C 0 rfl dX7_valueDays_14 ?_
        refine j_iaddN C dX7_valueDays_15 ?_
        refine j_istore C [(4, .int (nI ((c * 28) + d))), (3, .int (nI d)), (2, .int (nI (c * 28))), (0, .ref (g 27)), (1, .int (nI c))] (by decide) rfl dX7_valueDays_16 ?_
        have hk3 := hX.W.K3 hc0 (show d < 28 by omega)
        refine j_aload_n C 3 rfl dX7_valueDays_18 ?_
        refine gX_27_4 C tb_207 dX7_valueDays_19 ?_
        refine j_iload C 0 rfl dX7_valueDays_22 ?_
        refine j_aload_n C 3 rfl dX7_valueDays_24 ?_
        refine gX_27_2 C tb_203 dX7_valueDays_25 ?_
        refine j_iload C 0 rfl dX7_valueDays_28 ?_
        refine rX_29 C ((c * 28) + d) rfl (by omega) (plV G c d) (hc2 d (by omega)) dX7_valueDays_30 ?_
        refine tX_31 C ((c * 28) + d) rfl (by omega) dX7_valueDays_31 ?_
        refine j_aload_n C 3 rfl dX7_valueDays_32 ?_
        refine gX_27_0 C tb_198 dX7_valueDays_33 ?_
        refine gX_1_6 C tb_121 dX7_valueDays_36 ?_
        refine j_iload C 0 rfl dX7_valueDays_39 ?_
        refine rX_7 C ((c * 28) + d) rfl (by omega) (nI (zK G c d)) (hX.K hc0 (by omega)) dX7_valueDays_41 ?_
        refine j_iconst C (nI 3) (by decide) dX7_valueDays_42 ?_
        refine j_icmp_neN C 113 (by decide) (by omega) (by omega) dX7_valueDays_43 (fun c2 => ?_) (fun c2 => ?_)
        · refine j_iinc C (nI (d + 1)) [(3, .int (nI (d + 1))), (4, .int (nI ((c * 28) + d))), (2, .int (nI (c * 28))), (0, .ref (g 27)), (1, .int (nI c))] 1 rfl (by rw [show Int32.ofInt 1 = nI 1 from by decide, nI_add]) (by decide) rfl dX7_valueDays_113 ?_
          refine j_goto C 7 (by decide) dX7_valueDays_116 ?_
          refine j_sub (lv' := [(3, .int (nI (d + 1))), (2, .int (nI (c * 28))), (0, .ref (g 27)), (1, .int (nI c))]) [0, 2, 3, 4] rfl ?_
          refine j_w (cX g kk (sF σ 31 (upd fv ((c * 28) + d) (plV G c d)))) (congrArg (cX g kk) (show sF (sF σ 31 fv) 31 (upd fv ((c * 28) + d) (plV G c d)) = sF σ 31 (upd fv ((c * 28) + d) (plV G c d)) from wrFs)) ?_
          exact ih7 (d + 1) (upd fv ((c * 28) + d) (plV G c d)) (by omega) (VP_n hX.W hc0 hf (by omega) (by omega)) (by omega)
        · refine j_aload_n C 3 rfl dX7_valueDays_46 ?_
          refine gX_27_0 C tb_198 dX7_valueDays_47 ?_
          refine gX_1_8 C tb_125 dX7_valueDays_50 ?_
          refine j_iload C 0 rfl dX7_valueDays_53 ?_
          have hl8 := hX.W.R hc0 (show d < 28 by omega) (by omega)
          refine rX_9 C ((c * 28) + d) rfl (by omega) (nI (zL G c d)) (hX.L hc0 (by omega) (by omega)) dX7_valueDays_55 ?_
          refine j_iload_n C 1 rfl dX7_valueDays_56 ?_
          refine j_icmp_neN C 113 (by decide) (by omega) (by omega) dX7_valueDays_57 (fun c3 => ?_) (fun c3 => ?_)
          · refine j_iinc C (nI (d + 1)) [(3, .int (nI (d + 1))), (4, .int (nI ((c * 28) + d))), (2, .int (nI (c * 28))), (0, .ref (g 27)), (1, .int (nI c))] 1 rfl (by rw [show Int32.ofInt 1 = nI 1 from by decide, nI_add]) (by decide) rfl dX7_valueDays_113 ?_
            refine j_goto C 7 (by decide) dX7_valueDays_116 ?_
            refine j_sub (lv' := [(3, .int (nI (d + 1))), (2, .int (nI (c * 28))), (0, .ref (g 27)), (1, .int (nI c))]) [0, 2, 3, 4] rfl ?_
            refine j_w (cX g kk (sF σ 31 (upd fv ((c * 28) + d) (plV G c d)))) (congrArg (cX g kk) (show sF (sF σ 31 fv) 31 (upd fv ((c * 28) + d) (plV G c d)) = sF σ 31 (upd fv ((c * 28) + d) (plV G c d)) from wrFs)) ?_
            exact ih7 (d + 1) (upd fv ((c * 28) + d) (plV G c d)) (by omega) (VP_l hX.W hc0 hf (by omega) (by omega) (by omega)) (by omega)
          · refine j_aload_n C 3 rfl dX7_valueDays_60 ?_
            refine gX_27_1 C tb_202 dX7_valueDays_61 ?_
            refine j_iload C 0 rfl dX7_valueDays_64 ?_
            refine rX_28 C ((c * 28) + d) rfl (by omega) (rdV G c d) (hc1 d (by omega)) dX7_valueDays_66 ?_
            refine j_iconst C ((-1)) (by decide) dX7_valueDays_67 ?_
            refine j_icmp_eq C 113 (by decide) dX7_valueDays_68 (fun c4 => ?_) (fun c4 => ?_)
            · refine j_iinc C (nI (d + 1)) [(3, .int (nI (d + 1))), (4, .int (nI ((c * 28) + d))), (2, .int (nI (c * 28))), (0, .ref (g 27)), (1, .int (nI c))] 1 rfl (by rw [show Int32.ofInt 1 = nI 1 from by decide, nI_add]) (by decide) rfl dX7_valueDays_113 ?_
              refine j_goto C 7 (by decide) dX7_valueDays_116 ?_
              refine j_sub (lv' := [(3, .int (nI (d + 1))), (2, .int (nI (c * 28))), (0, .ref (g 27)), (1, .int (nI c))]) [0, 2, 3, 4] rfl ?_
              refine j_w (cX g kk (sF σ 31 (upd fv ((c * 28) + d) (plV G c d)))) (congrArg (cX g kk) (show sF (sF σ 31 fv) 31 (upd fv ((c * 28) + d) (plV G c d)) = sF σ 31 (upd fv ((c * 28) + d) (plV G c d)) from wrFs)) ?_
              exact ih7 (d + 1) (upd fv ((c * 28) + d) (plV G c d)) (by omega) (VP_r hX.W hc0 hf (by omega) (by omega) (by omega) c4) (by omega)
            · obtain ⟨m9, hm9, em9⟩ := (rd_lm hX.W hc0 (show d < 28 by omega)).resolve_left c4
              have hfb := fl_b hm9 (hX.W.M9 hc0 (show d < 28 by omega))
              have hl9 := hX.W.R hc0 (show d < 28 by omega) (by omega)
              refine j_aload_n C 3 rfl dX7_valueDays_71 ?_
              refine j_iload_n C 4 rfl dX7_valueDays_72 ?_
              refine j_iload_n C 1 rfl dX7_valueDays_73 ?_
              refine j_aload_n C 3 rfl dX7_valueDays_74 ?_
              refine gX_27_1 C tb_202 dX7_valueDays_75 ?_
              refine j_iload C 0 rfl dX7_valueDays_78 ?_
              refine rX_28 C ((c * 28) + d) rfl (by omega) (nI m9) ((hc1 d (by omega)).trans em9) dX7_valueDays_80 ?_
              refine j_V1 C (e_fallen g kk (sF (sF σ 31 fv) 31 (upd fv ((c * 28) + d) (plV G c d))) k hk hk6 hI G hX c (by first | assumption | omega) d (by first | assumption | omega) m9 (by first | assumption | omega)) kyX7_fallen tb_574 tb_576 sp_3 27 rfl (eX_27 g kk _) rfl (Nat.le_of_ble_eq_true rfl) ⟨by decide, by decide⟩ dX7_valueDays_81 rfl (fun vr ur hp => ?_)
              obtain ⟨r6, rfl, hu, g5⟩ := hp
              replace hu := hu.symm
              subst hu
              subst g5
              refine j_istore C [(5, .int (nI (m9 * 10 / (10 - zM G c d)))), (4, .int (nI ((c * 28) + d))), (3, .int (nI d)), (2, .int (nI (c * 28))), (0, .ref (g 27)), (1, .int (nI c))] (by decide) rfl dX7_valueDays_84 ?_
              refine j_aload_n C 4 rfl dX7_valueDays_86 ?_
              refine gX_27_4 C tb_207 dX7_valueDays_87 ?_
              refine j_iload_n C 3 rfl dX7_valueDays_90 ?_
              refine j_aload_n C 4 rfl dX7_valueDays_91 ?_
              refine gX_27_0 C tb_198 dX7_valueDays_92 ?_
              refine gX_1_7 C tb_123 dX7_valueDays_95 ?_
              refine j_iload C 1 rfl dX7_valueDays_98 ?_
              refine rX_8 C ((c * 28) + d) rfl (by omega) (nI (zF G c d)) (hX.F hc0 (by omega) (by omega)) dX7_valueDays_100 ?_
              refine j_iaddN C dX7_valueDays_101 ?_
              refine j_iload C 1 rfl dX7_valueDays_102 ?_
              refine j_iload C 0 rfl dX7_valueDays_104 ?_
              refine j_aload_n C 4 rfl dX7_valueDays_106 ?_
              refine gX_27_3 C tb_204 dX7_valueDays_107 ?_
              refine j_SN1 C (e_part g kk (sF (sF σ 31 fv) 31 (upd fv ((c * 28) + d) (plV G c d))) k hk hk6 hI ((c * 28) + (zF G c d)) (by first | assumption | omega) ((c * 28) + d) (by omega) (by first | assumption | omega) (by first | assumption | omega) (m9 * 10 / (10 - zM G c d)) (by first | assumption | omega) (fun i h1 h2 => by have z := hc3 (i - c * 28) (by omega); rw [show c * 28 + (i - c * 28) = i by omega] at z; show lm_ 9990 (σ.2.1 30 i); rw [z]; exact ex_lm hX.W (by omega))) kyX10_part (fun _ h => h.2.2.2.1) tb_597 rfl (Nat.le_of_ble_eq_true rfl) ⟨by decide, by decide⟩ dX7_valueDays_110 rfl (fun vr ur hp => ?_)
              obtain ⟨rfl, w7, hu, g8⟩ := hp
              replace hu := hu.symm
              subst hu
              refine j_iinc C (nI (d + 1)) [(3, .int (nI (d + 1))), (5, .int (nI (m9 * 10 / (10 - zM G c d)))), (4, .int (nI ((c * 28) + d))), (2, .int (nI (c * 28))), (0, .ref (g 27)), (1, .int (nI c))] 2 rfl (by rw [show Int32.ofInt 1 = nI 1 from by decide, nI_add]) (by decide) rfl dX7_valueDays_113 ?_
              refine j_goto C 7 (by decide) dX7_valueDays_116 ?_
              refine j_sub (lv' := [(3, .int (nI (d + 1))), (2, .int (nI (c * 28))), (0, .ref (g 27)), (1, .int (nI c))]) [0, 3, 4, 5] rfl ?_
              refine j_w (cX g kk (sF σ 31 w7)) (congrArg (cX g kk) (show sF (sF (sF σ 31 fv) 31 (upd fv ((c * 28) + d) (plV G c d))) 31 w7 = sF σ 31 w7 from (Eq.trans (wrF wrFs) wrFs))) ?_
              exact ih7 (d + 1) w7 (by omega) (VP_p hX.W hc0 hf (by omega) (by omega) (by omega) hm9 em9 hc3 g8) (by omega)
  refine j_w (cX g kk (sF σ 31 (σ.2.1 31))) (congrArg (cX g kk) (wrFi (S := σ) (c := 31) (v := σ.2.1 31) rfl)) ?_
  exact L7 _ 0 (σ.2.1 31) (by omega) VP_0 (Nat.lt_succ_self _)
def CXf (G : GD) (k : Nat) (f1 f2 f3 f4 : Nat → Int32) : Prop := ∀ c d : Nat, c < k → d < 28 → f1 (c * 28 + d) = rdV G c d ∧ f2 (c * 28 + d) = plV G c d ∧ f3 (c * 28 + d) = exV G k c d ∧ f4 (c * 28 + d) = vaV G k c d
theorem R2_row {f f' : Nat → Int32} {V : Nat → Nat → Int32} {a : Nat} (h : R2 f V a 0) (r : rwP f' f (V a) a 28) : R2 f' V (a + 1) 0 := fun c d hd q => by
  by_cases e : c = a
  · rw [e]; exact r.1 d hd
  · rw [r.2 _ (by omega)]; exact h c d hd (by omega)
set_option maxRecDepth 100000 in
set_option maxHeartbeats 4000000 in
theorem e_refresh (g kk : Nat → Nat) (σ : St) (k : Nat) (hk : σ.1 16 = nI k) (hk6 : k ≤ 6) (hI : iX σ) (G : GD) (hX : HX G k σ) (hst : σ.1 437 = 0 → CXf G k (σ.2.1 28) (σ.2.1 29) (σ.2.1 30) (σ.2.1 31))  : jM (S := St) yX7_refresh cX7_refresh 3 none { frames := 4, cells := 0, slots := 0, locals := 93 } kk (cX g kk σ) [.ref (g 27)] (cX g kk) (rV (fun u : St => ∃ (pF28 : Nat → Int32) (pF29 : Nat → Int32) (pF30 : Nat → Int32) (pF31 : Nat → Int32) (pI437 : Int32), u = sI (sF (sF (sF (sF σ 28 pF28) 29 pF29) 30 pF30) 31 pF31) 437 pI437 ∧ (pI437 = nI 0) ∧ (CXf G k pF28 pF29 pF30 pF31))) := by
  refine j_entry [(0, .ref (g 27))] (by decide) (Nat.le_of_ble_eq_true rfl) rfl ?_
  intro X C E HI
  refine j_aload_n C 0 rfl dX7_refresh_0 ?_
  refine gX_27_5 C tb_213 (σ.1 437) rfl dX7_refresh_1 ?_
  refine j_if_ne C 8 (by decide) dX7_refresh_4 (fun c1 => ?_) (fun c1 => ?_)
  · refine j_iconst C (nI 0) (by decide) dX7_refresh_8 ?_
    refine j_istore_n C [(1, .int (nI 0)), (0, .ref (g 27))] rfl (by decide) rfl dX7_refresh_9 ?_
    have L10 : ∀ (n10 : Nat) (a : Nat) (f28 : Nat → Int32) (f29 : Nat → Int32) (i10_0 : a ≤ k) (h28 : R2 f28 (rdV G) a 0) (h29 : R2 f29 (plV G) a 0) (hm10 : k - a < n10), J X 0 0 (cX g kk (sF (sF σ 28 f28) 29 f29)) [(1, .int (nI a)), (0, .ref (g 27))] 10 [] := by
      intro n10
      induction n10 with
      | zero => intro a f28 f29 i10_0 h28 h29 hm; exact absurd hm (Nat.not_lt_zero _)
      | succ n10 ih10 =>
        intro a f28 f29 i10_0 h28 h29 hm10
        refine j_iload_n C 0 rfl dX7_refresh_10 ?_
        refine j_aload_n C 1 rfl dX7_refresh_11 ?_
        refine gX_27_0 C tb_198 dX7_refresh_12 ?_
        refine gX_1_0 C tb_100 (nI k) hk dX7_refresh_15 ?_
        refine j_icmp_geN C 47 (by decide) (by omega) (by omega) dX7_refresh_18 (fun c2 => ?_) (fun c2 => ?_)
        · have k28 : R2 f28 (rdV G) k 0 := by rw [show k = a by omega]; exact h28
          have k29 : R2 f29 (plV G) k 0 := by rw [show k = a by omega]; exact h29
          refine j_iconst C (nI 0) (by decide) dX7_refresh_47 ?_
          refine j_istore_n C [(1, .int (nI 0)), (0, .ref (g 27))] rfl (by decide) rfl dX7_refresh_48 ?_
          have L49 : ∀ (n49 : Nat) (c : Nat) (f30 : Nat → Int32) (i49_0 : c ≤ k) (h30 : R2 f30 (exV G k) c 0) (hm49 : k - c < n49), J X 0 0 (cX g kk (sF (sF (sF σ 28 f28) 29 f29) 30 f30)) [(1, .int (nI c)), (0, .ref (g 27))] 49 [] := by
            intro n49
            induction n49 with
            | zero => intro c f30 i49_0 h30 hm; exact absurd hm (Nat.not_lt_zero _)
            | succ n49 ih49 =>
              intro c f30 i49_0 h30 hm49
              refine j_iload_n C 0 rfl dX7_refresh_49 ?_
              refine j_aload_n C 1 rfl dX7_refresh_50 ?_
              refine gX_27_0 C tb_198 dX7_refresh_51 ?_
              refine gX_1_0 C tb_100 (nI k) hk dX7_refresh_54 ?_
              refine j_icmp_geN C 71 (by decide) (by omega) (by omega) dX7_refresh_57 (fun c3 => ?_) (fun c3 => ?_)
              · have k30 : R2 f30 (exV G k) k 0 := by have z := h30; rw [show c = k by omega] at z; exact z
                refine j_iconst C (nI 0) (by decide) dX7_refresh_71 ?_
                refine j_istore_n C [(1, .int (nI 0)), (0, .ref (g 27))] rfl (by decide) rfl dX7_refresh_72 ?_
                have L73 : ∀ (n73 : Nat) (d : Nat) (f31 : Nat → Int32) (i73_0 : d ≤ k) (h31 : R2 f31 (vaV G k) d 0) (hm73 : k - d < n73), J X 0 0 (cX g kk (sF (sF (sF (sF σ 28 f28) 29 f29) 30 f30) 31 f31)) [(1, .int (nI d)), (0, .ref (g 27))] 73 [] := by
                  intro n73
                  induction n73 with
                  | zero => intro d f31 i73_0 h31 hm; exact absurd hm (Nat.not_lt_zero _)
                  | succ n73 ih73 =>
                    intro d f31 i73_0 h31 hm73
                    refine j_iload_n C 0 rfl dX7_refresh_73 ?_
                    refine j_aload_n C 1 rfl dX7_refresh_74 ?_
                    refine gX_27_0 C tb_198 dX7_refresh_75 ?_
                    refine gX_1_0 C tb_100 (nI k) hk dX7_refresh_78 ?_
                    refine j_icmp_geN C 95 (by decide) (by omega) (by omega) dX7_refresh_81 (fun c4 => ?_) (fun c4 => ?_)
                    · refine j_aload_n C 1 rfl dX7_refresh_95 ?_
                      refine j_iconst C (nI 0) (by decide) dX7_refresh_96 ?_
                      refine pX_27_5 C tb_213 rfl rfl dX7_refresh_97 ?_
                      exact j_vret C E (sI (sF (sF (sF (sF σ 28 f28) 29 f29) 30 f30) 31 f31) 437 (nI 0)) ⟨rfl, ⟨f28, f29, f30, f31, (nI 0), rfl, rfl, (fun c9 d9 h1 h2 => ⟨R2_all k28 (by omega) h1 h2, R2_all k29 (by omega) h1 h2, R2_all k30 (by omega) h1 h2, R2_all h31 (by omega) h1 h2⟩)⟩⟩ rfl dX7_refresh_100
                    · refine j_aload_n C 1 rfl dX7_refresh_84 ?_
                      refine j_iload_n C 0 rfl dX7_refresh_85 ?_
                      refine j_V1 C (e_valueDays g kk (sF (sF (sF (sF σ 28 f28) 29 f29) 30 f30) 31 f31) k hk hk6 hI G hX d (by first | assumption | omega) (fun d9 h2 => R2_all k28 (Nat.le_refl _) (show d < k by omega) h2) (fun d9 h2 => R2_all k29 (Nat.le_refl _) (show d < k by omega) h2) (fun d9 h2 => R2_all k30 (Nat.le_refl _) (show d < k by omega) h2)) kyX7_valueDays tb_592 tb_594 sp_6 27 rfl (eX_27 g kk _) rfl (Nat.le_of_ble_eq_true rfl) ⟨by decide, by decide⟩ dX7_refresh_86 rfl (fun vr ur hp => ?_)
                      obtain ⟨rfl, w5, hu, g6⟩ := hp
                      replace hu := hu.symm
                      subst hu
                      refine j_iinc C (nI (d + 1)) [(1, .int (nI (d + 1))), (0, .ref (g 27))] 0 rfl (by rw [show Int32.ofInt 1 = nI 1 from by decide, nI_add]) (by decide) rfl dX7_refresh_89 ?_
                      refine j_goto C 73 (by decide) dX7_refresh_92 ?_
                      refine j_w (cX g kk (sF (sF (sF (sF σ 28 f28) 29 f29) 30 f30) 31 w5)) (congrArg (cX g kk) (show sF (sF (sF (sF (sF σ 28 f28) 29 f29) 30 f30) 31 f31) 31 w5 = sF (sF (sF (sF σ 28 f28) 29 f29) 30 f30) 31 w5 from wrFs)) ?_
                      exact ih73 (d + 1) w5 (by omega) (R2_row h31 g6) (by omega)
                refine j_w (cX g kk (sF (sF (sF (sF σ 28 f28) 29 f29) 30 f30) 31 (σ.2.1 31))) (congrArg (cX g kk) (wrFi (S := (sF (sF (sF σ 28 f28) 29 f29) 30 f30)) (c := 31) (v := σ.2.1 31) (gtFF (by decide) (gtFF (by decide) (gtFF (by decide) rfl))))) ?_
                exact L73 _ 0 (σ.2.1 31) (by omega) R2_0 (Nat.lt_succ_self _)
              · refine j_aload_n C 1 rfl dX7_refresh_60 ?_
                refine j_iload_n C 0 rfl dX7_refresh_61 ?_
                refine j_V1 C (e_expectDays g kk (sF (sF (sF σ 28 f28) 29 f29) 30 f30) k hk hk6 hI G hX (fun c9 d9 h1 h2 => R2_all k29 (Nat.le_refl _) h1 h2) c (by first | assumption | omega)) kyX7_expectDays tb_578 tb_580 sp_4 27 rfl (eX_27 g kk _) rfl (Nat.le_of_ble_eq_true rfl) ⟨by decide, by decide⟩ dX7_refresh_62 rfl (fun vr ur hp => ?_)
                obtain ⟨rfl, w7, hu, g8⟩ := hp
                replace hu := hu.symm
                subst hu
                refine j_iinc C (nI (c + 1)) [(1, .int (nI (c + 1))), (0, .ref (g 27))] 0 rfl (by rw [show Int32.ofInt 1 = nI 1 from by decide, nI_add]) (by decide) rfl dX7_refresh_65 ?_
                refine j_goto C 49 (by decide) dX7_refresh_68 ?_
                refine j_w (cX g kk (sF (sF (sF σ 28 f28) 29 f29) 30 w7)) (congrArg (cX g kk) (show sF (sF (sF (sF σ 28 f28) 29 f29) 30 f30) 30 w7 = sF (sF (sF σ 28 f28) 29 f29) 30 w7 from wrFs)) ?_
                exact ih49 (c + 1) w7 (by omega) (R2_row h30 g8) (by omega)
          refine j_w (cX g kk (sF (sF (sF σ 28 f28) 29 f29) 30 (σ.2.1 30))) (congrArg (cX g kk) (wrFi (S := (sF (sF σ 28 f28) 29 f29)) (c := 30) (v := σ.2.1 30) (gtFF (by decide) (gtFF (by decide) rfl)))) ?_
          exact L49 _ 0 (σ.2.1 30) (by omega) R2_0 (Nat.lt_succ_self _)
        · refine j_iconst C (nI 0) (by decide) dX7_refresh_21 ?_
          refine j_istore_n C [(2, .int (nI 0)), (1, .int (nI a)), (0, .ref (g 27))] rfl (by decide) rfl dX7_refresh_22 ?_
          have L23 : ∀ (n23 : Nat) (b : Nat) (e28 : Nat → Int32) (e29 : Nat → Int32) (i23_0 : b ≤ 28) (g28 : R2 e28 (rdV G) a b) (g29 : R2 e29 (plV G) a b) (hm23 : 28 - b < n23), J X 0 0 (cX g kk (sF (sF σ 28 e28) 29 e29)) [(2, .int (nI b)), (1, .int (nI a)), (0, .ref (g 27))] 23 [] := by
            intro n23
            induction n23 with
            | zero => intro b e28 e29 i23_0 g28 g29 hm; exact absurd hm (Nat.not_lt_zero _)
            | succ n23 ih23 =>
              intro b e28 e29 i23_0 g28 g29 hm23
              refine j_iload_n C 0 rfl dX7_refresh_23 ?_
              refine j_bipush C (nI 28) (by decide) dX7_refresh_24 ?_
              refine j_icmp_geN C 41 (by decide) (by omega) (by omega) dX7_refresh_26 (fun c9 => ?_) (fun c9 => ?_)
              · refine j_iinc C (nI (a + 1)) [(1, .int (nI (a + 1))), (2, .int (nI b)), (0, .ref (g 27))] 1 rfl (by rw [show Int32.ofInt 1 = nI 1 from by decide, nI_add]) (by decide) rfl dX7_refresh_41 ?_
                refine j_goto C 10 (by decide) dX7_refresh_44 ?_
                refine j_sub (lv' := [(1, .int (nI (a + 1))), (0, .ref (g 27))]) [0, 2] rfl ?_
                exact ih10 (a + 1) e28 e29 (by omega) (R2_r (by omega) g28) (R2_r (by omega) g29) (by omega)
              · refine j_aload_n C 2 rfl dX7_refresh_29 ?_
                refine j_iload_n C 1 rfl dX7_refresh_30 ?_
                refine j_iload_n C 0 rfl dX7_refresh_31 ?_
                refine j_V1 C (e_readDay g kk (sF (sF σ 28 e28) 29 e29) k hk hk6 hI G hX a (by first | assumption | omega) b (by first | assumption | omega)) kyX7_readDay tb_566 tb_568 sp_2 27 rfl (eX_27 g kk _) rfl (Nat.le_of_ble_eq_true rfl) ⟨by decide, by decide⟩ dX7_refresh_32 rfl (fun vr ur hp => ?_)
                obtain ⟨rfl, w10, w11, hu, g12, g13⟩ := hp
                replace hu := hu.symm
                subst hu
                refine j_iinc C (nI (b + 1)) [(2, .int (nI (b + 1))), (1, .int (nI a)), (0, .ref (g 27))] 0 rfl (by rw [show Int32.ofInt 1 = nI 1 from by decide, nI_add]) (by decide) rfl dX7_refresh_35 ?_
                refine j_goto C 23 (by decide) dX7_refresh_38 ?_
                refine j_w (cX g kk (sF (sF σ 28 w10) 29 w11)) (congrArg (cX g kk) (show sF (sF (sF (sF σ 28 e28) 29 e29) 28 w10) 29 w11 = sF (sF σ 28 w10) 29 w11 from (Eq.trans (wrF (Eq.trans (wrFc (by decide)) (wrF wrFs))) wrFs))) ?_
                exact ih23 (b + 1) w10 w11 (by omega) (by rw [g12]; exact R2_s g28 rfl) (by rw [g13]; exact R2_s g29 rfl) (by omega)
          exact L23 _ 0 f28 f29 (by omega) h28 h29 (Nat.lt_succ_self _)
    refine j_w (cX g kk (sF σ 28 (σ.2.1 28))) (congrArg (cX g kk) (wrFi (S := σ) (c := 28) (v := σ.2.1 28) rfl)) ?_
    refine j_w (cX g kk (sF (sF σ 28 (σ.2.1 28)) 29 (σ.2.1 29))) (congrArg (cX g kk) (wrFi (S := (sF σ 28 (σ.2.1 28))) (c := 29) (v := σ.2.1 29) (gtFF (by decide) rfl))) ?_
    exact L10 _ 0 (σ.2.1 28) (σ.2.1 29) (by omega) R2_0 R2_0 (Nat.lt_succ_self _)
  · refine j_w (cX g kk (sF σ 28 (σ.2.1 28))) (congrArg (cX g kk) (wrFi (S := σ) (c := 28) (v := σ.2.1 28) rfl)) ?_
    refine j_w (cX g kk (sF (sF σ 28 (σ.2.1 28)) 29 (σ.2.1 29))) (congrArg (cX g kk) (wrFi (S := (sF σ 28 (σ.2.1 28))) (c := 29) (v := σ.2.1 29) (gtFF (by decide) rfl))) ?_
    refine j_w (cX g kk (sF (sF (sF σ 28 (σ.2.1 28)) 29 (σ.2.1 29)) 30 (σ.2.1 30))) (congrArg (cX g kk) (wrFi (S := (sF (sF σ 28 (σ.2.1 28)) 29 (σ.2.1 29))) (c := 30) (v := σ.2.1 30) (gtFF (by decide) (gtFF (by decide) rfl)))) ?_
    refine j_w (cX g kk (sF (sF (sF (sF σ 28 (σ.2.1 28)) 29 (σ.2.1 29)) 30 (σ.2.1 30)) 31 (σ.2.1 31))) (congrArg (cX g kk) (wrFi (S := (sF (sF (sF σ 28 (σ.2.1 28)) 29 (σ.2.1 29)) 30 (σ.2.1 30))) (c := 31) (v := σ.2.1 31) (gtFF (by decide) (gtFF (by decide) (gtFF (by decide) rfl))))) ?_
    refine j_w (cX g kk (sI (sF (sF (sF (sF σ 28 (σ.2.1 28)) 29 (σ.2.1 29)) 30 (σ.2.1 30)) 31 (σ.2.1 31)) 437 (σ.1 437))) (congrArg (cX g kk) (wrIi (S := (sF (sF (sF (sF σ 28 (σ.2.1 28)) 29 (σ.2.1 29)) 30 (σ.2.1 30)) 31 (σ.2.1 31))) (c := 437) (v := σ.1 437) (gtIF (gtIF (gtIF (gtIF rfl)))))) ?_
    exact j_vret C E (sI (sF (sF (sF (sF σ 28 (σ.2.1 28)) 29 (σ.2.1 29)) 30 (σ.2.1 30)) 31 (σ.2.1 31)) 437 (σ.1 437)) ⟨rfl, ⟨(σ.2.1 28), (σ.2.1 29), (σ.2.1 30), (σ.2.1 31), (σ.1 437), rfl, c1, (hst c1)⟩⟩ rfl dX7_refresh_7
