def spE (s v : Nat) : Nat := v * (10 + s) / 10
theorem spb {v s : Nat} (hv : v ≤ 9990) (hs : s ≤ 9) : v * (10 + s) ≤ 189810 := Nat.le_trans (Nat.mul_le_mul hv (show 10 + s ≤ 19 by omega)) (by decide)
theorem spE_b {v s : Nat} (hv : v ≤ 9990) (hs : s ≤ 9) : spE s v ≤ 189810 := Nat.le_trans (Nat.div_le_self _ _) (spb hv hs)
theorem spE_ge (s v : Nat) : v ≤ spE s v := by
  unfold spE
  rw [Nat.le_div_iff_mul_le (by decide), Nat.mul_add]
  omega
/-- some other than q below n is above e; all others below n end below b -/
def cAb (W : Nat → Int32) (n q e : Nat) : Prop := ∃ p : Nat, p < n ∧ ¬ p = q ∧ ∃ v : Nat, v ≤ 9990 ∧ W p = nI v ∧ e < v
def cBe (W : Nat → Int32) (n q b s : Nat) : Prop := ∀ p : Nat, p < n → ¬ p = q → ∀ v : Nat, v ≤ 9990 → W p = nI v → spE s v < b
noncomputable def clV (W : Nat → Int32) (n q b s : Nat) : Int32 := @ite _ (cAb W n q (spE s b)) (Classical.propDecidable _) (nI 0) (@ite _ (cBe W n q b s) (Classical.propDecidable _) (nI 2) (nI 1))
theorem clV_0 {W : Nat → Int32} {n q b s : Nat} (h : cAb W n q (spE s b)) : nI 0 = clV W n q b s := (if_pos h).symm
theorem clV_2 {W : Nat → Int32} {n q b s : Nat} (h : cBe W n q b s) : nI 2 = clV W n q b s := by
  unfold clV
  rw [if_neg (fun w => ?_), if_pos h]
  obtain ⟨p, p1, p2, v, v1, v2, v3⟩ := w
  have a := h p p1 p2 v v1 v2
  have c := spE_ge s v
  have d := spE_ge s b
  omega
theorem clV_1 {W : Nat → Int32} {n q b s : Nat} (h : ¬ cAb W n q (spE s b)) (h2 : ¬ cBe W n q b s) : nI 1 = clV W n q b s := by
  unfold clV
  rw [if_neg h, if_neg h2]
theorem cAb_s {W : Nat → Int32} {n q e : Nat} (h : cAb W n q e) : cAb W (n + 1) q e := by
  obtain ⟨p, p1, p2⟩ := h
  exact ⟨p, by omega, p2⟩
theorem cAb_m {W : Nat → Int32} {n m q e : Nat} (h : cAb W n q e) (hm : n ≤ m) : cAb W m q e := by
  obtain ⟨p, p1, p2⟩ := h
  exact ⟨p, by omega, p2⟩
theorem cAb_x {W : Nat → Int32} {n q e : Nat} (h : ¬ cAb W n q e) (hn : n = q ∨ W n = -1 ∨ ∃ v : Nat, v ≤ 9990 ∧ W n = nI v ∧ v ≤ e) : ¬ cAb W (n + 1) q e := fun w => by
  obtain ⟨p, p1, p2, v, v1, v2, v3⟩ := w
  by_cases z : p = n
  · subst z
    rcases hn with a | a | ⟨x, x1, x2, x3⟩
    · exact p2 a
    · exact nI_nm1 (by omega) (v2.symm.trans a)
    · have := (nI_eq (by omega) (by omega)).mp (v2.symm.trans x2); omega
  · exact h ⟨p, by omega, p2, v, v1, v2, v3⟩
theorem cBe_x {W : Nat → Int32} {n q b s : Nat} (h : cBe W n q b s) (hn : n = q ∨ W n = -1 ∨ ∃ v : Nat, v ≤ 9990 ∧ W n = nI v ∧ spE s v < b) : cBe W (n + 1) q b s := fun p p1 p2 v v1 v2 => by
  by_cases z : p = n
  · subst z
    rcases hn with a | a | ⟨x, x1, x2, x3⟩
    · exact absurd a p2
    · exact absurd (v2.symm.trans a) (nI_nm1 (by omega))
    · have := (nI_eq (by omega) (by omega)).mp (v2.symm.trans x2); subst this; exact x3
  · exact h p (by omega) p2 v v1 v2
theorem cBe_n {W : Nat → Int32} {n m q b s : Nat} (h : ¬ cBe W n q b s) (hm : n ≤ m) : ¬ cBe W m q b s := fun w => h (fun p p1 p2 v v1 v2 => w p (by omega) p2 v v1 v2)
theorem cBe_y {W : Nat → Int32} {n q b s v : Nat} (hq : ¬ n = q) (hv : v ≤ 9990) (hW : W n = nI v) (h : ¬ spE s v < b) : ¬ cBe W (n + 1) q b s := fun w => h (w n (by omega) hq v hv hW)
def vaJ (G : GD) (k p : Nat) : Int32 := vaV G k (p / 28) (p % 28)
theorem vaJ_c {G : GD} {k c d : Nat} (hd : d < 28) : vaJ G k (c * 28 + d) = vaV G k c d := by
  unfold vaJ
  rw [show (c * 28 + d) / 28 = c by omega, show (c * 28 + d) % 28 = d by omega]
noncomputable def clF (G : GD) (k : Nat) (x y : Int32) : Int32 := @ite _ (cB x (nI k) = false ∨ wB y (nI 0) (nI 27) = false) (Classical.propDecidable _) (-1) (@ite _ (vaV G k x.toNatClampNeg y.toNatClampNeg = -1) (Classical.propDecidable _) (-3) (clV (vaJ G k) (k * 28) (x.toNatClampNeg * 28 + y.toNatClampNeg) (vaV G k x.toNatClampNeg y.toNatClampNeg).toNatClampNeg (zS G 3)))
theorem clF_1 {G : GD} {k : Nat} {x y : Int32} (h : cB x (nI k) = false ∨ wB y (nI 0) (nI 27) = false) : -1 = clF G k x y := by unfold clF; rw [if_pos h]
theorem clF_3 {G : GD} {k c d : Nat} (h1 : cB (nI c) (nI k) = true) (h2 : wB (nI d) (nI 0) (nI 27) = true) (hc : c < 2 ^ 31) (hd : d < 2 ^ 31) (h : vaV G k c d = -1) : -3 = clF G k (nI c) (nI d) := by unfold clF; rw [if_neg (by rw [h1, h2]; decide), nI_clamp hc, nI_clamp hd, if_pos h]
theorem clF_x {G : GD} {k c d b : Nat} {r : Int32} (h1 : cB (nI c) (nI k) = true) (h2 : wB (nI d) (nI 0) (nI 27) = true) (hc : c < 2 ^ 31) (hd : d < 2 ^ 31) (hb : b < 2 ^ 31) (h : vaV G k c d = nI b) (hr : r = clV (vaJ G k) (k * 28) (c * 28 + d) b (zS G 3)) : r = clF G k (nI c) (nI d) := by unfold clF; rw [if_neg (by rw [h1, h2]; decide), nI_clamp hc, nI_clamp hd, h, if_neg (nI_nm1 hb), nI_clamp hb, hr]
set_option maxRecDepth 100000 in
set_option maxHeartbeats 4000000 in
theorem e_spanEnd (g kk : Nat → Nat) (σ : St) (k : Nat) (hk : σ.1 16 = nI k) (hk6 : k ≤ 6) (hI : iX σ) (G : GD) (hX : HX G k σ) (v : Nat) (hv0 : v ≤ 9990) : jM (S := St) yX8_spanEnd cX8_spanEnd 2 (some .int) { frames := 0, cells := 0, slots := 0, locals := 0 } kk (cX g kk σ) [.ref (g 50), .int (nI v)] (cX g kk) (rI (fun (r : Int32) (u : St) => u = σ ∧ (r = nI (spE (zS G 3) v)))) := by
  refine j_entry [(0, .ref (g 50)), (1, .int (nI v))] (by decide) (Nat.le_of_ble_eq_true rfl) rfl ?_
  intro X C E HI
  have hs9 : zS G 3 ≤ 9 := hX.W.2.2.2.2.2.2
  have hsp := spb hv0 hs9
  refine j_iload_n C 1 rfl dX8_spanEnd_0 ?_
  refine j_bipush C (nI 10) (by decide) dX8_spanEnd_1 ?_
  refine j_aload_n C 0 rfl dX8_spanEnd_3 ?_
  refine gX_50_0 C tb_368 dX8_spanEnd_4 ?_
  refine gX_27_0 C tb_200 dX8_spanEnd_7 ?_
  refine gX_1_9 C tb_129 dX8_spanEnd_10 ?_
  refine j_iconst C (nI 3) (by decide) dX8_spanEnd_13 ?_
  refine rX_10 C 3 rfl (by omega) (nI (zS G 3)) (hX.S (by decide)) dX8_spanEnd_14 ?_
  refine j_iaddN C dX8_spanEnd_15 ?_
  refine j_imulN C dX8_spanEnd_16 ?_
  refine j_bipush C (nI 10) (by decide) dX8_spanEnd_17 ?_
  refine j_idivN C (by omega) (by omega) (by omega) dX8_spanEnd_19 ?_
  exact j_iret C E (σ) ⟨_, rfl, ⟨rfl, rfl⟩⟩ rfl dX8_spanEnd_20
set_option maxRecDepth 100000 in
set_option maxHeartbeats 4000000 in
theorem e_judge (g kk : Nat → Nat) (σ : St) (k : Nat) (hk : σ.1 16 = nI k) (hk6 : k ≤ 6) (hI : iX σ) (G : GD) (hX : HX G k σ) (hC : CXf G k (σ.2.1 28) (σ.2.1 29) (σ.2.1 30) (σ.2.1 31)) (c d b : Nat) (hc : c < k) (hd : d < 28) (hb0 : b ≤ 9990) (hv : vaV G k c d = nI b) (q : Nat) (hq0 : q = c * 28 + d) : jM (S := St) yX8_judge cX8_judge 8 (some .int) { frames := 1, cells := 0, slots := 0, locals := 21 } kk (cX g kk σ) [.ref (g 50), .int (nI q)] (cX g kk) (rI (fun (r : Int32) (u : St) => u = σ ∧ (r = clV (vaJ G k) (k * 28) q b (zS G 3)))) := by
  refine j_entry [(0, .ref (g 50)), (1, .int (nI q))] (by decide) (Nat.le_of_ble_eq_true rfl) rfl ?_
  intro X C E HI
  have hs9 : zS G 3 ≤ 9 := hX.W.2.2.2.2.2.2
  refine j_aload_n C 0 rfl dX8_judge_0 ?_
  refine gX_50_0 C tb_368 dX8_judge_1 ?_
  refine gX_27_4 C tb_209 dX8_judge_4 ?_
  refine j_iload_n C 1 rfl dX8_judge_7 ?_
  refine rX_31 C q rfl (by omega) (nI b) (by rw [hq0]; exact (hC c d hc hd).2.2.2.trans hv) dX8_judge_8 ?_
  refine j_istore_n C [(2, .int (nI b)), (0, .ref (g 50)), (1, .int (nI q))] rfl (by decide) rfl dX8_judge_9 ?_
  refine j_aload_n C 1 rfl dX8_judge_10 ?_
  refine j_iload_n C 0 rfl dX8_judge_11 ?_
  refine j_V1 C (e_spanEnd g kk σ k hk hk6 hI G hX b (by first | assumption | omega)) kyX8_spanEnd tb_808 tb_810 sp_20 50 rfl (eX_50 g kk _) rfl (Nat.le_of_ble_eq_true rfl) ⟨by decide, by decide⟩ dX8_judge_12 rfl (fun vr ur hp => ?_)
  obtain ⟨r2, rfl, hu, g1⟩ := hp
  replace hu := hu.symm
  subst hu
  have hsex3 := spE_b (s := zS G 3) (show b ≤ 9990 by omega) hs9
  subst g1
  refine j_istore_n C [(3, .int (nI (spE (zS G 3) b))), (2, .int (nI b)), (0, .ref (g 50)), (1, .int (nI q))] rfl (by decide) rfl dX8_judge_15 ?_
  refine j_iconst C (nI 1) (by decide) dX8_judge_16 ?_
  refine j_istore C [(4, .int (nI 1)), (3, .int (nI (spE (zS G 3) b))), (2, .int (nI b)), (0, .ref (g 50)), (1, .int (nI q))] (by decide) rfl dX8_judge_17 ?_
  refine j_aload_n C 3 rfl dX8_judge_19 ?_
  refine gX_50_0 C tb_368 dX8_judge_20 ?_
  refine gX_27_0 C tb_200 dX8_judge_23 ?_
  refine gX_1_0 C tb_101 (nI k) hk dX8_judge_26 ?_
  refine j_bipush C (nI 28) (by decide) dX8_judge_29 ?_
  refine j_imulN C dX8_judge_31 ?_
  refine j_istore C [(5, .int (nI (k * 28))), (4, .int (nI 1)), (3, .int (nI (spE (zS G 3) b))), (2, .int (nI b)), (0, .ref (g 50)), (1, .int (nI q))] (by decide) rfl dX8_judge_32 ?_
  refine j_iconst C (nI 0) (by decide) dX8_judge_34 ?_
  refine j_istore C [(6, .int (nI 0)), (5, .int (nI (k * 28))), (4, .int (nI 1)), (3, .int (nI (spE (zS G 3) b))), (2, .int (nI b)), (0, .ref (g 50)), (1, .int (nI q))] (by decide) rfl dX8_judge_35 ?_
  have L37 : ∀ (n37 : Nat) (o : Nat) (g9 : Nat) (i37_0 : o ≤ k * 28) (i37_1 : g9 ≤ 1) (hb : ¬ cAb (vaJ G k) o q (spE (zS G 3) b)) (ha : (g9 = 1 → cBe (vaJ G k) o q b (zS G 3)) ∧ (g9 = 0 → ¬ cBe (vaJ G k) o q b (zS G 3))) (hm37 : k * 28 - o < n37), J X 0 0 (cX g kk σ) [(6, .int (nI o)), (5, .int (nI (k * 28))), (4, .int (nI g9)), (3, .int (nI (spE (zS G 3) b))), (2, .int (nI b)), (0, .ref (g 50)), (1, .int (nI q))] 37 [] := by
    intro n37
    induction n37 with
    | zero => intro o g9 i37_0 i37_1 hb ha hm; exact absurd hm (Nat.not_lt_zero _)
    | succ n37 ih37 =>
      intro o g9 i37_0 i37_1 hb ha hm37
      refine j_iload C 0 rfl dX8_judge_37 ?_
      refine j_iload C 1 rfl dX8_judge_39 ?_
      refine j_icmp_geN C 107 (by decide) (by omega) (by omega) dX8_judge_41 (fun c4 => ?_) (fun c4 => ?_)
      · refine j_iload C 2 rfl dX8_judge_107 ?_
        refine j_if_eqN C 116 (by decide) (by omega) dX8_judge_109 (fun c5 => ?_) (fun c5 => ?_)
        · refine j_iconst C (nI 1) (by decide) dX8_judge_116 ?_
          exact j_iret C E (σ) ⟨_, rfl, ⟨rfl, (clV_1 (by have z := hb; rw [show o = k * 28 by omega] at z; exact z) (by have z := ha.2 (by omega); rw [show o = k * 28 by omega] at z; exact z))⟩⟩ rfl dX8_judge_117
        · refine j_iconst C (nI 2) (by decide) dX8_judge_112 ?_
          refine j_goto C 117 (by decide) dX8_judge_113 ?_
          exact j_iret C E (σ) ⟨_, rfl, ⟨rfl, (clV_2 (by have z := ha.1 (by omega); rw [show o = k * 28 by omega] at z; exact z))⟩⟩ rfl dX8_judge_117
      · refine j_aload_n C 5 rfl dX8_judge_44 ?_
        refine gX_50_0 C tb_368 dX8_judge_45 ?_
        refine gX_27_4 C tb_209 dX8_judge_48 ?_
        refine j_iload C 0 rfl dX8_judge_51 ?_
        refine rX_31 C o rfl (by omega) (vaJ G k o) (by have z := (hC (o / 28) (o % 28) (by omega) (by omega)).2.2.2; rw [show o / 28 * 28 + o % 28 = o by omega] at z; exact z) dX8_judge_53 ?_
        refine j_istore C [(7, .int (vaJ G k o)), (6, .int (nI o)), (5, .int (nI (k * 28))), (4, .int (nI g9)), (3, .int (nI (spE (zS G 3) b))), (2, .int (nI b)), (0, .ref (g 50)), (1, .int (nI q))] (by decide) rfl dX8_judge_54 ?_
        rcases (show lm_ 9990 (vaJ G k o) from va_lm hX.W (show o / 28 < k by omega) (show o % 28 < 28 by omega)) with ev9 | ⟨v9, hv9, ev9⟩
        · rw [ev9]
          refine j_iload C 1 rfl dX8_judge_56 ?_
          refine j_iload_n C 7 rfl dX8_judge_58 ?_
          refine j_icmp_eqN C 101 (by decide) (by omega) (by omega) dX8_judge_59 (fun c6 => ?_) (fun c6 => ?_)
          · refine j_iinc C (nI (o + 1)) [(6, .int (nI (o + 1))), (7, .int (-1)), (5, .int (nI (k * 28))), (4, .int (nI g9)), (3, .int (nI (spE (zS G 3) b))), (2, .int (nI b)), (0, .ref (g 50)), (1, .int (nI q))] 1 rfl (by rw [show Int32.ofInt 1 = nI 1 from by decide, nI_add]) (by decide) rfl dX8_judge_101 ?_
            refine j_goto C 37 (by decide) dX8_judge_104 ?_
            refine j_sub (lv' := [(6, .int (nI (o + 1))), (5, .int (nI (k * 28))), (4, .int (nI g9)), (3, .int (nI (spE (zS G 3) b))), (2, .int (nI b)), (0, .ref (g 50)), (1, .int (nI q))]) [0, 2, 3, 4, 5, 6, 7] rfl ?_
            exact ih37 (o + 1) g9 (by omega) (by omega) (cAb_x hb (Or.inl c6)) ⟨fun z => cBe_x (ha.1 z) (Or.inl c6), fun z => cBe_n (ha.2 z) (by omega)⟩ (by omega)
          · refine j_iload C 0 rfl dX8_judge_62 ?_
            refine j_iconst C ((-1)) (by decide) dX8_judge_64 ?_
            refine j_icmp_ne C 71 (by decide) dX8_judge_65 (fun c7 => ?_) (fun c7 => ?_)
            · exact absurd rfl c7
            · refine j_goto C 101 (by decide) dX8_judge_68 ?_
              refine j_iinc C (nI (o + 1)) [(6, .int (nI (o + 1))), (7, .int (-1)), (5, .int (nI (k * 28))), (4, .int (nI g9)), (3, .int (nI (spE (zS G 3) b))), (2, .int (nI b)), (0, .ref (g 50)), (1, .int (nI q))] 1 rfl (by rw [show Int32.ofInt 1 = nI 1 from by decide, nI_add]) (by decide) rfl dX8_judge_101 ?_
              refine j_goto C 37 (by decide) dX8_judge_104 ?_
              refine j_sub (lv' := [(6, .int (nI (o + 1))), (5, .int (nI (k * 28))), (4, .int (nI g9)), (3, .int (nI (spE (zS G 3) b))), (2, .int (nI b)), (0, .ref (g 50)), (1, .int (nI q))]) [0, 2, 3, 4, 5, 6, 7] rfl ?_
              exact ih37 (o + 1) g9 (by omega) (by omega) (cAb_x hb (Or.inr (Or.inl ev9))) ⟨fun z => cBe_x (ha.1 z) (Or.inr (Or.inl ev9)), fun z => cBe_n (ha.2 z) (by omega)⟩ (by omega)
        · rw [ev9]
          refine j_iload C 1 rfl dX8_judge_56 ?_
          refine j_iload_n C 7 rfl dX8_judge_58 ?_
          refine j_icmp_eqN C 101 (by decide) (by omega) (by omega) dX8_judge_59 (fun c8 => ?_) (fun c8 => ?_)
          · refine j_iinc C (nI (o + 1)) [(6, .int (nI (o + 1))), (7, .int (nI v9)), (5, .int (nI (k * 28))), (4, .int (nI g9)), (3, .int (nI (spE (zS G 3) b))), (2, .int (nI b)), (0, .ref (g 50)), (1, .int (nI q))] 1 rfl (by rw [show Int32.ofInt 1 = nI 1 from by decide, nI_add]) (by decide) rfl dX8_judge_101 ?_
            refine j_goto C 37 (by decide) dX8_judge_104 ?_
            refine j_sub (lv' := [(6, .int (nI (o + 1))), (5, .int (nI (k * 28))), (4, .int (nI g9)), (3, .int (nI (spE (zS G 3) b))), (2, .int (nI b)), (0, .ref (g 50)), (1, .int (nI q))]) [0, 2, 3, 4, 5, 6, 7] rfl ?_
            exact ih37 (o + 1) g9 (by omega) (by omega) (cAb_x hb (Or.inl c8)) ⟨fun z => cBe_x (ha.1 z) (Or.inl c8), fun z => cBe_n (ha.2 z) (by omega)⟩ (by omega)
          · refine j_iload C 0 rfl dX8_judge_62 ?_
            refine j_iconst C ((-1)) (by decide) dX8_judge_64 ?_
            refine j_icmp_ne C 71 (by decide) dX8_judge_65 (fun c9 => ?_) (fun c9 => ?_)
            · refine j_iload C 0 rfl dX8_judge_71 ?_
              refine j_iload_n C 4 rfl dX8_judge_73 ?_
              refine j_icmp_leN C 79 (by decide) (by omega) (by omega) dX8_judge_74 (fun c10 => ?_) (fun c10 => ?_)
              · refine j_iload C 3 rfl dX8_judge_79 ?_
                refine j_if_eqN C 98 (by decide) (by omega) dX8_judge_81 (fun c11 => ?_) (fun c11 => ?_)
                · refine j_iconst C (nI 0) (by decide) dX8_judge_98 ?_
                  refine j_istore C [(4, .int (nI 0)), (7, .int (nI v9)), (6, .int (nI o)), (5, .int (nI (k * 28))), (3, .int (nI (spE (zS G 3) b))), (2, .int (nI b)), (0, .ref (g 50)), (1, .int (nI q))] (by decide) rfl dX8_judge_99 ?_
                  refine j_iinc C (nI (o + 1)) [(6, .int (nI (o + 1))), (4, .int (nI 0)), (7, .int (nI v9)), (5, .int (nI (k * 28))), (3, .int (nI (spE (zS G 3) b))), (2, .int (nI b)), (0, .ref (g 50)), (1, .int (nI q))] 2 rfl (by rw [show Int32.ofInt 1 = nI 1 from by decide, nI_add]) (by decide) rfl dX8_judge_101 ?_
                  refine j_goto C 37 (by decide) dX8_judge_104 ?_
                  refine j_sub (lv' := [(6, .int (nI (o + 1))), (5, .int (nI (k * 28))), (4, .int (nI 0)), (3, .int (nI (spE (zS G 3) b))), (2, .int (nI b)), (0, .ref (g 50)), (1, .int (nI q))]) [0, 3, 1, 4, 5, 6, 7] rfl ?_
                  exact ih37 (o + 1) 0 (by omega) (by omega) (cAb_x hb (Or.inr (Or.inr ⟨v9, hv9, ev9, by omega⟩))) ⟨fun z => absurd z (by decide), fun z => cBe_n (ha.2 (by omega)) (by omega)⟩ (by omega)
                · refine j_aload_n C 6 rfl dX8_judge_84 ?_
                  refine j_iload C 0 rfl dX8_judge_85 ?_
                  refine j_V1 C (e_spanEnd g kk σ k hk hk6 hI G hX v9 (by first | assumption | omega)) kyX8_spanEnd tb_808 tb_810 sp_20 50 rfl (eX_50 g kk _) rfl (Nat.le_of_ble_eq_true rfl) ⟨by decide, by decide⟩ dX8_judge_87 rfl (fun vr ur hp => ?_)
                  obtain ⟨r13, rfl, hu, g12⟩ := hp
                  replace hu := hu.symm
                  subst hu
                  have hsex14 := spE_b (s := zS G 3) (show v9 ≤ 9990 by omega) hs9
                  subst g12
                  refine j_iload_n C 5 rfl dX8_judge_90 ?_
                  refine j_icmp_geN C 98 (by decide) (by omega) (by omega) dX8_judge_91 (fun c15 => ?_) (fun c15 => ?_)
                  · refine j_iconst C (nI 0) (by decide) dX8_judge_98 ?_
                    refine j_istore C [(4, .int (nI 0)), (7, .int (nI v9)), (6, .int (nI o)), (5, .int (nI (k * 28))), (3, .int (nI (spE (zS G 3) b))), (2, .int (nI b)), (0, .ref (g 50)), (1, .int (nI q))] (by decide) rfl dX8_judge_99 ?_
                    refine j_iinc C (nI (o + 1)) [(6, .int (nI (o + 1))), (4, .int (nI 0)), (7, .int (nI v9)), (5, .int (nI (k * 28))), (3, .int (nI (spE (zS G 3) b))), (2, .int (nI b)), (0, .ref (g 50)), (1, .int (nI q))] 2 rfl (by rw [show Int32.ofInt 1 = nI 1 from by decide, nI_add]) (by decide) rfl dX8_judge_101 ?_
                    refine j_goto C 37 (by decide) dX8_judge_104 ?_
                    refine j_sub (lv' := [(6, .int (nI (o + 1))), (5, .int (nI (k * 28))), (4, .int (nI 0)), (3, .int (nI (spE (zS G 3) b))), (2, .int (nI b)), (0, .ref (g 50)), (1, .int (nI q))]) [0, 3, 1, 4, 5, 6, 7] rfl ?_
                    exact ih37 (o + 1) 0 (by omega) (by omega) (cAb_x hb (Or.inr (Or.inr ⟨v9, hv9, ev9, by omega⟩))) ⟨fun z => absurd z (by decide), fun z => cBe_y (by omega) hv9 ev9 (by omega)⟩ (by omega)
                  · refine j_iconst C (nI 1) (by decide) dX8_judge_94 ?_
                    refine j_goto C 99 (by decide) dX8_judge_95 ?_
                    refine j_istore C [(4, .int (nI 1)), (7, .int (nI v9)), (6, .int (nI o)), (5, .int (nI (k * 28))), (3, .int (nI (spE (zS G 3) b))), (2, .int (nI b)), (0, .ref (g 50)), (1, .int (nI q))] (by decide) rfl dX8_judge_99 ?_
                    refine j_iinc C (nI (o + 1)) [(6, .int (nI (o + 1))), (4, .int (nI 1)), (7, .int (nI v9)), (5, .int (nI (k * 28))), (3, .int (nI (spE (zS G 3) b))), (2, .int (nI b)), (0, .ref (g 50)), (1, .int (nI q))] 2 rfl (by rw [show Int32.ofInt 1 = nI 1 from by decide, nI_add]) (by decide) rfl dX8_judge_101 ?_
                    refine j_goto C 37 (by decide) dX8_judge_104 ?_
                    refine j_sub (lv' := [(6, .int (nI (o + 1))), (5, .int (nI (k * 28))), (4, .int (nI 1)), (3, .int (nI (spE (zS G 3) b))), (2, .int (nI b)), (0, .ref (g 50)), (1, .int (nI q))]) [0, 3, 1, 4, 5, 6, 7] rfl ?_
                    exact ih37 (o + 1) 1 (by omega) (by omega) (cAb_x hb (Or.inr (Or.inr ⟨v9, hv9, ev9, by omega⟩))) ⟨fun z => cBe_x (ha.1 (by omega)) (Or.inr (Or.inr ⟨v9, hv9, ev9, by omega⟩)), fun z => absurd z (by decide)⟩ (by omega)
              · refine j_iconst C (nI 0) (by decide) dX8_judge_77 ?_
                exact j_iret C E (σ) ⟨_, rfl, ⟨rfl, (clV_0 ⟨o, by omega, by omega, v9, hv9, ev9, by omega⟩)⟩⟩ rfl dX8_judge_78
            · exact absurd c9 (nI_nm1 (by omega))
  exact L37 _ 0 1 (by omega) (by omega) (fun w => by obtain ⟨p, p1, -⟩ := w; omega) ⟨fun _ p p1 => absurd p1 (by omega), fun z => absurd z (by decide)⟩ (Nat.lt_succ_self _)
set_option maxRecDepth 100000 in
set_option maxHeartbeats 4000000 in
theorem e_claim (g kk : Nat → Nat) (σ : St) (k : Nat) (hk : σ.1 16 = nI k) (hk6 : k ≤ 6) (hI : iX σ) (G : GD) (hX : HX G k σ) (hst : σ.1 437 = 0 → CXf G k (σ.2.1 28) (σ.2.1 29) (σ.2.1 30) (σ.2.1 31)) (x : Int32) (y : Int32) : jM (S := St) yX10_claim cX10_claim 4 (some .int) { frames := 5, cells := 0, slots := 0, locals := 115 } kk (cX g kk σ) [.ref (g 0), .int x, .int y] (cX g kk) (rI (fun (r : Int32) (u : St) => ∃ (pF28 : Nat → Int32) (pF29 : Nat → Int32) (pF30 : Nat → Int32) (pF31 : Nat → Int32) (pI437 : Int32), u = sI (sF (sF (sF (sF σ 28 pF28) 29 pF29) 30 pF30) 31 pF31) 437 pI437 ∧ (r = clF G k x y) ∧ ((pI437 = nI 0 ∧ CXf G k pF28 pF29 pF30 pF31) ∨ (pI437 = σ.1 437 ∧ pF28 = σ.2.1 28 ∧ pF29 = σ.2.1 29 ∧ pF30 = σ.2.1 30 ∧ pF31 = σ.2.1 31)))) := by
  refine j_entry [(0, .ref (g 0)), (1, .int x), (2, .int y)] (by decide) (Nat.le_of_ble_eq_true rfl) rfl ?_
  intro X C E HI
  refine j_aload_n C 0 rfl dX10_claim_0 ?_
  refine j_iload_n C 1 rfl dX10_claim_1 ?_
  refine j_V1 C (c_isCan g kk σ k hk hk6 x) kyX10_isCan tb_478 tb_480 sp_0 0 rfl (eX_0 g kk _) rfl (Nat.le_of_ble_eq_true rfl) ⟨by decide, by decide⟩ dX10_claim_2 rfl (fun vr ur hp => ?_)
  obtain ⟨r, rfl, rfl, hu⟩ := hp
  replace hu := hu.symm
  subst hu
  refine j_if_eq C 15 (by decide) dX10_claim_5 (fun c1 => ?_) (fun c1 => ?_)
  · replace c1 := bI_f c1
    refine j_iconst C ((-1)) (by decide) dX10_claim_15 ?_
    refine j_w (cX g kk (sF σ 28 (σ.2.1 28))) (congrArg (cX g kk) (wrFi (S := σ) (c := 28) (v := σ.2.1 28) rfl)) ?_
    refine j_w (cX g kk (sF (sF σ 28 (σ.2.1 28)) 29 (σ.2.1 29))) (congrArg (cX g kk) (wrFi (S := (sF σ 28 (σ.2.1 28))) (c := 29) (v := σ.2.1 29) (gtFF (by decide) rfl))) ?_
    refine j_w (cX g kk (sF (sF (sF σ 28 (σ.2.1 28)) 29 (σ.2.1 29)) 30 (σ.2.1 30))) (congrArg (cX g kk) (wrFi (S := (sF (sF σ 28 (σ.2.1 28)) 29 (σ.2.1 29))) (c := 30) (v := σ.2.1 30) (gtFF (by decide) (gtFF (by decide) rfl)))) ?_
    refine j_w (cX g kk (sF (sF (sF (sF σ 28 (σ.2.1 28)) 29 (σ.2.1 29)) 30 (σ.2.1 30)) 31 (σ.2.1 31))) (congrArg (cX g kk) (wrFi (S := (sF (sF (sF σ 28 (σ.2.1 28)) 29 (σ.2.1 29)) 30 (σ.2.1 30))) (c := 31) (v := σ.2.1 31) (gtFF (by decide) (gtFF (by decide) (gtFF (by decide) rfl))))) ?_
    refine j_w (cX g kk (sI (sF (sF (sF (sF σ 28 (σ.2.1 28)) 29 (σ.2.1 29)) 30 (σ.2.1 30)) 31 (σ.2.1 31)) 437 (σ.1 437))) (congrArg (cX g kk) (wrIi (S := (sF (sF (sF (sF σ 28 (σ.2.1 28)) 29 (σ.2.1 29)) 30 (σ.2.1 30)) 31 (σ.2.1 31))) (c := 437) (v := σ.1 437) (gtIF (gtIF (gtIF (gtIF rfl)))))) ?_
    exact j_iret C E (sI (sF (sF (sF (sF σ 28 (σ.2.1 28)) 29 (σ.2.1 29)) 30 (σ.2.1 30)) 31 (σ.2.1 31)) 437 (σ.1 437)) ⟨_, rfl, ⟨(σ.2.1 28), (σ.2.1 29), (σ.2.1 30), (σ.2.1 31), (σ.1 437), rfl, (clF_1 (Or.inl c1)), (Or.inr ⟨rfl, rfl, rfl, rfl, rfl⟩)⟩⟩ rfl dX10_claim_16
  · replace c1 := bI_t c1
    obtain ⟨xn, xn1, rfl⟩ := cB_nat (by omega) c1
    refine j_iload_n C 2 rfl dX10_claim_8 ?_
    refine j_S01 C (c_isDay y) kyX10_isDay tb_486 tb_487 rfl (Nat.le_of_ble_eq_true rfl) ⟨by decide, by decide⟩ ⟨by decide, by decide⟩ dX10_claim_9 rfl ?_
    refine j_if_ne C 17 (by decide) dX10_claim_12 (fun c2 => ?_) (fun c2 => ?_)
    · replace c2 := bI_t c2
      obtain ⟨yn, yn1, yn2, rfl⟩ := wB_nat (by decide) (by decide) c2
      refine j_aload_n C 0 rfl dX10_claim_17 ?_
      refine gX_0_2 C tb_430 dX10_claim_18 ?_
      refine j_V1 C (e_refresh g kk σ k hk hk6 hI G hX hst ) kyX7_refresh tb_562 tb_563 tb_564 27 rfl (eX_27 g kk _) rfl (Nat.le_of_ble_eq_true rfl) ⟨by decide, by decide⟩ dX10_claim_21 rfl (fun vr ur hp => ?_)
      obtain ⟨rfl, w3, w4, w5, w6, w7, hu, g8, g9⟩ := hp
      replace hu := hu.symm
      subst hu
      refine j_iload_n C 1 rfl dX10_claim_24 ?_
      refine j_bipush C (nI 28) (by decide) dX10_claim_25 ?_
      refine j_imulN C dX10_claim_27 ?_
      refine j_iload_n C 2 rfl dX10_claim_28 ?_
      refine j_iaddN C dX10_claim_29 ?_
      refine j_istore_n C [(3, .int (nI ((xn * 28) + yn))), (0, .ref (g 0)), (1, .int (nI xn)), (2, .int (nI yn))] rfl (by decide) rfl dX10_claim_30 ?_
      refine j_aload_n C 1 rfl dX10_claim_31 ?_
      refine gX_0_2 C tb_430 dX10_claim_32 ?_
      refine gX_27_4 C tb_212 dX10_claim_35 ?_
      refine j_iload_n C 0 rfl dX10_claim_38 ?_
      refine rX_31 C ((xn * 28) + yn) rfl (by omega) (vaV G k xn yn) (g9 xn yn (by omega) (by omega)).2.2.2 dX10_claim_39 ?_
      refine j_iconst C ((-1)) (by decide) dX10_claim_40 ?_
      refine j_icmp_ne C 47 (by decide) dX10_claim_41 (fun c10 => ?_) (fun c10 => ?_)
      · obtain ⟨v9, hv9, ev9⟩ := (va_lm hX.W (show xn < k by omega) (show yn < 28 by omega)).resolve_left c10
        refine j_aload_n C 1 rfl dX10_claim_47 ?_
        refine gX_0_6 C tb_434 dX10_claim_48 ?_
        refine j_iload_n C 0 rfl dX10_claim_51 ?_
        refine j_V1 C (e_judge g kk (sI (sF (sF (sF (sF σ 28 w3) 29 w4) 30 w5) 31 w6) 437 w7) k hk hk6 hI G hX g9 xn yn v9 (by omega) (by omega) hv9 ev9 ((xn * 28) + yn) (by first | assumption | omega)) kyX8_judge tb_804 tb_805 tb_806 50 rfl (eX_50 g kk _) rfl (Nat.le_of_ble_eq_true rfl) ⟨by decide, by decide⟩ dX10_claim_52 rfl (fun vr ur hp => ?_)
        obtain ⟨r12, rfl, hu, g11⟩ := hp
        replace hu := hu.symm
        subst hu
        exact j_iret C E (sI (sF (sF (sF (sF σ 28 w3) 29 w4) 30 w5) 31 w6) 437 w7) ⟨_, rfl, ⟨w3, w4, w5, w6, w7, rfl, (clF_x c1 c2 (by omega) (by omega) (by omega) ev9 g11), (Or.inl ⟨g8, g9⟩)⟩⟩ rfl dX10_claim_55
      · refine j_bipush C ((-3)) (by decide) dX10_claim_44 ?_
        exact j_iret C E (sI (sF (sF (sF (sF σ 28 w3) 29 w4) 30 w5) 31 w6) 437 w7) ⟨_, rfl, ⟨w3, w4, w5, w6, w7, rfl, (clF_3 c1 c2 (by omega) (by omega) c10), (Or.inl ⟨g8, g9⟩)⟩⟩ rfl dX10_claim_46
    · replace c2 := bI_f c2
      refine j_iconst C ((-1)) (by decide) dX10_claim_15 ?_
      refine j_w (cX g kk (sF σ 28 (σ.2.1 28))) (congrArg (cX g kk) (wrFi (S := σ) (c := 28) (v := σ.2.1 28) rfl)) ?_
      refine j_w (cX g kk (sF (sF σ 28 (σ.2.1 28)) 29 (σ.2.1 29))) (congrArg (cX g kk) (wrFi (S := (sF σ 28 (σ.2.1 28))) (c := 29) (v := σ.2.1 29) (gtFF (by decide) rfl))) ?_
      refine j_w (cX g kk (sF (sF (sF σ 28 (σ.2.1 28)) 29 (σ.2.1 29)) 30 (σ.2.1 30))) (congrArg (cX g kk) (wrFi (S := (sF (sF σ 28 (σ.2.1 28)) 29 (σ.2.1 29))) (c := 30) (v := σ.2.1 30) (gtFF (by decide) (gtFF (by decide) rfl)))) ?_
      refine j_w (cX g kk (sF (sF (sF (sF σ 28 (σ.2.1 28)) 29 (σ.2.1 29)) 30 (σ.2.1 30)) 31 (σ.2.1 31))) (congrArg (cX g kk) (wrFi (S := (sF (sF (sF σ 28 (σ.2.1 28)) 29 (σ.2.1 29)) 30 (σ.2.1 30))) (c := 31) (v := σ.2.1 31) (gtFF (by decide) (gtFF (by decide) (gtFF (by decide) rfl))))) ?_
      refine j_w (cX g kk (sI (sF (sF (sF (sF σ 28 (σ.2.1 28)) 29 (σ.2.1 29)) 30 (σ.2.1 30)) 31 (σ.2.1 31)) 437 (σ.1 437))) (congrArg (cX g kk) (wrIi (S := (sF (sF (sF (sF σ 28 (σ.2.1 28)) 29 (σ.2.1 29)) 30 (σ.2.1 30)) 31 (σ.2.1 31))) (c := 437) (v := σ.1 437) (gtIF (gtIF (gtIF (gtIF rfl)))))) ?_
      exact j_iret C E (sI (sF (sF (sF (sF σ 28 (σ.2.1 28)) 29 (σ.2.1 29)) 30 (σ.2.1 30)) 31 (σ.2.1 31)) 437 (σ.1 437)) ⟨_, rfl, ⟨(σ.2.1 28), (σ.2.1 29), (σ.2.1 30), (σ.2.1 31), (σ.1 437), rfl, (clF_1 (Or.inr c2)), (Or.inr ⟨rfl, rfl, rfl, rfl, rfl⟩)⟩⟩ rfl dX10_claim_16
set_option maxRecDepth 100000 in
set_option maxHeartbeats 4000000 in
theorem o_spanEnd (g kk : Nat → Nat) (σ : St) (k : Nat) (hk : σ.1 3 = nI k) (hk6 : k ≤ 6) (hI : iM σ) (nf : Nat) (hnf : σ.1 9 = nI nf) (hnfb : nf ≤ 20) (G : GD) (hM : HM G k nf σ) (v : Nat) (hv0 : v ≤ 9990) : jM (S := St) yX11_spanEnd cX11_spanEnd 2 (some .int) { frames := 0, cells := 0, slots := 0, locals := 0 } kk (cM g kk σ) [.ref (g 0), .int (nI v)] (cM g kk) (rI (fun (r : Int32) (u : St) => u = σ ∧ (r = nI (spE (zS G 3) v)))) := by
  refine j_entry [(0, .ref (g 0)), (1, .int (nI v))] (by decide) (Nat.le_of_ble_eq_true rfl) rfl ?_
  intro X C E HI
  have hs9 : zS G 3 ≤ 9 := hM.W.2.2.2.2.2.2
  have hsp := spb hv0 hs9
  refine j_iload_n C 1 rfl dX11_spanEnd_0 ?_
  refine j_bipush C (nI 10) (by decide) dX11_spanEnd_1 ?_
  refine j_aload_n C 0 rfl dX11_spanEnd_3 ?_
  refine gM_0_13 C tb_886 (nI (zS G 3)) hM.S3 dX11_spanEnd_4 ?_
  refine j_iaddN C dX11_spanEnd_7 ?_
  refine j_imulN C dX11_spanEnd_8 ?_
  refine j_bipush C (nI 10) (by decide) dX11_spanEnd_9 ?_
  refine j_idivN C (by omega) (by omega) (by omega) dX11_spanEnd_11 ?_
  exact j_iret C E (σ) ⟨_, rfl, ⟨rfl, rfl⟩⟩ rfl dX11_spanEnd_12
set_option maxRecDepth 100000 in
set_option maxHeartbeats 4000000 in
theorem o_claim (g kk : Nat → Nat) (σ : St) (k : Nat) (hk : σ.1 3 = nI k) (hk6 : k ≤ 6) (hI : iM σ) (nf : Nat) (hnf : σ.1 9 = nI nf) (hnfb : nf ≤ 20) (G : GD) (hM : HM G k nf σ) (x : Int32) (y : Int32) : jM (S := St) yX11_claim cX11_claim 9 (some .int) { frames := 6, cells := 0, slots := 0, locals := 141 } kk (cM g kk σ) [.ref (g 0), .int x, .int y] (cM g kk) (rI (fun (r : Int32) (u : St) => ∃ (pF16 : Nat → Int32) (pF17 : Nat → Int32) (pF18 : Nat → Int32), u = sF (sF (sF σ 16 pF16) 17 pF17) 18 pF18 ∧ (r = clF G k x y))) := by
  refine j_entry [(0, .ref (g 0)), (1, .int x), (2, .int y)] (by decide) (Nat.le_of_ble_eq_true rfl) rfl ?_
  intro X C E HI
  have hs9 : zS G 3 ≤ 9 := hM.W.2.2.2.2.2.2
  refine j_aload_n C 0 rfl dX11_claim_0 ?_
  refine j_iload_n C 1 rfl dX11_claim_1 ?_
  refine j_V1 C (m_isCan g kk σ k hk hk6 x) kyX11_isCan tb_1067 tb_1069 sp_21 0 rfl (eM_0 g kk _) rfl (Nat.le_of_ble_eq_true rfl) ⟨by decide, by decide⟩ dX11_claim_2 rfl (fun vr ur hp => ?_)
  obtain ⟨r, rfl, rfl, hu⟩ := hp
  replace hu := hu.symm
  subst hu
  refine j_if_eq C 15 (by decide) dX11_claim_5 (fun c1 => ?_) (fun c1 => ?_)
  · replace c1 := bI_f c1
    refine j_iconst C ((-1)) (by decide) dX11_claim_15 ?_
    refine j_w (cM g kk (sF σ 16 (σ.2.1 16))) (congrArg (cM g kk) (wrFi (S := σ) (c := 16) (v := σ.2.1 16) rfl)) ?_
    refine j_w (cM g kk (sF (sF σ 16 (σ.2.1 16)) 17 (σ.2.1 17))) (congrArg (cM g kk) (wrFi (S := (sF σ 16 (σ.2.1 16))) (c := 17) (v := σ.2.1 17) (gtFF (by decide) rfl))) ?_
    refine j_w (cM g kk (sF (sF (sF σ 16 (σ.2.1 16)) 17 (σ.2.1 17)) 18 (σ.2.1 18))) (congrArg (cM g kk) (wrFi (S := (sF (sF σ 16 (σ.2.1 16)) 17 (σ.2.1 17))) (c := 18) (v := σ.2.1 18) (gtFF (by decide) (gtFF (by decide) rfl)))) ?_
    exact j_iret C E (sF (sF (sF σ 16 (σ.2.1 16)) 17 (σ.2.1 17)) 18 (σ.2.1 18)) ⟨_, rfl, ⟨(σ.2.1 16), (σ.2.1 17), (σ.2.1 18), rfl, (clF_1 (Or.inl c1))⟩⟩ rfl dX11_claim_16
  · replace c1 := bI_t c1
    obtain ⟨xn, xn1, rfl⟩ := cB_nat (by omega) c1
    refine j_iload_n C 2 rfl dX11_claim_8 ?_
    refine j_S01 C (m_isDay y) kyX11_isDay tb_1077 tb_1078 rfl (Nat.le_of_ble_eq_true rfl) ⟨by decide, by decide⟩ ⟨by decide, by decide⟩ dX11_claim_9 rfl ?_
    refine j_if_ne C 17 (by decide) dX11_claim_12 (fun c2 => ?_) (fun c2 => ?_)
    · replace c2 := bI_t c2
      obtain ⟨yn, yn1, yn2, rfl⟩ := wB_nat (by decide) (by decide) c2
      refine j_aload_n C 0 rfl dX11_claim_17 ?_
      refine j_V1 C (o_findAll g kk σ k hk hk6 hI nf hnf (by omega) G hM ) kyX11_findAll tb_1131 tb_1133 sp_24 0 rfl (eM_0 g kk _) rfl (Nat.le_of_ble_eq_true rfl) ⟨by decide, by decide⟩ dX11_claim_18 rfl (fun vr ur hp => ?_)
      obtain ⟨rfl, w3, w4, w5, hu, g6⟩ := hp
      replace hu := hu.symm
      subst hu
      refine j_aload_n C 0 rfl dX11_claim_21 ?_
      refine gM_0_24 C tb_897 dX11_claim_22 ?_
      refine j_iload_n C 1 rfl dX11_claim_25 ?_
      refine j_iload_n C 2 rfl dX11_claim_26 ?_
      refine j_S01 C (m_at xn yn) kyX11_at tb_1060 tb_1061 rfl (Nat.le_of_ble_eq_true rfl) ⟨by decide, by decide⟩ ⟨by decide, by decide⟩ dX11_claim_27 rfl ?_
      refine rM_18 C (28 * xn + yn) rfl (by omega) (tr (vaV G k xn yn)) (g6 xn yn (by omega) (by omega)).2.2 dX11_claim_30 ?_
      refine j_istore_n C [(3, .int (tr (vaV G k xn yn))), (0, .ref (g 0)), (1, .int (nI xn)), (2, .int (nI yn))] rfl (by decide) rfl dX11_claim_31 ?_
      rcases va_lm hM.W (show xn < k by omega) (show yn < 28 by omega) with eb9 | ⟨b9, hb9, eb9⟩
      · rw [eb9, tr_m]
        refine j_iload_n C 0 rfl dX11_claim_32 ?_
        refine j_if_ge C 39 (by decide) dX11_claim_33 (fun c7 => ?_) (fun c7 => ?_)
        · exact absurd c7 (by decide)
        · refine j_bipush C ((-3)) (by decide) dX11_claim_36 ?_
          exact j_iret C E (sF (sF (sF σ 16 w3) 17 w4) 18 w5) ⟨_, rfl, ⟨w3, w4, w5, rfl, (clF_3 c1 c2 (by omega) (by omega) eb9)⟩⟩ rfl dX11_claim_38
      · rw [eb9, tr_n (by omega)]
        refine j_iload_n C 0 rfl dX11_claim_32 ?_
        refine j_if_geN C 39 (by decide) (by omega) dX11_claim_33 (fun c8 => ?_) (fun c8 => ?_)
        · refine j_iconst C (nI 1) (by decide) dX11_claim_39 ?_
          refine j_istore C [(4, .int (nI 1)), (3, .int (nI b9)), (0, .ref (g 0)), (1, .int (nI xn)), (2, .int (nI yn))] (by decide) rfl dX11_claim_40 ?_
          refine j_iconst C (nI 0) (by decide) dX11_claim_42 ?_
          refine j_istore C [(5, .int (nI 0)), (4, .int (nI 1)), (3, .int (nI b9)), (0, .ref (g 0)), (1, .int (nI xn)), (2, .int (nI yn))] (by decide) rfl dX11_claim_43 ?_
          refine j_iconst C (nI 0) (by decide) dX11_claim_45 ?_
          refine j_istore C [(6, .int (nI 0)), (5, .int (nI 0)), (4, .int (nI 1)), (3, .int (nI b9)), (0, .ref (g 0)), (1, .int (nI xn)), (2, .int (nI yn))] (by decide) rfl dX11_claim_46 ?_
          have L48 : ∀ (n48 : Nat) (c : Nat) (g8 : Nat) (g9 : Nat) (i48_0 : c ≤ k) (i48_1 : g9 ≤ 1) (i48_2 : g8 ≤ 1) (hsu0 : (g9 = 1 → cBe (vaJ G k) (c * 28) (xn * 28 + yn) b9 (zS G 3)) ∧ (g9 = 0 → ¬ cBe (vaJ G k) (c * 28) (xn * 28 + yn) b9 (zS G 3))) (hn0 : (g8 = 1 → cAb (vaJ G k) (c * 28) (xn * 28 + yn) (spE (zS G 3) b9)) ∧ (g8 = 0 → ¬ cAb (vaJ G k) (c * 28) (xn * 28 + yn) (spE (zS G 3) b9))) (hm48 : k - c < n48), J X 0 0 (cM g kk (sF (sF (sF σ 16 w3) 17 w4) 18 w5)) [(6, .int (nI c)), (5, .int (nI g8)), (4, .int (nI g9)), (3, .int (nI b9)), (0, .ref (g 0)), (1, .int (nI xn)), (2, .int (nI yn))] 48 [] := by
            intro n48
            induction n48 with
            | zero => intro c g8 g9 i48_0 i48_1 i48_2 hsu0 hn0 hm; exact absurd hm (Nat.not_lt_zero _)
            | succ n48 ih48 =>
              intro c g8 g9 i48_0 i48_1 i48_2 hsu0 hn0 hm48
              refine j_iload C 0 rfl dX11_claim_48 ?_
              refine j_aload_n C 4 rfl dX11_claim_50 ?_
              refine gM_0_3 C tb_876 (nI k) hk dX11_claim_51 ?_
              refine j_icmp_geN C 154 (by decide) (by omega) (by omega) dX11_claim_54 (fun c9 => ?_) (fun c9 => ?_)
              · refine j_iload C 2 rfl dX11_claim_154 ?_
                refine j_if_eqN C 163 (by decide) (by omega) dX11_claim_156 (fun c10 => ?_) (fun c10 => ?_)
                · refine j_iload C 1 rfl dX11_claim_163 ?_
                  refine j_if_eqN C 172 (by decide) (by omega) dX11_claim_165 (fun c11 => ?_) (fun c11 => ?_)
                  · refine j_iconst C (nI 1) (by decide) dX11_claim_172 ?_
                    exact j_iret C E (sF (sF (sF σ 16 w3) 17 w4) 18 w5) ⟨_, rfl, ⟨w3, w4, w5, rfl, (clF_x c1 c2 (by omega) (by omega) (by omega) eb9 (clV_1 (by have z := hn0.2 (by omega); rw [show c = k by omega] at z; exact z) (by have z := hsu0.2 (by omega); rw [show c = k by omega] at z; exact z)))⟩⟩ rfl dX11_claim_173
                  · refine j_iconst C (nI 0) (by decide) dX11_claim_168 ?_
                    refine j_goto C 173 (by decide) dX11_claim_169 ?_
                    exact j_iret C E (sF (sF (sF σ 16 w3) 17 w4) 18 w5) ⟨_, rfl, ⟨w3, w4, w5, rfl, (clF_x c1 c2 (by omega) (by omega) (by omega) eb9 (clV_0 (by have z := hn0.1 (by omega); rw [show c = k by omega] at z; exact z)))⟩⟩ rfl dX11_claim_173
                · refine j_iconst C (nI 2) (by decide) dX11_claim_159 ?_
                  refine j_goto C 173 (by decide) dX11_claim_160 ?_
                  exact j_iret C E (sF (sF (sF σ 16 w3) 17 w4) 18 w5) ⟨_, rfl, ⟨w3, w4, w5, rfl, (clF_x c1 c2 (by omega) (by omega) (by omega) eb9 (clV_2 (by have z := hsu0.1 (by omega); rw [show c = k by omega] at z; exact z)))⟩⟩ rfl dX11_claim_173
              · refine j_iconst C (nI 0) (by decide) dX11_claim_57 ?_
                refine j_istore C [(7, .int (nI 0)), (6, .int (nI c)), (5, .int (nI g8)), (4, .int (nI g9)), (3, .int (nI b9)), (0, .ref (g 0)), (1, .int (nI xn)), (2, .int (nI yn))] (by decide) rfl dX11_claim_58 ?_
                have L60 : ∀ (n60 : Nat) (d : Nat) (g8 : Nat) (g9 : Nat) (i60_0 : d ≤ 28) (i60_1 : g9 ≤ 1) (i60_2 : g8 ≤ 1) (hsu : (g9 = 1 → cBe (vaJ G k) (c * 28 + d) (xn * 28 + yn) b9 (zS G 3)) ∧ (g9 = 0 → ¬ cBe (vaJ G k) (c * 28 + d) (xn * 28 + yn) b9 (zS G 3))) (hn : (g8 = 1 → cAb (vaJ G k) (c * 28 + d) (xn * 28 + yn) (spE (zS G 3) b9)) ∧ (g8 = 0 → ¬ cAb (vaJ G k) (c * 28 + d) (xn * 28 + yn) (spE (zS G 3) b9))) (hm60 : 28 - d < n60), J X 0 0 (cM g kk (sF (sF (sF σ 16 w3) 17 w4) 18 w5)) [(7, .int (nI d)), (6, .int (nI c)), (5, .int (nI g8)), (4, .int (nI g9)), (3, .int (nI b9)), (0, .ref (g 0)), (1, .int (nI xn)), (2, .int (nI yn))] 60 [] := by
                  intro n60
                  induction n60 with
                  | zero => intro d g8 g9 i60_0 i60_1 i60_2 hsu hn hm; exact absurd hm (Nat.not_lt_zero _)
                  | succ n60 ih60 =>
                    intro d g8 g9 i60_0 i60_1 i60_2 hsu hn hm60
                    refine j_iload C 0 rfl dX11_claim_60 ?_
                    refine j_bipush C (nI 28) (by decide) dX11_claim_62 ?_
                    refine j_icmp_geN C 148 (by decide) (by omega) (by omega) dX11_claim_64 (fun c12 => ?_) (fun c12 => ?_)
                    · refine j_iinc C (nI (c + 1)) [(6, .int (nI (c + 1))), (7, .int (nI d)), (5, .int (nI g8)), (4, .int (nI g9)), (3, .int (nI b9)), (0, .ref (g 0)), (1, .int (nI xn)), (2, .int (nI yn))] 1 rfl (by rw [show Int32.ofInt 1 = nI 1 from by decide, nI_add]) (by decide) rfl dX11_claim_148 ?_
                      refine j_goto C 48 (by decide) dX11_claim_151 ?_
                      refine j_sub (lv' := [(6, .int (nI (c + 1))), (5, .int (nI g8)), (4, .int (nI g9)), (3, .int (nI b9)), (0, .ref (g 0)), (1, .int (nI xn)), (2, .int (nI yn))]) [0, 2, 3, 4, 5, 6, 7] rfl ?_
                      exact ih48 (c + 1) g8 g9 (by omega) (by omega) (by omega) (by have z := hsu; rw [show c * 28 + d = (c + 1) * 28 by omega] at z; exact z) (by have z := hn; rw [show c * 28 + d = (c + 1) * 28 by omega] at z; exact z) (by omega)
                    · refine j_aload_n C 5 rfl dX11_claim_67 ?_
                      refine gM_0_24 C tb_897 dX11_claim_68 ?_
                      refine j_iload C 1 rfl dX11_claim_71 ?_
                      refine j_iload C 0 rfl dX11_claim_73 ?_
                      refine j_S01 C (m_at c d) kyX11_at tb_1060 tb_1061 rfl (Nat.le_of_ble_eq_true rfl) ⟨by decide, by decide⟩ ⟨by decide, by decide⟩ dX11_claim_75 rfl ?_
                      refine rM_18 C (28 * c + d) rfl (by omega) (tr (vaV G k c d)) (g6 c d (by omega) (by omega)).2.2 dX11_claim_78 ?_
                      refine j_istore C [(8, .int (tr (vaV G k c d))), (7, .int (nI d)), (6, .int (nI c)), (5, .int (nI g8)), (4, .int (nI g9)), (3, .int (nI b9)), (0, .ref (g 0)), (1, .int (nI xn)), (2, .int (nI yn))] (by decide) rfl dX11_claim_79 ?_
                      rcases va_lm hM.W (show c < k by omega) (show d < 28 by omega) with ev9 | ⟨v9, hv9, ev9⟩
                      · rw [ev9, tr_m]
                        refine j_iload C 0 rfl dX11_claim_81 ?_
                        refine j_if_lt C 142 (by decide) dX11_claim_83 (fun c13 => ?_) (fun c13 => ?_)
                        · refine j_iinc C (nI (d + 1)) [(7, .int (nI (d + 1))), (8, .int (-6)), (6, .int (nI c)), (5, .int (nI g8)), (4, .int (nI g9)), (3, .int (nI b9)), (0, .ref (g 0)), (1, .int (nI xn)), (2, .int (nI yn))] 1 rfl (by rw [show Int32.ofInt 1 = nI 1 from by decide, nI_add]) (by decide) rfl dX11_claim_142 ?_
                          refine j_goto C 60 (by decide) dX11_claim_145 ?_
                          refine j_sub (lv' := [(7, .int (nI (d + 1))), (6, .int (nI c)), (5, .int (nI g8)), (4, .int (nI g9)), (3, .int (nI b9)), (0, .ref (g 0)), (1, .int (nI xn)), (2, .int (nI yn))]) [0, 2, 3, 4, 5, 6, 7, 8] rfl ?_
                          exact ih60 (d + 1) g8 g9 (by omega) (by omega) (by omega) ⟨fun z => cBe_x (n := c * 28 + d) (hsu.1 z) (Or.inr (Or.inl ((vaJ_c (show d < 28 by omega)).trans ev9))), fun z => cBe_n (hsu.2 z) (by omega)⟩ ⟨fun z => cAb_s (hn.1 z), fun z => cAb_x (n := c * 28 + d) (hn.2 z) (Or.inr (Or.inl ((vaJ_c (show d < 28 by omega)).trans ev9)))⟩ (by omega)
                        · exact absurd c13 (by decide)
                      · rw [ev9, tr_n (by omega)]
                        refine j_iload C 0 rfl dX11_claim_81 ?_
                        refine j_if_ltN C 142 (by decide) (by omega) dX11_claim_83 (fun c14 => ?_) (fun c14 => ?_)
                        · exact absurd c14 (Nat.not_lt_zero _)
                        · refine j_iload C 2 rfl dX11_claim_86 ?_
                          refine j_iload_n C 7 rfl dX11_claim_88 ?_
                          refine j_icmp_neN C 98 (by decide) (by omega) (by omega) dX11_claim_89 (fun c15 => ?_) (fun c15 => ?_)
                          · refine j_iload C 4 rfl dX11_claim_98 ?_
                            refine j_if_eqN C 117 (by decide) (by omega) dX11_claim_100 (fun c16 => ?_) (fun c16 => ?_)
                            · refine j_iconst C (nI 0) (by decide) dX11_claim_117 ?_
                              refine j_istore C [(4, .int (nI 0)), (8, .int (nI v9)), (7, .int (nI d)), (6, .int (nI c)), (5, .int (nI g8)), (3, .int (nI b9)), (0, .ref (g 0)), (1, .int (nI xn)), (2, .int (nI yn))] (by decide) rfl dX11_claim_118 ?_
                              refine j_iload C 4 rfl dX11_claim_120 ?_
                              refine j_if_neN C 135 (by decide) (by omega) dX11_claim_122 (fun c17 => ?_) (fun c17 => ?_)
                              · refine j_iconst C (nI 1) (by decide) dX11_claim_135 ?_
                                refine j_goto C 140 (by decide) dX11_claim_136 ?_
                                refine j_istore C [(5, .int (nI 1)), (4, .int (nI 0)), (8, .int (nI v9)), (7, .int (nI d)), (6, .int (nI c)), (3, .int (nI b9)), (0, .ref (g 0)), (1, .int (nI xn)), (2, .int (nI yn))] (by decide) rfl dX11_claim_140 ?_
                                refine j_iinc C (nI (d + 1)) [(7, .int (nI (d + 1))), (5, .int (nI 1)), (4, .int (nI 0)), (8, .int (nI v9)), (6, .int (nI c)), (3, .int (nI b9)), (0, .ref (g 0)), (1, .int (nI xn)), (2, .int (nI yn))] 3 rfl (by rw [show Int32.ofInt 1 = nI 1 from by decide, nI_add]) (by decide) rfl dX11_claim_142 ?_
                                refine j_goto C 60 (by decide) dX11_claim_145 ?_
                                refine j_sub (lv' := [(7, .int (nI (d + 1))), (6, .int (nI c)), (5, .int (nI 1)), (4, .int (nI 0)), (3, .int (nI b9)), (0, .ref (g 0)), (1, .int (nI xn)), (2, .int (nI yn))]) [0, 4, 1, 2, 5, 6, 7, 8] rfl ?_
                                exact ih60 (d + 1) 1 0 (by omega) (by omega) (by omega) ⟨fun z => absurd z (by decide), fun z => cBe_n (hsu.2 (by omega)) (by omega)⟩ ⟨fun z => cAb_s (hn.1 (by omega)), fun z => absurd z (by decide)⟩ (by omega)
                              · refine j_iload C 1 rfl dX11_claim_125 ?_
                                refine j_aload_n C 6 rfl dX11_claim_127 ?_
                                refine j_iload_n C 5 rfl dX11_claim_128 ?_
                                refine j_V1 C (o_spanEnd g kk (sF (sF (sF σ 16 w3) 17 w4) 18 w5) k hk hk6 hI nf hnf (by omega) G hM b9 (by first | assumption | omega)) kyX11_spanEnd tb_1294 tb_1296 sp_44 0 rfl (eM_0 g kk _) rfl (Nat.le_of_ble_eq_true rfl) ⟨by decide, by decide⟩ dX11_claim_129 rfl (fun vr ur hp => ?_)
                                obtain ⟨r19, rfl, hu, g18⟩ := hp
                                replace hu := hu.symm
                                subst hu
                                have hsex20 := spE_b (s := zS G 3) (show b9 ≤ 9990 by omega) hs9
                                subst g18
                                refine j_icmp_leN C 139 (by decide) (by omega) (by omega) dX11_claim_132 (fun c21 => ?_) (fun c21 => ?_)
                                · refine j_iconst C (nI 0) (by decide) dX11_claim_139 ?_
                                  refine j_istore C [(5, .int (nI 0)), (4, .int (nI 0)), (8, .int (nI v9)), (7, .int (nI d)), (6, .int (nI c)), (3, .int (nI b9)), (0, .ref (g 0)), (1, .int (nI xn)), (2, .int (nI yn))] (by decide) rfl dX11_claim_140 ?_
                                  refine j_iinc C (nI (d + 1)) [(7, .int (nI (d + 1))), (5, .int (nI 0)), (4, .int (nI 0)), (8, .int (nI v9)), (6, .int (nI c)), (3, .int (nI b9)), (0, .ref (g 0)), (1, .int (nI xn)), (2, .int (nI yn))] 3 rfl (by rw [show Int32.ofInt 1 = nI 1 from by decide, nI_add]) (by decide) rfl dX11_claim_142 ?_
                                  refine j_goto C 60 (by decide) dX11_claim_145 ?_
                                  refine j_sub (lv' := [(7, .int (nI (d + 1))), (6, .int (nI c)), (5, .int (nI 0)), (4, .int (nI 0)), (3, .int (nI b9)), (0, .ref (g 0)), (1, .int (nI xn)), (2, .int (nI yn))]) [0, 4, 1, 2, 5, 6, 7, 8] rfl ?_
                                  exact ih60 (d + 1) 0 0 (by omega) (by omega) (by omega) ⟨fun z => absurd z (by decide), fun z => cBe_n (hsu.2 (by omega)) (by omega)⟩ ⟨fun z => absurd z (by decide), fun _ => cAb_x (n := c * 28 + d) (hn.2 (by omega)) (Or.inr (Or.inr ⟨v9, hv9, ((vaJ_c (show d < 28 by omega)).trans ev9), by omega⟩))⟩ (by omega)
                                · refine j_iconst C (nI 1) (by decide) dX11_claim_135 ?_
                                  refine j_goto C 140 (by decide) dX11_claim_136 ?_
                                  refine j_istore C [(5, .int (nI 1)), (4, .int (nI 0)), (8, .int (nI v9)), (7, .int (nI d)), (6, .int (nI c)), (3, .int (nI b9)), (0, .ref (g 0)), (1, .int (nI xn)), (2, .int (nI yn))] (by decide) rfl dX11_claim_140 ?_
                                  refine j_iinc C (nI (d + 1)) [(7, .int (nI (d + 1))), (5, .int (nI 1)), (4, .int (nI 0)), (8, .int (nI v9)), (6, .int (nI c)), (3, .int (nI b9)), (0, .ref (g 0)), (1, .int (nI xn)), (2, .int (nI yn))] 3 rfl (by rw [show Int32.ofInt 1 = nI 1 from by decide, nI_add]) (by decide) rfl dX11_claim_142 ?_
                                  refine j_goto C 60 (by decide) dX11_claim_145 ?_
                                  refine j_sub (lv' := [(7, .int (nI (d + 1))), (6, .int (nI c)), (5, .int (nI 1)), (4, .int (nI 0)), (3, .int (nI b9)), (0, .ref (g 0)), (1, .int (nI xn)), (2, .int (nI yn))]) [0, 4, 1, 2, 5, 6, 7, 8] rfl ?_
                                  exact ih60 (d + 1) 1 0 (by omega) (by omega) (by omega) ⟨fun z => absurd z (by decide), fun z => cBe_n (hsu.2 (by omega)) (by omega)⟩ ⟨fun _ => ⟨(c * 28 + d), by omega, by omega, v9, hv9, ((vaJ_c (show d < 28 by omega)).trans ev9), by omega⟩, fun z => absurd z (by decide)⟩ (by omega)
                            · refine j_aload_n C 6 rfl dX11_claim_103 ?_
                              refine j_iload C 0 rfl dX11_claim_104 ?_
                              refine j_V1 C (o_spanEnd g kk (sF (sF (sF σ 16 w3) 17 w4) 18 w5) k hk hk6 hI nf hnf (by omega) G hM v9 (by first | assumption | omega)) kyX11_spanEnd tb_1294 tb_1296 sp_44 0 rfl (eM_0 g kk _) rfl (Nat.le_of_ble_eq_true rfl) ⟨by decide, by decide⟩ dX11_claim_106 rfl (fun vr ur hp => ?_)
                              obtain ⟨r23, rfl, hu, g22⟩ := hp
                              replace hu := hu.symm
                              subst hu
                              have hsex24 := spE_b (s := zS G 3) (show v9 ≤ 9990 by omega) hs9
                              subst g22
                              refine j_iload_n C 5 rfl dX11_claim_109 ?_
                              refine j_icmp_geN C 117 (by decide) (by omega) (by omega) dX11_claim_110 (fun c25 => ?_) (fun c25 => ?_)
                              · refine j_iconst C (nI 0) (by decide) dX11_claim_117 ?_
                                refine j_istore C [(4, .int (nI 0)), (8, .int (nI v9)), (7, .int (nI d)), (6, .int (nI c)), (5, .int (nI g8)), (3, .int (nI b9)), (0, .ref (g 0)), (1, .int (nI xn)), (2, .int (nI yn))] (by decide) rfl dX11_claim_118 ?_
                                refine j_iload C 4 rfl dX11_claim_120 ?_
                                refine j_if_neN C 135 (by decide) (by omega) dX11_claim_122 (fun c26 => ?_) (fun c26 => ?_)
                                · refine j_iconst C (nI 1) (by decide) dX11_claim_135 ?_
                                  refine j_goto C 140 (by decide) dX11_claim_136 ?_
                                  refine j_istore C [(5, .int (nI 1)), (4, .int (nI 0)), (8, .int (nI v9)), (7, .int (nI d)), (6, .int (nI c)), (3, .int (nI b9)), (0, .ref (g 0)), (1, .int (nI xn)), (2, .int (nI yn))] (by decide) rfl dX11_claim_140 ?_
                                  refine j_iinc C (nI (d + 1)) [(7, .int (nI (d + 1))), (5, .int (nI 1)), (4, .int (nI 0)), (8, .int (nI v9)), (6, .int (nI c)), (3, .int (nI b9)), (0, .ref (g 0)), (1, .int (nI xn)), (2, .int (nI yn))] 3 rfl (by rw [show Int32.ofInt 1 = nI 1 from by decide, nI_add]) (by decide) rfl dX11_claim_142 ?_
                                  refine j_goto C 60 (by decide) dX11_claim_145 ?_
                                  refine j_sub (lv' := [(7, .int (nI (d + 1))), (6, .int (nI c)), (5, .int (nI 1)), (4, .int (nI 0)), (3, .int (nI b9)), (0, .ref (g 0)), (1, .int (nI xn)), (2, .int (nI yn))]) [0, 4, 1, 2, 5, 6, 7, 8] rfl ?_
                                  exact ih60 (d + 1) 1 0 (by omega) (by omega) (by omega) ⟨fun z => absurd z (by decide), fun z => cBe_y (n := c * 28 + d) (by omega) hv9 ((vaJ_c (show d < 28 by omega)).trans ev9) (by omega)⟩ ⟨fun z => cAb_s (hn.1 (by omega)), fun z => absurd z (by decide)⟩ (by omega)
                                · refine j_iload C 1 rfl dX11_claim_125 ?_
                                  refine j_aload_n C 6 rfl dX11_claim_127 ?_
                                  refine j_iload_n C 5 rfl dX11_claim_128 ?_
                                  refine j_V1 C (o_spanEnd g kk (sF (sF (sF σ 16 w3) 17 w4) 18 w5) k hk hk6 hI nf hnf (by omega) G hM b9 (by first | assumption | omega)) kyX11_spanEnd tb_1294 tb_1296 sp_44 0 rfl (eM_0 g kk _) rfl (Nat.le_of_ble_eq_true rfl) ⟨by decide, by decide⟩ dX11_claim_129 rfl (fun vr ur hp => ?_)
                                  obtain ⟨r28, rfl, hu, g27⟩ := hp
                                  replace hu := hu.symm
                                  subst hu
                                  have hsex29 := spE_b (s := zS G 3) (show b9 ≤ 9990 by omega) hs9
                                  subst g27
                                  refine j_icmp_leN C 139 (by decide) (by omega) (by omega) dX11_claim_132 (fun c30 => ?_) (fun c30 => ?_)
                                  · refine j_iconst C (nI 0) (by decide) dX11_claim_139 ?_
                                    refine j_istore C [(5, .int (nI 0)), (4, .int (nI 0)), (8, .int (nI v9)), (7, .int (nI d)), (6, .int (nI c)), (3, .int (nI b9)), (0, .ref (g 0)), (1, .int (nI xn)), (2, .int (nI yn))] (by decide) rfl dX11_claim_140 ?_
                                    refine j_iinc C (nI (d + 1)) [(7, .int (nI (d + 1))), (5, .int (nI 0)), (4, .int (nI 0)), (8, .int (nI v9)), (6, .int (nI c)), (3, .int (nI b9)), (0, .ref (g 0)), (1, .int (nI xn)), (2, .int (nI yn))] 3 rfl (by rw [show Int32.ofInt 1 = nI 1 from by decide, nI_add]) (by decide) rfl dX11_claim_142 ?_
                                    refine j_goto C 60 (by decide) dX11_claim_145 ?_
                                    refine j_sub (lv' := [(7, .int (nI (d + 1))), (6, .int (nI c)), (5, .int (nI 0)), (4, .int (nI 0)), (3, .int (nI b9)), (0, .ref (g 0)), (1, .int (nI xn)), (2, .int (nI yn))]) [0, 4, 1, 2, 5, 6, 7, 8] rfl ?_
                                    exact ih60 (d + 1) 0 0 (by omega) (by omega) (by omega) ⟨fun z => absurd z (by decide), fun z => cBe_y (n := c * 28 + d) (by omega) hv9 ((vaJ_c (show d < 28 by omega)).trans ev9) (by omega)⟩ ⟨fun z => absurd z (by decide), fun _ => cAb_x (n := c * 28 + d) (hn.2 (by omega)) (Or.inr (Or.inr ⟨v9, hv9, ((vaJ_c (show d < 28 by omega)).trans ev9), by omega⟩))⟩ (by omega)
                                  · refine j_iconst C (nI 1) (by decide) dX11_claim_135 ?_
                                    refine j_goto C 140 (by decide) dX11_claim_136 ?_
                                    refine j_istore C [(5, .int (nI 1)), (4, .int (nI 0)), (8, .int (nI v9)), (7, .int (nI d)), (6, .int (nI c)), (3, .int (nI b9)), (0, .ref (g 0)), (1, .int (nI xn)), (2, .int (nI yn))] (by decide) rfl dX11_claim_140 ?_
                                    refine j_iinc C (nI (d + 1)) [(7, .int (nI (d + 1))), (5, .int (nI 1)), (4, .int (nI 0)), (8, .int (nI v9)), (6, .int (nI c)), (3, .int (nI b9)), (0, .ref (g 0)), (1, .int (nI xn)), (2, .int (nI yn))] 3 rfl (by rw [show Int32.ofInt 1 = nI 1 from by decide, nI_add]) (by decide) rfl dX11_claim_142 ?_
                                    refine j_goto C 60 (by decide) dX11_claim_145 ?_
                                    refine j_sub (lv' := [(7, .int (nI (d + 1))), (6, .int (nI c)), (5, .int (nI 1)), (4, .int (nI 0)), (3, .int (nI b9)), (0, .ref (g 0)), (1, .int (nI xn)), (2, .int (nI yn))]) [0, 4, 1, 2, 5, 6, 7, 8] rfl ?_
                                    exact ih60 (d + 1) 1 0 (by omega) (by omega) (by omega) ⟨fun z => absurd z (by decide), fun z => cBe_y (n := c * 28 + d) (by omega) hv9 ((vaJ_c (show d < 28 by omega)).trans ev9) (by omega)⟩ ⟨fun _ => ⟨(c * 28 + d), by omega, by omega, v9, hv9, ((vaJ_c (show d < 28 by omega)).trans ev9), by omega⟩, fun z => absurd z (by decide)⟩ (by omega)
                              · refine j_iconst C (nI 1) (by decide) dX11_claim_113 ?_
                                refine j_goto C 118 (by decide) dX11_claim_114 ?_
                                refine j_istore C [(4, .int (nI 1)), (8, .int (nI v9)), (7, .int (nI d)), (6, .int (nI c)), (5, .int (nI g8)), (3, .int (nI b9)), (0, .ref (g 0)), (1, .int (nI xn)), (2, .int (nI yn))] (by decide) rfl dX11_claim_118 ?_
                                refine j_iload C 4 rfl dX11_claim_120 ?_
                                refine j_if_neN C 135 (by decide) (by omega) dX11_claim_122 (fun c31 => ?_) (fun c31 => ?_)
                                · refine j_iconst C (nI 1) (by decide) dX11_claim_135 ?_
                                  refine j_goto C 140 (by decide) dX11_claim_136 ?_
                                  refine j_istore C [(5, .int (nI 1)), (4, .int (nI 1)), (8, .int (nI v9)), (7, .int (nI d)), (6, .int (nI c)), (3, .int (nI b9)), (0, .ref (g 0)), (1, .int (nI xn)), (2, .int (nI yn))] (by decide) rfl dX11_claim_140 ?_
                                  refine j_iinc C (nI (d + 1)) [(7, .int (nI (d + 1))), (5, .int (nI 1)), (4, .int (nI 1)), (8, .int (nI v9)), (6, .int (nI c)), (3, .int (nI b9)), (0, .ref (g 0)), (1, .int (nI xn)), (2, .int (nI yn))] 3 rfl (by rw [show Int32.ofInt 1 = nI 1 from by decide, nI_add]) (by decide) rfl dX11_claim_142 ?_
                                  refine j_goto C 60 (by decide) dX11_claim_145 ?_
                                  refine j_sub (lv' := [(7, .int (nI (d + 1))), (6, .int (nI c)), (5, .int (nI 1)), (4, .int (nI 1)), (3, .int (nI b9)), (0, .ref (g 0)), (1, .int (nI xn)), (2, .int (nI yn))]) [0, 4, 1, 2, 5, 6, 7, 8] rfl ?_
                                  exact ih60 (d + 1) 1 1 (by omega) (by omega) (by omega) ⟨fun z => cBe_x (n := c * 28 + d) (hsu.1 (by omega)) (Or.inr (Or.inr ⟨v9, hv9, ((vaJ_c (show d < 28 by omega)).trans ev9), by omega⟩)), fun z => absurd z (by decide)⟩ ⟨fun z => cAb_s (hn.1 (by omega)), fun z => absurd z (by decide)⟩ (by omega)
                                · refine j_iload C 1 rfl dX11_claim_125 ?_
                                  refine j_aload_n C 6 rfl dX11_claim_127 ?_
                                  refine j_iload_n C 5 rfl dX11_claim_128 ?_
                                  refine j_V1 C (o_spanEnd g kk (sF (sF (sF σ 16 w3) 17 w4) 18 w5) k hk hk6 hI nf hnf (by omega) G hM b9 (by first | assumption | omega)) kyX11_spanEnd tb_1294 tb_1296 sp_44 0 rfl (eM_0 g kk _) rfl (Nat.le_of_ble_eq_true rfl) ⟨by decide, by decide⟩ dX11_claim_129 rfl (fun vr ur hp => ?_)
                                  obtain ⟨r33, rfl, hu, g32⟩ := hp
                                  replace hu := hu.symm
                                  subst hu
                                  have hsex34 := spE_b (s := zS G 3) (show b9 ≤ 9990 by omega) hs9
                                  subst g32
                                  refine j_icmp_leN C 139 (by decide) (by omega) (by omega) dX11_claim_132 (fun c35 => ?_) (fun c35 => ?_)
                                  · refine j_iconst C (nI 0) (by decide) dX11_claim_139 ?_
                                    refine j_istore C [(5, .int (nI 0)), (4, .int (nI 1)), (8, .int (nI v9)), (7, .int (nI d)), (6, .int (nI c)), (3, .int (nI b9)), (0, .ref (g 0)), (1, .int (nI xn)), (2, .int (nI yn))] (by decide) rfl dX11_claim_140 ?_
                                    refine j_iinc C (nI (d + 1)) [(7, .int (nI (d + 1))), (5, .int (nI 0)), (4, .int (nI 1)), (8, .int (nI v9)), (6, .int (nI c)), (3, .int (nI b9)), (0, .ref (g 0)), (1, .int (nI xn)), (2, .int (nI yn))] 3 rfl (by rw [show Int32.ofInt 1 = nI 1 from by decide, nI_add]) (by decide) rfl dX11_claim_142 ?_
                                    refine j_goto C 60 (by decide) dX11_claim_145 ?_
                                    refine j_sub (lv' := [(7, .int (nI (d + 1))), (6, .int (nI c)), (5, .int (nI 0)), (4, .int (nI 1)), (3, .int (nI b9)), (0, .ref (g 0)), (1, .int (nI xn)), (2, .int (nI yn))]) [0, 4, 1, 2, 5, 6, 7, 8] rfl ?_
                                    exact ih60 (d + 1) 0 1 (by omega) (by omega) (by omega) ⟨fun z => cBe_x (n := c * 28 + d) (hsu.1 (by omega)) (Or.inr (Or.inr ⟨v9, hv9, ((vaJ_c (show d < 28 by omega)).trans ev9), by omega⟩)), fun z => absurd z (by decide)⟩ ⟨fun z => absurd z (by decide), fun _ => cAb_x (n := c * 28 + d) (hn.2 (by omega)) (Or.inr (Or.inr ⟨v9, hv9, ((vaJ_c (show d < 28 by omega)).trans ev9), by omega⟩))⟩ (by omega)
                                  · refine j_iconst C (nI 1) (by decide) dX11_claim_135 ?_
                                    refine j_goto C 140 (by decide) dX11_claim_136 ?_
                                    refine j_istore C [(5, .int (nI 1)), (4, .int (nI 1)), (8, .int (nI v9)), (7, .int (nI d)), (6, .int (nI c)), (3, .int (nI b9)), (0, .ref (g 0)), (1, .int (nI xn)), (2, .int (nI yn))] (by decide) rfl dX11_claim_140 ?_
                                    refine j_iinc C (nI (d + 1)) [(7, .int (nI (d + 1))), (5, .int (nI 1)), (4, .int (nI 1)), (8, .int (nI v9)), (6, .int (nI c)), (3, .int (nI b9)), (0, .ref (g 0)), (1, .int (nI xn)), (2, .int (nI yn))] 3 rfl (by rw [show Int32.ofInt 1 = nI 1 from by decide, nI_add]) (by decide) rfl dX11_claim_142 ?_
                                    refine j_goto C 60 (by decide) dX11_claim_145 ?_
                                    refine j_sub (lv' := [(7, .int (nI (d + 1))), (6, .int (nI c)), (5, .int (nI 1)), (4, .int (nI 1)), (3, .int (nI b9)), (0, .ref (g 0)), (1, .int (nI xn)), (2, .int (nI yn))]) [0, 4, 1, 2, 5, 6, 7, 8] rfl ?_
                                    exact ih60 (d + 1) 1 1 (by omega) (by omega) (by omega) ⟨fun z => cBe_x (n := c * 28 + d) (hsu.1 (by omega)) (Or.inr (Or.inr ⟨v9, hv9, ((vaJ_c (show d < 28 by omega)).trans ev9), by omega⟩)), fun z => absurd z (by decide)⟩ ⟨fun _ => ⟨(c * 28 + d), by omega, by omega, v9, hv9, ((vaJ_c (show d < 28 by omega)).trans ev9), by omega⟩, fun z => absurd z (by decide)⟩ (by omega)
                          · refine j_iload C 1 rfl dX11_claim_92 ?_
                            refine j_iload_n C 8 rfl dX11_claim_94 ?_
                            refine j_icmp_eqN C 142 (by decide) (by omega) (by omega) dX11_claim_95 (fun c36 => ?_) (fun c36 => ?_)
                            · refine j_iinc C (nI (d + 1)) [(7, .int (nI (d + 1))), (8, .int (nI v9)), (6, .int (nI c)), (5, .int (nI g8)), (4, .int (nI g9)), (3, .int (nI b9)), (0, .ref (g 0)), (1, .int (nI xn)), (2, .int (nI yn))] 1 rfl (by rw [show Int32.ofInt 1 = nI 1 from by decide, nI_add]) (by decide) rfl dX11_claim_142 ?_
                              refine j_goto C 60 (by decide) dX11_claim_145 ?_
                              refine j_sub (lv' := [(7, .int (nI (d + 1))), (6, .int (nI c)), (5, .int (nI g8)), (4, .int (nI g9)), (3, .int (nI b9)), (0, .ref (g 0)), (1, .int (nI xn)), (2, .int (nI yn))]) [0, 2, 3, 4, 5, 6, 7, 8] rfl ?_
                              exact ih60 (d + 1) g8 g9 (by omega) (by omega) (by omega) ⟨fun z => cBe_x (n := c * 28 + d) (hsu.1 z) (Or.inl (by omega)), fun z => cBe_n (hsu.2 z) (by omega)⟩ ⟨fun z => cAb_s (hn.1 z), fun z => cAb_x (n := c * 28 + d) (hn.2 z) (Or.inl (by omega))⟩ (by omega)
                            · refine j_iload C 4 rfl dX11_claim_98 ?_
                              refine j_if_eqN C 117 (by decide) (by omega) dX11_claim_100 (fun c37 => ?_) (fun c37 => ?_)
                              · refine j_iconst C (nI 0) (by decide) dX11_claim_117 ?_
                                refine j_istore C [(4, .int (nI 0)), (8, .int (nI v9)), (7, .int (nI d)), (6, .int (nI c)), (5, .int (nI g8)), (3, .int (nI b9)), (0, .ref (g 0)), (1, .int (nI xn)), (2, .int (nI yn))] (by decide) rfl dX11_claim_118 ?_
                                refine j_iload C 4 rfl dX11_claim_120 ?_
                                refine j_if_neN C 135 (by decide) (by omega) dX11_claim_122 (fun c38 => ?_) (fun c38 => ?_)
                                · refine j_iconst C (nI 1) (by decide) dX11_claim_135 ?_
                                  refine j_goto C 140 (by decide) dX11_claim_136 ?_
                                  refine j_istore C [(5, .int (nI 1)), (4, .int (nI 0)), (8, .int (nI v9)), (7, .int (nI d)), (6, .int (nI c)), (3, .int (nI b9)), (0, .ref (g 0)), (1, .int (nI xn)), (2, .int (nI yn))] (by decide) rfl dX11_claim_140 ?_
                                  refine j_iinc C (nI (d + 1)) [(7, .int (nI (d + 1))), (5, .int (nI 1)), (4, .int (nI 0)), (8, .int (nI v9)), (6, .int (nI c)), (3, .int (nI b9)), (0, .ref (g 0)), (1, .int (nI xn)), (2, .int (nI yn))] 3 rfl (by rw [show Int32.ofInt 1 = nI 1 from by decide, nI_add]) (by decide) rfl dX11_claim_142 ?_
                                  refine j_goto C 60 (by decide) dX11_claim_145 ?_
                                  refine j_sub (lv' := [(7, .int (nI (d + 1))), (6, .int (nI c)), (5, .int (nI 1)), (4, .int (nI 0)), (3, .int (nI b9)), (0, .ref (g 0)), (1, .int (nI xn)), (2, .int (nI yn))]) [0, 4, 1, 2, 5, 6, 7, 8] rfl ?_
                                  exact ih60 (d + 1) 1 0 (by omega) (by omega) (by omega) ⟨fun z => absurd z (by decide), fun z => cBe_n (hsu.2 (by omega)) (by omega)⟩ ⟨fun z => cAb_s (hn.1 (by omega)), fun z => absurd z (by decide)⟩ (by omega)
                                · refine j_iload C 1 rfl dX11_claim_125 ?_
                                  refine j_aload_n C 6 rfl dX11_claim_127 ?_
                                  refine j_iload_n C 5 rfl dX11_claim_128 ?_
                                  refine j_V1 C (o_spanEnd g kk (sF (sF (sF σ 16 w3) 17 w4) 18 w5) k hk hk6 hI nf hnf (by omega) G hM b9 (by first | assumption | omega)) kyX11_spanEnd tb_1294 tb_1296 sp_44 0 rfl (eM_0 g kk _) rfl (Nat.le_of_ble_eq_true rfl) ⟨by decide, by decide⟩ dX11_claim_129 rfl (fun vr ur hp => ?_)
                                  obtain ⟨r40, rfl, hu, g39⟩ := hp
                                  replace hu := hu.symm
                                  subst hu
                                  have hsex41 := spE_b (s := zS G 3) (show b9 ≤ 9990 by omega) hs9
                                  subst g39
                                  refine j_icmp_leN C 139 (by decide) (by omega) (by omega) dX11_claim_132 (fun c42 => ?_) (fun c42 => ?_)
                                  · refine j_iconst C (nI 0) (by decide) dX11_claim_139 ?_
                                    refine j_istore C [(5, .int (nI 0)), (4, .int (nI 0)), (8, .int (nI v9)), (7, .int (nI d)), (6, .int (nI c)), (3, .int (nI b9)), (0, .ref (g 0)), (1, .int (nI xn)), (2, .int (nI yn))] (by decide) rfl dX11_claim_140 ?_
                                    refine j_iinc C (nI (d + 1)) [(7, .int (nI (d + 1))), (5, .int (nI 0)), (4, .int (nI 0)), (8, .int (nI v9)), (6, .int (nI c)), (3, .int (nI b9)), (0, .ref (g 0)), (1, .int (nI xn)), (2, .int (nI yn))] 3 rfl (by rw [show Int32.ofInt 1 = nI 1 from by decide, nI_add]) (by decide) rfl dX11_claim_142 ?_
                                    refine j_goto C 60 (by decide) dX11_claim_145 ?_
                                    refine j_sub (lv' := [(7, .int (nI (d + 1))), (6, .int (nI c)), (5, .int (nI 0)), (4, .int (nI 0)), (3, .int (nI b9)), (0, .ref (g 0)), (1, .int (nI xn)), (2, .int (nI yn))]) [0, 4, 1, 2, 5, 6, 7, 8] rfl ?_
                                    exact ih60 (d + 1) 0 0 (by omega) (by omega) (by omega) ⟨fun z => absurd z (by decide), fun z => cBe_n (hsu.2 (by omega)) (by omega)⟩ ⟨fun z => absurd z (by decide), fun _ => cAb_x (n := c * 28 + d) (hn.2 (by omega)) (Or.inr (Or.inr ⟨v9, hv9, ((vaJ_c (show d < 28 by omega)).trans ev9), by omega⟩))⟩ (by omega)
                                  · refine j_iconst C (nI 1) (by decide) dX11_claim_135 ?_
                                    refine j_goto C 140 (by decide) dX11_claim_136 ?_
                                    refine j_istore C [(5, .int (nI 1)), (4, .int (nI 0)), (8, .int (nI v9)), (7, .int (nI d)), (6, .int (nI c)), (3, .int (nI b9)), (0, .ref (g 0)), (1, .int (nI xn)), (2, .int (nI yn))] (by decide) rfl dX11_claim_140 ?_
                                    refine j_iinc C (nI (d + 1)) [(7, .int (nI (d + 1))), (5, .int (nI 1)), (4, .int (nI 0)), (8, .int (nI v9)), (6, .int (nI c)), (3, .int (nI b9)), (0, .ref (g 0)), (1, .int (nI xn)), (2, .int (nI yn))] 3 rfl (by rw [show Int32.ofInt 1 = nI 1 from by decide, nI_add]) (by decide) rfl dX11_claim_142 ?_
                                    refine j_goto C 60 (by decide) dX11_claim_145 ?_
                                    refine j_sub (lv' := [(7, .int (nI (d + 1))), (6, .int (nI c)), (5, .int (nI 1)), (4, .int (nI 0)), (3, .int (nI b9)), (0, .ref (g 0)), (1, .int (nI xn)), (2, .int (nI yn))]) [0, 4, 1, 2, 5, 6, 7, 8] rfl ?_
                                    exact ih60 (d + 1) 1 0 (by omega) (by omega) (by omega) ⟨fun z => absurd z (by decide), fun z => cBe_n (hsu.2 (by omega)) (by omega)⟩ ⟨fun _ => ⟨(c * 28 + d), by omega, by omega, v9, hv9, ((vaJ_c (show d < 28 by omega)).trans ev9), by omega⟩, fun z => absurd z (by decide)⟩ (by omega)
                              · refine j_aload_n C 6 rfl dX11_claim_103 ?_
                                refine j_iload C 0 rfl dX11_claim_104 ?_
                                refine j_V1 C (o_spanEnd g kk (sF (sF (sF σ 16 w3) 17 w4) 18 w5) k hk hk6 hI nf hnf (by omega) G hM v9 (by first | assumption | omega)) kyX11_spanEnd tb_1294 tb_1296 sp_44 0 rfl (eM_0 g kk _) rfl (Nat.le_of_ble_eq_true rfl) ⟨by decide, by decide⟩ dX11_claim_106 rfl (fun vr ur hp => ?_)
                                obtain ⟨r44, rfl, hu, g43⟩ := hp
                                replace hu := hu.symm
                                subst hu
                                have hsex45 := spE_b (s := zS G 3) (show v9 ≤ 9990 by omega) hs9
                                subst g43
                                refine j_iload_n C 5 rfl dX11_claim_109 ?_
                                refine j_icmp_geN C 117 (by decide) (by omega) (by omega) dX11_claim_110 (fun c46 => ?_) (fun c46 => ?_)
                                · refine j_iconst C (nI 0) (by decide) dX11_claim_117 ?_
                                  refine j_istore C [(4, .int (nI 0)), (8, .int (nI v9)), (7, .int (nI d)), (6, .int (nI c)), (5, .int (nI g8)), (3, .int (nI b9)), (0, .ref (g 0)), (1, .int (nI xn)), (2, .int (nI yn))] (by decide) rfl dX11_claim_118 ?_
                                  refine j_iload C 4 rfl dX11_claim_120 ?_
                                  refine j_if_neN C 135 (by decide) (by omega) dX11_claim_122 (fun c47 => ?_) (fun c47 => ?_)
                                  · refine j_iconst C (nI 1) (by decide) dX11_claim_135 ?_
                                    refine j_goto C 140 (by decide) dX11_claim_136 ?_
                                    refine j_istore C [(5, .int (nI 1)), (4, .int (nI 0)), (8, .int (nI v9)), (7, .int (nI d)), (6, .int (nI c)), (3, .int (nI b9)), (0, .ref (g 0)), (1, .int (nI xn)), (2, .int (nI yn))] (by decide) rfl dX11_claim_140 ?_
                                    refine j_iinc C (nI (d + 1)) [(7, .int (nI (d + 1))), (5, .int (nI 1)), (4, .int (nI 0)), (8, .int (nI v9)), (6, .int (nI c)), (3, .int (nI b9)), (0, .ref (g 0)), (1, .int (nI xn)), (2, .int (nI yn))] 3 rfl (by rw [show Int32.ofInt 1 = nI 1 from by decide, nI_add]) (by decide) rfl dX11_claim_142 ?_
                                    refine j_goto C 60 (by decide) dX11_claim_145 ?_
                                    refine j_sub (lv' := [(7, .int (nI (d + 1))), (6, .int (nI c)), (5, .int (nI 1)), (4, .int (nI 0)), (3, .int (nI b9)), (0, .ref (g 0)), (1, .int (nI xn)), (2, .int (nI yn))]) [0, 4, 1, 2, 5, 6, 7, 8] rfl ?_
                                    exact ih60 (d + 1) 1 0 (by omega) (by omega) (by omega) ⟨fun z => absurd z (by decide), fun z => cBe_y (n := c * 28 + d) (by omega) hv9 ((vaJ_c (show d < 28 by omega)).trans ev9) (by omega)⟩ ⟨fun z => cAb_s (hn.1 (by omega)), fun z => absurd z (by decide)⟩ (by omega)
                                  · refine j_iload C 1 rfl dX11_claim_125 ?_
                                    refine j_aload_n C 6 rfl dX11_claim_127 ?_
                                    refine j_iload_n C 5 rfl dX11_claim_128 ?_
                                    refine j_V1 C (o_spanEnd g kk (sF (sF (sF σ 16 w3) 17 w4) 18 w5) k hk hk6 hI nf hnf (by omega) G hM b9 (by first | assumption | omega)) kyX11_spanEnd tb_1294 tb_1296 sp_44 0 rfl (eM_0 g kk _) rfl (Nat.le_of_ble_eq_true rfl) ⟨by decide, by decide⟩ dX11_claim_129 rfl (fun vr ur hp => ?_)
                                    obtain ⟨r49, rfl, hu, g48⟩ := hp
                                    replace hu := hu.symm
                                    subst hu
                                    have hsex50 := spE_b (s := zS G 3) (show b9 ≤ 9990 by omega) hs9
                                    subst g48
                                    refine j_icmp_leN C 139 (by decide) (by omega) (by omega) dX11_claim_132 (fun c51 => ?_) (fun c51 => ?_)
                                    · refine j_iconst C (nI 0) (by decide) dX11_claim_139 ?_
                                      refine j_istore C [(5, .int (nI 0)), (4, .int (nI 0)), (8, .int (nI v9)), (7, .int (nI d)), (6, .int (nI c)), (3, .int (nI b9)), (0, .ref (g 0)), (1, .int (nI xn)), (2, .int (nI yn))] (by decide) rfl dX11_claim_140 ?_
                                      refine j_iinc C (nI (d + 1)) [(7, .int (nI (d + 1))), (5, .int (nI 0)), (4, .int (nI 0)), (8, .int (nI v9)), (6, .int (nI c)), (3, .int (nI b9)), (0, .ref (g 0)), (1, .int (nI xn)), (2, .int (nI yn))] 3 rfl (by rw [show Int32.ofInt 1 = nI 1 from by decide, nI_add]) (by decide) rfl dX11_claim_142 ?_
                                      refine j_goto C 60 (by decide) dX11_claim_145 ?_
                                      refine j_sub (lv' := [(7, .int (nI (d + 1))), (6, .int (nI c)), (5, .int (nI 0)), (4, .int (nI 0)), (3, .int (nI b9)), (0, .ref (g 0)), (1, .int (nI xn)), (2, .int (nI yn))]) [0, 4, 1, 2, 5, 6, 7, 8] rfl ?_
                                      exact ih60 (d + 1) 0 0 (by omega) (by omega) (by omega) ⟨fun z => absurd z (by decide), fun z => cBe_y (n := c * 28 + d) (by omega) hv9 ((vaJ_c (show d < 28 by omega)).trans ev9) (by omega)⟩ ⟨fun z => absurd z (by decide), fun _ => cAb_x (n := c * 28 + d) (hn.2 (by omega)) (Or.inr (Or.inr ⟨v9, hv9, ((vaJ_c (show d < 28 by omega)).trans ev9), by omega⟩))⟩ (by omega)
                                    · refine j_iconst C (nI 1) (by decide) dX11_claim_135 ?_
                                      refine j_goto C 140 (by decide) dX11_claim_136 ?_
                                      refine j_istore C [(5, .int (nI 1)), (4, .int (nI 0)), (8, .int (nI v9)), (7, .int (nI d)), (6, .int (nI c)), (3, .int (nI b9)), (0, .ref (g 0)), (1, .int (nI xn)), (2, .int (nI yn))] (by decide) rfl dX11_claim_140 ?_
                                      refine j_iinc C (nI (d + 1)) [(7, .int (nI (d + 1))), (5, .int (nI 1)), (4, .int (nI 0)), (8, .int (nI v9)), (6, .int (nI c)), (3, .int (nI b9)), (0, .ref (g 0)), (1, .int (nI xn)), (2, .int (nI yn))] 3 rfl (by rw [show Int32.ofInt 1 = nI 1 from by decide, nI_add]) (by decide) rfl dX11_claim_142 ?_
                                      refine j_goto C 60 (by decide) dX11_claim_145 ?_
                                      refine j_sub (lv' := [(7, .int (nI (d + 1))), (6, .int (nI c)), (5, .int (nI 1)), (4, .int (nI 0)), (3, .int (nI b9)), (0, .ref (g 0)), (1, .int (nI xn)), (2, .int (nI yn))]) [0, 4, 1, 2, 5, 6, 7, 8] rfl ?_
                                      exact ih60 (d + 1) 1 0 (by omega) (by omega) (by omega) ⟨fun z => absurd z (by decide), fun z => cBe_y (n := c * 28 + d) (by omega) hv9 ((vaJ_c (show d < 28 by omega)).trans ev9) (by omega)⟩ ⟨fun _ => ⟨(c * 28 + d), by omega, by omega, v9, hv9, ((vaJ_c (show d < 28 by omega)).trans ev9), by omega⟩, fun z => absurd z (by decide)⟩ (by omega)
                                · refine j_iconst C (nI 1) (by decide) dX11_claim_113 ?_
                                  refine j_goto C 118 (by decide) dX11_claim_114 ?_
                                  refine j_istore C [(4, .int (nI 1)), (8, .int (nI v9)), (7, .int (nI d)), (6, .int (nI c)), (5, .int (nI g8)), (3, .int (nI b9)), (0, .ref (g 0)), (1, .int (nI xn)), (2, .int (nI yn))] (by decide) rfl dX11_claim_118 ?_
                                  refine j_iload C 4 rfl dX11_claim_120 ?_
                                  refine j_if_neN C 135 (by decide) (by omega) dX11_claim_122 (fun c52 => ?_) (fun c52 => ?_)
                                  · refine j_iconst C (nI 1) (by decide) dX11_claim_135 ?_
                                    refine j_goto C 140 (by decide) dX11_claim_136 ?_
                                    refine j_istore C [(5, .int (nI 1)), (4, .int (nI 1)), (8, .int (nI v9)), (7, .int (nI d)), (6, .int (nI c)), (3, .int (nI b9)), (0, .ref (g 0)), (1, .int (nI xn)), (2, .int (nI yn))] (by decide) rfl dX11_claim_140 ?_
                                    refine j_iinc C (nI (d + 1)) [(7, .int (nI (d + 1))), (5, .int (nI 1)), (4, .int (nI 1)), (8, .int (nI v9)), (6, .int (nI c)), (3, .int (nI b9)), (0, .ref (g 0)), (1, .int (nI xn)), (2, .int (nI yn))] 3 rfl (by rw [show Int32.ofInt 1 = nI 1 from by decide, nI_add]) (by decide) rfl dX11_claim_142 ?_
                                    refine j_goto C 60 (by decide) dX11_claim_145 ?_
                                    refine j_sub (lv' := [(7, .int (nI (d + 1))), (6, .int (nI c)), (5, .int (nI 1)), (4, .int (nI 1)), (3, .int (nI b9)), (0, .ref (g 0)), (1, .int (nI xn)), (2, .int (nI yn))]) [0, 4, 1, 2, 5, 6, 7, 8] rfl ?_
                                    exact ih60 (d + 1) 1 1 (by omega) (by omega) (by omega) ⟨fun z => cBe_x (n := c * 28 + d) (hsu.1 (by omega)) (Or.inr (Or.inr ⟨v9, hv9, ((vaJ_c (show d < 28 by omega)).trans ev9), by omega⟩)), fun z => absurd z (by decide)⟩ ⟨fun z => cAb_s (hn.1 (by omega)), fun z => absurd z (by decide)⟩ (by omega)
                                  · refine j_iload C 1 rfl dX11_claim_125 ?_
                                    refine j_aload_n C 6 rfl dX11_claim_127 ?_
                                    refine j_iload_n C 5 rfl dX11_claim_128 ?_
                                    refine j_V1 C (o_spanEnd g kk (sF (sF (sF σ 16 w3) 17 w4) 18 w5) k hk hk6 hI nf hnf (by omega) G hM b9 (by first | assumption | omega)) kyX11_spanEnd tb_1294 tb_1296 sp_44 0 rfl (eM_0 g kk _) rfl (Nat.le_of_ble_eq_true rfl) ⟨by decide, by decide⟩ dX11_claim_129 rfl (fun vr ur hp => ?_)
                                    obtain ⟨r54, rfl, hu, g53⟩ := hp
                                    replace hu := hu.symm
                                    subst hu
                                    have hsex55 := spE_b (s := zS G 3) (show b9 ≤ 9990 by omega) hs9
                                    subst g53
                                    refine j_icmp_leN C 139 (by decide) (by omega) (by omega) dX11_claim_132 (fun c56 => ?_) (fun c56 => ?_)
                                    · refine j_iconst C (nI 0) (by decide) dX11_claim_139 ?_
                                      refine j_istore C [(5, .int (nI 0)), (4, .int (nI 1)), (8, .int (nI v9)), (7, .int (nI d)), (6, .int (nI c)), (3, .int (nI b9)), (0, .ref (g 0)), (1, .int (nI xn)), (2, .int (nI yn))] (by decide) rfl dX11_claim_140 ?_
                                      refine j_iinc C (nI (d + 1)) [(7, .int (nI (d + 1))), (5, .int (nI 0)), (4, .int (nI 1)), (8, .int (nI v9)), (6, .int (nI c)), (3, .int (nI b9)), (0, .ref (g 0)), (1, .int (nI xn)), (2, .int (nI yn))] 3 rfl (by rw [show Int32.ofInt 1 = nI 1 from by decide, nI_add]) (by decide) rfl dX11_claim_142 ?_
                                      refine j_goto C 60 (by decide) dX11_claim_145 ?_
                                      refine j_sub (lv' := [(7, .int (nI (d + 1))), (6, .int (nI c)), (5, .int (nI 0)), (4, .int (nI 1)), (3, .int (nI b9)), (0, .ref (g 0)), (1, .int (nI xn)), (2, .int (nI yn))]) [0, 4, 1, 2, 5, 6, 7, 8] rfl ?_
                                      exact ih60 (d + 1) 0 1 (by omega) (by omega) (by omega) ⟨fun z => cBe_x (n := c * 28 + d) (hsu.1 (by omega)) (Or.inr (Or.inr ⟨v9, hv9, ((vaJ_c (show d < 28 by omega)).trans ev9), by omega⟩)), fun z => absurd z (by decide)⟩ ⟨fun z => absurd z (by decide), fun _ => cAb_x (n := c * 28 + d) (hn.2 (by omega)) (Or.inr (Or.inr ⟨v9, hv9, ((vaJ_c (show d < 28 by omega)).trans ev9), by omega⟩))⟩ (by omega)
                                    · refine j_iconst C (nI 1) (by decide) dX11_claim_135 ?_
                                      refine j_goto C 140 (by decide) dX11_claim_136 ?_
                                      refine j_istore C [(5, .int (nI 1)), (4, .int (nI 1)), (8, .int (nI v9)), (7, .int (nI d)), (6, .int (nI c)), (3, .int (nI b9)), (0, .ref (g 0)), (1, .int (nI xn)), (2, .int (nI yn))] (by decide) rfl dX11_claim_140 ?_
                                      refine j_iinc C (nI (d + 1)) [(7, .int (nI (d + 1))), (5, .int (nI 1)), (4, .int (nI 1)), (8, .int (nI v9)), (6, .int (nI c)), (3, .int (nI b9)), (0, .ref (g 0)), (1, .int (nI xn)), (2, .int (nI yn))] 3 rfl (by rw [show Int32.ofInt 1 = nI 1 from by decide, nI_add]) (by decide) rfl dX11_claim_142 ?_
                                      refine j_goto C 60 (by decide) dX11_claim_145 ?_
                                      refine j_sub (lv' := [(7, .int (nI (d + 1))), (6, .int (nI c)), (5, .int (nI 1)), (4, .int (nI 1)), (3, .int (nI b9)), (0, .ref (g 0)), (1, .int (nI xn)), (2, .int (nI yn))]) [0, 4, 1, 2, 5, 6, 7, 8] rfl ?_
                                      exact ih60 (d + 1) 1 1 (by omega) (by omega) (by omega) ⟨fun z => cBe_x (n := c * 28 + d) (hsu.1 (by omega)) (Or.inr (Or.inr ⟨v9, hv9, ((vaJ_c (show d < 28 by omega)).trans ev9), by omega⟩)), fun z => absurd z (by decide)⟩ ⟨fun _ => ⟨(c * 28 + d), by omega, by omega, v9, hv9, ((vaJ_c (show d < 28 by omega)).trans ev9), by omega⟩, fun z => absurd z (by decide)⟩ (by omega)
                exact L60 _ 0 g8 g9 (by omega) (by omega) (by omega) hsu0 hn0 (Nat.lt_succ_self _)
          exact L48 _ 0 0 1 (by omega) (by omega) (by omega) ⟨fun _ p p1 => absurd p1 (by omega), fun z => absurd z (by decide)⟩ ⟨fun z => absurd z (by decide), fun _ w => by obtain ⟨p, p1, -⟩ := w; omega⟩ (Nat.lt_succ_self _)
        · exact absurd c8 (Nat.not_lt_zero _)
    · replace c2 := bI_f c2
      refine j_iconst C ((-1)) (by decide) dX11_claim_15 ?_
      refine j_w (cM g kk (sF σ 16 (σ.2.1 16))) (congrArg (cM g kk) (wrFi (S := σ) (c := 16) (v := σ.2.1 16) rfl)) ?_
      refine j_w (cM g kk (sF (sF σ 16 (σ.2.1 16)) 17 (σ.2.1 17))) (congrArg (cM g kk) (wrFi (S := (sF σ 16 (σ.2.1 16))) (c := 17) (v := σ.2.1 17) (gtFF (by decide) rfl))) ?_
      refine j_w (cM g kk (sF (sF (sF σ 16 (σ.2.1 16)) 17 (σ.2.1 17)) 18 (σ.2.1 18))) (congrArg (cM g kk) (wrFi (S := (sF (sF σ 16 (σ.2.1 16)) 17 (σ.2.1 17))) (c := 18) (v := σ.2.1 18) (gtFF (by decide) (gtFF (by decide) rfl)))) ?_
      exact j_iret C E (sF (sF (sF σ 16 (σ.2.1 16)) 17 (σ.2.1 17)) 18 (σ.2.1 18)) ⟨_, rfl, ⟨(σ.2.1 16), (σ.2.1 17), (σ.2.1 18), rfl, (clF_1 (Or.inr c2))⟩⟩ rfl dX11_claim_16
