/-- wet and round days of the first d, as the document counts them -/
def fv (f : Nat → Int32) (b : Nat) : Nat → Nat × Nat
  | 0 => (0, 0)
  | d + 1 => if 26 ≤ (fv f b d).1 then fv f b d else if f (b + d) ≤ 0 then fv f b d else ((fv f b d).1 + 1, (fv f b d).2 + (if f (b + d) - f (b + d) / nI 5 * nI 5 = 0 then 1 else 0))
theorem fv_0 {f : Nat → Int32} {b d p q : Nat} (he : (p, q) = fv f b d) (h : f (b + d) ≤ 0) : (p, q) = fv f b (d + 1) := by
  show (p, q) = (if 26 ≤ (fv f b d).1 then fv f b d else if f (b + d) ≤ 0 then fv f b d else _)
  rw [if_pos h, ← he]
  split <;> rfl
theorem fv_1 {f : Nat → Int32} {b d p q : Nat} (he : (p, q) = fv f b d) (h26 : p < 26) (h : ¬ f (b + d) ≤ 0) (h5 : f (b + d) - f (b + d) / nI 5 * nI 5 = 0) : (p + 1, q + 1) = fv f b (d + 1) := by
  show _ = (if 26 ≤ (fv f b d).1 then fv f b d else if f (b + d) ≤ 0 then fv f b d else ((fv f b d).1 + 1, (fv f b d).2 + (if f (b + d) - f (b + d) / nI 5 * nI 5 = 0 then 1 else 0)))
  rw [← he, if_neg (show ¬ 26 ≤ p by omega), if_neg h, if_pos h5]
theorem fv_2 {f : Nat → Int32} {b d p q : Nat} (he : (p, q) = fv f b d) (h26 : p < 26) (h : ¬ f (b + d) ≤ 0) (h5 : ¬ f (b + d) - f (b + d) / nI 5 * nI 5 = 0) : (p + 1, q + 0) = fv f b (d + 1) := by
  show _ = (if 26 ≤ (fv f b d).1 then fv f b d else if f (b + d) ≤ 0 then fv f b d else ((fv f b d).1 + 1, (fv f b d).2 + (if f (b + d) - f (b + d) / nI 5 * nI 5 = 0 then 1 else 0)))
  rw [← he, if_neg (show ¬ 26 ≤ p by omega), if_neg h, if_neg h5]
theorem fv_full {f : Nat → Int32} {b d p q : Nat} (he : (p, q) = fv f b d) (h : 26 ≤ p) : ∀ m : Nat, (p, q) = fv f b (d + m)
  | 0 => he
  | m + 1 => by
    have e := fv_full he h m
    show (p, q) = (if 26 ≤ (fv f b (d + m)).1 then fv f b (d + m) else _)
    rw [← e, if_pos h]
theorem fv_end {f : Nat → Int32} {b d p q : Nat} (he : (p, q) = fv f b d) (hd : d ≤ 28) (h : 28 ≤ d ∨ 26 ≤ p) : (p, q) = fv f b 28 := by
  rcases h with h | h
  · rw [he, show d = 28 by omega]
  · have := fv_full he h (28 - d)
    rw [show d + (28 - d) = 28 by omega] at this
    exact this
theorem fv_congr {f g : Nat → Int32} {b b' : Nat} (h : ∀ d, d < 28 → (f (b + d) ≤ 0 ↔ g (b' + d) ≤ 0) ∧ (¬ f (b + d) ≤ 0 → f (b + d) = g (b' + d))) : ∀ d, d ≤ 28 → fv f b d = fv g b' d
  | 0, _ => rfl
  | d + 1, hd => by
    have e := fv_congr h d (by omega)
    obtain ⟨h1, h2⟩ := h d (by omega)
    show (if 26 ≤ (fv f b d).1 then fv f b d else if f (b + d) ≤ 0 then fv f b d else ((fv f b d).1 + 1, (fv f b d).2 + (if f (b + d) - f (b + d) / nI 5 * nI 5 = 0 then 1 else 0))) = (if 26 ≤ (fv g b' d).1 then fv g b' d else if g (b' + d) ≤ 0 then fv g b' d else ((fv g b' d).1 + 1, (fv g b' d).2 + (if g (b' + d) - g (b' + d) / nI 5 * nI 5 = 0 then 1 else 0)))
    rw [e]
    by_cases z : f (b + d) ≤ 0
    · rw [if_pos z, if_pos (h1.mp z)]
    · rw [if_neg z, if_neg (fun w => z (h1.mpr w)), h2 z]
def fvF (k : Nat) (f : Nat → Int32) (x y : Int32) : Int32 := if cB x (nI k) = false then -1 else if wB y (nI 0) (nI 1) = false then -2 else if y = nI 0 then nI (fv f (28 * x.toNatClampNeg) 28).2 else nI (fv f (28 * x.toNatClampNeg) 28).1
theorem fvF_1 {k : Nat} {f : Nat → Int32} {x y : Int32} (h : cB x (nI k) = false) : -1 = fvF k f x y := by unfold fvF; rw [if_pos h]
theorem fvF_2 {k : Nat} {f : Nat → Int32} {x y : Int32} (h : cB x (nI k) = true) (h2 : wB y (nI 0) (nI 1) = false) : -2 = fvF k f x y := by unfold fvF; rw [if_neg (by rw [h]; decide), if_pos h2]
theorem fvF_3 {k c p q y b : Nat} {f : Nat → Int32} (h : cB (nI c) (nI k) = true) (h2 : wB (nI y) (nI 0) (nI 1) = true) (hc : c < 2 ^ 31) (hy : y = 0) (hb : b = 28 * c) (he : (p, q) = fv f b 28) : nI q = fvF k f (nI c) (nI y) := by
  unfold fvF
  rw [if_neg (by rw [h]; decide), if_neg (by rw [h2]; decide), if_pos (by rw [hy]), nI_clamp hc, ← hb, ← he]
theorem fvF_4 {k c p q y b : Nat} {f : Nat → Int32} (h : cB (nI c) (nI k) = true) (h2 : wB (nI y) (nI 0) (nI 1) = true) (hc : c < 2 ^ 31) (hy1 : y < 2 ^ 31) (hy : ¬ y = 0) (hb : b = 28 * c) (he : (p, q) = fv f b 28) : nI p = fvF k f (nI c) (nI y) := by
  unfold fvF
  rw [if_neg (by rw [h]; decide), if_neg (by rw [h2]; decide), if_neg (fun z => hy ((nI_eq hy1 (by decide)).mp z)), nI_clamp hc, ← hb, ← he]
set_option maxRecDepth 100000 in
set_option maxHeartbeats 4000000 in
theorem e_countFives (g kk : Nat → Nat) (σ : St) (k : Nat) (hk : σ.1 16 = nI k) (hk6 : k ≤ 6) (hI : iX σ)  (c : Nat) (hc0 : c < 6) : jM (S := St) yX3_countFives cX3_countFives 4 none { frames := 0, cells := 0, slots := 0, locals := 0 } kk (cX g kk σ) [.ref (g 53), .int (nI c)] (cX g kk) (rV (fun u : St => ∃ (a : Nat) (b : Nat), u = sI (sI σ 850 (nI a)) 851 (nI b) ∧ ((a, b) = fv (σ.2.1 6) (c * 28) 28) ∧ (b ≤ a ∧ a ≤ 26))) := by
  refine j_entry [(0, .ref (g 53)), (1, .int (nI c))] (by decide) (Nat.le_of_ble_eq_true rfl) rfl ?_
  intro X C E HI
  refine j_aload_n C 0 rfl dX3_countFives_0 ?_
  refine j_iconst C (nI 0) (by decide) dX3_countFives_1 ?_
  refine pX_53_2 C tb_398 dX3_countFives_2 ?_
  refine j_aload_n C 0 rfl dX3_countFives_5 ?_
  refine j_iconst C (nI 0) (by decide) dX3_countFives_6 ?_
  refine pX_53_3 C tb_400 dX3_countFives_7 ?_
  refine j_iconst C (nI 0) (by decide) dX3_countFives_10 ?_
  refine j_istore_n C [(2, .int (nI 0)), (0, .ref (g 53)), (1, .int (nI c))] rfl (by decide) rfl dX3_countFives_11 ?_
  have L12 : ∀ (n12 : Nat) (d : Nat) (a : Nat) (b : Nat) (i12_0 : d ≤ 28) (i12_1 : b ≤ a) (i12_2 : a ≤ 26) (he : (a, b) = fv (σ.2.1 6) (c * 28) d) (hm12 : 28 - d < n12), J X 0 0 (cX g kk (sI (sI σ 850 (nI a)) 851 (nI b))) [(2, .int (nI d)), (0, .ref (g 53)), (1, .int (nI c))] 12 [] := by
    intro n12
    induction n12 with
    | zero => intro d a b i12_0 i12_1 i12_2 he hm; exact absurd hm (Nat.not_lt_zero _)
    | succ n12 ih12 =>
      intro d a b i12_0 i12_1 i12_2 he hm12
      refine j_iload_n C 0 rfl dX3_countFives_12 ?_
      refine j_bipush C (nI 28) (by decide) dX3_countFives_13 ?_
      refine j_icmp_geN C 82 (by decide) (by omega) (by omega) dX3_countFives_15 (fun c1 => ?_) (fun c1 => ?_)
      · exact j_vret C E (sI (sI σ 850 (nI a)) 851 (nI b)) ⟨rfl, ⟨a, b, rfl, (fv_end he (by omega) (by omega)), (by omega)⟩⟩ rfl dX3_countFives_82
      · refine j_aload_n C 1 rfl dX3_countFives_18 ?_
        refine gX_53_2 C tb_398 (nI a) rfl dX3_countFives_19 ?_
        refine j_bipush C (nI 26) (by decide) dX3_countFives_22 ?_
        refine j_icmp_geN C 82 (by decide) (by omega) (by omega) dX3_countFives_24 (fun c2 => ?_) (fun c2 => ?_)
        · exact j_vret C E (sI (sI σ 850 (nI a)) 851 (nI b)) ⟨rfl, ⟨a, b, rfl, (fv_end he (by omega) (by omega)), (by omega)⟩⟩ rfl dX3_countFives_82
        · refine j_aload_n C 1 rfl dX3_countFives_27 ?_
          refine gX_53_0 C tb_396 dX3_countFives_28 ?_
          refine gX_1_5 C tb_117 dX3_countFives_31 ?_
          refine j_iload_n C 2 rfl dX3_countFives_34 ?_
          refine j_bipush C (nI 28) (by decide) dX3_countFives_35 ?_
          refine j_imulN C dX3_countFives_37 ?_
          refine j_iload_n C 0 rfl dX3_countFives_38 ?_
          refine j_iaddN C dX3_countFives_39 ?_
          refine rX_6 C ((c * 28) + d) rfl (by omega) ((σ.2.1 6) ((c * 28) + d)) rfl dX3_countFives_40 ?_
          refine j_istore_n C [(3, .int ((σ.2.1 6) ((c * 28) + d))), (2, .int (nI d)), (0, .ref (g 53)), (1, .int (nI c))] rfl (by decide) rfl dX3_countFives_41 ?_
          refine j_iload_n C 0 rfl dX3_countFives_42 ?_
          refine j_if_le C 76 (by decide) dX3_countFives_43 (fun c3 => ?_) (fun c3 => ?_)
          · refine j_iinc C (nI (d + 1)) [(2, .int (nI (d + 1))), (3, .int ((σ.2.1 6) ((c * 28) + d))), (0, .ref (g 53)), (1, .int (nI c))] 1 rfl (by rw [show Int32.ofInt 1 = nI 1 from by decide, nI_add]) (by decide) rfl dX3_countFives_76 ?_
            refine j_goto C 12 (by decide) dX3_countFives_79 ?_
            refine j_sub (lv' := [(2, .int (nI (d + 1))), (0, .ref (g 53)), (1, .int (nI c))]) [0, 2, 3] rfl ?_
            exact ih12 (d + 1) a b (by omega) (by omega) (by omega) (by first | exact fv_0 he (by assumption) | exact fv_1 he (by omega) (by assumption) (by assumption) | exact fv_2 he (by omega) (by assumption) (by assumption)) (by omega)
          · refine j_aload_n C 2 rfl dX3_countFives_46 ?_
            refine j_dup C rfl dX3_countFives_47 ?_
            refine gX_53_2 C tb_398 (nI a) rfl dX3_countFives_48 ?_
            refine j_iconst C (nI 1) (by decide) dX3_countFives_51 ?_
            refine j_iaddN C dX3_countFives_52 ?_
            refine pX_53_2 C tb_398 dX3_countFives_53 ?_
            refine j_aload_n C 2 rfl dX3_countFives_56 ?_
            refine j_dup C rfl dX3_countFives_57 ?_
            refine gX_53_3 C tb_400 (nI b) rfl dX3_countFives_58 ?_
            refine j_iload_n C 0 rfl dX3_countFives_61 ?_
            refine j_iconst C (nI 5) (by decide) dX3_countFives_62 ?_
            refine j_irem C (by first | decide | assumption | exact nI_ne0 (by omega) (by omega) | exact i64ne (by assumption) | exact i64ne (nI_ne0 (by omega) (by omega))) dX3_countFives_63 ?_
            refine j_if_ne C 71 (by decide) dX3_countFives_64 (fun c4 => ?_) (fun c4 => ?_)
            · refine j_iconst C (nI 0) (by decide) dX3_countFives_71 ?_
              refine j_iaddN C dX3_countFives_72 ?_
              refine pX_53_3 C tb_400 dX3_countFives_73 ?_
              refine j_iinc C (nI (d + 1)) [(2, .int (nI (d + 1))), (3, .int ((σ.2.1 6) ((c * 28) + d))), (0, .ref (g 53)), (1, .int (nI c))] 1 rfl (by rw [show Int32.ofInt 1 = nI 1 from by decide, nI_add]) (by decide) rfl dX3_countFives_76 ?_
              refine j_goto C 12 (by decide) dX3_countFives_79 ?_
              refine j_sub (lv' := [(2, .int (nI (d + 1))), (0, .ref (g 53)), (1, .int (nI c))]) [0, 2, 3] rfl ?_
              refine j_w (cX g kk (sI (sI σ 850 (nI (a + 1))) 851 (nI (b + 0)))) (congrArg (cX g kk) (show sI (sI (sI (sI σ 850 (nI a)) 851 (nI b)) 850 (nI (a + 1))) 851 (nI (b + 0)) = sI (sI σ 850 (nI (a + 1))) 851 (nI (b + 0)) from (Eq.trans (wrI (Eq.trans (wrIc (by decide)) (wrI wrIs))) wrIs))) ?_
              exact ih12 (d + 1) (a + 1) (b + 0) (by omega) (by omega) (by omega) (by first | exact fv_0 he (by assumption) | exact fv_1 he (by omega) (by assumption) (by assumption) | exact fv_2 he (by omega) (by assumption) (by assumption)) (by omega)
            · refine j_iconst C (nI 1) (by decide) dX3_countFives_67 ?_
              refine j_goto C 72 (by decide) dX3_countFives_68 ?_
              refine j_iaddN C dX3_countFives_72 ?_
              refine pX_53_3 C tb_400 dX3_countFives_73 ?_
              refine j_iinc C (nI (d + 1)) [(2, .int (nI (d + 1))), (3, .int ((σ.2.1 6) ((c * 28) + d))), (0, .ref (g 53)), (1, .int (nI c))] 1 rfl (by rw [show Int32.ofInt 1 = nI 1 from by decide, nI_add]) (by decide) rfl dX3_countFives_76 ?_
              refine j_goto C 12 (by decide) dX3_countFives_79 ?_
              refine j_sub (lv' := [(2, .int (nI (d + 1))), (0, .ref (g 53)), (1, .int (nI c))]) [0, 2, 3] rfl ?_
              refine j_w (cX g kk (sI (sI σ 850 (nI (a + 1))) 851 (nI (b + 1)))) (congrArg (cX g kk) (show sI (sI (sI (sI σ 850 (nI a)) 851 (nI b)) 850 (nI (a + 1))) 851 (nI (b + 1)) = sI (sI σ 850 (nI (a + 1))) 851 (nI (b + 1)) from (Eq.trans (wrI (Eq.trans (wrIc (by decide)) (wrI wrIs))) wrIs))) ?_
              exact ih12 (d + 1) (a + 1) (b + 1) (by omega) (by omega) (by omega) (by first | exact fv_0 he (by assumption) | exact fv_1 he (by omega) (by assumption) (by assumption) | exact fv_2 he (by omega) (by assumption) (by assumption)) (by omega)
  exact L12 _ 0 0 0 (by omega) (by omega) (by omega) rfl (Nat.lt_succ_self _)
set_option maxRecDepth 100000 in
set_option maxHeartbeats 4000000 in
theorem e_fives (g kk : Nat → Nat) (σ : St) (k : Nat) (hk : σ.1 16 = nI k) (hk6 : k ≤ 6) (hI : iX σ)  (x : Int32) (y : Int32) : jM (S := St) yX10_fives cX10_fives 3 (some .int) { frames := 1, cells := 0, slots := 0, locals := 23 } kk (cX g kk σ) [.ref (g 0), .int x, .int y] (cX g kk) (rI (fun (r : Int32) (u : St) => ∃ (pI850 : Int32) (pI851 : Int32), u = sI (sI σ 850 pI850) 851 pI851 ∧ (r = fvF k (σ.2.1 6) x y))) := by
  refine j_entry [(0, .ref (g 0)), (1, .int x), (2, .int y)] (by decide) (Nat.le_of_ble_eq_true rfl) rfl ?_
  intro X C E HI
  refine j_aload_n C 0 rfl dX10_fives_0 ?_
  refine j_iload_n C 1 rfl dX10_fives_1 ?_
  refine j_V1 C (c_isCan g kk σ k hk hk6 x) kyX10_isCan tb_478 tb_480 sp_0 0 rfl (eX_0 g kk _) rfl (Nat.le_of_ble_eq_true rfl) ⟨by decide, by decide⟩ dX10_fives_2 rfl (fun vr ur hp => ?_)
  obtain ⟨r, rfl, rfl, hu⟩ := hp
  replace hu := hu.symm
  subst hu
  refine j_if_ne C 10 (by decide) dX10_fives_5 (fun c1 => ?_) (fun c1 => ?_)
  · replace c1 := bI_t c1
    obtain ⟨xn, xn1, rfl⟩ := cB_nat (by omega) c1
    refine j_iload_n C 2 rfl dX10_fives_10 ?_
    refine j_iconst C (nI 0) (by decide) dX10_fives_11 ?_
    refine j_iconst C (nI 1) (by decide) dX10_fives_12 ?_
    refine j_S01 C (c_isWithin y (nI 0) (nI 1)) kyX10_isWithin tb_467 tb_468 rfl (Nat.le_of_ble_eq_true rfl) ⟨by decide, by decide⟩ ⟨by decide, by decide⟩ dX10_fives_13 rfl ?_
    refine j_if_ne C 22 (by decide) dX10_fives_16 (fun c2 => ?_) (fun c2 => ?_)
    · replace c2 := bI_t c2
      obtain ⟨yn, yn1, yn2, rfl⟩ := wB_nat (by decide) (by decide) c2
      refine j_aload_n C 0 rfl dX10_fives_22 ?_
      refine gX_0_7 C tb_435 dX10_fives_23 ?_
      refine j_iload_n C 1 rfl dX10_fives_26 ?_
      refine j_V1 C (e_countFives g kk σ k hk hk6 hI  xn (by first | assumption | omega)) kyX3_countFives tb_816 tb_817 tb_818 53 rfl (eX_53 g kk _) rfl (Nat.le_of_ble_eq_true rfl) ⟨by decide, by decide⟩ dX10_fives_27 rfl (fun vr ur hp => ?_)
      obtain ⟨rfl, w3, w4, hu, g5, g6⟩ := hp
      replace hu := hu.symm
      subst hu
      refine j_iload_n C 2 rfl dX10_fives_30 ?_
      refine j_if_neN C 44 (by decide) (by omega) dX10_fives_31 (fun c7 => ?_) (fun c7 => ?_)
      · refine j_aload_n C 0 rfl dX10_fives_44 ?_
        refine gX_0_7 C tb_435 dX10_fives_45 ?_
        refine gX_53_2 C tb_399 (nI w3) rfl dX10_fives_48 ?_
        exact j_iret C E (sI (sI σ 850 (nI w3)) 851 (nI w4)) ⟨_, rfl, ⟨(nI w3), (nI w4), rfl, (by first | exact fvF_3 c1 c2 (by omega) (by assumption) (by omega) g5 | exact fvF_4 c1 c2 (by omega) (by omega) (by assumption) (by omega) g5)⟩⟩ rfl dX10_fives_51
      · refine j_aload_n C 0 rfl dX10_fives_34 ?_
        refine gX_0_7 C tb_435 dX10_fives_35 ?_
        refine gX_53_3 C tb_401 (nI w4) rfl dX10_fives_38 ?_
        refine j_goto C 51 (by decide) dX10_fives_41 ?_
        exact j_iret C E (sI (sI σ 850 (nI w3)) 851 (nI w4)) ⟨_, rfl, ⟨(nI w3), (nI w4), rfl, (by first | exact fvF_3 c1 c2 (by omega) (by assumption) (by omega) g5 | exact fvF_4 c1 c2 (by omega) (by omega) (by assumption) (by omega) g5)⟩⟩ rfl dX10_fives_51
    · replace c2 := bI_f c2
      refine j_bipush C ((-2)) (by decide) dX10_fives_19 ?_
      refine j_w (cX g kk (sI σ 850 (σ.1 850))) (congrArg (cX g kk) (wrIi (S := σ) (c := 850) (v := σ.1 850) rfl)) ?_
      refine j_w (cX g kk (sI (sI σ 850 (σ.1 850)) 851 (σ.1 851))) (congrArg (cX g kk) (wrIi (S := (sI σ 850 (σ.1 850))) (c := 851) (v := σ.1 851) (gtII (by decide) rfl))) ?_
      exact j_iret C E (sI (sI σ 850 (σ.1 850)) 851 (σ.1 851)) ⟨_, rfl, ⟨(σ.1 850), (σ.1 851), rfl, (fvF_2 c1 c2)⟩⟩ rfl dX10_fives_21
  · replace c1 := bI_f c1
    refine j_iconst C ((-1)) (by decide) dX10_fives_8 ?_
    refine j_w (cX g kk (sI σ 850 (σ.1 850))) (congrArg (cX g kk) (wrIi (S := σ) (c := 850) (v := σ.1 850) rfl)) ?_
    refine j_w (cX g kk (sI (sI σ 850 (σ.1 850)) 851 (σ.1 851))) (congrArg (cX g kk) (wrIi (S := (sI σ 850 (σ.1 850))) (c := 851) (v := σ.1 851) (gtII (by decide) rfl))) ?_
    exact j_iret C E (sI (sI σ 850 (σ.1 850)) 851 (σ.1 851)) ⟨_, rfl, ⟨(σ.1 850), (σ.1 851), rfl, (fvF_1 c1)⟩⟩ rfl dX10_fives_9
set_option maxRecDepth 100000 in
set_option maxHeartbeats 4000000 in
theorem o_findFives (g kk : Nat → Nat) (σ : St) (k : Nat) (hk : σ.1 3 = nI k) (hk6 : k ≤ 6) (hI : iM σ)  (c : Nat) (hc0 : c < 6) : jM (S := St) yX11_findFives cX11_findFives 4 none { frames := 1, cells := 0, slots := 0, locals := 21 } kk (cM g kk σ) [.ref (g 0), .int (nI c)] (cM g kk) (rV (fun u : St => ∃ (b : Nat) (a : Nat), u = sI (sI σ 51 (nI b)) 52 (nI a) ∧ ((a, b) = fv (σ.2.1 5) (28 * c) 28) ∧ (b ≤ a ∧ a ≤ 26))) := by
  refine j_entry [(0, .ref (g 0)), (1, .int (nI c))] (by decide) (Nat.le_of_ble_eq_true rfl) rfl ?_
  intro X C E HI
  refine j_aload_n C 0 rfl dX11_findFives_0 ?_
  refine j_iconst C (nI 0) (by decide) dX11_findFives_1 ?_
  refine pM_0_51 C tb_924 dX11_findFives_2 ?_
  refine j_aload_n C 0 rfl dX11_findFives_5 ?_
  refine j_iconst C (nI 0) (by decide) dX11_findFives_6 ?_
  refine pM_0_52 C tb_925 dX11_findFives_7 ?_
  refine j_iconst C (nI 0) (by decide) dX11_findFives_10 ?_
  refine j_istore_n C [(2, .int (nI 0)), (0, .ref (g 0)), (1, .int (nI c))] rfl (by decide) rfl dX11_findFives_11 ?_
  have L12 : ∀ (n12 : Nat) (d : Nat) (b : Nat) (a : Nat) (i12_0 : d ≤ 28) (i12_1 : b ≤ a) (i12_2 : a ≤ 26) (he : (a, b) = fv (σ.2.1 5) (28 * c) d) (hm12 : 28 - d < n12), J X 0 0 (cM g kk (sI (sI σ 51 (nI b)) 52 (nI a))) [(2, .int (nI d)), (0, .ref (g 0)), (1, .int (nI c))] 12 [] := by
    intro n12
    induction n12 with
    | zero => intro d b a i12_0 i12_1 i12_2 he hm; exact absurd hm (Nat.not_lt_zero _)
    | succ n12 ih12 =>
      intro d b a i12_0 i12_1 i12_2 he hm12
      refine j_iload_n C 0 rfl dX11_findFives_12 ?_
      refine j_bipush C (nI 28) (by decide) dX11_findFives_13 ?_
      refine j_icmp_geN C 78 (by decide) (by omega) (by omega) dX11_findFives_15 (fun c1 => ?_) (fun c1 => ?_)
      · exact j_vret C E (sI (sI σ 51 (nI b)) 52 (nI a)) ⟨rfl, ⟨b, a, rfl, (fv_end he (by omega) (by omega)), (by omega)⟩⟩ rfl dX11_findFives_78
      · refine j_aload_n C 1 rfl dX11_findFives_18 ?_
        refine gM_0_52 C tb_925 (nI a) rfl dX11_findFives_19 ?_
        refine j_bipush C (nI 26) (by decide) dX11_findFives_22 ?_
        refine j_icmp_geN C 78 (by decide) (by omega) (by omega) dX11_findFives_24 (fun c2 => ?_) (fun c2 => ?_)
        · exact j_vret C E (sI (sI σ 51 (nI b)) 52 (nI a)) ⟨rfl, ⟨b, a, rfl, (fv_end he (by omega) (by omega)), (by omega)⟩⟩ rfl dX11_findFives_78
        · refine j_aload_n C 1 rfl dX11_findFives_27 ?_
          refine gM_0_5 C tb_878 dX11_findFives_28 ?_
          refine j_iload_n C 2 rfl dX11_findFives_31 ?_
          refine j_iload_n C 0 rfl dX11_findFives_32 ?_
          refine j_S01 C (m_at c d) kyX11_at tb_1060 tb_1061 rfl (Nat.le_of_ble_eq_true rfl) ⟨by decide, by decide⟩ ⟨by decide, by decide⟩ dX11_findFives_33 rfl ?_
          refine rM_5 C (28 * c + d) rfl (by omega) ((σ.2.1 5) (28 * c + d)) rfl dX11_findFives_36 ?_
          refine j_istore_n C [(3, .int ((σ.2.1 5) (28 * c + d))), (2, .int (nI d)), (0, .ref (g 0)), (1, .int (nI c))] rfl (by decide) rfl dX11_findFives_37 ?_
          refine j_iload_n C 0 rfl dX11_findFives_38 ?_
          refine j_if_le C 72 (by decide) dX11_findFives_39 (fun c3 => ?_) (fun c3 => ?_)
          · refine j_iinc C (nI (d + 1)) [(2, .int (nI (d + 1))), (3, .int ((σ.2.1 5) (28 * c + d))), (0, .ref (g 0)), (1, .int (nI c))] 1 rfl (by rw [show Int32.ofInt 1 = nI 1 from by decide, nI_add]) (by decide) rfl dX11_findFives_72 ?_
            refine j_goto C 12 (by decide) dX11_findFives_75 ?_
            refine j_sub (lv' := [(2, .int (nI (d + 1))), (0, .ref (g 0)), (1, .int (nI c))]) [0, 2, 3] rfl ?_
            exact ih12 (d + 1) b a (by omega) (by omega) (by omega) (by first | exact fv_0 he (by assumption) | exact fv_1 he (by omega) (by assumption) (by assumption) | exact fv_2 he (by omega) (by assumption) (by assumption)) (by omega)
          · refine j_aload_n C 2 rfl dX11_findFives_42 ?_
            refine j_dup C rfl dX11_findFives_43 ?_
            refine gM_0_52 C tb_925 (nI a) rfl dX11_findFives_44 ?_
            refine j_iconst C (nI 1) (by decide) dX11_findFives_47 ?_
            refine j_iaddN C dX11_findFives_48 ?_
            refine pM_0_52 C tb_925 dX11_findFives_49 ?_
            refine j_aload_n C 2 rfl dX11_findFives_52 ?_
            refine j_dup C rfl dX11_findFives_53 ?_
            refine gM_0_51 C tb_924 (nI b) rfl dX11_findFives_54 ?_
            refine j_iload_n C 0 rfl dX11_findFives_57 ?_
            refine j_iconst C (nI 5) (by decide) dX11_findFives_58 ?_
            refine j_irem C (by first | decide | assumption | exact nI_ne0 (by omega) (by omega) | exact i64ne (by assumption) | exact i64ne (nI_ne0 (by omega) (by omega))) dX11_findFives_59 ?_
            refine j_if_ne C 67 (by decide) dX11_findFives_60 (fun c4 => ?_) (fun c4 => ?_)
            · refine j_iconst C (nI 0) (by decide) dX11_findFives_67 ?_
              refine j_iaddN C dX11_findFives_68 ?_
              refine pM_0_51 C tb_924 dX11_findFives_69 ?_
              refine j_iinc C (nI (d + 1)) [(2, .int (nI (d + 1))), (3, .int ((σ.2.1 5) (28 * c + d))), (0, .ref (g 0)), (1, .int (nI c))] 1 rfl (by rw [show Int32.ofInt 1 = nI 1 from by decide, nI_add]) (by decide) rfl dX11_findFives_72 ?_
              refine j_goto C 12 (by decide) dX11_findFives_75 ?_
              refine j_sub (lv' := [(2, .int (nI (d + 1))), (0, .ref (g 0)), (1, .int (nI c))]) [0, 2, 3] rfl ?_
              refine j_w (cM g kk (sI (sI σ 51 (nI (b + 0))) 52 (nI (a + 1)))) (congrArg (cM g kk) (show sI (sI (sI (sI σ 51 (nI b)) 52 (nI a)) 52 (nI (a + 1))) 51 (nI (b + 0)) = sI (sI σ 51 (nI (b + 0))) 52 (nI (a + 1)) from (Eq.trans (wrI wrIs) (Eq.trans (wrIc (by decide)) (wrI wrIs))))) ?_
              exact ih12 (d + 1) (b + 0) (a + 1) (by omega) (by omega) (by omega) (by first | exact fv_0 he (by assumption) | exact fv_1 he (by omega) (by assumption) (by assumption) | exact fv_2 he (by omega) (by assumption) (by assumption)) (by omega)
            · refine j_iconst C (nI 1) (by decide) dX11_findFives_63 ?_
              refine j_goto C 68 (by decide) dX11_findFives_64 ?_
              refine j_iaddN C dX11_findFives_68 ?_
              refine pM_0_51 C tb_924 dX11_findFives_69 ?_
              refine j_iinc C (nI (d + 1)) [(2, .int (nI (d + 1))), (3, .int ((σ.2.1 5) (28 * c + d))), (0, .ref (g 0)), (1, .int (nI c))] 1 rfl (by rw [show Int32.ofInt 1 = nI 1 from by decide, nI_add]) (by decide) rfl dX11_findFives_72 ?_
              refine j_goto C 12 (by decide) dX11_findFives_75 ?_
              refine j_sub (lv' := [(2, .int (nI (d + 1))), (0, .ref (g 0)), (1, .int (nI c))]) [0, 2, 3] rfl ?_
              refine j_w (cM g kk (sI (sI σ 51 (nI (b + 1))) 52 (nI (a + 1)))) (congrArg (cM g kk) (show sI (sI (sI (sI σ 51 (nI b)) 52 (nI a)) 52 (nI (a + 1))) 51 (nI (b + 1)) = sI (sI σ 51 (nI (b + 1))) 52 (nI (a + 1)) from (Eq.trans (wrI wrIs) (Eq.trans (wrIc (by decide)) (wrI wrIs))))) ?_
              exact ih12 (d + 1) (b + 1) (a + 1) (by omega) (by omega) (by omega) (by first | exact fv_0 he (by assumption) | exact fv_1 he (by omega) (by assumption) (by assumption) | exact fv_2 he (by omega) (by assumption) (by assumption)) (by omega)
  exact L12 _ 0 0 0 (by omega) (by omega) (by omega) rfl (Nat.lt_succ_self _)
set_option maxRecDepth 100000 in
set_option maxHeartbeats 4000000 in
theorem o_fives (g kk : Nat → Nat) (σ : St) (k : Nat) (hk : σ.1 3 = nI k) (hk6 : k ≤ 6) (hI : iM σ)  (x : Int32) (y : Int32) : jM (S := St) yX11_fives cX11_fives 3 (some .int) { frames := 2, cells := 0, slots := 0, locals := 46 } kk (cM g kk σ) [.ref (g 0), .int x, .int y] (cM g kk) (rI (fun (r : Int32) (u : St) => ∃ (pI51 : Int32) (pI52 : Int32), u = sI (sI σ 51 pI51) 52 pI52 ∧ (r = fvF k (σ.2.1 5) x y))) := by
  refine j_entry [(0, .ref (g 0)), (1, .int x), (2, .int y)] (by decide) (Nat.le_of_ble_eq_true rfl) rfl ?_
  intro X C E HI
  refine j_aload_n C 0 rfl dX11_fives_0 ?_
  refine j_iload_n C 1 rfl dX11_fives_1 ?_
  refine j_V1 C (m_isCan g kk σ k hk hk6 x) kyX11_isCan tb_1067 tb_1069 sp_21 0 rfl (eM_0 g kk _) rfl (Nat.le_of_ble_eq_true rfl) ⟨by decide, by decide⟩ dX11_fives_2 rfl (fun vr ur hp => ?_)
  obtain ⟨r, rfl, rfl, hu⟩ := hp
  replace hu := hu.symm
  subst hu
  refine j_if_ne C 10 (by decide) dX11_fives_5 (fun c1 => ?_) (fun c1 => ?_)
  · replace c1 := bI_t c1
    obtain ⟨xn, xn1, rfl⟩ := cB_nat (by omega) c1
    refine j_iload_n C 2 rfl dX11_fives_10 ?_
    refine j_i2l C dX11_fives_11 ?_
    refine j_lconst C 0 (by decide) dX11_fives_12 ?_
    refine j_lconst C 1 (by decide) dX11_fives_13 ?_
    refine j_S01 C (m_inB y (nI 0) (nI 1) 0 1 (by decide) (by decide)) kyX11_in tb_1057 tb_1058 rfl (Nat.le_of_ble_eq_true rfl) ⟨by decide, by decide⟩ ⟨by decide, by decide⟩ dX11_fives_14 rfl ?_
    refine j_if_ne C 23 (by decide) dX11_fives_17 (fun c2 => ?_) (fun c2 => ?_)
    · replace c2 := bI_t c2
      obtain ⟨yn, yn1, yn2, rfl⟩ := wB_nat (by decide) (by decide) c2
      refine j_aload_n C 0 rfl dX11_fives_23 ?_
      refine j_iload_n C 1 rfl dX11_fives_24 ?_
      refine j_V1 C (o_findFives g kk σ k hk hk6 hI  xn (by first | assumption | omega)) kyX11_findFives tb_1302 tb_1304 sp_45 0 rfl (eM_0 g kk _) rfl (Nat.le_of_ble_eq_true rfl) ⟨by decide, by decide⟩ dX11_fives_25 rfl (fun vr ur hp => ?_)
      obtain ⟨rfl, w3, w4, hu, g5, g6⟩ := hp
      replace hu := hu.symm
      subst hu
      refine j_iload_n C 2 rfl dX11_fives_28 ?_
      refine j_if_neN C 39 (by decide) (by omega) dX11_fives_29 (fun c7 => ?_) (fun c7 => ?_)
      · refine j_aload_n C 0 rfl dX11_fives_39 ?_
        refine gM_0_52 C tb_925 (nI w4) rfl dX11_fives_40 ?_
        exact j_iret C E (sI (sI σ 51 (nI w3)) 52 (nI w4)) ⟨_, rfl, ⟨(nI w3), (nI w4), rfl, (by first | exact fvF_3 c1 c2 (by omega) (by assumption) (by omega) g5 | exact fvF_4 c1 c2 (by omega) (by omega) (by assumption) (by omega) g5)⟩⟩ rfl dX11_fives_43
      · refine j_aload_n C 0 rfl dX11_fives_32 ?_
        refine gM_0_51 C tb_924 (nI w3) rfl dX11_fives_33 ?_
        refine j_goto C 43 (by decide) dX11_fives_36 ?_
        exact j_iret C E (sI (sI σ 51 (nI w3)) 52 (nI w4)) ⟨_, rfl, ⟨(nI w3), (nI w4), rfl, (by first | exact fvF_3 c1 c2 (by omega) (by assumption) (by omega) g5 | exact fvF_4 c1 c2 (by omega) (by omega) (by assumption) (by omega) g5)⟩⟩ rfl dX11_fives_43
    · replace c2 := bI_f c2
      refine j_bipush C ((-2)) (by decide) dX11_fives_20 ?_
      refine j_w (cM g kk (sI σ 51 (σ.1 51))) (congrArg (cM g kk) (wrIi (S := σ) (c := 51) (v := σ.1 51) rfl)) ?_
      refine j_w (cM g kk (sI (sI σ 51 (σ.1 51)) 52 (σ.1 52))) (congrArg (cM g kk) (wrIi (S := (sI σ 51 (σ.1 51))) (c := 52) (v := σ.1 52) (gtII (by decide) rfl))) ?_
      exact j_iret C E (sI (sI σ 51 (σ.1 51)) 52 (σ.1 52)) ⟨_, rfl, ⟨(σ.1 51), (σ.1 52), rfl, (fvF_2 c1 c2)⟩⟩ rfl dX11_fives_22
  · replace c1 := bI_f c1
    refine j_iconst C ((-1)) (by decide) dX11_fives_8 ?_
    refine j_w (cM g kk (sI σ 51 (σ.1 51))) (congrArg (cM g kk) (wrIi (S := σ) (c := 51) (v := σ.1 51) rfl)) ?_
    refine j_w (cM g kk (sI (sI σ 51 (σ.1 51)) 52 (σ.1 52))) (congrArg (cM g kk) (wrIi (S := (sI σ 51 (σ.1 51))) (c := 52) (v := σ.1 52) (gtII (by decide) rfl))) ?_
    exact j_iret C E (sI (sI σ 51 (σ.1 51)) 52 (σ.1 52)) ⟨_, rfl, ⟨(σ.1 51), (σ.1 52), rfl, (fvF_1 c1)⟩⟩ rfl dX11_fives_9
theorem fvF_eq {k n r : Nat} {σ μ : St} (h : RB k n r σ μ) (x y : Int32) : fvF k (σ.2.1 6) x y = fvF k (μ.2.1 5) x y := by
  unfold fvF
  by_cases hc : cB x (nI k) = false
  · rw [if_pos hc, if_pos hc]
  · rw [if_neg hc, if_neg hc]
    obtain ⟨c, c1, c2⟩ := cB_nat (by have := h.k.1; omega) (show cB x (nI k) = true from by cases e : cB x (nI k) with | false => exact absurd e hc | true => rfl)
    have hk := h.k.1
    have e : fv (σ.2.1 6) (28 * x.toNatClampNeg) 28 = fv (μ.2.1 5) (28 * x.toNatClampNeg) 28 := by
      rw [c2, nI_clamp (by omega)]
      refine fv_congr (fun d hd => ?_) 28 (by omega)
      obtain ⟨q1, q2, q3⟩ := h.1.2.2.2.2.1 (28 * c + d) (by omega)
      have q : tr (σ.2.1 6 (28 * c + d)) = μ.2.1 5 (28 * c + d) := q1 (by omega)
      rw [← q]
      rcases q3 with z | ⟨m, z1, z2⟩
      · have z : σ.2.1 6 (28 * c + d) = -1 := z
        rw [z]
        exact ⟨⟨fun _ => by decide, fun _ => by decide⟩, fun w => absurd (by decide) w⟩
      · have z2 : σ.2.1 6 (28 * c + d) = nI m := z2
        rw [z2, tr_ge (nI_pos' (by omega))]
        exact ⟨Iff.rfl, fun _ => rfl⟩
    rw [e]
