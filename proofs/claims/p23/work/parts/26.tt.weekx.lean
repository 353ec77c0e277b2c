/-- the best so far, as the class holds it -/
def eco (o : Option Nat) : Int32 := match o with | none => -1 | some a => nI (mdC a)
def KX4 (p : BW) (co : Nat) (n f s : Int32) : Prop := co = p.1 ∧ n = nI p.2.1 ∧ f = eco p.2.2.1 ∧ s = eco p.2.2.2
theorem KX_k {p : BW} {co m n' co2 : Nat} {a b : Option Nat} {n f s n2 f2 s2 x y : Int32} (h : KX4 p co n f s) (hx : x = eco a) (hy : y = eco b) (k : (m < co ∧ co2 = m ∧ n2 = nI n' ∧ f2 = x ∧ s2 = y) ∨ (¬ m < co ∧ co2 = co ∧ n2 = n ∧ f2 = f ∧ s2 = s)) : KX4 (bwk p m n' a b) co2 n2 f2 s2 := by
  obtain ⟨h1, h2, h3, h4⟩ := h
  unfold bwk
  rcases k with ⟨k0, k1, k2, k3, k4⟩ | ⟨k0, k1, k2, k3, k4⟩
  · rw [if_pos (by omega)]; exact ⟨k1, k2, k3.trans hx, k4.trans hy⟩
  · rw [if_neg (by omega)]; exact ⟨k1.trans h1, k2.trans h2, k3.trans h3, k4.trans h4⟩
theorem KX_e {p q : BW} {co : Nat} {n f s : Int32} (h : KX4 p co n f s) (e : q = p) : KX4 q co n f s := by rw [e]; exact h
theorem mdC_md {a : Nat} (h : a < 38) : mdP (mdC a) ∧ mdC a < 257 := by
  refine ⟨?_, mdC_lt ⟨a, h⟩⟩
  have := mdC_P ⟨a, h⟩
  simp only at this
  unfold mdP
  omega
theorem bwk_b {p : BW} {m n B : Nat} {a b : Option Nat} (h : p.1 ≤ B) (q : m ≤ B) : (bwk p m n a b).1 ≤ B := by
  unfold bwk
  split
  · exact q
  · exact h
set_option maxRecDepth 100000 in
set_option maxHeartbeats 4000000 in
theorem e_misfit_34 (g kk : Nat → Nat) (σ : St) (k : Nat) (hk : σ.1 16 = nI k) (hk6 : k ≤ 6) (hI : iX σ) (Ew r0 : Nat → Nat) (hE7 : R7 (σ.2.1 35) 0 Ew) (hR7 : R7 (σ.2.1 34) 0 r0)  : jM (S := St) yX9_misfit cX9_misfit 4 (some .int) { frames := 1, cells := 0, slots := 0, locals := 21 } kk (cX g kk σ) [.ref (g 32), .ref (g 34)] (cX g kk) (rI (fun (r : Int32) (u : St) => u = σ ∧ (r = nI (mis Ew r0)))) := by
  refine j_entry [(0, .ref (g 32)), (1, .ref (g 34))] (by decide) (Nat.le_of_ble_eq_true rfl) rfl ?_
  intro X C E HI
  refine j_iconst C (nI 0) (by decide) dX9_misfit_0 ?_
  refine j_istore_n C [(2, .int (nI 0)), (0, .ref (g 32)), (1, .ref (g 34))] rfl (by decide) rfl dX9_misfit_1 ?_
  refine j_iconst C (nI 0) (by decide) dX9_misfit_2 ?_
  refine j_istore_n C [(3, .int (nI 0)), (2, .int (nI 0)), (0, .ref (g 32)), (1, .ref (g 34))] rfl (by decide) rfl dX9_misfit_3 ?_
  have L4 : ∀ (n4 : Nat) (i : Nat) (s : Nat) (i4_0 : i ≤ 7) (i4_1 : s ≤ 9990 * i) (hs : s = sm (fun x => (r0 x - Ew x) + (Ew x - r0 x)) 0 i) (hm4 : 7 - i < n4), J X 0 0 (cX g kk σ) [(3, .int (nI i)), (2, .int (nI s)), (0, .ref (g 32)), (1, .ref (g 34))] 4 [] := by
    intro n4
    induction n4 with
    | zero => intro i s i4_0 i4_1 hs hm; exact absurd hm (Nat.not_lt_zero _)
    | succ n4 ih4 =>
      intro i s i4_0 i4_1 hs hm4
      refine j_iload_n C 0 rfl dX9_misfit_4 ?_
      refine j_bipush C (nI 7) (by decide) dX9_misfit_5 ?_
      refine j_icmp_geN C 32 (by decide) (by omega) (by omega) dX9_misfit_7 (fun c1 => ?_) (fun c1 => ?_)
      · refine j_iload_n C 1 rfl dX9_misfit_32 ?_
        exact j_iret C E (σ) ⟨_, rfl, ⟨rfl, (by rw [hs, show i = 7 by omega]; rfl)⟩⟩ rfl dX9_misfit_33
      · refine j_iload_n C 1 rfl dX9_misfit_10 ?_
        refine j_aload_n C 3 rfl dX9_misfit_11 ?_
        refine j_iload_n C 0 rfl dX9_misfit_12 ?_
        refine rX_34 C i rfl (by omega) (nI (r0 i)) (by have z := (hR7 i (by omega)).1; rw [Nat.zero_add] at z; exact z) dX9_misfit_13 ?_
        refine j_aload_n C 2 rfl dX9_misfit_14 ?_
        refine gX_32_3 C tb_240 dX9_misfit_15 ?_
        refine j_iload_n C 0 rfl dX9_misfit_18 ?_
        refine rX_35 C i rfl (by omega) (nI (Ew i)) (by have z := (hE7 i (by omega)).1; rw [Nat.zero_add] at z; exact z) dX9_misfit_19 ?_
        refine j_isub C dX9_misfit_20 ?_
        refine j_mabs C tb_627 tb_590 tb_15 tb_591 (by decide) (Nat.le_of_ble_eq_true rfl) (by decide) (by decide) dX9_misfit_21 ?_
        rw [ab_g (hR7 i (by omega)).2 (hE7 i (by omega)).2]
        have ha9 := (hR7 i (by omega)).2
        have hb9 := (hE7 i (by omega)).2
        refine j_iaddN C dX9_misfit_24 ?_
        refine j_istore_n C [(2, .int (nI (s + ((r0 i - Ew i) + (Ew i - r0 i))))), (3, .int (nI i)), (0, .ref (g 32)), (1, .ref (g 34))] rfl (by decide) rfl dX9_misfit_25 ?_
        refine j_iinc C (nI (i + 1)) [(3, .int (nI (i + 1))), (2, .int (nI (s + ((r0 i - Ew i) + (Ew i - r0 i))))), (0, .ref (g 32)), (1, .ref (g 34))] 1 rfl (by rw [show Int32.ofInt 1 = nI 1 from by decide, nI_add]) (by decide) rfl dX9_misfit_26 ?_
        refine j_goto C 4 (by decide) dX9_misfit_29 ?_
        exact ih4 (i + 1) (s + ((r0 i - Ew i) + (Ew i - r0 i))) (by omega) (by omega) (mis_s hs) (by omega)
  exact L4 _ 0 0 (by omega) (by omega) rfl (Nat.lt_succ_self _)
set_option maxRecDepth 100000 in
set_option maxHeartbeats 4000000 in
theorem e_misfit_36 (g kk : Nat → Nat) (σ : St) (k : Nat) (hk : σ.1 16 = nI k) (hk6 : k ≤ 6) (hI : iX σ) (Ew r0 : Nat → Nat) (hE7 : R7 (σ.2.1 35) 0 Ew) (hR7 : R7 (σ.2.1 36) 0 r0)  : jM (S := St) yX9_misfit cX9_misfit 4 (some .int) { frames := 1, cells := 0, slots := 0, locals := 21 } kk (cX g kk σ) [.ref (g 32), .ref (g 36)] (cX g kk) (rI (fun (r : Int32) (u : St) => u = σ ∧ (r = nI (mis Ew r0)))) := by
  refine j_entry [(0, .ref (g 32)), (1, .ref (g 36))] (by decide) (Nat.le_of_ble_eq_true rfl) rfl ?_
  intro X C E HI
  refine j_iconst C (nI 0) (by decide) dX9_misfit_0 ?_
  refine j_istore_n C [(2, .int (nI 0)), (0, .ref (g 32)), (1, .ref (g 36))] rfl (by decide) rfl dX9_misfit_1 ?_
  refine j_iconst C (nI 0) (by decide) dX9_misfit_2 ?_
  refine j_istore_n C [(3, .int (nI 0)), (2, .int (nI 0)), (0, .ref (g 32)), (1, .ref (g 36))] rfl (by decide) rfl dX9_misfit_3 ?_
  have L4 : ∀ (n4 : Nat) (i : Nat) (s : Nat) (i4_0 : i ≤ 7) (i4_1 : s ≤ 9990 * i) (hs : s = sm (fun x => (r0 x - Ew x) + (Ew x - r0 x)) 0 i) (hm4 : 7 - i < n4), J X 0 0 (cX g kk σ) [(3, .int (nI i)), (2, .int (nI s)), (0, .ref (g 32)), (1, .ref (g 36))] 4 [] := by
    intro n4
    induction n4 with
    | zero => intro i s i4_0 i4_1 hs hm; exact absurd hm (Nat.not_lt_zero _)
    | succ n4 ih4 =>
      intro i s i4_0 i4_1 hs hm4
      refine j_iload_n C 0 rfl dX9_misfit_4 ?_
      refine j_bipush C (nI 7) (by decide) dX9_misfit_5 ?_
      refine j_icmp_geN C 32 (by decide) (by omega) (by omega) dX9_misfit_7 (fun c1 => ?_) (fun c1 => ?_)
      · refine j_iload_n C 1 rfl dX9_misfit_32 ?_
        exact j_iret C E (σ) ⟨_, rfl, ⟨rfl, (by rw [hs, show i = 7 by omega]; rfl)⟩⟩ rfl dX9_misfit_33
      · refine j_iload_n C 1 rfl dX9_misfit_10 ?_
        refine j_aload_n C 3 rfl dX9_misfit_11 ?_
        refine j_iload_n C 0 rfl dX9_misfit_12 ?_
        refine rX_36 C i rfl (by omega) (nI (r0 i)) (by have z := (hR7 i (by omega)).1; rw [Nat.zero_add] at z; exact z) dX9_misfit_13 ?_
        refine j_aload_n C 2 rfl dX9_misfit_14 ?_
        refine gX_32_3 C tb_240 dX9_misfit_15 ?_
        refine j_iload_n C 0 rfl dX9_misfit_18 ?_
        refine rX_35 C i rfl (by omega) (nI (Ew i)) (by have z := (hE7 i (by omega)).1; rw [Nat.zero_add] at z; exact z) dX9_misfit_19 ?_
        refine j_isub C dX9_misfit_20 ?_
        refine j_mabs C tb_627 tb_590 tb_15 tb_591 (by decide) (Nat.le_of_ble_eq_true rfl) (by decide) (by decide) dX9_misfit_21 ?_
        rw [ab_g (hR7 i (by omega)).2 (hE7 i (by omega)).2]
        have ha9 := (hR7 i (by omega)).2
        have hb9 := (hE7 i (by omega)).2
        refine j_iaddN C dX9_misfit_24 ?_
        refine j_istore_n C [(2, .int (nI (s + ((r0 i - Ew i) + (Ew i - r0 i))))), (3, .int (nI i)), (0, .ref (g 32)), (1, .ref (g 36))] rfl (by decide) rfl dX9_misfit_25 ?_
        refine j_iinc C (nI (i + 1)) [(3, .int (nI (i + 1))), (2, .int (nI (s + ((r0 i - Ew i) + (Ew i - r0 i))))), (0, .ref (g 32)), (1, .ref (g 36))] 1 rfl (by rw [show Int32.ofInt 1 = nI 1 from by decide, nI_add]) (by decide) rfl dX9_misfit_26 ?_
        refine j_goto C 4 (by decide) dX9_misfit_29 ?_
        exact ih4 (i + 1) (s + ((r0 i - Ew i) + (Ew i - r0 i))) (by omega) (by omega) (mis_s hs) (by omega)
  exact L4 _ 0 0 (by omega) (by omega) rfl (Nat.lt_succ_self _)
set_option maxRecDepth 100000 in
set_option maxHeartbeats 4000000 in
theorem e_misfit_37 (g kk : Nat → Nat) (σ : St) (k : Nat) (hk : σ.1 16 = nI k) (hk6 : k ≤ 6) (hI : iX σ) (Ew r0 : Nat → Nat) (hE7 : R7 (σ.2.1 35) 0 Ew) (hR7 : R7 (σ.2.1 37) 0 r0)  : jM (S := St) yX9_misfit cX9_misfit 4 (some .int) { frames := 1, cells := 0, slots := 0, locals := 21 } kk (cX g kk σ) [.ref (g 32), .ref (g 37)] (cX g kk) (rI (fun (r : Int32) (u : St) => u = σ ∧ (r = nI (mis Ew r0)))) := by
  refine j_entry [(0, .ref (g 32)), (1, .ref (g 37))] (by decide) (Nat.le_of_ble_eq_true rfl) rfl ?_
  intro X C E HI
  refine j_iconst C (nI 0) (by decide) dX9_misfit_0 ?_
  refine j_istore_n C [(2, .int (nI 0)), (0, .ref (g 32)), (1, .ref (g 37))] rfl (by decide) rfl dX9_misfit_1 ?_
  refine j_iconst C (nI 0) (by decide) dX9_misfit_2 ?_
  refine j_istore_n C [(3, .int (nI 0)), (2, .int (nI 0)), (0, .ref (g 32)), (1, .ref (g 37))] rfl (by decide) rfl dX9_misfit_3 ?_
  have L4 : ∀ (n4 : Nat) (i : Nat) (s : Nat) (i4_0 : i ≤ 7) (i4_1 : s ≤ 9990 * i) (hs : s = sm (fun x => (r0 x - Ew x) + (Ew x - r0 x)) 0 i) (hm4 : 7 - i < n4), J X 0 0 (cX g kk σ) [(3, .int (nI i)), (2, .int (nI s)), (0, .ref (g 32)), (1, .ref (g 37))] 4 [] := by
    intro n4
    induction n4 with
    | zero => intro i s i4_0 i4_1 hs hm; exact absurd hm (Nat.not_lt_zero _)
    | succ n4 ih4 =>
      intro i s i4_0 i4_1 hs hm4
      refine j_iload_n C 0 rfl dX9_misfit_4 ?_
      refine j_bipush C (nI 7) (by decide) dX9_misfit_5 ?_
      refine j_icmp_geN C 32 (by decide) (by omega) (by omega) dX9_misfit_7 (fun c1 => ?_) (fun c1 => ?_)
      · refine j_iload_n C 1 rfl dX9_misfit_32 ?_
        exact j_iret C E (σ) ⟨_, rfl, ⟨rfl, (by rw [hs, show i = 7 by omega]; rfl)⟩⟩ rfl dX9_misfit_33
      · refine j_iload_n C 1 rfl dX9_misfit_10 ?_
        refine j_aload_n C 3 rfl dX9_misfit_11 ?_
        refine j_iload_n C 0 rfl dX9_misfit_12 ?_
        refine rX_37 C i rfl (by omega) (nI (r0 i)) (by have z := (hR7 i (by omega)).1; rw [Nat.zero_add] at z; exact z) dX9_misfit_13 ?_
        refine j_aload_n C 2 rfl dX9_misfit_14 ?_
        refine gX_32_3 C tb_240 dX9_misfit_15 ?_
        refine j_iload_n C 0 rfl dX9_misfit_18 ?_
        refine rX_35 C i rfl (by omega) (nI (Ew i)) (by have z := (hE7 i (by omega)).1; rw [Nat.zero_add] at z; exact z) dX9_misfit_19 ?_
        refine j_isub C dX9_misfit_20 ?_
        refine j_mabs C tb_627 tb_590 tb_15 tb_591 (by decide) (Nat.le_of_ble_eq_true rfl) (by decide) (by decide) dX9_misfit_21 ?_
        rw [ab_g (hR7 i (by omega)).2 (hE7 i (by omega)).2]
        have ha9 := (hR7 i (by omega)).2
        have hb9 := (hE7 i (by omega)).2
        refine j_iaddN C dX9_misfit_24 ?_
        refine j_istore_n C [(2, .int (nI (s + ((r0 i - Ew i) + (Ew i - r0 i))))), (3, .int (nI i)), (0, .ref (g 32)), (1, .ref (g 37))] rfl (by decide) rfl dX9_misfit_25 ?_
        refine j_iinc C (nI (i + 1)) [(3, .int (nI (i + 1))), (2, .int (nI (s + ((r0 i - Ew i) + (Ew i - r0 i))))), (0, .ref (g 32)), (1, .ref (g 37))] 1 rfl (by rw [show Int32.ofInt 1 = nI 1 from by decide, nI_add]) (by decide) rfl dX9_misfit_26 ?_
        refine j_goto C 4 (by decide) dX9_misfit_29 ?_
        exact ih4 (i + 1) (s + ((r0 i - Ew i) + (Ew i - r0 i))) (by omega) (by omega) (mis_s hs) (by omega)
  exact L4 _ 0 0 (by omega) (by omega) rfl (Nat.lt_succ_self _)
set_option maxRecDepth 100000 in
set_option maxHeartbeats 4000000 in
theorem e_part_36_35 (g kk : Nat → Nat) (σ : St) (k : Nat) (hk : σ.1 16 = nI k) (hk6 : k ≤ 6) (hI : iX σ)  (a : Nat) (ha0 : a < 7) (b : Nat) (hb0 : a ≤ b) (hb1 : b < 7) (t : Nat) (ht0 : t ≤ 9990) (ht1 : ∀ i : Nat, a ≤ i → i ≤ b → lm_ 9990 (σ.2.1 35 i)) : jM (S := St) yX10_part cX10_part 8 none { frames := 1, cells := 0, slots := 0, locals := 21 } kk (cX g kk σ) [.ref (g 36), .int (nI a), .int (nI b), .int (nI t), .ref (g 35)] (cX g kk) (rV (fun u : St => ∃ (pF36 : Nat → Int32), u = sF σ 36 pF36 ∧ (pF36 = ptF (σ.2.1 36) t (fun i => (σ.2.1 35 i).toNatClampNeg) a b))) := by
  refine j_entry [(0, .ref (g 36)), (1, .int (nI a)), (2, .int (nI b)), (3, .int (nI t)), (4, .ref (g 35))] (by decide) (Nat.le_of_ble_eq_true rfl) rfl ?_
  intro X C E HI
  refine j_iconst C (nI 0) (by decide) dX10_part_0 ?_
  refine j_istore C [(5, .int (nI 0)), (0, .ref (g 36)), (1, .int (nI a)), (2, .int (nI b)), (3, .int (nI t)), (4, .ref (g 35))] (by decide) rfl dX10_part_1 ?_
  refine j_iload_n C 2 rfl dX10_part_3 ?_
  refine j_istore C [(6, .int (nI a)), (5, .int (nI 0)), (0, .ref (g 36)), (1, .int (nI a)), (2, .int (nI b)), (3, .int (nI t)), (4, .ref (g 35))] (by decide) rfl dX10_part_4 ?_
  have L6 : ∀ (n6 : Nat) (i : Nat) (T : Nat) (i6_0 : a ≤ i) (i6_1 : i ≤ b + 1) (i6_2 : T ≤ 9990 * (i - a)) (hT : T = sm (fun i => (σ.2.1 35 i).toNatClampNeg) a (i - a)) (hm6 : b + 1 - i < n6), J X 0 0 (cX g kk σ) [(6, .int (nI i)), (5, .int (nI T)), (0, .ref (g 36)), (1, .int (nI a)), (2, .int (nI b)), (3, .int (nI t)), (4, .ref (g 35))] 6 [] := by
    intro n6
    induction n6 with
    | zero => intro i T i6_0 i6_1 i6_2 hT hm; exact absurd hm (Nat.not_lt_zero _)
    | succ n6 ih6 =>
      intro i T i6_0 i6_1 i6_2 hT hm6
      refine j_iload C 0 rfl dX10_part_6 ?_
      refine j_iload_n C 4 rfl dX10_part_8 ?_
      refine j_icmp_gtN C 32 (by decide) (by omega) (by omega) dX10_part_9 (fun c1 => ?_) (fun c1 => ?_)
      · refine j_iload_n C 5 rfl dX10_part_32 ?_
        refine j_istore C [(6, .int (nI t)), (5, .int (nI T)), (0, .ref (g 36)), (1, .int (nI a)), (2, .int (nI b)), (3, .int (nI t)), (4, .ref (g 35))] (by decide) rfl dX10_part_33 ?_
        refine j_iload_n C 3 rfl dX10_part_35 ?_
        refine j_istore C [(7, .int (nI a)), (6, .int (nI t)), (5, .int (nI T)), (0, .ref (g 36)), (1, .int (nI a)), (2, .int (nI b)), (3, .int (nI t)), (4, .ref (g 35))] (by decide) rfl dX10_part_36 ?_
        have L38 : ∀ (n38 : Nat) (j : Nat) (lf : Nat) (fr9 : Nat → Int32) (i38_0 : a ≤ j) (i38_1 : j ≤ b) (i38_2 : lf ≤ t) (hl : lf = t - sm (fun i => shV t (sm (fun i => (σ.2.1 35 i).toNatClampNeg) a (b + 1 - a)) ((σ.2.1 35 i).toNatClampNeg)) a (j - a)) (hp : PTP fr9 (σ.2.1 36) t (sm (fun i => (σ.2.1 35 i).toNatClampNeg) a (b + 1 - a)) (fun i => (σ.2.1 35 i).toNatClampNeg) a j) (hm38 : b - j < n38), J X 0 0 (cX g kk (sF σ 36 fr9)) [(7, .int (nI j)), (6, .int (nI lf)), (5, .int (nI T)), (0, .ref (g 36)), (1, .int (nI a)), (2, .int (nI b)), (3, .int (nI t)), (4, .ref (g 35))] 38 [] := by
          intro n38
          induction n38 with
          | zero => intro j lf fr9 i38_0 i38_1 i38_2 hl hp hm; exact absurd hm (Nat.not_lt_zero _)
          | succ n38 ih38 =>
            intro j lf fr9 i38_0 i38_1 i38_2 hl hp hm38
            refine j_iload C 0 rfl dX10_part_38 ?_
            refine j_iload_n C 5 rfl dX10_part_40 ?_
            refine j_icmp_geN C 86 (by decide) (by omega) (by omega) dX10_part_41 (fun c2 => ?_) (fun c2 => ?_)
            · refine j_aload_n C 3 rfl dX10_part_86 ?_
              refine j_iload_n C 5 rfl dX10_part_87 ?_
              refine j_iload C 1 rfl dX10_part_88 ?_
              refine tX_36 C b rfl (by omega) dX10_part_90 ?_
              refine j_w (cX g kk (sF σ 36 (upd fr9 b (nI lf)))) (congrArg (cX g kk) (show sF (sF σ 36 fr9) 36 (upd fr9 b (nI lf)) = sF σ 36 (upd fr9 b (nI lf)) from wrFs)) ?_
              exact j_vret C E (sF σ 36 (upd fr9 b (nI lf))) ⟨rfl, ⟨(upd fr9 b (nI lf)), rfl, (PTP_e (by have z := hp; rw [show j = b by omega] at z; exact z) (by have z := hl; rw [show j = b by omega] at z; exact z) (by omega))⟩⟩ rfl dX10_part_91
            · refine j_aload_n C 3 rfl dX10_part_44 ?_
              refine j_iload C 0 rfl dX10_part_45 ?_
              refine j_iload C 2 rfl dX10_part_47 ?_
              refine j_if_neN C 56 (by decide) (by omega) dX10_part_49 (fun c3 => ?_) (fun c3 => ?_)
              · refine j_iload_n C 6 rfl dX10_part_56 ?_
                refine j_iconst C (nI 0) (by decide) dX10_part_57 ?_
                refine j_aload C 7 rfl dX10_part_58 ?_
                refine j_iload C 0 rfl dX10_part_60 ?_
                refine rX_35 C j rfl (by omega) ((σ.2.1 35) j) rfl dX10_part_62 ?_
                refine j_mmax C tb_599 tb_600 tb_15 tb_601 (by decide) (Nat.le_of_ble_eq_true rfl) (by decide) (by decide) dX10_part_63 ?_
                rw [mx0 (by decide) (ht1 j (by omega) (by omega))]
                have hcj9 := cl_le (by decide) (ht1 j (by omega) (by omega))
                have hmul := mulb ht0 hcj9
                refine j_imulN C dX10_part_66 ?_
                refine j_iload C 2 rfl dX10_part_67 ?_
                have hq4 := Nat.div_le_self (t * ((σ.2.1 35 j).toNatClampNeg)) T
                refine j_idivN C (by omega) (by omega) (by omega) dX10_part_69 ?_
                have hTe : T = (sm (fun i => (σ.2.1 35 i).toNatClampNeg) a (b + 1 - a)) := by rw [hT, show i = b + 1 by omega]
                refine j_teq (show nI ((t * ((σ.2.1 35 j).toNatClampNeg)) / T) = nI (shV t (sm (fun i => (σ.2.1 35 i).toNatClampNeg) a (b + 1 - a)) ((σ.2.1 35 j).toNatClampNeg)) from congrArg nI (by unfold shV; rw [← hTe, if_neg (by omega)])) ?_
                refine tX_36 C j rfl (by omega) dX10_part_70 ?_
                refine j_iload C 1 rfl dX10_part_71 ?_
                refine j_aload_n C 3 rfl dX10_part_73 ?_
                refine j_iload C 0 rfl dX10_part_74 ?_
                have hsb := sb_le hl (by omega) (by omega)
                refine rX_36 C j rfl (by omega) (nI (shV t (sm (fun i => (σ.2.1 35 i).toNatClampNeg) a (b + 1 - a)) ((σ.2.1 35 j).toNatClampNeg))) pk_us dX10_part_76 ?_
                refine j_isubN C (by omega) dX10_part_77 ?_
                refine j_istore C [(6, .int (nI (lf - (shV t (sm (fun i => (σ.2.1 35 i).toNatClampNeg) a (b + 1 - a)) ((σ.2.1 35 j).toNatClampNeg))))), (7, .int (nI j)), (5, .int (nI T)), (0, .ref (g 36)), (1, .int (nI a)), (2, .int (nI b)), (3, .int (nI t)), (4, .ref (g 35))] (by decide) rfl dX10_part_78 ?_
                refine j_iinc C (nI (j + 1)) [(7, .int (nI (j + 1))), (6, .int (nI (lf - (shV t (sm (fun i => (σ.2.1 35 i).toNatClampNeg) a (b + 1 - a)) ((σ.2.1 35 j).toNatClampNeg))))), (5, .int (nI T)), (0, .ref (g 36)), (1, .int (nI a)), (2, .int (nI b)), (3, .int (nI t)), (4, .ref (g 35))] 1 rfl (by rw [show Int32.ofInt 1 = nI 1 from by decide, nI_add]) (by decide) rfl dX10_part_80 ?_
                refine j_goto C 38 (by decide) dX10_part_83 ?_
                refine j_w (cX g kk (sF σ 36 (upd fr9 j (nI (shV t (sm (fun i => (σ.2.1 35 i).toNatClampNeg) a (b + 1 - a)) ((σ.2.1 35 j).toNatClampNeg)))))) (congrArg (cX g kk) (show sF (sF σ 36 fr9) 36 (upd fr9 j (nI (shV t (sm (fun i => (σ.2.1 35 i).toNatClampNeg) a (b + 1 - a)) ((σ.2.1 35 j).toNatClampNeg)))) = sF σ 36 (upd fr9 j (nI (shV t (sm (fun i => (σ.2.1 35 i).toNatClampNeg) a (b + 1 - a)) ((σ.2.1 35 j).toNatClampNeg)))) from wrFs)) ?_
                exact ih38 (j + 1) (lf - (shV t (sm (fun i => (σ.2.1 35 i).toNatClampNeg) a (b + 1 - a)) ((σ.2.1 35 j).toNatClampNeg))) (upd fr9 j (nI (shV t (sm (fun i => (σ.2.1 35 i).toNatClampNeg) a (b + 1 - a)) ((σ.2.1 35 j).toNatClampNeg)))) (by omega) (by omega) (by omega) hsb.2 (PTP_s hp (by omega)) (by omega)
              · refine j_iconst C (nI 0) (by decide) dX10_part_52 ?_
                refine j_goto C 70 (by decide) dX10_part_53 ?_
                have hTe : T = (sm (fun i => (σ.2.1 35 i).toNatClampNeg) a (b + 1 - a)) := by rw [hT, show i = b + 1 by omega]
                refine j_teq (show nI (0) = nI (shV t (sm (fun i => (σ.2.1 35 i).toNatClampNeg) a (b + 1 - a)) ((σ.2.1 35 j).toNatClampNeg)) from congrArg nI (by unfold shV; rw [← hTe, if_pos (by omega)])) ?_
                refine tX_36 C j rfl (by omega) dX10_part_70 ?_
                refine j_iload C 1 rfl dX10_part_71 ?_
                refine j_aload_n C 3 rfl dX10_part_73 ?_
                refine j_iload C 0 rfl dX10_part_74 ?_
                have hsb := sb_le hl (by omega) (by omega)
                refine rX_36 C j rfl (by omega) (nI (shV t (sm (fun i => (σ.2.1 35 i).toNatClampNeg) a (b + 1 - a)) ((σ.2.1 35 j).toNatClampNeg))) pk_us dX10_part_76 ?_
                refine j_isubN C (by omega) dX10_part_77 ?_
                refine j_istore C [(6, .int (nI (lf - (shV t (sm (fun i => (σ.2.1 35 i).toNatClampNeg) a (b + 1 - a)) ((σ.2.1 35 j).toNatClampNeg))))), (7, .int (nI j)), (5, .int (nI T)), (0, .ref (g 36)), (1, .int (nI a)), (2, .int (nI b)), (3, .int (nI t)), (4, .ref (g 35))] (by decide) rfl dX10_part_78 ?_
                refine j_iinc C (nI (j + 1)) [(7, .int (nI (j + 1))), (6, .int (nI (lf - (shV t (sm (fun i => (σ.2.1 35 i).toNatClampNeg) a (b + 1 - a)) ((σ.2.1 35 j).toNatClampNeg))))), (5, .int (nI T)), (0, .ref (g 36)), (1, .int (nI a)), (2, .int (nI b)), (3, .int (nI t)), (4, .ref (g 35))] 1 rfl (by rw [show Int32.ofInt 1 = nI 1 from by decide, nI_add]) (by decide) rfl dX10_part_80 ?_
                refine j_goto C 38 (by decide) dX10_part_83 ?_
                refine j_w (cX g kk (sF σ 36 (upd fr9 j (nI (shV t (sm (fun i => (σ.2.1 35 i).toNatClampNeg) a (b + 1 - a)) ((σ.2.1 35 j).toNatClampNeg)))))) (congrArg (cX g kk) (show sF (sF σ 36 fr9) 36 (upd fr9 j (nI (shV t (sm (fun i => (σ.2.1 35 i).toNatClampNeg) a (b + 1 - a)) ((σ.2.1 35 j).toNatClampNeg)))) = sF σ 36 (upd fr9 j (nI (shV t (sm (fun i => (σ.2.1 35 i).toNatClampNeg) a (b + 1 - a)) ((σ.2.1 35 j).toNatClampNeg)))) from wrFs)) ?_
                exact ih38 (j + 1) (lf - (shV t (sm (fun i => (σ.2.1 35 i).toNatClampNeg) a (b + 1 - a)) ((σ.2.1 35 j).toNatClampNeg))) (upd fr9 j (nI (shV t (sm (fun i => (σ.2.1 35 i).toNatClampNeg) a (b + 1 - a)) ((σ.2.1 35 j).toNatClampNeg)))) (by omega) (by omega) (by omega) hsb.2 (PTP_s hp (by omega)) (by omega)
        refine j_w (cX g kk (sF σ 36 (σ.2.1 36))) (congrArg (cX g kk) (wrFi (S := σ) (c := 36) (v := σ.2.1 36) rfl)) ?_
        exact L38 _ a t (σ.2.1 36) (by omega) (by omega) (by omega) (by rw [Nat.sub_self]; rfl) PTP_0 (Nat.lt_succ_self _)
      · refine j_iload C 1 rfl dX10_part_12 ?_
        refine j_iconst C (nI 0) (by decide) dX10_part_14 ?_
        refine j_aload C 6 rfl dX10_part_15 ?_
        refine j_iload C 0 rfl dX10_part_17 ?_
        refine rX_35 C i rfl (by omega) ((σ.2.1 35) i) rfl dX10_part_19 ?_
        refine j_mmax C tb_599 tb_600 tb_15 tb_601 (by decide) (Nat.le_of_ble_eq_true rfl) (by decide) (by decide) dX10_part_20 ?_
        rw [mx0 (by decide) (ht1 i (by omega) (by omega))]
        have hci9 := cl_le (by decide) (ht1 i (by omega) (by omega))
        refine j_iaddN C dX10_part_23 ?_
        refine j_istore C [(5, .int (nI (T + ((σ.2.1 35 i).toNatClampNeg)))), (6, .int (nI i)), (0, .ref (g 36)), (1, .int (nI a)), (2, .int (nI b)), (3, .int (nI t)), (4, .ref (g 35))] (by decide) rfl dX10_part_24 ?_
        refine j_iinc C (nI (i + 1)) [(6, .int (nI (i + 1))), (5, .int (nI (T + ((σ.2.1 35 i).toNatClampNeg)))), (0, .ref (g 36)), (1, .int (nI a)), (2, .int (nI b)), (3, .int (nI t)), (4, .ref (g 35))] 1 rfl (by rw [show Int32.ofInt 1 = nI 1 from by decide, nI_add]) (by decide) rfl dX10_part_26 ?_
        refine j_goto C 6 (by decide) dX10_part_29 ?_
        exact ih6 (i + 1) (T + ((σ.2.1 35 i).toNatClampNeg)) (by omega) (by omega) (by omega) (sm_s hT (by omega)) (by omega)
  exact L6 _ a 0 (by omega) (by omega) (by omega) (by rw [Nat.sub_self]; rfl) (Nat.lt_succ_self _)
set_option maxRecDepth 100000 in
set_option maxHeartbeats 4000000 in
theorem e_part_37_35 (g kk : Nat → Nat) (σ : St) (k : Nat) (hk : σ.1 16 = nI k) (hk6 : k ≤ 6) (hI : iX σ)  (a : Nat) (ha0 : a < 7) (b : Nat) (hb0 : a ≤ b) (hb1 : b < 7) (t : Nat) (ht0 : t ≤ 9990) (ht1 : ∀ i : Nat, a ≤ i → i ≤ b → lm_ 9990 (σ.2.1 35 i)) : jM (S := St) yX10_part cX10_part 8 none { frames := 1, cells := 0, slots := 0, locals := 21 } kk (cX g kk σ) [.ref (g 37), .int (nI a), .int (nI b), .int (nI t), .ref (g 35)] (cX g kk) (rV (fun u : St => ∃ (pF37 : Nat → Int32), u = sF σ 37 pF37 ∧ (pF37 = ptF (σ.2.1 37) t (fun i => (σ.2.1 35 i).toNatClampNeg) a b))) := by
  refine j_entry [(0, .ref (g 37)), (1, .int (nI a)), (2, .int (nI b)), (3, .int (nI t)), (4, .ref (g 35))] (by decide) (Nat.le_of_ble_eq_true rfl) rfl ?_
  intro X C E HI
  refine j_iconst C (nI 0) (by decide) dX10_part_0 ?_
  refine j_istore C [(5, .int (nI 0)), (0, .ref (g 37)), (1, .int (nI a)), (2, .int (nI b)), (3, .int (nI t)), (4, .ref (g 35))] (by decide) rfl dX10_part_1 ?_
  refine j_iload_n C 2 rfl dX10_part_3 ?_
  refine j_istore C [(6, .int (nI a)), (5, .int (nI 0)), (0, .ref (g 37)), (1, .int (nI a)), (2, .int (nI b)), (3, .int (nI t)), (4, .ref (g 35))] (by decide) rfl dX10_part_4 ?_
  have L6 : ∀ (n6 : Nat) (i : Nat) (T : Nat) (i6_0 : a ≤ i) (i6_1 : i ≤ b + 1) (i6_2 : T ≤ 9990 * (i - a)) (hT : T = sm (fun i => (σ.2.1 35 i).toNatClampNeg) a (i - a)) (hm6 : b + 1 - i < n6), J X 0 0 (cX g kk σ) [(6, .int (nI i)), (5, .int (nI T)), (0, .ref (g 37)), (1, .int (nI a)), (2, .int (nI b)), (3, .int (nI t)), (4, .ref (g 35))] 6 [] := by
    intro n6
    induction n6 with
    | zero => intro i T i6_0 i6_1 i6_2 hT hm; exact absurd hm (Nat.not_lt_zero _)
    | succ n6 ih6 =>
      intro i T i6_0 i6_1 i6_2 hT hm6
      refine j_iload C 0 rfl dX10_part_6 ?_
      refine j_iload_n C 4 rfl dX10_part_8 ?_
      refine j_icmp_gtN C 32 (by decide) (by omega) (by omega) dX10_part_9 (fun c1 => ?_) (fun c1 => ?_)
      · refine j_iload_n C 5 rfl dX10_part_32 ?_
        refine j_istore C [(6, .int (nI t)), (5, .int (nI T)), (0, .ref (g 37)), (1, .int (nI a)), (2, .int (nI b)), (3, .int (nI t)), (4, .ref (g 35))] (by decide) rfl dX10_part_33 ?_
        refine j_iload_n C 3 rfl dX10_part_35 ?_
        refine j_istore C [(7, .int (nI a)), (6, .int (nI t)), (5, .int (nI T)), (0, .ref (g 37)), (1, .int (nI a)), (2, .int (nI b)), (3, .int (nI t)), (4, .ref (g 35))] (by decide) rfl dX10_part_36 ?_
        have L38 : ∀ (n38 : Nat) (j : Nat) (lf : Nat) (fr9 : Nat → Int32) (i38_0 : a ≤ j) (i38_1 : j ≤ b) (i38_2 : lf ≤ t) (hl : lf = t - sm (fun i => shV t (sm (fun i => (σ.2.1 35 i).toNatClampNeg) a (b + 1 - a)) ((σ.2.1 35 i).toNatClampNeg)) a (j - a)) (hp : PTP fr9 (σ.2.1 37) t (sm (fun i => (σ.2.1 35 i).toNatClampNeg) a (b + 1 - a)) (fun i => (σ.2.1 35 i).toNatClampNeg) a j) (hm38 : b - j < n38), J X 0 0 (cX g kk (sF σ 37 fr9)) [(7, .int (nI j)), (6, .int (nI lf)), (5, .int (nI T)), (0, .ref (g 37)), (1, .int (nI a)), (2, .int (nI b)), (3, .int (nI t)), (4, .ref (g 35))] 38 [] := by
          intro n38
          induction n38 with
          | zero => intro j lf fr9 i38_0 i38_1 i38_2 hl hp hm; exact absurd hm (Nat.not_lt_zero _)
          | succ n38 ih38 =>
            intro j lf fr9 i38_0 i38_1 i38_2 hl hp hm38
            refine j_iload C 0 rfl dX10_part_38 ?_
            refine j_iload_n C 5 rfl dX10_part_40 ?_
            refine j_icmp_geN C 86 (by decide) (by omega) (by omega) dX10_part_41 (fun c2 => ?_) (fun c2 => ?_)
            · refine j_aload_n C 3 rfl dX10_part_86 ?_
              refine j_iload_n C 5 rfl dX10_part_87 ?_
              refine j_iload C 1 rfl dX10_part_88 ?_
              refine tX_37 C b rfl (by omega) dX10_part_90 ?_
              refine j_w (cX g kk (sF σ 37 (upd fr9 b (nI lf)))) (congrArg (cX g kk) (show sF (sF σ 37 fr9) 37 (upd fr9 b (nI lf)) = sF σ 37 (upd fr9 b (nI lf)) from wrFs)) ?_
              exact j_vret C E (sF σ 37 (upd fr9 b (nI lf))) ⟨rfl, ⟨(upd fr9 b (nI lf)), rfl, (PTP_e (by have z := hp; rw [show j = b by omega] at z; exact z) (by have z := hl; rw [show j = b by omega] at z; exact z) (by omega))⟩⟩ rfl dX10_part_91
            · refine j_aload_n C 3 rfl dX10_part_44 ?_
              refine j_iload C 0 rfl dX10_part_45 ?_
              refine j_iload C 2 rfl dX10_part_47 ?_
              refine j_if_neN C 56 (by decide) (by omega) dX10_part_49 (fun c3 => ?_) (fun c3 => ?_)
              · refine j_iload_n C 6 rfl dX10_part_56 ?_
                refine j_iconst C (nI 0) (by decide) dX10_part_57 ?_
                refine j_aload C 7 rfl dX10_part_58 ?_
                refine j_iload C 0 rfl dX10_part_60 ?_
                refine rX_35 C j rfl (by omega) ((σ.2.1 35) j) rfl dX10_part_62 ?_
                refine j_mmax C tb_599 tb_600 tb_15 tb_601 (by decide) (Nat.le_of_ble_eq_true rfl) (by decide) (by decide) dX10_part_63 ?_
                rw [mx0 (by decide) (ht1 j (by omega) (by omega))]
                have hcj9 := cl_le (by decide) (ht1 j (by omega) (by omega))
                have hmul := mulb ht0 hcj9
                refine j_imulN C dX10_part_66 ?_
                refine j_iload C 2 rfl dX10_part_67 ?_
                have hq4 := Nat.div_le_self (t * ((σ.2.1 35 j).toNatClampNeg)) T
                refine j_idivN C (by omega) (by omega) (by omega) dX10_part_69 ?_
                have hTe : T = (sm (fun i => (σ.2.1 35 i).toNatClampNeg) a (b + 1 - a)) := by rw [hT, show i = b + 1 by omega]
                refine j_teq (show nI ((t * ((σ.2.1 35 j).toNatClampNeg)) / T) = nI (shV t (sm (fun i => (σ.2.1 35 i).toNatClampNeg) a (b + 1 - a)) ((σ.2.1 35 j).toNatClampNeg)) from congrArg nI (by unfold shV; rw [← hTe, if_neg (by omega)])) ?_
                refine tX_37 C j rfl (by omega) dX10_part_70 ?_
                refine j_iload C 1 rfl dX10_part_71 ?_
                refine j_aload_n C 3 rfl dX10_part_73 ?_
                refine j_iload C 0 rfl dX10_part_74 ?_
                have hsb := sb_le hl (by omega) (by omega)
                refine rX_37 C j rfl (by omega) (nI (shV t (sm (fun i => (σ.2.1 35 i).toNatClampNeg) a (b + 1 - a)) ((σ.2.1 35 j).toNatClampNeg))) pk_us dX10_part_76 ?_
                refine j_isubN C (by omega) dX10_part_77 ?_
                refine j_istore C [(6, .int (nI (lf - (shV t (sm (fun i => (σ.2.1 35 i).toNatClampNeg) a (b + 1 - a)) ((σ.2.1 35 j).toNatClampNeg))))), (7, .int (nI j)), (5, .int (nI T)), (0, .ref (g 37)), (1, .int (nI a)), (2, .int (nI b)), (3, .int (nI t)), (4, .ref (g 35))] (by decide) rfl dX10_part_78 ?_
                refine j_iinc C (nI (j + 1)) [(7, .int (nI (j + 1))), (6, .int (nI (lf - (shV t (sm (fun i => (σ.2.1 35 i).toNatClampNeg) a (b + 1 - a)) ((σ.2.1 35 j).toNatClampNeg))))), (5, .int (nI T)), (0, .ref (g 37)), (1, .int (nI a)), (2, .int (nI b)), (3, .int (nI t)), (4, .ref (g 35))] 1 rfl (by rw [show Int32.ofInt 1 = nI 1 from by decide, nI_add]) (by decide) rfl dX10_part_80 ?_
                refine j_goto C 38 (by decide) dX10_part_83 ?_
                refine j_w (cX g kk (sF σ 37 (upd fr9 j (nI (shV t (sm (fun i => (σ.2.1 35 i).toNatClampNeg) a (b + 1 - a)) ((σ.2.1 35 j).toNatClampNeg)))))) (congrArg (cX g kk) (show sF (sF σ 37 fr9) 37 (upd fr9 j (nI (shV t (sm (fun i => (σ.2.1 35 i).toNatClampNeg) a (b + 1 - a)) ((σ.2.1 35 j).toNatClampNeg)))) = sF σ 37 (upd fr9 j (nI (shV t (sm (fun i => (σ.2.1 35 i).toNatClampNeg) a (b + 1 - a)) ((σ.2.1 35 j).toNatClampNeg)))) from wrFs)) ?_
                exact ih38 (j + 1) (lf - (shV t (sm (fun i => (σ.2.1 35 i).toNatClampNeg) a (b + 1 - a)) ((σ.2.1 35 j).toNatClampNeg))) (upd fr9 j (nI (shV t (sm (fun i => (σ.2.1 35 i).toNatClampNeg) a (b + 1 - a)) ((σ.2.1 35 j).toNatClampNeg)))) (by omega) (by omega) (by omega) hsb.2 (PTP_s hp (by omega)) (by omega)
              · refine j_iconst C (nI 0) (by decide) dX10_part_52 ?_
                refine j_goto C 70 (by decide) dX10_part_53 ?_
                have hTe : T = (sm (fun i => (σ.2.1 35 i).toNatClampNeg) a (b + 1 - a)) := by rw [hT, show i = b + 1 by omega]
                refine j_teq (show nI (0) = nI (shV t (sm (fun i => (σ.2.1 35 i).toNatClampNeg) a (b + 1 - a)) ((σ.2.1 35 j).toNatClampNeg)) from congrArg nI (by unfold shV; rw [← hTe, if_pos (by omega)])) ?_
                refine tX_37 C j rfl (by omega) dX10_part_70 ?_
                refine j_iload C 1 rfl dX10_part_71 ?_
                refine j_aload_n C 3 rfl dX10_part_73 ?_
                refine j_iload C 0 rfl dX10_part_74 ?_
                have hsb := sb_le hl (by omega) (by omega)
                refine rX_37 C j rfl (by omega) (nI (shV t (sm (fun i => (σ.2.1 35 i).toNatClampNeg) a (b + 1 - a)) ((σ.2.1 35 j).toNatClampNeg))) pk_us dX10_part_76 ?_
                refine j_isubN C (by omega) dX10_part_77 ?_
                refine j_istore C [(6, .int (nI (lf - (shV t (sm (fun i => (σ.2.1 35 i).toNatClampNeg) a (b + 1 - a)) ((σ.2.1 35 j).toNatClampNeg))))), (7, .int (nI j)), (5, .int (nI T)), (0, .ref (g 37)), (1, .int (nI a)), (2, .int (nI b)), (3, .int (nI t)), (4, .ref (g 35))] (by decide) rfl dX10_part_78 ?_
                refine j_iinc C (nI (j + 1)) [(7, .int (nI (j + 1))), (6, .int (nI (lf - (shV t (sm (fun i => (σ.2.1 35 i).toNatClampNeg) a (b + 1 - a)) ((σ.2.1 35 j).toNatClampNeg))))), (5, .int (nI T)), (0, .ref (g 37)), (1, .int (nI a)), (2, .int (nI b)), (3, .int (nI t)), (4, .ref (g 35))] 1 rfl (by rw [show Int32.ofInt 1 = nI 1 from by decide, nI_add]) (by decide) rfl dX10_part_80 ?_
                refine j_goto C 38 (by decide) dX10_part_83 ?_
                refine j_w (cX g kk (sF σ 37 (upd fr9 j (nI (shV t (sm (fun i => (σ.2.1 35 i).toNatClampNeg) a (b + 1 - a)) ((σ.2.1 35 j).toNatClampNeg)))))) (congrArg (cX g kk) (show sF (sF σ 37 fr9) 37 (upd fr9 j (nI (shV t (sm (fun i => (σ.2.1 35 i).toNatClampNeg) a (b + 1 - a)) ((σ.2.1 35 j).toNatClampNeg)))) = sF σ 37 (upd fr9 j (nI (shV t (sm (fun i => (σ.2.1 35 i).toNatClampNeg) a (b + 1 - a)) ((σ.2.1 35 j).toNatClampNeg)))) from wrFs)) ?_
                exact ih38 (j + 1) (lf - (shV t (sm (fun i => (σ.2.1 35 i).toNatClampNeg) a (b + 1 - a)) ((σ.2.1 35 j).toNatClampNeg))) (upd fr9 j (nI (shV t (sm (fun i => (σ.2.1 35 i).toNatClampNeg) a (b + 1 - a)) ((σ.2.1 35 j).toNatClampNeg)))) (by omega) (by omega) (by omega) hsb.2 (PTP_s hp (by omega)) (by omega)
        refine j_w (cX g kk (sF σ 37 (σ.2.1 37))) (congrArg (cX g kk) (wrFi (S := σ) (c := 37) (v := σ.2.1 37) rfl)) ?_
        exact L38 _ a t (σ.2.1 37) (by omega) (by omega) (by omega) (by rw [Nat.sub_self]; rfl) PTP_0 (Nat.lt_succ_self _)
      · refine j_iload C 1 rfl dX10_part_12 ?_
        refine j_iconst C (nI 0) (by decide) dX10_part_14 ?_
        refine j_aload C 6 rfl dX10_part_15 ?_
        refine j_iload C 0 rfl dX10_part_17 ?_
        refine rX_35 C i rfl (by omega) ((σ.2.1 35) i) rfl dX10_part_19 ?_
        refine j_mmax C tb_599 tb_600 tb_15 tb_601 (by decide) (Nat.le_of_ble_eq_true rfl) (by decide) (by decide) dX10_part_20 ?_
        rw [mx0 (by decide) (ht1 i (by omega) (by omega))]
        have hci9 := cl_le (by decide) (ht1 i (by omega) (by omega))
        refine j_iaddN C dX10_part_23 ?_
        refine j_istore C [(5, .int (nI (T + ((σ.2.1 35 i).toNatClampNeg)))), (6, .int (nI i)), (0, .ref (g 37)), (1, .int (nI a)), (2, .int (nI b)), (3, .int (nI t)), (4, .ref (g 35))] (by decide) rfl dX10_part_24 ?_
        refine j_iinc C (nI (i + 1)) [(6, .int (nI (i + 1))), (5, .int (nI (T + ((σ.2.1 35 i).toNatClampNeg)))), (0, .ref (g 37)), (1, .int (nI a)), (2, .int (nI b)), (3, .int (nI t)), (4, .ref (g 35))] 1 rfl (by rw [show Int32.ofInt 1 = nI 1 from by decide, nI_add]) (by decide) rfl dX10_part_26 ?_
        refine j_goto C 6 (by decide) dX10_part_29 ?_
        exact ih6 (i + 1) (T + ((σ.2.1 35 i).toNatClampNeg)) (by omega) (by omega) (by omega) (sm_s hT (by omega)) (by omega)
  exact L6 _ a 0 (by omega) (by omega) (by omega) (by rw [Nat.sub_self]; rfl) (Nat.lt_succ_self _)
theorem r7_lm {f : Nat → Int32} {r : Nat → Nat} (h : R7 f 0 r) {x : Nat} (hx : x < 7) : lm_ 9990 (f x) := by
  have e := h x hx
  rw [Nat.zero_add] at e
  exact Or.inr ⟨r x, e.2, e.1⟩
theorem r7_c {f : Nat → Int32} {r : Nat → Nat} (h : R7 f 0 r) {x : Nat} (hx : x < 7) : (f x).toNatClampNeg = r x := by
  have e := h x hx
  rw [Nat.zero_add] at e
  rw [e.1, nI_clamp (by omega)]
theorem r7_v {f : Nat → Int32} {r : Nat → Nat} (h : R7 f 0 r) {x : Nat} (hx : x < 7) : f x = nI (r x) := by
  have e := h x hx
  rw [Nat.zero_add] at e
  exact e.1
set_option maxRecDepth 100000 in
set_option maxHeartbeats 4000000 in
theorem e_mend_34_36 (g kk : Nat → Nat) (σ : St) (k : Nat) (hk : σ.1 16 = nI k) (hk6 : k ≤ 6) (hI : iX σ) (Ew r0 : Nat → Nat) (hE7 : R7 (σ.2.1 35) 0 Ew) (hR7 : R7 (σ.2.1 34) 0 r0) (c : Nat) (hc0 : (mdP c ∧ c < 257)) : jM (S := St) yX9_mend cX9_mend 7 (some .boolean) { frames := 2, cells := 0, slots := 0, locals := 60 } kk (cX g kk σ) [.ref (g 32), .ref (g 34), .int (nI c), .ref (g 36)] (cX g kk) (rI (fun (r : Int32) (u : St) => ∃ (pF36 : Nat → Int32), u = sF σ 36 pF36 ∧ ((∃ q : Nat → Nat, mdV Ew r0 c = some q ∧ r = nI 1 ∧ R7 pF36 0 q) ∨ (mdV Ew r0 c = none ∧ r = nI 0)))) := by
  refine j_entry [(0, .ref (g 32)), (1, .ref (g 34)), (2, .int (nI c)), (3, .ref (g 36))] (by decide) (Nat.le_of_ble_eq_true rfl) rfl ?_
  intro X C E HI
  obtain ⟨hmd, hc257⟩ := hc0
  unfold mdP at hmd
  refine j_iload_n C 2 rfl dX9_mend_0 ?_
  refine j_bipush C (nI 10) (by decide) dX9_mend_1 ?_
  refine j_idivN C (by omega) (by omega) (by omega) dX9_mend_3 ?_
  refine j_bipush C (nI 10) (by decide) dX9_mend_4 ?_
  refine j_iremN C (by omega) (by omega) (by omega) dX9_mend_6 ?_
  refine j_istore C [(4, .int (nI ((c / 10) % 10))), (0, .ref (g 32)), (1, .ref (g 34)), (2, .int (nI c)), (3, .ref (g 36))] (by decide) rfl dX9_mend_7 ?_
  refine j_iload_n C 3 rfl dX9_mend_9 ?_
  refine j_bipush C (nI 10) (by decide) dX9_mend_10 ?_
  refine j_iremN C (by omega) (by omega) (by omega) dX9_mend_12 ?_
  refine j_istore C [(5, .int (nI (c % 10))), (4, .int (nI ((c / 10) % 10))), (0, .ref (g 32)), (1, .ref (g 34)), (2, .int (nI c)), (3, .ref (g 36))] (by decide) rfl dX9_mend_13 ?_
  refine j_aload_n C 3 rfl dX9_mend_15 ?_
  refine j_iconst C (nI 0) (by decide) dX9_mend_16 ?_
  refine j_aload_n C 5 rfl dX9_mend_17 ?_
  refine j_iconst C (nI 0) (by decide) dX9_mend_18 ?_
  refine j_bipush C (nI 7) (by decide) dX9_mend_19 ?_
  refine j_copy C tb_636 tb_96 tb_95 tb_6 34 36 rfl rfl 0 0 7 rfl rfl rfl (by omega) (by omega) (by decide) (by decide) (by decide) (Nat.le_of_ble_eq_true rfl) (w' := (cX g kk (sF σ 36 (va_cpy (σ.2.1 34) (σ.2.1 36) 0 0 7)))) rfl dX9_mend_21 ?_
  refine j_iload_n C 4 rfl dX9_mend_24 ?_
  refine j_bipush C (nI 100) (by decide) dX9_mend_25 ?_
  refine j_idivN C (by omega) (by omega) (by omega) dX9_mend_27 ?_
  rcases hmd with hmd | hmd | hmd
  · rw [hmd.1]
    refine j_look (off := 28) C 56 (by decide) (by decide) (by decide) dX9_mend_28 ?_
    refine j_aload_n C 5 rfl dX9_mend_56 ?_
    refine j_iload C 1 rfl dX9_mend_57 ?_
    refine j_aload_n C 3 rfl dX9_mend_59 ?_
    refine j_iload C 1 rfl dX9_mend_60 ?_
    refine j_iconst C (nI 1) (by decide) dX9_mend_62 ?_
    refine j_iaddN C dX9_mend_63 ?_
    refine rX_34 C (((c / 10) % 10) + 1) rfl (by omega) (nI (r0 (c / 10 % 10 + 1))) (r7_v hR7 (by omega)) dX9_mend_64 ?_
    refine tX_36 C ((c / 10) % 10) rfl (by omega) dX9_mend_65 ?_
    refine j_aload_n C 5 rfl dX9_mend_66 ?_
    refine j_iload C 1 rfl dX9_mend_67 ?_
    refine j_iconst C (nI 1) (by decide) dX9_mend_69 ?_
    refine j_iaddN C dX9_mend_70 ?_
    refine j_aload_n C 3 rfl dX9_mend_71 ?_
    refine j_iload C 1 rfl dX9_mend_72 ?_
    refine rX_34 C ((c / 10) % 10) rfl (by omega) (nI (r0 (c / 10 % 10))) (r7_v hR7 (by omega)) dX9_mend_74 ?_
    refine tX_36 C (((c / 10) % 10) + 1) rfl (by omega) dX9_mend_75 ?_
    refine j_iconst C (nI 1) (by decide) dX9_mend_76 ?_
    refine j_w (cX g kk (sF σ 36 (upd (upd (va_cpy (σ.2.1 34) (σ.2.1 36) 0 0 7) ((c / 10) % 10) (nI (r0 (c / 10 % 10 + 1)))) (((c / 10) % 10) + 1) (nI (r0 (c / 10 % 10)))))) (congrArg (cX g kk) (show sF (sF (sF σ 36 (va_cpy (σ.2.1 34) (σ.2.1 36) 0 0 7)) 36 (upd (va_cpy (σ.2.1 34) (σ.2.1 36) 0 0 7) ((c / 10) % 10) (nI (r0 (c / 10 % 10 + 1))))) 36 (upd (upd (va_cpy (σ.2.1 34) (σ.2.1 36) 0 0 7) ((c / 10) % 10) (nI (r0 (c / 10 % 10 + 1)))) (((c / 10) % 10) + 1) (nI (r0 (c / 10 % 10)))) = sF σ 36 (upd (upd (va_cpy (σ.2.1 34) (σ.2.1 36) 0 0 7) ((c / 10) % 10) (nI (r0 (c / 10 % 10 + 1)))) (((c / 10) % 10) + 1) (nI (r0 (c / 10 % 10)))) from (Eq.trans (wrF wrFs) wrFs))) ?_
    exact j_zret C E (by first | rfl | decide) (sF σ 36 (upd (upd (va_cpy (σ.2.1 34) (σ.2.1 36) 0 0 7) ((c / 10) % 10) (nI (r0 (c / 10 % 10 + 1)))) (((c / 10) % 10) + 1) (nI (r0 (c / 10 % 10))))) ⟨_, rfl, ⟨(upd (upd (va_cpy (σ.2.1 34) (σ.2.1 36) 0 0 7) ((c / 10) % 10) (nI (r0 (c / 10 % 10 + 1)))) (((c / 10) % 10) + 1) (nI (r0 (c / 10 % 10)))), rfl, (Or.inl ⟨_, mdV_0 hmd.1, rfl, r7_0 hR7 hmd.2⟩)⟩⟩ rfl dX9_mend_77
  · rw [hmd.1]
    refine j_look (off := 50) C 78 (by decide) (by decide) (by decide) dX9_mend_28 ?_
    refine j_aload_n C 3 rfl dX9_mend_78 ?_
    refine j_iload C 1 rfl dX9_mend_79 ?_
    refine j_aload_n C 5 rfl dX9_mend_81 ?_
    refine j_iload C 1 rfl dX9_mend_82 ?_
    refine j_iconst C (nI 1) (by decide) dX9_mend_84 ?_
    refine j_isubN C (by omega) dX9_mend_85 ?_
    refine j_iload C 0 rfl dX9_mend_86 ?_
    refine j_iload C 1 rfl dX9_mend_88 ?_
    refine j_isubN C (by omega) dX9_mend_90 ?_
    refine j_iconst C (nI 1) (by decide) dX9_mend_91 ?_
    refine j_iaddN C dX9_mend_92 ?_
    refine j_copy C tb_636 tb_96 tb_95 tb_6 34 36 rfl rfl ((c / 10) % 10) (((c / 10) % 10) - 1) (((c % 10) - ((c / 10) % 10)) + 1) rfl rfl rfl (by omega) (by omega) (by decide) (by decide) (by decide) (Nat.le_of_ble_eq_true rfl) (w' := (cX g kk (sF (sF σ 36 (va_cpy (σ.2.1 34) (σ.2.1 36) 0 0 7)) 36 (va_cpy (σ.2.1 34) (va_cpy (σ.2.1 34) (σ.2.1 36) 0 0 7) ((c / 10) % 10) (((c / 10) % 10) - 1) (((c % 10) - ((c / 10) % 10)) + 1))))) rfl dX9_mend_93 ?_
    refine j_aload_n C 5 rfl dX9_mend_96 ?_
    refine j_iload C 0 rfl dX9_mend_97 ?_
    refine j_iconst C (nI 0) (by decide) dX9_mend_99 ?_
    refine tX_36 C (c % 10) rfl (by omega) dX9_mend_100 ?_
    refine j_iconst C (nI 1) (by decide) dX9_mend_101 ?_
    refine j_w (cX g kk (sF σ 36 (upd (va_cpy (σ.2.1 34) (va_cpy (σ.2.1 34) (σ.2.1 36) 0 0 7) ((c / 10) % 10) (((c / 10) % 10) - 1) (((c % 10) - ((c / 10) % 10)) + 1)) (c % 10) (nI 0)))) (congrArg (cX g kk) (show sF (sF (sF σ 36 (va_cpy (σ.2.1 34) (σ.2.1 36) 0 0 7)) 36 (va_cpy (σ.2.1 34) (va_cpy (σ.2.1 34) (σ.2.1 36) 0 0 7) ((c / 10) % 10) (((c / 10) % 10) - 1) (((c % 10) - ((c / 10) % 10)) + 1))) 36 (upd (va_cpy (σ.2.1 34) (va_cpy (σ.2.1 34) (σ.2.1 36) 0 0 7) ((c / 10) % 10) (((c / 10) % 10) - 1) (((c % 10) - ((c / 10) % 10)) + 1)) (c % 10) (nI 0)) = sF σ 36 (upd (va_cpy (σ.2.1 34) (va_cpy (σ.2.1 34) (σ.2.1 36) 0 0 7) ((c / 10) % 10) (((c / 10) % 10) - 1) (((c % 10) - ((c / 10) % 10)) + 1)) (c % 10) (nI 0)) from (Eq.trans (wrF wrFs) wrFs))) ?_
    exact j_zret C E (by first | rfl | decide) (sF σ 36 (upd (va_cpy (σ.2.1 34) (va_cpy (σ.2.1 34) (σ.2.1 36) 0 0 7) ((c / 10) % 10) (((c / 10) % 10) - 1) (((c % 10) - ((c / 10) % 10)) + 1)) (c % 10) (nI 0))) ⟨_, rfl, ⟨(upd (va_cpy (σ.2.1 34) (va_cpy (σ.2.1 34) (σ.2.1 36) 0 0 7) ((c / 10) % 10) (((c / 10) % 10) - 1) (((c % 10) - ((c / 10) % 10)) + 1)) (c % 10) (nI 0)), rfl, (Or.inl ⟨_, mdV_1 hmd.1, rfl, r7_1 hR7 hmd.2.1 hmd.2.2.1 hmd.2.2.2⟩)⟩⟩ rfl dX9_mend_102
  · rw [hmd.1]
    refine j_look (off := 75) C 103 (by decide) (by decide) (by decide) dX9_mend_28 ?_
    refine j_iload C 1 rfl dX9_mend_103 ?_
    refine j_istore C [(6, .int (nI ((c / 10) % 10))), (5, .int (nI (c % 10))), (4, .int (nI ((c / 10) % 10))), (0, .ref (g 32)), (1, .ref (g 34)), (2, .int (nI c)), (3, .ref (g 36))] (by decide) rfl dX9_mend_105 ?_
    have L107 : ∀ (n107 : Nat) (i : Nat) (i107_0 : c / 10 % 10 ≤ i) (i107_1 : i ≤ c % 10) (hz : ∀ x, c / 10 % 10 ≤ x → x < i → r0 x = 0) (hm107 : 7 - i < n107), J X 0 0 (cX g kk (sF σ 36 (va_cpy (σ.2.1 34) (σ.2.1 36) 0 0 7))) [(6, .int (nI i)), (5, .int (nI (c % 10))), (4, .int (nI ((c / 10) % 10))), (0, .ref (g 32)), (1, .ref (g 34)), (2, .int (nI c)), (3, .ref (g 36))] 107 [] := by
      intro n107
      induction n107 with
      | zero => intro i i107_0 i107_1 hz hm; exact absurd hm (Nat.not_lt_zero _)
      | succ n107 ih107 =>
        intro i i107_0 i107_1 hz hm107
        refine j_iload C 0 rfl dX9_mend_107 ?_
        refine j_iload C 1 rfl dX9_mend_109 ?_
        refine j_icmp_geN C 129 (by decide) (by omega) (by omega) dX9_mend_111 (fun c1 => ?_) (fun c1 => ?_)
        · refine j_aload_n C 6 rfl dX9_mend_129 ?_
          refine j_iload C 2 rfl dX9_mend_130 ?_
          refine j_iload C 1 rfl dX9_mend_132 ?_
          refine j_aload_n C 4 rfl dX9_mend_134 ?_
          refine j_iload C 1 rfl dX9_mend_135 ?_
          refine rX_34 C (c % 10) rfl (by omega) (nI (r0 (c % 10))) (r7_v hR7 (by omega)) dX9_mend_137 ?_
          have hrj := (hR7 (c % 10) (by omega)).2
          refine j_aload_n C 3 rfl dX9_mend_138 ?_
          refine gX_32_3 C tb_240 dX9_mend_139 ?_
          refine j_SN1 C (e_part_36_35 g kk (sF σ 36 (va_cpy (σ.2.1 34) (σ.2.1 36) 0 0 7)) k hk hk6 hI ((c / 10) % 10) (by first | assumption | omega) (c % 10) (by omega) (by first | assumption | omega) (r0 (c % 10)) (hR7 (c % 10) (by omega)).2 (fun i h1 h2 => r7_lm hE7 (by omega))) kyX10_part (fun _ h => h.2.2.2.2.1) tb_597 rfl (Nat.le_of_ble_eq_true rfl) ⟨by decide, by decide⟩ dX9_mend_142 rfl (fun vr ur hp => ?_)
          obtain ⟨rfl, w2, hu, g3⟩ := hp
          replace hu := hu.symm
          subst hu
          refine j_iconst C (nI 1) (by decide) dX9_mend_145 ?_
          refine j_w (cX g kk (sF σ 36 w2)) (congrArg (cX g kk) (show sF (sF σ 36 (va_cpy (σ.2.1 34) (σ.2.1 36) 0 0 7)) 36 w2 = sF σ 36 w2 from wrFs)) ?_
          exact j_zret C E (by first | rfl | decide) (sF σ 36 w2) ⟨_, rfl, ⟨w2, rfl, (Or.inl ⟨_, mdV_2 hmd.1 (fun x x1 x2 => hz x x1 (by omega)), rfl, r7_2 hR7 hmd.2.1 hmd.2.2 (fun x hx => r7_c hE7 hx) g3⟩)⟩⟩ rfl dX9_mend_146
        · refine j_aload_n C 4 rfl dX9_mend_114 ?_
          refine j_iload C 0 rfl dX9_mend_115 ?_
          refine rX_34 C i rfl (by omega) (nI (r0 i)) (r7_v hR7 (by omega)) dX9_mend_117 ?_
          have hri := (hR7 i (by omega)).2
          refine j_if_eqN C 123 (by decide) (by omega) dX9_mend_118 (fun c4 => ?_) (fun c4 => ?_)
          · refine j_iinc C (nI (i + 1)) [(6, .int (nI (i + 1))), (5, .int (nI (c % 10))), (4, .int (nI ((c / 10) % 10))), (0, .ref (g 32)), (1, .ref (g 34)), (2, .int (nI c)), (3, .ref (g 36))] 0 rfl (by rw [show Int32.ofInt 1 = nI 1 from by decide, nI_add]) (by decide) rfl dX9_mend_123 ?_
            refine j_goto C 107 (by decide) dX9_mend_126 ?_
            exact ih107 (i + 1) (by omega) (by omega) (fun x x1 x2 => by by_cases w : x = i; (rw [w]; omega); exact hz x x1 (by omega)) (by omega)
          · refine j_iconst C (nI 0) (by decide) dX9_mend_121 ?_
            exact j_zret C E (by first | rfl | decide) (sF σ 36 (va_cpy (σ.2.1 34) (σ.2.1 36) 0 0 7)) ⟨_, rfl, ⟨(va_cpy (σ.2.1 34) (σ.2.1 36) 0 0 7), rfl, (Or.inr ⟨mdV_n hmd.1 (x := i) (by omega) (by omega) (by omega), rfl⟩)⟩⟩ rfl dX9_mend_122
    exact L107 _ ((c / 10) % 10) (by omega) (by omega) (fun x x1 x2 => absurd x2 (by omega)) (Nat.lt_succ_self _)
set_option maxRecDepth 100000 in
set_option maxHeartbeats 4000000 in
theorem e_mend_36_37 (g kk : Nat → Nat) (σ : St) (k : Nat) (hk : σ.1 16 = nI k) (hk6 : k ≤ 6) (hI : iX σ) (Ew r0 : Nat → Nat) (hE7 : R7 (σ.2.1 35) 0 Ew) (hR7 : R7 (σ.2.1 36) 0 r0) (c : Nat) (hc0 : (mdP c ∧ c < 257)) : jM (S := St) yX9_mend cX9_mend 7 (some .boolean) { frames := 2, cells := 0, slots := 0, locals := 60 } kk (cX g kk σ) [.ref (g 32), .ref (g 36), .int (nI c), .ref (g 37)] (cX g kk) (rI (fun (r : Int32) (u : St) => ∃ (pF37 : Nat → Int32), u = sF σ 37 pF37 ∧ ((∃ q : Nat → Nat, mdV Ew r0 c = some q ∧ r = nI 1 ∧ R7 pF37 0 q) ∨ (mdV Ew r0 c = none ∧ r = nI 0)))) := by
  refine j_entry [(0, .ref (g 32)), (1, .ref (g 36)), (2, .int (nI c)), (3, .ref (g 37))] (by decide) (Nat.le_of_ble_eq_true rfl) rfl ?_
  intro X C E HI
  obtain ⟨hmd, hc257⟩ := hc0
  unfold mdP at hmd
  refine j_iload_n C 2 rfl dX9_mend_0 ?_
  refine j_bipush C (nI 10) (by decide) dX9_mend_1 ?_
  refine j_idivN C (by omega) (by omega) (by omega) dX9_mend_3 ?_
  refine j_bipush C (nI 10) (by decide) dX9_mend_4 ?_
  refine j_iremN C (by omega) (by omega) (by omega) dX9_mend_6 ?_
  refine j_istore C [(4, .int (nI ((c / 10) % 10))), (0, .ref (g 32)), (1, .ref (g 36)), (2, .int (nI c)), (3, .ref (g 37))] (by decide) rfl dX9_mend_7 ?_
  refine j_iload_n C 3 rfl dX9_mend_9 ?_
  refine j_bipush C (nI 10) (by decide) dX9_mend_10 ?_
  refine j_iremN C (by omega) (by omega) (by omega) dX9_mend_12 ?_
  refine j_istore C [(5, .int (nI (c % 10))), (4, .int (nI ((c / 10) % 10))), (0, .ref (g 32)), (1, .ref (g 36)), (2, .int (nI c)), (3, .ref (g 37))] (by decide) rfl dX9_mend_13 ?_
  refine j_aload_n C 3 rfl dX9_mend_15 ?_
  refine j_iconst C (nI 0) (by decide) dX9_mend_16 ?_
  refine j_aload_n C 5 rfl dX9_mend_17 ?_
  refine j_iconst C (nI 0) (by decide) dX9_mend_18 ?_
  refine j_bipush C (nI 7) (by decide) dX9_mend_19 ?_
  refine j_copy C tb_636 tb_96 tb_95 tb_6 36 37 rfl rfl 0 0 7 rfl rfl rfl (by omega) (by omega) (by decide) (by decide) (by decide) (Nat.le_of_ble_eq_true rfl) (w' := (cX g kk (sF σ 37 (va_cpy (σ.2.1 36) (σ.2.1 37) 0 0 7)))) rfl dX9_mend_21 ?_
  refine j_iload_n C 4 rfl dX9_mend_24 ?_
  refine j_bipush C (nI 100) (by decide) dX9_mend_25 ?_
  refine j_idivN C (by omega) (by omega) (by omega) dX9_mend_27 ?_
  rcases hmd with hmd | hmd | hmd
  · rw [hmd.1]
    refine j_look (off := 28) C 56 (by decide) (by decide) (by decide) dX9_mend_28 ?_
    refine j_aload_n C 5 rfl dX9_mend_56 ?_
    refine j_iload C 1 rfl dX9_mend_57 ?_
    refine j_aload_n C 3 rfl dX9_mend_59 ?_
    refine j_iload C 1 rfl dX9_mend_60 ?_
    refine j_iconst C (nI 1) (by decide) dX9_mend_62 ?_
    refine j_iaddN C dX9_mend_63 ?_
    refine rX_36 C (((c / 10) % 10) + 1) rfl (by omega) (nI (r0 (c / 10 % 10 + 1))) (r7_v hR7 (by omega)) dX9_mend_64 ?_
    refine tX_37 C ((c / 10) % 10) rfl (by omega) dX9_mend_65 ?_
    refine j_aload_n C 5 rfl dX9_mend_66 ?_
    refine j_iload C 1 rfl dX9_mend_67 ?_
    refine j_iconst C (nI 1) (by decide) dX9_mend_69 ?_
    refine j_iaddN C dX9_mend_70 ?_
    refine j_aload_n C 3 rfl dX9_mend_71 ?_
    refine j_iload C 1 rfl dX9_mend_72 ?_
    refine rX_36 C ((c / 10) % 10) rfl (by omega) (nI (r0 (c / 10 % 10))) (r7_v hR7 (by omega)) dX9_mend_74 ?_
    refine tX_37 C (((c / 10) % 10) + 1) rfl (by omega) dX9_mend_75 ?_
    refine j_iconst C (nI 1) (by decide) dX9_mend_76 ?_
    refine j_w (cX g kk (sF σ 37 (upd (upd (va_cpy (σ.2.1 36) (σ.2.1 37) 0 0 7) ((c / 10) % 10) (nI (r0 (c / 10 % 10 + 1)))) (((c / 10) % 10) + 1) (nI (r0 (c / 10 % 10)))))) (congrArg (cX g kk) (show sF (sF (sF σ 37 (va_cpy (σ.2.1 36) (σ.2.1 37) 0 0 7)) 37 (upd (va_cpy (σ.2.1 36) (σ.2.1 37) 0 0 7) ((c / 10) % 10) (nI (r0 (c / 10 % 10 + 1))))) 37 (upd (upd (va_cpy (σ.2.1 36) (σ.2.1 37) 0 0 7) ((c / 10) % 10) (nI (r0 (c / 10 % 10 + 1)))) (((c / 10) % 10) + 1) (nI (r0 (c / 10 % 10)))) = sF σ 37 (upd (upd (va_cpy (σ.2.1 36) (σ.2.1 37) 0 0 7) ((c / 10) % 10) (nI (r0 (c / 10 % 10 + 1)))) (((c / 10) % 10) + 1) (nI (r0 (c / 10 % 10)))) from (Eq.trans (wrF wrFs) wrFs))) ?_
    exact j_zret C E (by first | rfl | decide) (sF σ 37 (upd (upd (va_cpy (σ.2.1 36) (σ.2.1 37) 0 0 7) ((c / 10) % 10) (nI (r0 (c / 10 % 10 + 1)))) (((c / 10) % 10) + 1) (nI (r0 (c / 10 % 10))))) ⟨_, rfl, ⟨(upd (upd (va_cpy (σ.2.1 36) (σ.2.1 37) 0 0 7) ((c / 10) % 10) (nI (r0 (c / 10 % 10 + 1)))) (((c / 10) % 10) + 1) (nI (r0 (c / 10 % 10)))), rfl, (Or.inl ⟨_, mdV_0 hmd.1, rfl, r7_0 hR7 hmd.2⟩)⟩⟩ rfl dX9_mend_77
  · rw [hmd.1]
    refine j_look (off := 50) C 78 (by decide) (by decide) (by decide) dX9_mend_28 ?_
    refine j_aload_n C 3 rfl dX9_mend_78 ?_
    refine j_iload C 1 rfl dX9_mend_79 ?_
    refine j_aload_n C 5 rfl dX9_mend_81 ?_
    refine j_iload C 1 rfl dX9_mend_82 ?_
    refine j_iconst C (nI 1) (by decide) dX9_mend_84 ?_
    refine j_isubN C (by omega) dX9_mend_85 ?_
    refine j_iload C 0 rfl dX9_mend_86 ?_
    refine j_iload C 1 rfl dX9_mend_88 ?_
    refine j_isubN C (by omega) dX9_mend_90 ?_
    refine j_iconst C (nI 1) (by decide) dX9_mend_91 ?_
    refine j_iaddN C dX9_mend_92 ?_
    refine j_copy C tb_636 tb_96 tb_95 tb_6 36 37 rfl rfl ((c / 10) % 10) (((c / 10) % 10) - 1) (((c % 10) - ((c / 10) % 10)) + 1) rfl rfl rfl (by omega) (by omega) (by decide) (by decide) (by decide) (Nat.le_of_ble_eq_true rfl) (w' := (cX g kk (sF (sF σ 37 (va_cpy (σ.2.1 36) (σ.2.1 37) 0 0 7)) 37 (va_cpy (σ.2.1 36) (va_cpy (σ.2.1 36) (σ.2.1 37) 0 0 7) ((c / 10) % 10) (((c / 10) % 10) - 1) (((c % 10) - ((c / 10) % 10)) + 1))))) rfl dX9_mend_93 ?_
    refine j_aload_n C 5 rfl dX9_mend_96 ?_
    refine j_iload C 0 rfl dX9_mend_97 ?_
    refine j_iconst C (nI 0) (by decide) dX9_mend_99 ?_
    refine tX_37 C (c % 10) rfl (by omega) dX9_mend_100 ?_
    refine j_iconst C (nI 1) (by decide) dX9_mend_101 ?_
    refine j_w (cX g kk (sF σ 37 (upd (va_cpy (σ.2.1 36) (va_cpy (σ.2.1 36) (σ.2.1 37) 0 0 7) ((c / 10) % 10) (((c / 10) % 10) - 1) (((c % 10) - ((c / 10) % 10)) + 1)) (c % 10) (nI 0)))) (congrArg (cX g kk) (show sF (sF (sF σ 37 (va_cpy (σ.2.1 36) (σ.2.1 37) 0 0 7)) 37 (va_cpy (σ.2.1 36) (va_cpy (σ.2.1 36) (σ.2.1 37) 0 0 7) ((c / 10) % 10) (((c / 10) % 10) - 1) (((c % 10) - ((c / 10) % 10)) + 1))) 37 (upd (va_cpy (σ.2.1 36) (va_cpy (σ.2.1 36) (σ.2.1 37) 0 0 7) ((c / 10) % 10) (((c / 10) % 10) - 1) (((c % 10) - ((c / 10) % 10)) + 1)) (c % 10) (nI 0)) = sF σ 37 (upd (va_cpy (σ.2.1 36) (va_cpy (σ.2.1 36) (σ.2.1 37) 0 0 7) ((c / 10) % 10) (((c / 10) % 10) - 1) (((c % 10) - ((c / 10) % 10)) + 1)) (c % 10) (nI 0)) from (Eq.trans (wrF wrFs) wrFs))) ?_
    exact j_zret C E (by first | rfl | decide) (sF σ 37 (upd (va_cpy (σ.2.1 36) (va_cpy (σ.2.1 36) (σ.2.1 37) 0 0 7) ((c / 10) % 10) (((c / 10) % 10) - 1) (((c % 10) - ((c / 10) % 10)) + 1)) (c % 10) (nI 0))) ⟨_, rfl, ⟨(upd (va_cpy (σ.2.1 36) (va_cpy (σ.2.1 36) (σ.2.1 37) 0 0 7) ((c / 10) % 10) (((c / 10) % 10) - 1) (((c % 10) - ((c / 10) % 10)) + 1)) (c % 10) (nI 0)), rfl, (Or.inl ⟨_, mdV_1 hmd.1, rfl, r7_1 hR7 hmd.2.1 hmd.2.2.1 hmd.2.2.2⟩)⟩⟩ rfl dX9_mend_102
  · rw [hmd.1]
    refine j_look (off := 75) C 103 (by decide) (by decide) (by decide) dX9_mend_28 ?_
    refine j_iload C 1 rfl dX9_mend_103 ?_
    refine j_istore C [(6, .int (nI ((c / 10) % 10))), (5, .int (nI (c % 10))), (4, .int (nI ((c / 10) % 10))), (0, .ref (g 32)), (1, .ref (g 36)), (2, .int (nI c)), (3, .ref (g 37))] (by decide) rfl dX9_mend_105 ?_
    have L107 : ∀ (n107 : Nat) (i : Nat) (i107_0 : c / 10 % 10 ≤ i) (i107_1 : i ≤ c % 10) (hz : ∀ x, c / 10 % 10 ≤ x → x < i → r0 x = 0) (hm107 : 7 - i < n107), J X 0 0 (cX g kk (sF σ 37 (va_cpy (σ.2.1 36) (σ.2.1 37) 0 0 7))) [(6, .int (nI i)), (5, .int (nI (c % 10))), (4, .int (nI ((c / 10) % 10))), (0, .ref (g 32)), (1, .ref (g 36)), (2, .int (nI c)), (3, .ref (g 37))] 107 [] := by
      intro n107
      induction n107 with
      | zero => intro i i107_0 i107_1 hz hm; exact absurd hm (Nat.not_lt_zero _)
      | succ n107 ih107 =>
        intro i i107_0 i107_1 hz hm107
        refine j_iload C 0 rfl dX9_mend_107 ?_
        refine j_iload C 1 rfl dX9_mend_109 ?_
        refine j_icmp_geN C 129 (by decide) (by omega) (by omega) dX9_mend_111 (fun c1 => ?_) (fun c1 => ?_)
        · refine j_aload_n C 6 rfl dX9_mend_129 ?_
          refine j_iload C 2 rfl dX9_mend_130 ?_
          refine j_iload C 1 rfl dX9_mend_132 ?_
          refine j_aload_n C 4 rfl dX9_mend_134 ?_
          refine j_iload C 1 rfl dX9_mend_135 ?_
          refine rX_36 C (c % 10) rfl (by omega) (nI (r0 (c % 10))) (r7_v hR7 (by omega)) dX9_mend_137 ?_
          have hrj := (hR7 (c % 10) (by omega)).2
          refine j_aload_n C 3 rfl dX9_mend_138 ?_
          refine gX_32_3 C tb_240 dX9_mend_139 ?_
          refine j_SN1 C (e_part_37_35 g kk (sF σ 37 (va_cpy (σ.2.1 36) (σ.2.1 37) 0 0 7)) k hk hk6 hI ((c / 10) % 10) (by first | assumption | omega) (c % 10) (by omega) (by first | assumption | omega) (r0 (c % 10)) (hR7 (c % 10) (by omega)).2 (fun i h1 h2 => r7_lm hE7 (by omega))) kyX10_part (fun _ h => h.2.2.2.2.1) tb_597 rfl (Nat.le_of_ble_eq_true rfl) ⟨by decide, by decide⟩ dX9_mend_142 rfl (fun vr ur hp => ?_)
          obtain ⟨rfl, w2, hu, g3⟩ := hp
          replace hu := hu.symm
          subst hu
          refine j_iconst C (nI 1) (by decide) dX9_mend_145 ?_
          refine j_w (cX g kk (sF σ 37 w2)) (congrArg (cX g kk) (show sF (sF σ 37 (va_cpy (σ.2.1 36) (σ.2.1 37) 0 0 7)) 37 w2 = sF σ 37 w2 from wrFs)) ?_
          exact j_zret C E (by first | rfl | decide) (sF σ 37 w2) ⟨_, rfl, ⟨w2, rfl, (Or.inl ⟨_, mdV_2 hmd.1 (fun x x1 x2 => hz x x1 (by omega)), rfl, r7_2 hR7 hmd.2.1 hmd.2.2 (fun x hx => r7_c hE7 hx) g3⟩)⟩⟩ rfl dX9_mend_146
        · refine j_aload_n C 4 rfl dX9_mend_114 ?_
          refine j_iload C 0 rfl dX9_mend_115 ?_
          refine rX_36 C i rfl (by omega) (nI (r0 i)) (r7_v hR7 (by omega)) dX9_mend_117 ?_
          have hri := (hR7 i (by omega)).2
          refine j_if_eqN C 123 (by decide) (by omega) dX9_mend_118 (fun c4 => ?_) (fun c4 => ?_)
          · refine j_iinc C (nI (i + 1)) [(6, .int (nI (i + 1))), (5, .int (nI (c % 10))), (4, .int (nI ((c / 10) % 10))), (0, .ref (g 32)), (1, .ref (g 36)), (2, .int (nI c)), (3, .ref (g 37))] 0 rfl (by rw [show Int32.ofInt 1 = nI 1 from by decide, nI_add]) (by decide) rfl dX9_mend_123 ?_
            refine j_goto C 107 (by decide) dX9_mend_126 ?_
            exact ih107 (i + 1) (by omega) (by omega) (fun x x1 x2 => by by_cases w : x = i; (rw [w]; omega); exact hz x x1 (by omega)) (by omega)
          · refine j_iconst C (nI 0) (by decide) dX9_mend_121 ?_
            exact j_zret C E (by first | rfl | decide) (sF σ 37 (va_cpy (σ.2.1 36) (σ.2.1 37) 0 0 7)) ⟨_, rfl, ⟨(va_cpy (σ.2.1 36) (σ.2.1 37) 0 0 7), rfl, (Or.inr ⟨mdV_n hmd.1 (x := i) (by omega) (by omega) (by omega), rfl⟩)⟩⟩ rfl dX9_mend_122
    exact L107 _ ((c / 10) % 10) (by omega) (by omega) (fun x x1 x2 => absurd x2 (by omega)) (Nat.lt_succ_self _)
set_option maxRecDepth 100000 in
set_option maxHeartbeats 4000000 in
theorem e_keepBetter (g kk : Nat → Nat) (σ : St) (k : Nat) (hk : σ.1 16 = nI k) (hk6 : k ≤ 6) (hI : iX σ) (co : Nat) (hco : σ.1 518 = nI co) (hcob : co ≤ 100000) (m : Nat) (hm0 : m ≤ 100000) (n : Nat) (f : Int32) (s : Int32) : jM (S := St) yX9_keepBetter cX9_keepBetter 5 none { frames := 0, cells := 0, slots := 0, locals := 0 } kk (cX g kk σ) [.ref (g 32), .int (nI m), .int (nI n), .int f, .int s] (cX g kk) (rV (fun u : St => ∃ (co2 : Nat) (pI519 : Int32) (pI520 : Int32) (pI521 : Int32), u = sI (sI (sI (sI σ 518 (nI co2)) 519 pI519) 520 pI520) 521 pI521 ∧ ((m < co ∧ co2 = m ∧ pI519 = nI n ∧ pI520 = f ∧ pI521 = s) ∨ (¬ m < co ∧ co2 = co ∧ pI519 = σ.1 519 ∧ pI520 = σ.1 520 ∧ pI521 = σ.1 521)))) := by
  refine j_entry [(0, .ref (g 32)), (1, .int (nI m)), (2, .int (nI n)), (3, .int f), (4, .int s)] (by decide) (Nat.le_of_ble_eq_true rfl) rfl ?_
  intro X C E HI
  refine j_iload_n C 1 rfl dX9_keepBetter_0 ?_
  refine j_aload_n C 0 rfl dX9_keepBetter_1 ?_
  refine gX_32_6 C tb_243 (nI co) hco dX9_keepBetter_2 ?_
  refine j_icmp_geN C 29 (by decide) (by omega) (by omega) dX9_keepBetter_5 (fun c1 => ?_) (fun c1 => ?_)
  · refine j_w (cX g kk (sI σ 518 (nI co))) (congrArg (cX g kk) (sI_self (σ := σ) (i := 518) (v := nI co) hco).symm) ?_
    refine j_w (cX g kk (sI (sI σ 518 (nI co)) 519 (σ.1 519))) (congrArg (cX g kk) (wrIi (S := (sI σ 518 (nI co))) (c := 519) (v := σ.1 519) (gtII (by decide) rfl))) ?_
    refine j_w (cX g kk (sI (sI (sI σ 518 (nI co)) 519 (σ.1 519)) 520 (σ.1 520))) (congrArg (cX g kk) (wrIi (S := (sI (sI σ 518 (nI co)) 519 (σ.1 519))) (c := 520) (v := σ.1 520) (gtII (by decide) (gtII (by decide) rfl)))) ?_
    refine j_w (cX g kk (sI (sI (sI (sI σ 518 (nI co)) 519 (σ.1 519)) 520 (σ.1 520)) 521 (σ.1 521))) (congrArg (cX g kk) (wrIi (S := (sI (sI (sI σ 518 (nI co)) 519 (σ.1 519)) 520 (σ.1 520))) (c := 521) (v := σ.1 521) (gtII (by decide) (gtII (by decide) (gtII (by decide) rfl))))) ?_
    exact j_vret C E (sI (sI (sI (sI σ 518 (nI co)) 519 (σ.1 519)) 520 (σ.1 520)) 521 (σ.1 521)) ⟨rfl, ⟨co, (σ.1 519), (σ.1 520), (σ.1 521), rfl, (Or.inr ⟨by omega, rfl, rfl, rfl, rfl⟩)⟩⟩ rfl dX9_keepBetter_29
  · refine j_aload_n C 0 rfl dX9_keepBetter_8 ?_
    refine j_iload_n C 1 rfl dX9_keepBetter_9 ?_
    refine pX_32_6 C tb_243 dX9_keepBetter_10 ?_
    refine j_aload_n C 0 rfl dX9_keepBetter_13 ?_
    refine j_iload_n C 2 rfl dX9_keepBetter_14 ?_
    refine pX_32_7 C tb_245 dX9_keepBetter_15 ?_
    refine j_aload_n C 0 rfl dX9_keepBetter_18 ?_
    refine j_iload_n C 3 rfl dX9_keepBetter_19 ?_
    refine pX_32_8 C tb_247 dX9_keepBetter_20 ?_
    refine j_aload_n C 0 rfl dX9_keepBetter_23 ?_
    refine j_iload C 4 rfl dX9_keepBetter_24 ?_
    refine pX_32_9 C tb_249 dX9_keepBetter_26 ?_
    exact j_vret C E (sI (sI (sI (sI σ 518 (nI m)) 519 (nI n)) 520 f) 521 s) ⟨rfl, ⟨m, (nI n), f, s, rfl, (Or.inl ⟨by omega, rfl, rfl, rfl, rfl⟩)⟩⟩ rfl dX9_keepBetter_29
set_option maxRecDepth 100000 in
set_option maxHeartbeats 4000000 in
theorem e_tryOne (g kk : Nat → Nat) (σ : St) (k : Nat) (hk : σ.1 16 = nI k) (hk6 : k ≤ 6) (hI : iX σ) (G : GD) (hX : HX G k σ) (Ew r0 : Nat → Nat) (hE7 : R7 (σ.2.1 35) 0 Ew) (hR7 : R7 (σ.2.1 34) 0 r0) (co : Nat) (hco : σ.1 518 = nI co) (hcob : co ≤ 100000) (hk0 : KX4 (bw1 Ew r0 (zS G 1) 0) co (σ.1 519) (σ.1 520) (σ.1 521))  : jM (S := St) yX9_tryOne cX9_tryOne 3 none { frames := 3, cells := 0, slots := 0, locals := 86 } kk (cX g kk σ) [.ref (g 32)] (cX g kk) (rV (fun u : St => ∃ (pF36 : Nat → Int32) (co2 : Nat) (pI519 : Int32) (pI520 : Int32) (pI521 : Int32), u = sI (sI (sI (sI (sF σ 36 pF36) 518 (nI co2)) 519 pI519) 520 pI520) 521 pI521 ∧ (co2 ≤ 100000 ∧ KX4 (bw1 Ew r0 (zS G 1) 38) co2 pI519 pI520 pI521))) := by
  refine j_entry [(0, .ref (g 32))] (by decide) (Nat.le_of_ble_eq_true rfl) rfl ?_
  intro X C E HI
  have hs9 : zS G 1 ≤ 999 := hX.W.2.2.2.2.1
  have hEb : B7 Ew := fun x hx => (hE7 x hx).2
  refine j_aload_n C 0 rfl dX9_tryOne_0 ?_
  refine gX_32_0 C tb_237 dX9_tryOne_1 ?_
  refine gX_27_0 C tb_201 dX9_tryOne_4 ?_
  refine gX_1_9 C tb_127 dX9_tryOne_7 ?_
  refine j_iconst C (nI 1) (by decide) dX9_tryOne_10 ?_
  refine rX_10 C 1 rfl (by omega) (nI (zS G 1)) (hX.S (by decide)) dX9_tryOne_11 ?_
  refine j_istore_n C [(1, .int (nI (zS G 1))), (0, .ref (g 32))] rfl (by decide) rfl dX9_tryOne_12 ?_
  refine j_iconst C (nI 0) (by decide) dX9_tryOne_13 ?_
  refine j_istore_n C [(2, .int (nI 0)), (1, .int (nI (zS G 1))), (0, .ref (g 32))] rfl (by decide) rfl dX9_tryOne_14 ?_
  have L15 : ∀ (n15 : Nat) (a : Nat) (z15_F36 : Nat → Int32) (co3 : Nat) (z15_I519 : Int32) (z15_I520 : Int32) (z15_I521 : Int32) (i15_0 : a ≤ 38) (i15_1 : co3 ≤ 100000) (hK1 : KX4 (bw1 Ew r0 (zS G 1) a) co3 z15_I519 z15_I520 z15_I521) (hm15 : 38 - a < n15), J X 0 0 (cX g kk (sI (sI (sI (sI (sF σ 36 z15_F36) 518 (nI co3)) 519 z15_I519) 520 z15_I520) 521 z15_I521)) [(2, .int (nI a)), (1, .int (nI (zS G 1))), (0, .ref (g 32))] 15 [] := by
    intro n15
    induction n15 with
    | zero => intro a z15_F36 co3 z15_I519 z15_I520 z15_I521 i15_0 i15_1 hK1 hm; exact absurd hm (Nat.not_lt_zero _)
    | succ n15 ih15 =>
      intro a z15_F36 co3 z15_I519 z15_I520 z15_I521 i15_0 i15_1 hK1 hm15
      refine j_iload_n C 0 rfl dX9_tryOne_15 ?_
      refine j_bipush C (nI 38) (by decide) dX9_tryOne_16 ?_
      refine j_icmp_geN C 70 (by decide) (by omega) (by omega) dX9_tryOne_18 (fun c1 => ?_) (fun c1 => ?_)
      · exact j_vret C E (sI (sI (sI (sI (sF σ 36 z15_F36) 518 (nI co3)) 519 z15_I519) 520 z15_I520) 521 z15_I521) ⟨rfl, ⟨z15_F36, co3, z15_I519, z15_I520, z15_I521, rfl, ⟨by omega, by have z := hK1; rw [show a = 38 by omega] at z; exact z⟩⟩⟩ rfl dX9_tryOne_70
      · refine j_aload_n C 2 rfl dX9_tryOne_21 ?_
        refine j_aload_n C 2 rfl dX9_tryOne_22 ?_
        refine gX_32_2 C tb_239 dX9_tryOne_23 ?_
        refine j_aload_n C 2 rfl dX9_tryOne_26 ?_
        refine gX_32_1 C tb_238 dX9_tryOne_27 ?_
        refine j_iload_n C 0 rfl dX9_tryOne_30 ?_
        refine rX_33 C a rfl (by omega) (nI (mdC a)) ((congrFun hI.code a).trans (mdC_wf ⟨a, by omega⟩)) dX9_tryOne_31 ?_
        refine j_aload_n C 2 rfl dX9_tryOne_32 ?_
        refine gX_32_4 C tb_241 dX9_tryOne_33 ?_
        refine j_V1 C (e_mend_34_36 g kk (sI (sI (sI (sI (sF σ 36 z15_F36) 518 (nI co3)) 519 z15_I519) 520 z15_I520) 521 z15_I521) k hk hk6 hI Ew r0 hE7 hR7 (mdC a) (mdC_md (by omega))) kyX9_mend tb_632 tb_634 sp_9 32 rfl (eX_32 g kk _) rfl (Nat.le_of_ble_eq_true rfl) ⟨by decide, by decide⟩ dX9_tryOne_36 rfl (fun vr ur hp => ?_)
        obtain ⟨r4, rfl, w2, hu, g3⟩ := hp
        replace hu := hu.symm
        subst hu
        rcases g3 with ⟨q9, hq9, hr9, hRq⟩ | ⟨hq9, hr9⟩
        · subst hr9
          refine j_if_eqN C 64 (by decide) (by omega) dX9_tryOne_39 (fun c5 => ?_) (fun c5 => ?_)
          · exact absurd c5 (by decide)
          · refine j_aload_n C 2 rfl dX9_tryOne_42 ?_
            refine j_aload_n C 2 rfl dX9_tryOne_43 ?_
            refine j_aload_n C 2 rfl dX9_tryOne_44 ?_
            refine gX_32_4 C tb_241 dX9_tryOne_45 ?_
            refine j_V1 C (e_misfit_36 g kk (sF (sI (sI (sI (sI (sF σ 36 z15_F36) 518 (nI co3)) 519 z15_I519) 520 z15_I520) 521 z15_I521) 36 w2) k hk hk6 hI Ew q9 hE7 hRq ) kyX9_misfit tb_623 tb_625 sp_7 32 rfl (eX_32 g kk _) rfl (Nat.le_of_ble_eq_true rfl) ⟨by decide, by decide⟩ dX9_tryOne_48 rfl (fun vr ur hp => ?_)
            obtain ⟨r7, rfl, hu, g6⟩ := hp
            replace hu := hu.symm
            subst hu
            subst g6
            have hmq := mis_b hEb (fun x hx => (hRq x hx).2)
            refine j_iload_n C 1 rfl dX9_tryOne_51 ?_
            refine j_iaddN C dX9_tryOne_52 ?_
            refine j_iconst C (nI 1) (by decide) dX9_tryOne_53 ?_
            refine j_aload_n C 2 rfl dX9_tryOne_54 ?_
            refine gX_32_1 C tb_238 dX9_tryOne_55 ?_
            refine j_iload_n C 0 rfl dX9_tryOne_58 ?_
            refine rX_33 C a rfl (by omega) (nI (mdC a)) ((congrFun hI.code a).trans (mdC_wf ⟨a, by omega⟩)) dX9_tryOne_59 ?_
            refine j_iconst C ((-1)) (by decide) dX9_tryOne_60 ?_
            refine j_V1 C (e_keepBetter g kk (sF (sI (sI (sI (sI (sF σ 36 z15_F36) 518 (nI co3)) 519 z15_I519) 520 z15_I520) 521 z15_I521) 36 w2) k hk hk6 hI co3 rfl (by omega) ((mis Ew q9) + (zS G 1)) (by first | assumption | omega) 1 (nI (mdC a)) (-1)) kyX9_keepBetter tb_638 tb_640 sp_10 32 rfl (eX_32 g kk _) rfl (Nat.le_of_ble_eq_true rfl) ⟨by decide, by decide⟩ dX9_tryOne_61 rfl (fun vr ur hp => ?_)
            obtain ⟨rfl, w8, w9, w10, w11, hu, g12⟩ := hp
            replace hu := hu.symm
            subst hu
            refine j_iinc C (nI (a + 1)) [(2, .int (nI (a + 1))), (1, .int (nI (zS G 1))), (0, .ref (g 32))] 0 rfl (by rw [show Int32.ofInt 1 = nI 1 from by decide, nI_add]) (by decide) rfl dX9_tryOne_64 ?_
            refine j_goto C 15 (by decide) dX9_tryOne_67 ?_
            refine j_w (cX g kk (sI (sI (sI (sI (sF σ 36 w2) 518 (nI w8)) 519 w9) 520 w10) 521 w11)) (congrArg (cX g kk) (show sI (sI (sI (sI (sF (sI (sI (sI (sI (sF σ 36 z15_F36) 518 (nI co3)) 519 z15_I519) 520 z15_I520) 521 z15_I521) 36 w2) 518 (nI w8)) 519 w9) 520 w10) 521 w11 = sI (sI (sI (sI (sF σ 36 w2) 518 (nI w8)) 519 w9) 520 w10) 521 w11 from (Eq.trans (wrI (Eq.trans (wrI (Eq.trans (wrI (Eq.trans (wrI (Eq.trans wrFI (wrI (Eq.trans wrFI (wrI (Eq.trans wrFI (wrI (Eq.trans wrFI (wrI wrFs))))))))) (Eq.trans (wrIc (by decide)) (wrI (Eq.trans (wrIc (by decide)) (wrI (Eq.trans (wrIc (by decide)) (wrI wrIs)))))))) (Eq.trans (wrIc (by decide)) (wrI (Eq.trans (wrIc (by decide)) (wrI wrIs)))))) (Eq.trans (wrIc (by decide)) (wrI wrIs)))) wrIs))) ?_
            exact ih15 (a + 1) w2 w8 w9 w10 w11 (by omega) (by omega) (KX_e (KX_k hK1 rfl rfl g12) (bw1_y hq9)) (by omega)
        · subst hr9
          refine j_if_eqN C 64 (by decide) (by omega) dX9_tryOne_39 (fun c13 => ?_) (fun c13 => ?_)
          · refine j_iinc C (nI (a + 1)) [(2, .int (nI (a + 1))), (1, .int (nI (zS G 1))), (0, .ref (g 32))] 0 rfl (by rw [show Int32.ofInt 1 = nI 1 from by decide, nI_add]) (by decide) rfl dX9_tryOne_64 ?_
            refine j_goto C 15 (by decide) dX9_tryOne_67 ?_
            refine j_w (cX g kk (sI (sI (sI (sI (sF σ 36 w2) 518 (nI co3)) 519 z15_I519) 520 z15_I520) 521 z15_I521)) (congrArg (cX g kk) (show sF (sI (sI (sI (sI (sF σ 36 z15_F36) 518 (nI co3)) 519 z15_I519) 520 z15_I520) 521 z15_I521) 36 w2 = sI (sI (sI (sI (sF σ 36 w2) 518 (nI co3)) 519 z15_I519) 520 z15_I520) 521 z15_I521 from (Eq.trans wrFI (wrI (Eq.trans wrFI (wrI (Eq.trans wrFI (wrI (Eq.trans wrFI (wrI wrFs)))))))))) ?_
            exact ih15 (a + 1) w2 co3 z15_I519 z15_I520 z15_I521 (by omega) (by omega) (KX_e hK1 (bw1_n hq9)) (by omega)
          · exact absurd c13 (by decide)
  refine j_w (cX g kk (sI σ 518 (nI co))) (congrArg (cX g kk) (sI_self (σ := σ) (i := 518) (v := nI co) hco).symm) ?_
  refine j_w (cX g kk (sF (sI σ 518 (nI co)) 36 (σ.2.1 36))) (congrArg (cX g kk) (wrFi (S := (sI σ 518 (nI co))) (c := 36) (v := σ.2.1 36) (gtFI rfl))) ?_
  refine j_w (cX g kk (sI (sF (sI σ 518 (nI co)) 36 (σ.2.1 36)) 519 (σ.1 519))) (congrArg (cX g kk) (wrIi (S := (sF (sI σ 518 (nI co)) 36 (σ.2.1 36))) (c := 519) (v := σ.1 519) (gtIF (gtII (by decide) rfl)))) ?_
  refine j_w (cX g kk (sI (sI (sF (sI σ 518 (nI co)) 36 (σ.2.1 36)) 519 (σ.1 519)) 520 (σ.1 520))) (congrArg (cX g kk) (wrIi (S := (sI (sF (sI σ 518 (nI co)) 36 (σ.2.1 36)) 519 (σ.1 519))) (c := 520) (v := σ.1 520) (gtII (by decide) (gtIF (gtII (by decide) rfl))))) ?_
  refine j_w (cX g kk (sI (sI (sI (sF (sI σ 518 (nI co)) 36 (σ.2.1 36)) 519 (σ.1 519)) 520 (σ.1 520)) 521 (σ.1 521))) (congrArg (cX g kk) (wrIi (S := (sI (sI (sF (sI σ 518 (nI co)) 36 (σ.2.1 36)) 519 (σ.1 519)) 520 (σ.1 520))) (c := 521) (v := σ.1 521) (gtII (by decide) (gtII (by decide) (gtIF (gtII (by decide) rfl)))))) ?_
  refine j_w (cX g kk (sI (sI (sI (sI (sF σ 36 (σ.2.1 36)) 518 (nI co)) 519 (σ.1 519)) 520 (σ.1 520)) 521 (σ.1 521))) (congrArg (cX g kk) (show sI (sI (sI (sF (sI σ 518 (nI co)) 36 (σ.2.1 36)) 519 (σ.1 519)) 520 (σ.1 520)) 521 (σ.1 521) = sI (sI (sI (sI (sF σ 36 (σ.2.1 36)) 518 (nI co)) 519 (σ.1 519)) 520 (σ.1 520)) 521 (σ.1 521) from (wrI (wrI (wrI wrFI))))) ?_
  exact L15 _ 0 (σ.2.1 36) co (σ.1 519) (σ.1 520) (σ.1 521) (by omega) (by omega) hk0 (Nat.lt_succ_self _)
set_option maxRecDepth 100000 in
set_option maxHeartbeats 4000000 in
theorem e_tryTwo (g kk : Nat → Nat) (σ : St) (k : Nat) (hk : σ.1 16 = nI k) (hk6 : k ≤ 6) (hI : iX σ) (G : GD) (hX : HX G k σ) (Ew r0 : Nat → Nat) (hE7 : R7 (σ.2.1 35) 0 Ew) (hR7 : R7 (σ.2.1 34) 0 r0) (co : Nat) (hco : σ.1 518 = nI co) (hcob : co ≤ 100000) (hk0 : KX4 (bw1 Ew r0 (zS G 1) 38) co (σ.1 519) (σ.1 520) (σ.1 521))  : jM (S := St) yX9_tryTwo cX9_tryTwo 4 none { frames := 3, cells := 0, slots := 0, locals := 86 } kk (cX g kk σ) [.ref (g 32)] (cX g kk) (rV (fun u : St => ∃ (pF36 : Nat → Int32) (pF37 : Nat → Int32) (co2 : Nat) (pI519 : Int32) (pI520 : Int32) (pI521 : Int32), u = sI (sI (sI (sI (sF (sF σ 36 pF36) 37 pF37) 518 (nI co2)) 519 pI519) 520 pI520) 521 pI521 ∧ (co2 ≤ 100000 ∧ KX4 (wkV Ew r0 (zS G 1)) co2 pI519 pI520 pI521))) := by
  refine j_entry [(0, .ref (g 32))] (by decide) (Nat.le_of_ble_eq_true rfl) rfl ?_
  intro X C E HI
  have hs9 : zS G 1 ≤ 999 := hX.W.2.2.2.2.1
  have hEb : B7 Ew := fun x hx => (hE7 x hx).2
  refine j_iconst C (nI 2) (by decide) dX9_tryTwo_0 ?_
  refine j_aload_n C 0 rfl dX9_tryTwo_1 ?_
  refine gX_32_0 C tb_237 dX9_tryTwo_2 ?_
  refine gX_27_0 C tb_201 dX9_tryTwo_5 ?_
  refine gX_1_9 C tb_127 dX9_tryTwo_8 ?_
  refine j_iconst C (nI 1) (by decide) dX9_tryTwo_11 ?_
  refine rX_10 C 1 rfl (by omega) (nI (zS G 1)) (hX.S (by decide)) dX9_tryTwo_12 ?_
  refine j_imulN C dX9_tryTwo_13 ?_
  refine j_istore_n C [(1, .int (nI (2 * (zS G 1)))), (0, .ref (g 32))] rfl (by decide) rfl dX9_tryTwo_14 ?_
  refine j_iconst C (nI 0) (by decide) dX9_tryTwo_15 ?_
  refine j_istore_n C [(2, .int (nI 0)), (1, .int (nI (2 * (zS G 1)))), (0, .ref (g 32))] rfl (by decide) rfl dX9_tryTwo_16 ?_
  have L17 : ∀ (n17 : Nat) (a : Nat) (z17_F36 : Nat → Int32) (z17_F37 : Nat → Int32) (co3 : Nat) (z17_I519 : Int32) (z17_I520 : Int32) (z17_I521 : Int32) (i17_0 : a ≤ 38) (i17_1 : co3 ≤ 100000) (hK1 : KX4 (bw2 Ew r0 (zS G 1) (bw1 Ew r0 (zS G 1) 38) a) co3 z17_I519 z17_I520 z17_I521) (hm17 : 38 - a < n17), J X 0 0 (cX g kk (sI (sI (sI (sI (sF (sF σ 36 z17_F36) 37 z17_F37) 518 (nI co3)) 519 z17_I519) 520 z17_I520) 521 z17_I521)) [(2, .int (nI a)), (1, .int (nI (2 * (zS G 1)))), (0, .ref (g 32))] 17 [] := by
    intro n17
    induction n17 with
    | zero => intro a z17_F36 z17_F37 co3 z17_I519 z17_I520 z17_I521 i17_0 i17_1 hK1 hm; exact absurd hm (Nat.not_lt_zero _)
    | succ n17 ih17 =>
      intro a z17_F36 z17_F37 co3 z17_I519 z17_I520 z17_I521 i17_0 i17_1 hK1 hm17
      refine j_iload_n C 0 rfl dX9_tryTwo_17 ?_
      refine j_bipush C (nI 38) (by decide) dX9_tryTwo_18 ?_
      refine j_icmp_geN C 115 (by decide) (by omega) (by omega) dX9_tryTwo_20 (fun c1 => ?_) (fun c1 => ?_)
      · exact j_vret C E (sI (sI (sI (sI (sF (sF σ 36 z17_F36) 37 z17_F37) 518 (nI co3)) 519 z17_I519) 520 z17_I520) 521 z17_I521) ⟨rfl, ⟨z17_F36, z17_F37, co3, z17_I519, z17_I520, z17_I521, rfl, ⟨by omega, by have z := hK1; rw [show a = 38 by omega] at z; exact z⟩⟩⟩ rfl dX9_tryTwo_115
      · refine j_aload_n C 2 rfl dX9_tryTwo_23 ?_
        refine j_aload_n C 2 rfl dX9_tryTwo_24 ?_
        refine gX_32_2 C tb_239 dX9_tryTwo_25 ?_
        refine j_aload_n C 2 rfl dX9_tryTwo_28 ?_
        refine gX_32_1 C tb_238 dX9_tryTwo_29 ?_
        refine j_iload_n C 0 rfl dX9_tryTwo_32 ?_
        refine rX_33 C a rfl (by omega) (nI (mdC a)) ((congrFun hI.code a).trans (mdC_wf ⟨a, by omega⟩)) dX9_tryTwo_33 ?_
        refine j_aload_n C 2 rfl dX9_tryTwo_34 ?_
        refine gX_32_4 C tb_241 dX9_tryTwo_35 ?_
        refine j_V1 C (e_mend_34_36 g kk (sI (sI (sI (sI (sF (sF σ 36 z17_F36) 37 z17_F37) 518 (nI co3)) 519 z17_I519) 520 z17_I520) 521 z17_I521) k hk hk6 hI Ew r0 hE7 hR7 (mdC a) (mdC_md (by omega))) kyX9_mend tb_632 tb_634 sp_9 32 rfl (eX_32 g kk _) rfl (Nat.le_of_ble_eq_true rfl) ⟨by decide, by decide⟩ dX9_tryTwo_38 rfl (fun vr ur hp => ?_)
        obtain ⟨r4, rfl, w2, hu, g3⟩ := hp
        replace hu := hu.symm
        subst hu
        rcases g3 with ⟨q9, hq9, hr9, hRq⟩ | ⟨hq9, hr9⟩
        · subst hr9
          refine j_if_neN C 47 (by decide) (by omega) dX9_tryTwo_41 (fun c5 => ?_) (fun c5 => ?_)
          · refine j_iconst C (nI 0) (by decide) dX9_tryTwo_47 ?_
            refine j_istore_n C [(3, .int (nI 0)), (2, .int (nI a)), (1, .int (nI (2 * (zS G 1)))), (0, .ref (g 32))] rfl (by decide) rfl dX9_tryTwo_48 ?_
            have L49 : ∀ (n49 : Nat) (b : Nat) (z49_F37 : Nat → Int32) (co4 : Nat) (z49_I519 : Int32) (z49_I520 : Int32) (z49_I521 : Int32) (i49_0 : b ≤ 38) (i49_1 : co4 ≤ 100000) (hK2 : KX4 (bwi Ew q9 (zS G 1) a (bw2 Ew r0 (zS G 1) (bw1 Ew r0 (zS G 1) 38) a) b) co4 z49_I519 z49_I520 z49_I521) (hm49 : 38 - b < n49), J X 0 0 (cX g kk (sI (sI (sI (sI (sF (sF σ 36 w2) 37 z49_F37) 518 (nI co4)) 519 z49_I519) 520 z49_I520) 521 z49_I521)) [(3, .int (nI b)), (2, .int (nI a)), (1, .int (nI (2 * (zS G 1)))), (0, .ref (g 32))] 49 [] := by
              intro n49
              induction n49 with
              | zero => intro b z49_F37 co4 z49_I519 z49_I520 z49_I521 i49_0 i49_1 hK2 hm; exact absurd hm (Nat.not_lt_zero _)
              | succ n49 ih49 =>
                intro b z49_F37 co4 z49_I519 z49_I520 z49_I521 i49_0 i49_1 hK2 hm49
                refine j_iload_n C 0 rfl dX9_tryTwo_49 ?_
                refine j_bipush C (nI 38) (by decide) dX9_tryTwo_50 ?_
                refine j_icmp_geN C 109 (by decide) (by omega) (by omega) dX9_tryTwo_52 (fun c6 => ?_) (fun c6 => ?_)
                · refine j_iinc C (nI (a + 1)) [(2, .int (nI (a + 1))), (3, .int (nI b)), (1, .int (nI (2 * (zS G 1)))), (0, .ref (g 32))] 1 rfl (by rw [show Int32.ofInt 1 = nI 1 from by decide, nI_add]) (by decide) rfl dX9_tryTwo_109 ?_
                  refine j_goto C 17 (by decide) dX9_tryTwo_112 ?_
                  refine j_sub (lv' := [(2, .int (nI (a + 1))), (1, .int (nI (2 * (zS G 1)))), (0, .ref (g 32))]) [0, 2, 3] rfl ?_
                  exact ih17 (a + 1) w2 z49_F37 co4 z49_I519 z49_I520 z49_I521 (by omega) (by omega) (KX_e (by have z := hK2; rw [show b = 38 by omega] at z; exact z) (bw2_y hq9)) (by omega)
                · refine j_aload_n C 3 rfl dX9_tryTwo_55 ?_
                  refine j_aload_n C 3 rfl dX9_tryTwo_56 ?_
                  refine gX_32_4 C tb_241 dX9_tryTwo_57 ?_
                  refine j_aload_n C 3 rfl dX9_tryTwo_60 ?_
                  refine gX_32_1 C tb_238 dX9_tryTwo_61 ?_
                  refine j_iload_n C 0 rfl dX9_tryTwo_64 ?_
                  refine rX_33 C b rfl (by omega) (nI (mdC b)) ((congrFun hI.code b).trans (mdC_wf ⟨b, by omega⟩)) dX9_tryTwo_65 ?_
                  refine j_aload_n C 3 rfl dX9_tryTwo_66 ?_
                  refine gX_32_5 C tb_242 dX9_tryTwo_67 ?_
                  refine j_V1 C (e_mend_36_37 g kk (sI (sI (sI (sI (sF (sF σ 36 w2) 37 z49_F37) 518 (nI co4)) 519 z49_I519) 520 z49_I520) 521 z49_I521) k hk hk6 hI Ew q9 hE7 hRq (mdC b) (mdC_md (by omega))) kyX9_mend tb_632 tb_634 sp_9 32 rfl (eX_32 g kk _) rfl (Nat.le_of_ble_eq_true rfl) ⟨by decide, by decide⟩ dX9_tryTwo_70 rfl (fun vr ur hp => ?_)
                  obtain ⟨r9, rfl, w7, hu, g8⟩ := hp
                  replace hu := hu.symm
                  subst hu
                  rcases g8 with ⟨t9, ht9, hr9, hRt⟩ | ⟨ht9, hr9⟩
                  · subst hr9
                    refine j_if_eqN C 103 (by decide) (by omega) dX9_tryTwo_73 (fun c10 => ?_) (fun c10 => ?_)
                    · exact absurd c10 (by decide)
                    · refine j_aload_n C 3 rfl dX9_tryTwo_76 ?_
                      refine j_aload_n C 3 rfl dX9_tryTwo_77 ?_
                      refine j_aload_n C 3 rfl dX9_tryTwo_78 ?_
                      refine gX_32_5 C tb_242 dX9_tryTwo_79 ?_
                      refine j_V1 C (e_misfit_37 g kk (sF (sI (sI (sI (sI (sF (sF σ 36 w2) 37 z49_F37) 518 (nI co4)) 519 z49_I519) 520 z49_I520) 521 z49_I521) 37 w7) k hk hk6 hI Ew t9 hE7 hRt ) kyX9_misfit tb_623 tb_625 sp_7 32 rfl (eX_32 g kk _) rfl (Nat.le_of_ble_eq_true rfl) ⟨by decide, by decide⟩ dX9_tryTwo_82 rfl (fun vr ur hp => ?_)
                      obtain ⟨r12, rfl, hu, g11⟩ := hp
                      replace hu := hu.symm
                      subst hu
                      subst g11
                      have hmt := mis_b hEb (fun x hx => (hRt x hx).2)
                      refine j_iload_n C 2 rfl dX9_tryTwo_85 ?_
                      refine j_iaddN C dX9_tryTwo_86 ?_
                      refine j_iconst C (nI 2) (by decide) dX9_tryTwo_87 ?_
                      refine j_aload_n C 3 rfl dX9_tryTwo_88 ?_
                      refine gX_32_1 C tb_238 dX9_tryTwo_89 ?_
                      refine j_iload_n C 1 rfl dX9_tryTwo_92 ?_
                      refine rX_33 C a rfl (by omega) (nI (mdC a)) ((congrFun hI.code a).trans (mdC_wf ⟨a, by omega⟩)) dX9_tryTwo_93 ?_
                      refine j_aload_n C 3 rfl dX9_tryTwo_94 ?_
                      refine gX_32_1 C tb_238 dX9_tryTwo_95 ?_
                      refine j_iload_n C 0 rfl dX9_tryTwo_98 ?_
                      refine rX_33 C b rfl (by omega) (nI (mdC b)) ((congrFun hI.code b).trans (mdC_wf ⟨b, by omega⟩)) dX9_tryTwo_99 ?_
                      refine j_V1 C (e_keepBetter g kk (sF (sI (sI (sI (sI (sF (sF σ 36 w2) 37 z49_F37) 518 (nI co4)) 519 z49_I519) 520 z49_I520) 521 z49_I521) 37 w7) k hk hk6 hI co4 rfl (by omega) ((mis Ew t9) + (2 * (zS G 1))) (by first | assumption | omega) 2 (nI (mdC a)) (nI (mdC b))) kyX9_keepBetter tb_638 tb_640 sp_10 32 rfl (eX_32 g kk _) rfl (Nat.le_of_ble_eq_true rfl) ⟨by decide, by decide⟩ dX9_tryTwo_100 rfl (fun vr ur hp => ?_)
                      obtain ⟨rfl, w13, w14, w15, w16, hu, g17⟩ := hp
                      replace hu := hu.symm
                      subst hu
                      refine j_iinc C (nI (b + 1)) [(3, .int (nI (b + 1))), (2, .int (nI a)), (1, .int (nI (2 * (zS G 1)))), (0, .ref (g 32))] 0 rfl (by rw [show Int32.ofInt 1 = nI 1 from by decide, nI_add]) (by decide) rfl dX9_tryTwo_103 ?_
                      refine j_goto C 49 (by decide) dX9_tryTwo_106 ?_
                      refine j_w (cX g kk (sI (sI (sI (sI (sF (sF σ 36 w2) 37 w7) 518 (nI w13)) 519 w14) 520 w15) 521 w16)) (congrArg (cX g kk) (show sI (sI (sI (sI (sF (sI (sI (sI (sI (sF (sF σ 36 w2) 37 z49_F37) 518 (nI co4)) 519 z49_I519) 520 z49_I520) 521 z49_I521) 37 w7) 518 (nI w13)) 519 w14) 520 w15) 521 w16 = sI (sI (sI (sI (sF (sF σ 36 w2) 37 w7) 518 (nI w13)) 519 w14) 520 w15) 521 w16 from (Eq.trans (wrI (Eq.trans (wrI (Eq.trans (wrI (Eq.trans (wrI (Eq.trans wrFI (wrI (Eq.trans wrFI (wrI (Eq.trans wrFI (wrI (Eq.trans wrFI (wrI wrFs))))))))) (Eq.trans (wrIc (by decide)) (wrI (Eq.trans (wrIc (by decide)) (wrI (Eq.trans (wrIc (by decide)) (wrI wrIs)))))))) (Eq.trans (wrIc (by decide)) (wrI (Eq.trans (wrIc (by decide)) (wrI wrIs)))))) (Eq.trans (wrIc (by decide)) (wrI wrIs)))) wrIs))) ?_
                      exact ih49 (b + 1) w7 w13 w14 w15 w16 (by omega) (by omega) (KX_e (KX_k hK2 rfl rfl g17) (bwi_y ht9)) (by omega)
                  · subst hr9
                    refine j_if_eqN C 103 (by decide) (by omega) dX9_tryTwo_73 (fun c18 => ?_) (fun c18 => ?_)
                    · refine j_iinc C (nI (b + 1)) [(3, .int (nI (b + 1))), (2, .int (nI a)), (1, .int (nI (2 * (zS G 1)))), (0, .ref (g 32))] 0 rfl (by rw [show Int32.ofInt 1 = nI 1 from by decide, nI_add]) (by decide) rfl dX9_tryTwo_103 ?_
                      refine j_goto C 49 (by decide) dX9_tryTwo_106 ?_
                      refine j_w (cX g kk (sI (sI (sI (sI (sF (sF σ 36 w2) 37 w7) 518 (nI co4)) 519 z49_I519) 520 z49_I520) 521 z49_I521)) (congrArg (cX g kk) (show sF (sI (sI (sI (sI (sF (sF σ 36 w2) 37 z49_F37) 518 (nI co4)) 519 z49_I519) 520 z49_I520) 521 z49_I521) 37 w7 = sI (sI (sI (sI (sF (sF σ 36 w2) 37 w7) 518 (nI co4)) 519 z49_I519) 520 z49_I520) 521 z49_I521 from (Eq.trans wrFI (wrI (Eq.trans wrFI (wrI (Eq.trans wrFI (wrI (Eq.trans wrFI (wrI wrFs)))))))))) ?_
                      exact ih49 (b + 1) w7 co4 z49_I519 z49_I520 z49_I521 (by omega) (by omega) (KX_e hK2 (bwi_n ht9)) (by omega)
                    · exact absurd c18 (by decide)
            refine j_w (cX g kk (sI (sI (sI (sI (sF (sF σ 36 w2) 37 z17_F37) 518 (nI co3)) 519 z17_I519) 520 z17_I520) 521 z17_I521)) (congrArg (cX g kk) (show sF (sI (sI (sI (sI (sF (sF σ 36 z17_F36) 37 z17_F37) 518 (nI co3)) 519 z17_I519) 520 z17_I520) 521 z17_I521) 36 w2 = sI (sI (sI (sI (sF (sF σ 36 w2) 37 z17_F37) 518 (nI co3)) 519 z17_I519) 520 z17_I520) 521 z17_I521 from (Eq.trans wrFI (wrI (Eq.trans wrFI (wrI (Eq.trans wrFI (wrI (Eq.trans wrFI (wrI (Eq.trans (wrFc (by decide)) (wrF wrFs)))))))))))) ?_
            exact L49 _ 0 z17_F37 co3 z17_I519 z17_I520 z17_I521 (by omega) (by omega) hK1 (Nat.lt_succ_self _)
          · exact absurd c5 (by decide)
        · subst hr9
          refine j_if_neN C 47 (by decide) (by omega) dX9_tryTwo_41 (fun c19 => ?_) (fun c19 => ?_)
          · exact absurd c19 (by decide)
          · refine j_goto C 109 (by decide) dX9_tryTwo_44 ?_
            refine j_iinc C (nI (a + 1)) [(2, .int (nI (a + 1))), (1, .int (nI (2 * (zS G 1)))), (0, .ref (g 32))] 0 rfl (by rw [show Int32.ofInt 1 = nI 1 from by decide, nI_add]) (by decide) rfl dX9_tryTwo_109 ?_
            refine j_goto C 17 (by decide) dX9_tryTwo_112 ?_
            refine j_w (cX g kk (sI (sI (sI (sI (sF (sF σ 36 w2) 37 z17_F37) 518 (nI co3)) 519 z17_I519) 520 z17_I520) 521 z17_I521)) (congrArg (cX g kk) (show sF (sI (sI (sI (sI (sF (sF σ 36 z17_F36) 37 z17_F37) 518 (nI co3)) 519 z17_I519) 520 z17_I520) 521 z17_I521) 36 w2 = sI (sI (sI (sI (sF (sF σ 36 w2) 37 z17_F37) 518 (nI co3)) 519 z17_I519) 520 z17_I520) 521 z17_I521 from (Eq.trans wrFI (wrI (Eq.trans wrFI (wrI (Eq.trans wrFI (wrI (Eq.trans wrFI (wrI (Eq.trans (wrFc (by decide)) (wrF wrFs)))))))))))) ?_
            exact ih17 (a + 1) w2 z17_F37 co3 z17_I519 z17_I520 z17_I521 (by omega) (by omega) (KX_e hK1 (bw2_n hq9)) (by omega)
  refine j_w (cX g kk (sI σ 518 (nI co))) (congrArg (cX g kk) (sI_self (σ := σ) (i := 518) (v := nI co) hco).symm) ?_
  refine j_w (cX g kk (sF (sI σ 518 (nI co)) 36 (σ.2.1 36))) (congrArg (cX g kk) (wrFi (S := (sI σ 518 (nI co))) (c := 36) (v := σ.2.1 36) (gtFI rfl))) ?_
  refine j_w (cX g kk (sF (sF (sI σ 518 (nI co)) 36 (σ.2.1 36)) 37 (σ.2.1 37))) (congrArg (cX g kk) (wrFi (S := (sF (sI σ 518 (nI co)) 36 (σ.2.1 36))) (c := 37) (v := σ.2.1 37) (gtFF (by decide) (gtFI rfl)))) ?_
  refine j_w (cX g kk (sI (sF (sF (sI σ 518 (nI co)) 36 (σ.2.1 36)) 37 (σ.2.1 37)) 519 (σ.1 519))) (congrArg (cX g kk) (wrIi (S := (sF (sF (sI σ 518 (nI co)) 36 (σ.2.1 36)) 37 (σ.2.1 37))) (c := 519) (v := σ.1 519) (gtIF (gtIF (gtII (by decide) rfl))))) ?_
  refine j_w (cX g kk (sI (sI (sF (sF (sI σ 518 (nI co)) 36 (σ.2.1 36)) 37 (σ.2.1 37)) 519 (σ.1 519)) 520 (σ.1 520))) (congrArg (cX g kk) (wrIi (S := (sI (sF (sF (sI σ 518 (nI co)) 36 (σ.2.1 36)) 37 (σ.2.1 37)) 519 (σ.1 519))) (c := 520) (v := σ.1 520) (gtII (by decide) (gtIF (gtIF (gtII (by decide) rfl)))))) ?_
  refine j_w (cX g kk (sI (sI (sI (sF (sF (sI σ 518 (nI co)) 36 (σ.2.1 36)) 37 (σ.2.1 37)) 519 (σ.1 519)) 520 (σ.1 520)) 521 (σ.1 521))) (congrArg (cX g kk) (wrIi (S := (sI (sI (sF (sF (sI σ 518 (nI co)) 36 (σ.2.1 36)) 37 (σ.2.1 37)) 519 (σ.1 519)) 520 (σ.1 520))) (c := 521) (v := σ.1 521) (gtII (by decide) (gtII (by decide) (gtIF (gtIF (gtII (by decide) rfl))))))) ?_
  refine j_w (cX g kk (sI (sI (sI (sI (sF (sF σ 36 (σ.2.1 36)) 37 (σ.2.1 37)) 518 (nI co)) 519 (σ.1 519)) 520 (σ.1 520)) 521 (σ.1 521))) (congrArg (cX g kk) (show sI (sI (sI (sF (sF (sI σ 518 (nI co)) 36 (σ.2.1 36)) 37 (σ.2.1 37)) 519 (σ.1 519)) 520 (σ.1 520)) 521 (σ.1 521) = sI (sI (sI (sI (sF (sF σ 36 (σ.2.1 36)) 37 (σ.2.1 37)) 518 (nI co)) 519 (σ.1 519)) 520 (σ.1 520)) 521 (σ.1 521) from (wrI (wrI (wrI (Eq.trans (wrF wrFI) wrFI)))))) ?_
  exact L17 _ 0 (σ.2.1 36) (σ.2.1 37) co (σ.1 519) (σ.1 520) (σ.1 521) (by omega) (by omega) hk0 (Nat.lt_succ_self _)
theorem ex_7 {f : Nat → Int32} {r : Nat → Nat} {i : Nat} (h : ∀ x, x < i → f x = nI (r x)) : ∀ x, x < i + 1 → upd f i (nI (r i)) x = nI (r x) := fun x hx => by
  by_cases q : x = i
  · rw [q, pk_us]
  · rw [pk_un q]; exact h x (by omega)
theorem r7_of {f : Nat → Int32} {r : Nat → Nat} {i : Nat} (h : ∀ x, x < i → f x = nI (r x)) (hi : i = 7) (hb : B7 r) : R7 f 0 r := fun x hx => ⟨by rw [Nat.zero_add]; exact h x (by omega), hb x hx⟩
set_option maxRecDepth 100000 in
set_option maxHeartbeats 4000000 in
theorem e_explain (g kk : Nat → Nat) (σ : St) (k : Nat) (hk : σ.1 16 = nI k) (hk6 : k ≤ 6) (hI : iX σ) (G : GD) (hX : HX G k σ) (hC : CXf G k (σ.2.1 28) (σ.2.1 29) (σ.2.1 30) (σ.2.1 31)) (c d : Nat) (hc : c < k) (hd : d ≤ 21) (q : Nat) (hq0 : q = c * 28 + d) : jM (S := St) yX9_explain cX9_explain 3 none { frames := 4, cells := 0, slots := 0, locals := 109 } kk (cX g kk σ) [.ref (g 32), .int (nI q)] (cX g kk) (rV (fun u : St => ∃ (pF34 : Nat → Int32) (pF35 : Nat → Int32) (pF36 : Nat → Int32) (pF37 : Nat → Int32) (co2 : Nat) (pI519 : Int32) (pI520 : Int32) (pI521 : Int32), u = sI (sI (sI (sI (sF (sF (sF (sF σ 34 pF34) 35 pF35) 36 pF36) 37 pF37) 518 (nI co2)) 519 pI519) 520 pI520) 521 pI521 ∧ (co2 ≤ 100000 ∧ KX4 (wkV (fun x => xe G k c (d + x)) (fun x => (vaV G k c (d + x)).toNatClampNeg) (zS G 1)) co2 pI519 pI520 pI521))) := by
  refine j_entry [(0, .ref (g 32)), (1, .int (nI q))] (by decide) (Nat.le_of_ble_eq_true rfl) rfl ?_
  intro X C E HI
  refine j_iconst C (nI 0) (by decide) dX9_explain_0 ?_
  refine j_istore_n C [(2, .int (nI 0)), (0, .ref (g 32)), (1, .int (nI q))] rfl (by decide) rfl dX9_explain_1 ?_
  have L2 : ∀ (n2 : Nat) (i : Nat) (fv : Nat → Int32) (fe : Nat → Int32) (i2_0 : i ≤ 7) (hv : ∀ x, x < i → fv x = nI ((fun x => (vaV G k c (d + x)).toNatClampNeg) x)) (he : ∀ x, x < i → fe x = nI ((fun x => xe G k c (d + x)) x)) (hm2 : 7 - i < n2), J X 0 0 (cX g kk (sF (sF σ 34 fv) 35 fe)) [(2, .int (nI i)), (0, .ref (g 32)), (1, .int (nI q))] 2 [] := by
    intro n2
    induction n2 with
    | zero => intro i fv fe i2_0 hv he hm; exact absurd hm (Nat.not_lt_zero _)
    | succ n2 ih2 =>
      intro i fv fe i2_0 hv he hm2
      refine j_iload_n C 0 rfl dX9_explain_2 ?_
      refine j_bipush C (nI 7) (by decide) dX9_explain_3 ?_
      refine j_icmp_geN C 56 (by decide) (by omega) (by omega) dX9_explain_5 (fun c1 => ?_) (fun c1 => ?_)
      · have h34 : R7 fv 0 (fun x => (vaV G k c (d + x)).toNatClampNeg) := r7_of hv (by omega) (fun x hx => cl_le (by decide) (va_lm hX.W hc (by omega)))
        have h35 : R7 fe 0 (fun x => xe G k c (d + x)) := r7_of he (by omega) (fun x hx => xe_le hX.W (by omega))
        refine j_aload_n C 1 rfl dX9_explain_56 ?_
        refine j_aload_n C 1 rfl dX9_explain_57 ?_
        refine j_aload_n C 1 rfl dX9_explain_58 ?_
        refine gX_32_2 C tb_239 dX9_explain_59 ?_
        refine j_V1 C (e_misfit_34 g kk (sF (sF σ 34 fv) 35 fe) k hk hk6 hI (fun x => xe G k c (d + x)) (fun x => (vaV G k c (d + x)).toNatClampNeg) h35 h34 ) kyX9_misfit tb_623 tb_625 sp_7 32 rfl (eX_32 g kk _) rfl (Nat.le_of_ble_eq_true rfl) ⟨by decide, by decide⟩ dX9_explain_62 rfl (fun vr ur hp => ?_)
        obtain ⟨r3, rfl, hu, g2⟩ := hp
        replace hu := hu.symm
        subst hu
        subst g2
        have hm0 := mis_b (E := (fun x => xe G k c (d + x))) (r := (fun x => (vaV G k c (d + x)).toNatClampNeg)) (fun x hx => xe_le hX.W (by omega)) (fun x hx => cl_le (by decide) (va_lm hX.W hc (by omega)))
        refine pX_32_6 C tb_243 dX9_explain_65 ?_
        refine j_aload_n C 1 rfl dX9_explain_68 ?_
        refine j_iconst C (nI 0) (by decide) dX9_explain_69 ?_
        refine pX_32_7 C tb_245 dX9_explain_70 ?_
        refine j_aload_n C 1 rfl dX9_explain_73 ?_
        refine j_iconst C ((-1)) (by decide) dX9_explain_74 ?_
        refine pX_32_8 C tb_247 dX9_explain_75 ?_
        refine j_aload_n C 1 rfl dX9_explain_78 ?_
        refine j_iconst C ((-1)) (by decide) dX9_explain_79 ?_
        refine pX_32_9 C tb_249 dX9_explain_80 ?_
        refine j_aload_n C 1 rfl dX9_explain_83 ?_
        refine j_V1 C (e_tryOne g kk (sI (sI (sI (sI (sF (sF σ 34 fv) 35 fe) 518 (nI (mis (fun x => xe G k c (d + x)) (fun x => (vaV G k c (d + x)).toNatClampNeg)))) 519 (nI 0)) 520 (-1)) 521 (-1)) k hk hk6 hI G hX (fun x => xe G k c (d + x)) (fun x => (vaV G k c (d + x)).toNatClampNeg) h35 h34 (mis (fun x => xe G k c (d + x)) (fun x => (vaV G k c (d + x)).toNatClampNeg)) rfl (by omega) ⟨rfl, rfl, rfl, rfl⟩ ) kyX9_tryOne tb_628 tb_630 sp_8 32 rfl (eX_32 g kk _) rfl (Nat.le_of_ble_eq_true rfl) ⟨by decide, by decide⟩ dX9_explain_84 rfl (fun vr ur hp => ?_)
        obtain ⟨rfl, w4, w5, w6, w7, w8, hu, g9⟩ := hp
        replace hu := hu.symm
        subst hu
        refine j_aload_n C 1 rfl dX9_explain_87 ?_
        refine j_V1 C (e_tryTwo g kk (sI (sI (sI (sI (sF (sI (sI (sI (sI (sF (sF σ 34 fv) 35 fe) 518 (nI (mis (fun x => xe G k c (d + x)) (fun x => (vaV G k c (d + x)).toNatClampNeg)))) 519 (nI 0)) 520 (-1)) 521 (-1)) 36 w4) 518 (nI w5)) 519 w6) 520 w7) 521 w8) k hk hk6 hI G hX (fun x => xe G k c (d + x)) (fun x => (vaV G k c (d + x)).toNatClampNeg) h35 h34 w5 rfl (by omega) g9.2 ) kyX9_tryTwo tb_642 tb_644 sp_11 32 rfl (eX_32 g kk _) rfl (Nat.le_of_ble_eq_true rfl) ⟨by decide, by decide⟩ dX9_explain_88 rfl (fun vr ur hp => ?_)
        obtain ⟨rfl, w10, w11, w12, w13, w14, w15, hu, g16⟩ := hp
        replace hu := hu.symm
        subst hu
        refine j_w (cX g kk (sI (sI (sI (sI (sF (sF (sF (sF σ 34 fv) 35 fe) 36 w10) 37 w11) 518 (nI w12)) 519 w13) 520 w14) 521 w15)) (congrArg (cX g kk) (show sI (sI (sI (sI (sF (sF (sI (sI (sI (sI (sF (sI (sI (sI (sI (sF (sF σ 34 fv) 35 fe) 518 (nI (mis (fun x => xe G k c (d + x)) (fun x => (vaV G k c (d + x)).toNatClampNeg)))) 519 (nI 0)) 520 (-1)) 521 (-1)) 36 w4) 518 (nI w5)) 519 w6) 520 w7) 521 w8) 36 w10) 37 w11) 518 (nI w12)) 519 w13) 520 w14) 521 w15 = sI (sI (sI (sI (sF (sF (sF (sF σ 34 fv) 35 fe) 36 w10) 37 w11) 518 (nI w12)) 519 w13) 520 w14) 521 w15 from (Eq.trans (wrI (Eq.trans (wrI (Eq.trans (wrI (Eq.trans (wrI (Eq.trans (wrF (Eq.trans (wrF (Eq.trans (wrI (Eq.trans (wrI (Eq.trans (wrI (Eq.trans (wrI (Eq.trans wrFI (wrI (Eq.trans wrFI (wrI (Eq.trans wrFI (wrI wrFI))))))) (Eq.trans (wrIc (by decide)) (wrI (Eq.trans (wrIc (by decide)) (wrI (Eq.trans (wrIc (by decide)) (wrI wrIs)))))))) (Eq.trans (wrIc (by decide)) (wrI (Eq.trans (wrIc (by decide)) (wrI wrIs)))))) (Eq.trans (wrIc (by decide)) (wrI wrIs)))) wrIs)) (Eq.trans wrFI (wrI (Eq.trans wrFI (wrI (Eq.trans wrFI (wrI (Eq.trans wrFI (wrI wrFs)))))))))) (Eq.trans wrFI (wrI (Eq.trans wrFI (wrI (Eq.trans wrFI (wrI wrFI)))))))) (Eq.trans (wrIc (by decide)) (wrI (Eq.trans (wrIc (by decide)) (wrI (Eq.trans (wrIc (by decide)) (wrI wrIs)))))))) (Eq.trans (wrIc (by decide)) (wrI (Eq.trans (wrIc (by decide)) (wrI wrIs)))))) (Eq.trans (wrIc (by decide)) (wrI wrIs)))) wrIs))) ?_
        exact j_vret C E (sI (sI (sI (sI (sF (sF (sF (sF σ 34 fv) 35 fe) 36 w10) 37 w11) 518 (nI w12)) 519 w13) 520 w14) 521 w15) ⟨rfl, ⟨fv, fe, w10, w11, w12, w13, w14, w15, rfl, g16⟩⟩ rfl dX9_explain_91
      · refine j_aload_n C 1 rfl dX9_explain_8 ?_
        refine gX_32_2 C tb_239 dX9_explain_9 ?_
        refine j_iload_n C 0 rfl dX9_explain_12 ?_
        refine j_iconst C (nI 0) (by decide) dX9_explain_13 ?_
        refine j_aload_n C 1 rfl dX9_explain_14 ?_
        refine gX_32_0 C tb_237 dX9_explain_15 ?_
        refine gX_27_4 C tb_210 dX9_explain_18 ?_
        refine j_iload_n C 2 rfl dX9_explain_21 ?_
        refine j_iload_n C 0 rfl dX9_explain_22 ?_
        refine j_iaddN C dX9_explain_23 ?_
        refine rX_31 C (q + i) rfl (by omega) (vaV G k c (d + i)) (by have z := (hC c (d + i) hc (by omega)).2.2.2; rw [← Nat.add_assoc] at z; rw [hq0]; exact z) dX9_explain_24 ?_
        refine j_mmax C tb_622 tb_600 tb_15 tb_601 (by decide) (Nat.le_of_ble_eq_true rfl) (by decide) (by decide) dX9_explain_25 ?_
        rw [mx0 (by decide) (va_lm hX.W hc (show d + i < 28 by omega))]
        refine tX_34 C i rfl (by omega) dX9_explain_28 ?_
        refine j_aload_n C 1 rfl dX9_explain_29 ?_
        refine gX_32_3 C tb_240 dX9_explain_30 ?_
        refine j_iload_n C 0 rfl dX9_explain_33 ?_
        refine j_iconst C (nI 0) (by decide) dX9_explain_34 ?_
        refine j_aload_n C 1 rfl dX9_explain_35 ?_
        refine gX_32_0 C tb_237 dX9_explain_36 ?_
        refine gX_27_3 C tb_205 dX9_explain_39 ?_
        refine j_iload_n C 2 rfl dX9_explain_42 ?_
        refine j_iload_n C 0 rfl dX9_explain_43 ?_
        refine j_iaddN C dX9_explain_44 ?_
        refine rX_30 C (q + i) rfl (by omega) (exV G k c (d + i)) (by have z := (hC c (d + i) hc (by omega)).2.2.1; rw [← Nat.add_assoc] at z; rw [hq0]; exact z) dX9_explain_45 ?_
        refine j_mmax C tb_622 tb_600 tb_15 tb_601 (by decide) (Nat.le_of_ble_eq_true rfl) (by decide) (by decide) dX9_explain_46 ?_
        rw [mx0 (by decide) (ex_lm (c := c) hX.W (show d + i < 28 by omega))]
        refine tX_35 C i rfl (by omega) dX9_explain_49 ?_
        refine j_iinc C (nI (i + 1)) [(2, .int (nI (i + 1))), (0, .ref (g 32)), (1, .int (nI q))] 0 rfl (by rw [show Int32.ofInt 1 = nI 1 from by decide, nI_add]) (by decide) rfl dX9_explain_50 ?_
        refine j_goto C 2 (by decide) dX9_explain_53 ?_
        refine j_w (cX g kk (sF (sF σ 34 (upd fv i (nI ((vaV G k c (d + i)).toNatClampNeg)))) 35 (upd fe i (nI ((exV G k c (d + i)).toNatClampNeg))))) (congrArg (cX g kk) (show sF (sF (sF (sF σ 34 fv) 35 fe) 34 (upd fv i (nI ((vaV G k c (d + i)).toNatClampNeg)))) 35 (upd fe i (nI ((exV G k c (d + i)).toNatClampNeg))) = sF (sF σ 34 (upd fv i (nI ((vaV G k c (d + i)).toNatClampNeg)))) 35 (upd fe i (nI ((exV G k c (d + i)).toNatClampNeg))) from (Eq.trans (wrF (Eq.trans (wrFc (by decide)) (wrF wrFs))) wrFs))) ?_
        exact ih2 (i + 1) (upd fv i (nI ((vaV G k c (d + i)).toNatClampNeg))) (upd fe i (nI ((exV G k c (d + i)).toNatClampNeg))) (by omega) (ex_7 hv) (ex_7 he) (by omega)
  refine j_w (cX g kk (sF σ 34 (σ.2.1 34))) (congrArg (cX g kk) (wrFi (S := σ) (c := 34) (v := σ.2.1 34) rfl)) ?_
  refine j_w (cX g kk (sF (sF σ 34 (σ.2.1 34)) 35 (σ.2.1 35))) (congrArg (cX g kk) (wrFi (S := (sF σ 34 (σ.2.1 34))) (c := 35) (v := σ.2.1 35) (gtFF (by decide) rfl))) ?_
  exact L2 _ 0 (σ.2.1 34) (σ.2.1 35) (by omega) (fun x hx => absurd hx (by omega)) (fun x hx => absurd hx (by omega)) (Nat.lt_succ_self _)
noncomputable def wkF (G : GD) (k : Nat) (x y z : Int32) : Int32 := @ite _ (cB x (nI k) = false ∨ wB y (nI 0) (nI 21) = false) (Classical.propDecidable _) (-1) (@ite _ (wB z (nI 0) (nI 3) = false) (Classical.propDecidable _) (-2) (if z = nI 0 then nI (wkV (fun i => xe G k x.toNatClampNeg (y.toNatClampNeg + i)) (fun i => (vaV G k x.toNatClampNeg (y.toNatClampNeg + i)).toNatClampNeg) (zS G 1)).1 else if z = nI 1 then nI (wkV (fun i => xe G k x.toNatClampNeg (y.toNatClampNeg + i)) (fun i => (vaV G k x.toNatClampNeg (y.toNatClampNeg + i)).toNatClampNeg) (zS G 1)).2.1 else if z = nI 2 then tr (eco (wkV (fun i => xe G k x.toNatClampNeg (y.toNatClampNeg + i)) (fun i => (vaV G k x.toNatClampNeg (y.toNatClampNeg + i)).toNatClampNeg) (zS G 1)).2.2.1) else tr (eco (wkV (fun i => xe G k x.toNatClampNeg (y.toNatClampNeg + i)) (fun i => (vaV G k x.toNatClampNeg (y.toNatClampNeg + i)).toNatClampNeg) (zS G 1)).2.2.2)))
theorem wkF_1 {G : GD} {k : Nat} {x y z : Int32} (h : cB x (nI k) = false ∨ wB y (nI 0) (nI 21) = false) : -1 = wkF G k x y z := by unfold wkF; rw [if_pos h]
theorem wkF_2 {G : GD} {k : Nat} {x y z : Int32} (h1 : cB x (nI k) = true) (h2 : wB y (nI 0) (nI 21) = true) (h : wB z (nI 0) (nI 3) = false) : -2 = wkF G k x y z := by unfold wkF; rw [if_neg (by rw [h1, h2]; decide), if_pos h]
theorem wkF_x {G : GD} {k c d w : Nat} {r : Int32} (h1 : cB (nI c) (nI k) = true) (h2 : wB (nI d) (nI 0) (nI 21) = true) (h : wB (nI w) (nI 0) (nI 3) = true) (hc : c < 2 ^ 31) (hd : d < 2 ^ 31) (hw : w ≤ 3) (hr : r = if w = 0 then nI (wkV (fun i => xe G k c (d + i)) (fun i => (vaV G k c (d + i)).toNatClampNeg) (zS G 1)).1 else if w = 1 then nI (wkV (fun i => xe G k c (d + i)) (fun i => (vaV G k c (d + i)).toNatClampNeg) (zS G 1)).2.1 else if w = 2 then tr (eco (wkV (fun i => xe G k c (d + i)) (fun i => (vaV G k c (d + i)).toNatClampNeg) (zS G 1)).2.2.1) else tr (eco (wkV (fun i => xe G k c (d + i)) (fun i => (vaV G k c (d + i)).toNatClampNeg) (zS G 1)).2.2.2)) : r = wkF G k (nI c) (nI d) (nI w) := by
  unfold wkF
  rw [if_neg (by rw [h1, h2]; decide), if_neg (by rw [h]; decide), nI_clamp hc, nI_clamp hd, hr]
  rcases (show w = 0 ∨ w = 1 ∨ w = 2 ∨ w = 3 by omega) with rfl | rfl | rfl | rfl
  · rfl
  · rfl
  · rfl
  · rfl
set_option maxRecDepth 100000 in
set_option maxHeartbeats 4000000 in
theorem e_week (g kk : Nat → Nat) (σ : St) (k : Nat) (hk : σ.1 16 = nI k) (hk6 : k ≤ 6) (hI : iX σ) (G : GD) (hX : HX G k σ) (hst : σ.1 437 = 0 → CXf G k (σ.2.1 28) (σ.2.1 29) (σ.2.1 30) (σ.2.1 31)) (x : Int32) (y : Int32) (z : Int32) : jM (S := St) yX10_week cX10_week 4 (some .int) { frames := 5, cells := 0, slots := 0, locals := 131 } kk (cX g kk σ) [.ref (g 0), .int x, .int y, .int z] (cX g kk) (rI (fun (r : Int32) (u : St) => ∃ (pF28 : Nat → Int32) (pF29 : Nat → Int32) (pF30 : Nat → Int32) (pF31 : Nat → Int32) (pF34 : Nat → Int32) (pF35 : Nat → Int32) (pF36 : Nat → Int32) (pF37 : Nat → Int32) (pI437 : Int32) (pI518 : Int32) (pI519 : Int32) (pI520 : Int32) (pI521 : Int32), u = sI (sI (sI (sI (sI (sF (sF (sF (sF (sF (sF (sF (sF σ 28 pF28) 29 pF29) 30 pF30) 31 pF31) 34 pF34) 35 pF35) 36 pF36) 37 pF37) 437 pI437) 518 pI518) 519 pI519) 520 pI520) 521 pI521 ∧ (r = wkF G k x y z) ∧ ((pI437 = nI 0 ∧ CXf G k pF28 pF29 pF30 pF31) ∨ (pI437 = σ.1 437 ∧ pF28 = σ.2.1 28 ∧ pF29 = σ.2.1 29 ∧ pF30 = σ.2.1 30 ∧ pF31 = σ.2.1 31)))) := by
  refine j_entry [(0, .ref (g 0)), (1, .int x), (2, .int y), (3, .int z)] (by decide) (Nat.le_of_ble_eq_true rfl) rfl ?_
  intro X C E HI
  refine j_aload_n C 0 rfl dX10_week_0 ?_
  refine j_iload_n C 1 rfl dX10_week_1 ?_
  refine j_V1 C (c_isCan g kk σ k hk hk6 x) kyX10_isCan tb_478 tb_480 sp_0 0 rfl (eX_0 g kk _) rfl (Nat.le_of_ble_eq_true rfl) ⟨by decide, by decide⟩ dX10_week_2 rfl (fun vr ur hp => ?_)
  obtain ⟨r, rfl, rfl, hu⟩ := hp
  replace hu := hu.symm
  subst hu
  refine j_if_eq C 18 (by decide) dX10_week_5 (fun c1 => ?_) (fun c1 => ?_)
  · replace c1 := bI_f c1
    refine j_iconst C ((-1)) (by decide) dX10_week_18 ?_
    refine j_w (cX g kk (sF σ 28 (σ.2.1 28))) (congrArg (cX g kk) (wrFi (S := σ) (c := 28) (v := σ.2.1 28) rfl)) ?_
    refine j_w (cX g kk (sF (sF σ 28 (σ.2.1 28)) 29 (σ.2.1 29))) (congrArg (cX g kk) (wrFi (S := (sF σ 28 (σ.2.1 28))) (c := 29) (v := σ.2.1 29) (gtFF (by decide) rfl))) ?_
    refine j_w (cX g kk (sF (sF (sF σ 28 (σ.2.1 28)) 29 (σ.2.1 29)) 30 (σ.2.1 30))) (congrArg (cX g kk) (wrFi (S := (sF (sF σ 28 (σ.2.1 28)) 29 (σ.2.1 29))) (c := 30) (v := σ.2.1 30) (gtFF (by decide) (gtFF (by decide) rfl)))) ?_
    refine j_w (cX g kk (sF (sF (sF (sF σ 28 (σ.2.1 28)) 29 (σ.2.1 29)) 30 (σ.2.1 30)) 31 (σ.2.1 31))) (congrArg (cX g kk) (wrFi (S := (sF (sF (sF σ 28 (σ.2.1 28)) 29 (σ.2.1 29)) 30 (σ.2.1 30))) (c := 31) (v := σ.2.1 31) (gtFF (by decide) (gtFF (by decide) (gtFF (by decide) rfl))))) ?_
    refine j_w (cX g kk (sF (sF (sF (sF (sF σ 28 (σ.2.1 28)) 29 (σ.2.1 29)) 30 (σ.2.1 30)) 31 (σ.2.1 31)) 34 (σ.2.1 34))) (congrArg (cX g kk) (wrFi (S := (sF (sF (sF (sF σ 28 (σ.2.1 28)) 29 (σ.2.1 29)) 30 (σ.2.1 30)) 31 (σ.2.1 31))) (c := 34) (v := σ.2.1 34) (gtFF (by decide) (gtFF (by decide) (gtFF (by decide) (gtFF (by decide) rfl)))))) ?_
    refine j_w (cX g kk (sF (sF (sF (sF (sF (sF σ 28 (σ.2.1 28)) 29 (σ.2.1 29)) 30 (σ.2.1 30)) 31 (σ.2.1 31)) 34 (σ.2.1 34)) 35 (σ.2.1 35))) (congrArg (cX g kk) (wrFi (S := (sF (sF (sF (sF (sF σ 28 (σ.2.1 28)) 29 (σ.2.1 29)) 30 (σ.2.1 30)) 31 (σ.2.1 31)) 34 (σ.2.1 34))) (c := 35) (v := σ.2.1 35) (gtFF (by decide) (gtFF (by decide) (gtFF (by decide) (gtFF (by decide) (gtFF (by decide) rfl))))))) ?_
    refine j_w (cX g kk (sF (sF (sF (sF (sF (sF (sF σ 28 (σ.2.1 28)) 29 (σ.2.1 29)) 30 (σ.2.1 30)) 31 (σ.2.1 31)) 34 (σ.2.1 34)) 35 (σ.2.1 35)) 36 (σ.2.1 36))) (congrArg (cX g kk) (wrFi (S := (sF (sF (sF (sF (sF (sF σ 28 (σ.2.1 28)) 29 (σ.2.1 29)) 30 (σ.2.1 30)) 31 (σ.2.1 31)) 34 (σ.2.1 34)) 35 (σ.2.1 35))) (c := 36) (v := σ.2.1 36) (gtFF (by decide) (gtFF (by decide) (gtFF (by decide) (gtFF (by decide) (gtFF (by decide) (gtFF (by decide) rfl)))))))) ?_
    refine j_w (cX g kk (sF (sF (sF (sF (sF (sF (sF (sF σ 28 (σ.2.1 28)) 29 (σ.2.1 29)) 30 (σ.2.1 30)) 31 (σ.2.1 31)) 34 (σ.2.1 34)) 35 (σ.2.1 35)) 36 (σ.2.1 36)) 37 (σ.2.1 37))) (congrArg (cX g kk) (wrFi (S := (sF (sF (sF (sF (sF (sF (sF σ 28 (σ.2.1 28)) 29 (σ.2.1 29)) 30 (σ.2.1 30)) 31 (σ.2.1 31)) 34 (σ.2.1 34)) 35 (σ.2.1 35)) 36 (σ.2.1 36))) (c := 37) (v := σ.2.1 37) (gtFF (by decide) (gtFF (by decide) (gtFF (by decide) (gtFF (by decide) (gtFF (by decide) (gtFF (by decide) (gtFF (by decide) rfl))))))))) ?_
    refine j_w (cX g kk (sI (sF (sF (sF (sF (sF (sF (sF (sF σ 28 (σ.2.1 28)) 29 (σ.2.1 29)) 30 (σ.2.1 30)) 31 (σ.2.1 31)) 34 (σ.2.1 34)) 35 (σ.2.1 35)) 36 (σ.2.1 36)) 37 (σ.2.1 37)) 437 (σ.1 437))) (congrArg (cX g kk) (wrIi (S := (sF (sF (sF (sF (sF (sF (sF (sF σ 28 (σ.2.1 28)) 29 (σ.2.1 29)) 30 (σ.2.1 30)) 31 (σ.2.1 31)) 34 (σ.2.1 34)) 35 (σ.2.1 35)) 36 (σ.2.1 36)) 37 (σ.2.1 37))) (c := 437) (v := σ.1 437) (gtIF (gtIF (gtIF (gtIF (gtIF (gtIF (gtIF (gtIF rfl)))))))))) ?_
    refine j_w (cX g kk (sI (sI (sF (sF (sF (sF (sF (sF (sF (sF σ 28 (σ.2.1 28)) 29 (σ.2.1 29)) 30 (σ.2.1 30)) 31 (σ.2.1 31)) 34 (σ.2.1 34)) 35 (σ.2.1 35)) 36 (σ.2.1 36)) 37 (σ.2.1 37)) 437 (σ.1 437)) 518 (σ.1 518))) (congrArg (cX g kk) (wrIi (S := (sI (sF (sF (sF (sF (sF (sF (sF (sF σ 28 (σ.2.1 28)) 29 (σ.2.1 29)) 30 (σ.2.1 30)) 31 (σ.2.1 31)) 34 (σ.2.1 34)) 35 (σ.2.1 35)) 36 (σ.2.1 36)) 37 (σ.2.1 37)) 437 (σ.1 437))) (c := 518) (v := σ.1 518) (gtII (by decide) (gtIF (gtIF (gtIF (gtIF (gtIF (gtIF (gtIF (gtIF rfl))))))))))) ?_
    refine j_w (cX g kk (sI (sI (sI (sF (sF (sF (sF (sF (sF (sF (sF σ 28 (σ.2.1 28)) 29 (σ.2.1 29)) 30 (σ.2.1 30)) 31 (σ.2.1 31)) 34 (σ.2.1 34)) 35 (σ.2.1 35)) 36 (σ.2.1 36)) 37 (σ.2.1 37)) 437 (σ.1 437)) 518 (σ.1 518)) 519 (σ.1 519))) (congrArg (cX g kk) (wrIi (S := (sI (sI (sF (sF (sF (sF (sF (sF (sF (sF σ 28 (σ.2.1 28)) 29 (σ.2.1 29)) 30 (σ.2.1 30)) 31 (σ.2.1 31)) 34 (σ.2.1 34)) 35 (σ.2.1 35)) 36 (σ.2.1 36)) 37 (σ.2.1 37)) 437 (σ.1 437)) 518 (σ.1 518))) (c := 519) (v := σ.1 519) (gtII (by decide) (gtII (by decide) (gtIF (gtIF (gtIF (gtIF (gtIF (gtIF (gtIF (gtIF rfl)))))))))))) ?_
    refine j_w (cX g kk (sI (sI (sI (sI (sF (sF (sF (sF (sF (sF (sF (sF σ 28 (σ.2.1 28)) 29 (σ.2.1 29)) 30 (σ.2.1 30)) 31 (σ.2.1 31)) 34 (σ.2.1 34)) 35 (σ.2.1 35)) 36 (σ.2.1 36)) 37 (σ.2.1 37)) 437 (σ.1 437)) 518 (σ.1 518)) 519 (σ.1 519)) 520 (σ.1 520))) (congrArg (cX g kk) (wrIi (S := (sI (sI (sI (sF (sF (sF (sF (sF (sF (sF (sF σ 28 (σ.2.1 28)) 29 (σ.2.1 29)) 30 (σ.2.1 30)) 31 (σ.2.1 31)) 34 (σ.2.1 34)) 35 (σ.2.1 35)) 36 (σ.2.1 36)) 37 (σ.2.1 37)) 437 (σ.1 437)) 518 (σ.1 518)) 519 (σ.1 519))) (c := 520) (v := σ.1 520) (gtII (by decide) (gtII (by decide) (gtII (by decide) (gtIF (gtIF (gtIF (gtIF (gtIF (gtIF (gtIF (gtIF rfl))))))))))))) ?_
    refine j_w (cX g kk (sI (sI (sI (sI (sI (sF (sF (sF (sF (sF (sF (sF (sF σ 28 (σ.2.1 28)) 29 (σ.2.1 29)) 30 (σ.2.1 30)) 31 (σ.2.1 31)) 34 (σ.2.1 34)) 35 (σ.2.1 35)) 36 (σ.2.1 36)) 37 (σ.2.1 37)) 437 (σ.1 437)) 518 (σ.1 518)) 519 (σ.1 519)) 520 (σ.1 520)) 521 (σ.1 521))) (congrArg (cX g kk) (wrIi (S := (sI (sI (sI (sI (sF (sF (sF (sF (sF (sF (sF (sF σ 28 (σ.2.1 28)) 29 (σ.2.1 29)) 30 (σ.2.1 30)) 31 (σ.2.1 31)) 34 (σ.2.1 34)) 35 (σ.2.1 35)) 36 (σ.2.1 36)) 37 (σ.2.1 37)) 437 (σ.1 437)) 518 (σ.1 518)) 519 (σ.1 519)) 520 (σ.1 520))) (c := 521) (v := σ.1 521) (gtII (by decide) (gtII (by decide) (gtII (by decide) (gtII (by decide) (gtIF (gtIF (gtIF (gtIF (gtIF (gtIF (gtIF (gtIF rfl)))))))))))))) ?_
    exact j_iret C E (sI (sI (sI (sI (sI (sF (sF (sF (sF (sF (sF (sF (sF σ 28 (σ.2.1 28)) 29 (σ.2.1 29)) 30 (σ.2.1 30)) 31 (σ.2.1 31)) 34 (σ.2.1 34)) 35 (σ.2.1 35)) 36 (σ.2.1 36)) 37 (σ.2.1 37)) 437 (σ.1 437)) 518 (σ.1 518)) 519 (σ.1 519)) 520 (σ.1 520)) 521 (σ.1 521)) ⟨_, rfl, ⟨(σ.2.1 28), (σ.2.1 29), (σ.2.1 30), (σ.2.1 31), (σ.2.1 34), (σ.2.1 35), (σ.2.1 36), (σ.2.1 37), (σ.1 437), (σ.1 518), (σ.1 519), (σ.1 520), (σ.1 521), rfl, (wkF_1 (Or.inl c1)), (Or.inr ⟨rfl, rfl, rfl, rfl, rfl⟩)⟩⟩ rfl dX10_week_19
  · replace c1 := bI_t c1
    obtain ⟨xn, xn1, rfl⟩ := cB_nat (by omega) c1
    refine j_iload_n C 2 rfl dX10_week_8 ?_
    refine j_iconst C (nI 0) (by decide) dX10_week_9 ?_
    refine j_bipush C (nI 21) (by decide) dX10_week_10 ?_
    refine j_S01 C (c_isWithin y (nI 0) (nI 21)) kyX10_isWithin tb_467 tb_468 rfl (Nat.le_of_ble_eq_true rfl) ⟨by decide, by decide⟩ ⟨by decide, by decide⟩ dX10_week_12 rfl ?_
    refine j_if_ne C 20 (by decide) dX10_week_15 (fun c2 => ?_) (fun c2 => ?_)
    · replace c2 := bI_t c2
      obtain ⟨yn, yn1, yn2, rfl⟩ := wB_nat (by decide) (by decide) c2
      refine j_iload_n C 3 rfl dX10_week_20 ?_
      refine j_iconst C (nI 0) (by decide) dX10_week_21 ?_
      refine j_iconst C (nI 3) (by decide) dX10_week_22 ?_
      refine j_S01 C (c_isWithin z (nI 0) (nI 3)) kyX10_isWithin tb_467 tb_468 rfl (Nat.le_of_ble_eq_true rfl) ⟨by decide, by decide⟩ ⟨by decide, by decide⟩ dX10_week_23 rfl ?_
      refine j_if_ne C 32 (by decide) dX10_week_26 (fun c3 => ?_) (fun c3 => ?_)
      · replace c3 := bI_t c3
        obtain ⟨zn, zn1, zn2, rfl⟩ := wB_nat (by decide) (by decide) c3
        refine j_aload_n C 0 rfl dX10_week_32 ?_
        refine gX_0_2 C tb_430 dX10_week_33 ?_
        refine j_V1 C (e_refresh g kk σ k hk hk6 hI G hX hst ) kyX7_refresh tb_562 tb_563 tb_564 27 rfl (eX_27 g kk _) rfl (Nat.le_of_ble_eq_true rfl) ⟨by decide, by decide⟩ dX10_week_36 rfl (fun vr ur hp => ?_)
        obtain ⟨rfl, w4, w5, w6, w7, w8, hu, g9, g10⟩ := hp
        replace hu := hu.symm
        subst hu
        refine j_aload_n C 0 rfl dX10_week_39 ?_
        refine gX_0_3 C tb_431 dX10_week_40 ?_
        refine j_iload_n C 1 rfl dX10_week_43 ?_
        refine j_bipush C (nI 28) (by decide) dX10_week_44 ?_
        refine j_imulN C dX10_week_46 ?_
        refine j_iload_n C 2 rfl dX10_week_47 ?_
        refine j_iaddN C dX10_week_48 ?_
        refine j_V1 C (e_explain g kk (sI (sF (sF (sF (sF σ 28 w4) 29 w5) 30 w6) 31 w7) 437 w8) k hk hk6 hI G hX g10 xn yn (by omega) (by omega) ((xn * 28) + yn) (by first | assumption | omega)) kyX9_explain tb_618 tb_619 tb_620 32 rfl (eX_32 g kk _) rfl (Nat.le_of_ble_eq_true rfl) ⟨by decide, by decide⟩ dX10_week_49 rfl (fun vr ur hp => ?_)
        obtain ⟨rfl, w11, w12, w13, w14, w15, w16, w17, w18, hu, g19⟩ := hp
        replace hu := hu.symm
        subst hu
        refine j_iload_n C 3 rfl dX10_week_52 ?_
        by_cases q20 : zn = 0
        · rw [q20]
          refine j_tabIn C 80 (by decide) (by decide) rfl (by decide) dX10_week_53 ?_
          refine j_aload_n C 0 rfl dX10_week_80 ?_
          refine gX_0_3 C tb_431 dX10_week_81 ?_
          refine gX_32_6 C tb_244 (nI w15) rfl dX10_week_84 ?_
          refine j_w (cX g kk (sI (sI (sI (sI (sI (sF (sF (sF (sF (sF (sF (sF (sF σ 28 w4) 29 w5) 30 w6) 31 w7) 34 w11) 35 w12) 36 w13) 37 w14) 437 w8) 518 (nI w15)) 519 w16) 520 w17) 521 w18)) (congrArg (cX g kk) (show sI (sI (sI (sI (sF (sF (sF (sF (sI (sF (sF (sF (sF σ 28 w4) 29 w5) 30 w6) 31 w7) 437 w8) 34 w11) 35 w12) 36 w13) 37 w14) 518 (nI w15)) 519 w16) 520 w17) 521 w18 = sI (sI (sI (sI (sI (sF (sF (sF (sF (sF (sF (sF (sF σ 28 w4) 29 w5) 30 w6) 31 w7) 34 w11) 35 w12) 36 w13) 37 w14) 437 w8) 518 (nI w15)) 519 w16) 520 w17) 521 w18 from (wrI (wrI (wrI (wrI (Eq.trans (wrF (Eq.trans (wrF (Eq.trans (wrF wrFI) wrFI)) wrFI)) wrFI))))))) ?_
          exact j_iret C E (sI (sI (sI (sI (sI (sF (sF (sF (sF (sF (sF (sF (sF σ 28 w4) 29 w5) 30 w6) 31 w7) 34 w11) 35 w12) 36 w13) 37 w14) 437 w8) 518 (nI w15)) 519 w16) 520 w17) 521 w18) ⟨_, rfl, ⟨w4, w5, w6, w7, w11, w12, w13, w14, w8, (nI w15), w16, w17, w18, rfl, (wkF_x c1 c2 c3 (by omega) (by omega) (by omega) (by rw [if_pos q20, g19.2.1])), (Or.inl ⟨g9, g10⟩)⟩⟩ rfl dX10_week_87
        · by_cases q21 : zn = 1
          · rw [q21]
            refine j_tabIn C 88 (by decide) (by decide) rfl (by decide) dX10_week_53 ?_
            refine j_aload_n C 0 rfl dX10_week_88 ?_
            refine gX_0_3 C tb_431 dX10_week_89 ?_
            refine gX_32_7 C tb_246 (w16) rfl dX10_week_92 ?_
            refine j_w (cX g kk (sI (sI (sI (sI (sI (sF (sF (sF (sF (sF (sF (sF (sF σ 28 w4) 29 w5) 30 w6) 31 w7) 34 w11) 35 w12) 36 w13) 37 w14) 437 w8) 518 (nI w15)) 519 w16) 520 w17) 521 w18)) (congrArg (cX g kk) (show sI (sI (sI (sI (sF (sF (sF (sF (sI (sF (sF (sF (sF σ 28 w4) 29 w5) 30 w6) 31 w7) 437 w8) 34 w11) 35 w12) 36 w13) 37 w14) 518 (nI w15)) 519 w16) 520 w17) 521 w18 = sI (sI (sI (sI (sI (sF (sF (sF (sF (sF (sF (sF (sF σ 28 w4) 29 w5) 30 w6) 31 w7) 34 w11) 35 w12) 36 w13) 37 w14) 437 w8) 518 (nI w15)) 519 w16) 520 w17) 521 w18 from (wrI (wrI (wrI (wrI (Eq.trans (wrF (Eq.trans (wrF (Eq.trans (wrF wrFI) wrFI)) wrFI)) wrFI))))))) ?_
            exact j_iret C E (sI (sI (sI (sI (sI (sF (sF (sF (sF (sF (sF (sF (sF σ 28 w4) 29 w5) 30 w6) 31 w7) 34 w11) 35 w12) 36 w13) 37 w14) 437 w8) 518 (nI w15)) 519 w16) 520 w17) 521 w18) ⟨_, rfl, ⟨w4, w5, w6, w7, w11, w12, w13, w14, w8, (nI w15), w16, w17, w18, rfl, (wkF_x c1 c2 c3 (by omega) (by omega) (by omega) (by rw [if_neg (by omega), if_pos q21, g19.2.2.1])), (Or.inl ⟨g9, g10⟩)⟩⟩ rfl dX10_week_95
          · by_cases q22 : zn = 2
            · rw [q22]
              refine j_tabIn C 96 (by decide) (by decide) rfl (by decide) dX10_week_53 ?_
              refine j_aload_n C 0 rfl dX10_week_96 ?_
              refine gX_0_3 C tb_431 dX10_week_97 ?_
              refine gX_32_8 C tb_248 (w17) rfl dX10_week_100 ?_
              refine j_S01 C (c_orNone w17) kyX10_orNone tb_493 tb_494 rfl (Nat.le_of_ble_eq_true rfl) ⟨by decide, by decide⟩ ⟨by decide, by decide⟩ dX10_week_103 rfl ?_
              refine j_w (cX g kk (sI (sI (sI (sI (sI (sF (sF (sF (sF (sF (sF (sF (sF σ 28 w4) 29 w5) 30 w6) 31 w7) 34 w11) 35 w12) 36 w13) 37 w14) 437 w8) 518 (nI w15)) 519 w16) 520 w17) 521 w18)) (congrArg (cX g kk) (show sI (sI (sI (sI (sF (sF (sF (sF (sI (sF (sF (sF (sF σ 28 w4) 29 w5) 30 w6) 31 w7) 437 w8) 34 w11) 35 w12) 36 w13) 37 w14) 518 (nI w15)) 519 w16) 520 w17) 521 w18 = sI (sI (sI (sI (sI (sF (sF (sF (sF (sF (sF (sF (sF σ 28 w4) 29 w5) 30 w6) 31 w7) 34 w11) 35 w12) 36 w13) 37 w14) 437 w8) 518 (nI w15)) 519 w16) 520 w17) 521 w18 from (wrI (wrI (wrI (wrI (Eq.trans (wrF (Eq.trans (wrF (Eq.trans (wrF wrFI) wrFI)) wrFI)) wrFI))))))) ?_
              exact j_iret C E (sI (sI (sI (sI (sI (sF (sF (sF (sF (sF (sF (sF (sF σ 28 w4) 29 w5) 30 w6) 31 w7) 34 w11) 35 w12) 36 w13) 37 w14) 437 w8) 518 (nI w15)) 519 w16) 520 w17) 521 w18) ⟨_, rfl, ⟨w4, w5, w6, w7, w11, w12, w13, w14, w8, (nI w15), w16, w17, w18, rfl, (wkF_x c1 c2 c3 (by omega) (by omega) (by omega) (by show tr w17 = _; rw [if_neg (by omega), if_neg (by omega), if_pos q22, g19.2.2.2.1])), (Or.inl ⟨g9, g10⟩)⟩⟩ rfl dX10_week_106
            · refine j_tabOut C 107 (swOutN 2 (by omega) (by omega)) (by decide) dX10_week_53 ?_
              refine j_aload_n C 0 rfl dX10_week_107 ?_
              refine gX_0_3 C tb_431 dX10_week_108 ?_
              refine gX_32_9 C tb_250 (w18) rfl dX10_week_111 ?_
              refine j_S01 C (c_orNone w18) kyX10_orNone tb_493 tb_494 rfl (Nat.le_of_ble_eq_true rfl) ⟨by decide, by decide⟩ ⟨by decide, by decide⟩ dX10_week_114 rfl ?_
              refine j_w (cX g kk (sI (sI (sI (sI (sI (sF (sF (sF (sF (sF (sF (sF (sF σ 28 w4) 29 w5) 30 w6) 31 w7) 34 w11) 35 w12) 36 w13) 37 w14) 437 w8) 518 (nI w15)) 519 w16) 520 w17) 521 w18)) (congrArg (cX g kk) (show sI (sI (sI (sI (sF (sF (sF (sF (sI (sF (sF (sF (sF σ 28 w4) 29 w5) 30 w6) 31 w7) 437 w8) 34 w11) 35 w12) 36 w13) 37 w14) 518 (nI w15)) 519 w16) 520 w17) 521 w18 = sI (sI (sI (sI (sI (sF (sF (sF (sF (sF (sF (sF (sF σ 28 w4) 29 w5) 30 w6) 31 w7) 34 w11) 35 w12) 36 w13) 37 w14) 437 w8) 518 (nI w15)) 519 w16) 520 w17) 521 w18 from (wrI (wrI (wrI (wrI (Eq.trans (wrF (Eq.trans (wrF (Eq.trans (wrF wrFI) wrFI)) wrFI)) wrFI))))))) ?_
              exact j_iret C E (sI (sI (sI (sI (sI (sF (sF (sF (sF (sF (sF (sF (sF σ 28 w4) 29 w5) 30 w6) 31 w7) 34 w11) 35 w12) 36 w13) 37 w14) 437 w8) 518 (nI w15)) 519 w16) 520 w17) 521 w18) ⟨_, rfl, ⟨w4, w5, w6, w7, w11, w12, w13, w14, w8, (nI w15), w16, w17, w18, rfl, (wkF_x c1 c2 c3 (by omega) (by omega) (by omega) (by show tr w18 = _; rw [if_neg (by omega), if_neg (by omega), if_neg (by omega), g19.2.2.2.2])), (Or.inl ⟨g9, g10⟩)⟩⟩ rfl dX10_week_117
      · replace c3 := bI_f c3
        refine j_bipush C ((-2)) (by decide) dX10_week_29 ?_
        refine j_w (cX g kk (sF σ 28 (σ.2.1 28))) (congrArg (cX g kk) (wrFi (S := σ) (c := 28) (v := σ.2.1 28) rfl)) ?_
        refine j_w (cX g kk (sF (sF σ 28 (σ.2.1 28)) 29 (σ.2.1 29))) (congrArg (cX g kk) (wrFi (S := (sF σ 28 (σ.2.1 28))) (c := 29) (v := σ.2.1 29) (gtFF (by decide) rfl))) ?_
        refine j_w (cX g kk (sF (sF (sF σ 28 (σ.2.1 28)) 29 (σ.2.1 29)) 30 (σ.2.1 30))) (congrArg (cX g kk) (wrFi (S := (sF (sF σ 28 (σ.2.1 28)) 29 (σ.2.1 29))) (c := 30) (v := σ.2.1 30) (gtFF (by decide) (gtFF (by decide) rfl)))) ?_
        refine j_w (cX g kk (sF (sF (sF (sF σ 28 (σ.2.1 28)) 29 (σ.2.1 29)) 30 (σ.2.1 30)) 31 (σ.2.1 31))) (congrArg (cX g kk) (wrFi (S := (sF (sF (sF σ 28 (σ.2.1 28)) 29 (σ.2.1 29)) 30 (σ.2.1 30))) (c := 31) (v := σ.2.1 31) (gtFF (by decide) (gtFF (by decide) (gtFF (by decide) rfl))))) ?_
        refine j_w (cX g kk (sF (sF (sF (sF (sF σ 28 (σ.2.1 28)) 29 (σ.2.1 29)) 30 (σ.2.1 30)) 31 (σ.2.1 31)) 34 (σ.2.1 34))) (congrArg (cX g kk) (wrFi (S := (sF (sF (sF (sF σ 28 (σ.2.1 28)) 29 (σ.2.1 29)) 30 (σ.2.1 30)) 31 (σ.2.1 31))) (c := 34) (v := σ.2.1 34) (gtFF (by decide) (gtFF (by decide) (gtFF (by decide) (gtFF (by decide) rfl)))))) ?_
        refine j_w (cX g kk (sF (sF (sF (sF (sF (sF σ 28 (σ.2.1 28)) 29 (σ.2.1 29)) 30 (σ.2.1 30)) 31 (σ.2.1 31)) 34 (σ.2.1 34)) 35 (σ.2.1 35))) (congrArg (cX g kk) (wrFi (S := (sF (sF (sF (sF (sF σ 28 (σ.2.1 28)) 29 (σ.2.1 29)) 30 (σ.2.1 30)) 31 (σ.2.1 31)) 34 (σ.2.1 34))) (c := 35) (v := σ.2.1 35) (gtFF (by decide) (gtFF (by decide) (gtFF (by decide) (gtFF (by decide) (gtFF (by decide) rfl))))))) ?_
        refine j_w (cX g kk (sF (sF (sF (sF (sF (sF (sF σ 28 (σ.2.1 28)) 29 (σ.2.1 29)) 30 (σ.2.1 30)) 31 (σ.2.1 31)) 34 (σ.2.1 34)) 35 (σ.2.1 35)) 36 (σ.2.1 36))) (congrArg (cX g kk) (wrFi (S := (sF (sF (sF (sF (sF (sF σ 28 (σ.2.1 28)) 29 (σ.2.1 29)) 30 (σ.2.1 30)) 31 (σ.2.1 31)) 34 (σ.2.1 34)) 35 (σ.2.1 35))) (c := 36) (v := σ.2.1 36) (gtFF (by decide) (gtFF (by decide) (gtFF (by decide) (gtFF (by decide) (gtFF (by decide) (gtFF (by decide) rfl)))))))) ?_
        refine j_w (cX g kk (sF (sF (sF (sF (sF (sF (sF (sF σ 28 (σ.2.1 28)) 29 (σ.2.1 29)) 30 (σ.2.1 30)) 31 (σ.2.1 31)) 34 (σ.2.1 34)) 35 (σ.2.1 35)) 36 (σ.2.1 36)) 37 (σ.2.1 37))) (congrArg (cX g kk) (wrFi (S := (sF (sF (sF (sF (sF (sF (sF σ 28 (σ.2.1 28)) 29 (σ.2.1 29)) 30 (σ.2.1 30)) 31 (σ.2.1 31)) 34 (σ.2.1 34)) 35 (σ.2.1 35)) 36 (σ.2.1 36))) (c := 37) (v := σ.2.1 37) (gtFF (by decide) (gtFF (by decide) (gtFF (by decide) (gtFF (by decide) (gtFF (by decide) (gtFF (by decide) (gtFF (by decide) rfl))))))))) ?_
        refine j_w (cX g kk (sI (sF (sF (sF (sF (sF (sF (sF (sF σ 28 (σ.2.1 28)) 29 (σ.2.1 29)) 30 (σ.2.1 30)) 31 (σ.2.1 31)) 34 (σ.2.1 34)) 35 (σ.2.1 35)) 36 (σ.2.1 36)) 37 (σ.2.1 37)) 437 (σ.1 437))) (congrArg (cX g kk) (wrIi (S := (sF (sF (sF (sF (sF (sF (sF (sF σ 28 (σ.2.1 28)) 29 (σ.2.1 29)) 30 (σ.2.1 30)) 31 (σ.2.1 31)) 34 (σ.2.1 34)) 35 (σ.2.1 35)) 36 (σ.2.1 36)) 37 (σ.2.1 37))) (c := 437) (v := σ.1 437) (gtIF (gtIF (gtIF (gtIF (gtIF (gtIF (gtIF (gtIF rfl)))))))))) ?_
        refine j_w (cX g kk (sI (sI (sF (sF (sF (sF (sF (sF (sF (sF σ 28 (σ.2.1 28)) 29 (σ.2.1 29)) 30 (σ.2.1 30)) 31 (σ.2.1 31)) 34 (σ.2.1 34)) 35 (σ.2.1 35)) 36 (σ.2.1 36)) 37 (σ.2.1 37)) 437 (σ.1 437)) 518 (σ.1 518))) (congrArg (cX g kk) (wrIi (S := (sI (sF (sF (sF (sF (sF (sF (sF (sF σ 28 (σ.2.1 28)) 29 (σ.2.1 29)) 30 (σ.2.1 30)) 31 (σ.2.1 31)) 34 (σ.2.1 34)) 35 (σ.2.1 35)) 36 (σ.2.1 36)) 37 (σ.2.1 37)) 437 (σ.1 437))) (c := 518) (v := σ.1 518) (gtII (by decide) (gtIF (gtIF (gtIF (gtIF (gtIF (gtIF (gtIF (gtIF rfl))))))))))) ?_
        refine j_w (cX g kk (sI (sI (sI (sF (sF (sF (sF (sF (sF (sF (sF σ 28 (σ.2.1 28)) 29 (σ.2.1 29)) 30 (σ.2.1 30)) 31 (σ.2.1 31)) 34 (σ.2.1 34)) 35 (σ.2.1 35)) 36 (σ.2.1 36)) 37 (σ.2.1 37)) 437 (σ.1 437)) 518 (σ.1 518)) 519 (σ.1 519))) (congrArg (cX g kk) (wrIi (S := (sI (sI (sF (sF (sF (sF (sF (sF (sF (sF σ 28 (σ.2.1 28)) 29 (σ.2.1 29)) 30 (σ.2.1 30)) 31 (σ.2.1 31)) 34 (σ.2.1 34)) 35 (σ.2.1 35)) 36 (σ.2.1 36)) 37 (σ.2.1 37)) 437 (σ.1 437)) 518 (σ.1 518))) (c := 519) (v := σ.1 519) (gtII (by decide) (gtII (by decide) (gtIF (gtIF (gtIF (gtIF (gtIF (gtIF (gtIF (gtIF rfl)))))))))))) ?_
        refine j_w (cX g kk (sI (sI (sI (sI (sF (sF (sF (sF (sF (sF (sF (sF σ 28 (σ.2.1 28)) 29 (σ.2.1 29)) 30 (σ.2.1 30)) 31 (σ.2.1 31)) 34 (σ.2.1 34)) 35 (σ.2.1 35)) 36 (σ.2.1 36)) 37 (σ.2.1 37)) 437 (σ.1 437)) 518 (σ.1 518)) 519 (σ.1 519)) 520 (σ.1 520))) (congrArg (cX g kk) (wrIi (S := (sI (sI (sI (sF (sF (sF (sF (sF (sF (sF (sF σ 28 (σ.2.1 28)) 29 (σ.2.1 29)) 30 (σ.2.1 30)) 31 (σ.2.1 31)) 34 (σ.2.1 34)) 35 (σ.2.1 35)) 36 (σ.2.1 36)) 37 (σ.2.1 37)) 437 (σ.1 437)) 518 (σ.1 518)) 519 (σ.1 519))) (c := 520) (v := σ.1 520) (gtII (by decide) (gtII (by decide) (gtII (by decide) (gtIF (gtIF (gtIF (gtIF (gtIF (gtIF (gtIF (gtIF rfl))))))))))))) ?_
        refine j_w (cX g kk (sI (sI (sI (sI (sI (sF (sF (sF (sF (sF (sF (sF (sF σ 28 (σ.2.1 28)) 29 (σ.2.1 29)) 30 (σ.2.1 30)) 31 (σ.2.1 31)) 34 (σ.2.1 34)) 35 (σ.2.1 35)) 36 (σ.2.1 36)) 37 (σ.2.1 37)) 437 (σ.1 437)) 518 (σ.1 518)) 519 (σ.1 519)) 520 (σ.1 520)) 521 (σ.1 521))) (congrArg (cX g kk) (wrIi (S := (sI (sI (sI (sI (sF (sF (sF (sF (sF (sF (sF (sF σ 28 (σ.2.1 28)) 29 (σ.2.1 29)) 30 (σ.2.1 30)) 31 (σ.2.1 31)) 34 (σ.2.1 34)) 35 (σ.2.1 35)) 36 (σ.2.1 36)) 37 (σ.2.1 37)) 437 (σ.1 437)) 518 (σ.1 518)) 519 (σ.1 519)) 520 (σ.1 520))) (c := 521) (v := σ.1 521) (gtII (by decide) (gtII (by decide) (gtII (by decide) (gtII (by decide) (gtIF (gtIF (gtIF (gtIF (gtIF (gtIF (gtIF (gtIF rfl)))))))))))))) ?_
        exact j_iret C E (sI (sI (sI (sI (sI (sF (sF (sF (sF (sF (sF (sF (sF σ 28 (σ.2.1 28)) 29 (σ.2.1 29)) 30 (σ.2.1 30)) 31 (σ.2.1 31)) 34 (σ.2.1 34)) 35 (σ.2.1 35)) 36 (σ.2.1 36)) 37 (σ.2.1 37)) 437 (σ.1 437)) 518 (σ.1 518)) 519 (σ.1 519)) 520 (σ.1 520)) 521 (σ.1 521)) ⟨_, rfl, ⟨(σ.2.1 28), (σ.2.1 29), (σ.2.1 30), (σ.2.1 31), (σ.2.1 34), (σ.2.1 35), (σ.2.1 36), (σ.2.1 37), (σ.1 437), (σ.1 518), (σ.1 519), (σ.1 520), (σ.1 521), rfl, (wkF_2 c1 c2 c3), (Or.inr ⟨rfl, rfl, rfl, rfl, rfl⟩)⟩⟩ rfl dX10_week_31
    · replace c2 := bI_f c2
      refine j_iconst C ((-1)) (by decide) dX10_week_18 ?_
      refine j_w (cX g kk (sF σ 28 (σ.2.1 28))) (congrArg (cX g kk) (wrFi (S := σ) (c := 28) (v := σ.2.1 28) rfl)) ?_
      refine j_w (cX g kk (sF (sF σ 28 (σ.2.1 28)) 29 (σ.2.1 29))) (congrArg (cX g kk) (wrFi (S := (sF σ 28 (σ.2.1 28))) (c := 29) (v := σ.2.1 29) (gtFF (by decide) rfl))) ?_
      refine j_w (cX g kk (sF (sF (sF σ 28 (σ.2.1 28)) 29 (σ.2.1 29)) 30 (σ.2.1 30))) (congrArg (cX g kk) (wrFi (S := (sF (sF σ 28 (σ.2.1 28)) 29 (σ.2.1 29))) (c := 30) (v := σ.2.1 30) (gtFF (by decide) (gtFF (by decide) rfl)))) ?_
      refine j_w (cX g kk (sF (sF (sF (sF σ 28 (σ.2.1 28)) 29 (σ.2.1 29)) 30 (σ.2.1 30)) 31 (σ.2.1 31))) (congrArg (cX g kk) (wrFi (S := (sF (sF (sF σ 28 (σ.2.1 28)) 29 (σ.2.1 29)) 30 (σ.2.1 30))) (c := 31) (v := σ.2.1 31) (gtFF (by decide) (gtFF (by decide) (gtFF (by decide) rfl))))) ?_
      refine j_w (cX g kk (sF (sF (sF (sF (sF σ 28 (σ.2.1 28)) 29 (σ.2.1 29)) 30 (σ.2.1 30)) 31 (σ.2.1 31)) 34 (σ.2.1 34))) (congrArg (cX g kk) (wrFi (S := (sF (sF (sF (sF σ 28 (σ.2.1 28)) 29 (σ.2.1 29)) 30 (σ.2.1 30)) 31 (σ.2.1 31))) (c := 34) (v := σ.2.1 34) (gtFF (by decide) (gtFF (by decide) (gtFF (by decide) (gtFF (by decide) rfl)))))) ?_
      refine j_w (cX g kk (sF (sF (sF (sF (sF (sF σ 28 (σ.2.1 28)) 29 (σ.2.1 29)) 30 (σ.2.1 30)) 31 (σ.2.1 31)) 34 (σ.2.1 34)) 35 (σ.2.1 35))) (congrArg (cX g kk) (wrFi (S := (sF (sF (sF (sF (sF σ 28 (σ.2.1 28)) 29 (σ.2.1 29)) 30 (σ.2.1 30)) 31 (σ.2.1 31)) 34 (σ.2.1 34))) (c := 35) (v := σ.2.1 35) (gtFF (by decide) (gtFF (by decide) (gtFF (by decide) (gtFF (by decide) (gtFF (by decide) rfl))))))) ?_
      refine j_w (cX g kk (sF (sF (sF (sF (sF (sF (sF σ 28 (σ.2.1 28)) 29 (σ.2.1 29)) 30 (σ.2.1 30)) 31 (σ.2.1 31)) 34 (σ.2.1 34)) 35 (σ.2.1 35)) 36 (σ.2.1 36))) (congrArg (cX g kk) (wrFi (S := (sF (sF (sF (sF (sF (sF σ 28 (σ.2.1 28)) 29 (σ.2.1 29)) 30 (σ.2.1 30)) 31 (σ.2.1 31)) 34 (σ.2.1 34)) 35 (σ.2.1 35))) (c := 36) (v := σ.2.1 36) (gtFF (by decide) (gtFF (by decide) (gtFF (by decide) (gtFF (by decide) (gtFF (by decide) (gtFF (by decide) rfl)))))))) ?_
      refine j_w (cX g kk (sF (sF (sF (sF (sF (sF (sF (sF σ 28 (σ.2.1 28)) 29 (σ.2.1 29)) 30 (σ.2.1 30)) 31 (σ.2.1 31)) 34 (σ.2.1 34)) 35 (σ.2.1 35)) 36 (σ.2.1 36)) 37 (σ.2.1 37))) (congrArg (cX g kk) (wrFi (S := (sF (sF (sF (sF (sF (sF (sF σ 28 (σ.2.1 28)) 29 (σ.2.1 29)) 30 (σ.2.1 30)) 31 (σ.2.1 31)) 34 (σ.2.1 34)) 35 (σ.2.1 35)) 36 (σ.2.1 36))) (c := 37) (v := σ.2.1 37) (gtFF (by decide) (gtFF (by decide) (gtFF (by decide) (gtFF (by decide) (gtFF (by decide) (gtFF (by decide) (gtFF (by decide) rfl))))))))) ?_
      refine j_w (cX g kk (sI (sF (sF (sF (sF (sF (sF (sF (sF σ 28 (σ.2.1 28)) 29 (σ.2.1 29)) 30 (σ.2.1 30)) 31 (σ.2.1 31)) 34 (σ.2.1 34)) 35 (σ.2.1 35)) 36 (σ.2.1 36)) 37 (σ.2.1 37)) 437 (σ.1 437))) (congrArg (cX g kk) (wrIi (S := (sF (sF (sF (sF (sF (sF (sF (sF σ 28 (σ.2.1 28)) 29 (σ.2.1 29)) 30 (σ.2.1 30)) 31 (σ.2.1 31)) 34 (σ.2.1 34)) 35 (σ.2.1 35)) 36 (σ.2.1 36)) 37 (σ.2.1 37))) (c := 437) (v := σ.1 437) (gtIF (gtIF (gtIF (gtIF (gtIF (gtIF (gtIF (gtIF rfl)))))))))) ?_
      refine j_w (cX g kk (sI (sI (sF (sF (sF (sF (sF (sF (sF (sF σ 28 (σ.2.1 28)) 29 (σ.2.1 29)) 30 (σ.2.1 30)) 31 (σ.2.1 31)) 34 (σ.2.1 34)) 35 (σ.2.1 35)) 36 (σ.2.1 36)) 37 (σ.2.1 37)) 437 (σ.1 437)) 518 (σ.1 518))) (congrArg (cX g kk) (wrIi (S := (sI (sF (sF (sF (sF (sF (sF (sF (sF σ 28 (σ.2.1 28)) 29 (σ.2.1 29)) 30 (σ.2.1 30)) 31 (σ.2.1 31)) 34 (σ.2.1 34)) 35 (σ.2.1 35)) 36 (σ.2.1 36)) 37 (σ.2.1 37)) 437 (σ.1 437))) (c := 518) (v := σ.1 518) (gtII (by decide) (gtIF (gtIF (gtIF (gtIF (gtIF (gtIF (gtIF (gtIF rfl))))))))))) ?_
      refine j_w (cX g kk (sI (sI (sI (sF (sF (sF (sF (sF (sF (sF (sF σ 28 (σ.2.1 28)) 29 (σ.2.1 29)) 30 (σ.2.1 30)) 31 (σ.2.1 31)) 34 (σ.2.1 34)) 35 (σ.2.1 35)) 36 (σ.2.1 36)) 37 (σ.2.1 37)) 437 (σ.1 437)) 518 (σ.1 518)) 519 (σ.1 519))) (congrArg (cX g kk) (wrIi (S := (sI (sI (sF (sF (sF (sF (sF (sF (sF (sF σ 28 (σ.2.1 28)) 29 (σ.2.1 29)) 30 (σ.2.1 30)) 31 (σ.2.1 31)) 34 (σ.2.1 34)) 35 (σ.2.1 35)) 36 (σ.2.1 36)) 37 (σ.2.1 37)) 437 (σ.1 437)) 518 (σ.1 518))) (c := 519) (v := σ.1 519) (gtII (by decide) (gtII (by decide) (gtIF (gtIF (gtIF (gtIF (gtIF (gtIF (gtIF (gtIF rfl)))))))))))) ?_
      refine j_w (cX g kk (sI (sI (sI (sI (sF (sF (sF (sF (sF (sF (sF (sF σ 28 (σ.2.1 28)) 29 (σ.2.1 29)) 30 (σ.2.1 30)) 31 (σ.2.1 31)) 34 (σ.2.1 34)) 35 (σ.2.1 35)) 36 (σ.2.1 36)) 37 (σ.2.1 37)) 437 (σ.1 437)) 518 (σ.1 518)) 519 (σ.1 519)) 520 (σ.1 520))) (congrArg (cX g kk) (wrIi (S := (sI (sI (sI (sF (sF (sF (sF (sF (sF (sF (sF σ 28 (σ.2.1 28)) 29 (σ.2.1 29)) 30 (σ.2.1 30)) 31 (σ.2.1 31)) 34 (σ.2.1 34)) 35 (σ.2.1 35)) 36 (σ.2.1 36)) 37 (σ.2.1 37)) 437 (σ.1 437)) 518 (σ.1 518)) 519 (σ.1 519))) (c := 520) (v := σ.1 520) (gtII (by decide) (gtII (by decide) (gtII (by decide) (gtIF (gtIF (gtIF (gtIF (gtIF (gtIF (gtIF (gtIF rfl))))))))))))) ?_
      refine j_w (cX g kk (sI (sI (sI (sI (sI (sF (sF (sF (sF (sF (sF (sF (sF σ 28 (σ.2.1 28)) 29 (σ.2.1 29)) 30 (σ.2.1 30)) 31 (σ.2.1 31)) 34 (σ.2.1 34)) 35 (σ.2.1 35)) 36 (σ.2.1 36)) 37 (σ.2.1 37)) 437 (σ.1 437)) 518 (σ.1 518)) 519 (σ.1 519)) 520 (σ.1 520)) 521 (σ.1 521))) (congrArg (cX g kk) (wrIi (S := (sI (sI (sI (sI (sF (sF (sF (sF (sF (sF (sF (sF σ 28 (σ.2.1 28)) 29 (σ.2.1 29)) 30 (σ.2.1 30)) 31 (σ.2.1 31)) 34 (σ.2.1 34)) 35 (σ.2.1 35)) 36 (σ.2.1 36)) 37 (σ.2.1 37)) 437 (σ.1 437)) 518 (σ.1 518)) 519 (σ.1 519)) 520 (σ.1 520))) (c := 521) (v := σ.1 521) (gtII (by decide) (gtII (by decide) (gtII (by decide) (gtII (by decide) (gtIF (gtIF (gtIF (gtIF (gtIF (gtIF (gtIF (gtIF rfl)))))))))))))) ?_
      exact j_iret C E (sI (sI (sI (sI (sI (sF (sF (sF (sF (sF (sF (sF (sF σ 28 (σ.2.1 28)) 29 (σ.2.1 29)) 30 (σ.2.1 30)) 31 (σ.2.1 31)) 34 (σ.2.1 34)) 35 (σ.2.1 35)) 36 (σ.2.1 36)) 37 (σ.2.1 37)) 437 (σ.1 437)) 518 (σ.1 518)) 519 (σ.1 519)) 520 (σ.1 520)) 521 (σ.1 521)) ⟨_, rfl, ⟨(σ.2.1 28), (σ.2.1 29), (σ.2.1 30), (σ.2.1 31), (σ.2.1 34), (σ.2.1 35), (σ.2.1 36), (σ.2.1 37), (σ.1 437), (σ.1 518), (σ.1 519), (σ.1 520), (σ.1 521), rfl, (wkF_1 (Or.inr c2)), (Or.inr ⟨rfl, rfl, rfl, rfl, rfl⟩)⟩⟩ rfl dX10_week_19
