def dgt (a p : Nat) : Nat := a / 10 ^ p % 10
/-- the first can of a row of digits that V holds of; digits below the p-th -/
def foV (a k : Nat) (V : Nat → Bool) : Nat → Option Nat
  | 0 => none
  | p + 1 => if 1 ≤ dgt a p ∧ dgt a p ≤ k ∧ V (dgt a p - 1) = true then some (dgt a p - 1) else foV a k V p
def afP (f : Nat → Int32) (V : Nat → Bool) : Nat → Option Nat → Option Nat
  | 0, z => z
  | q + 1, z => afP f V q (if V (f q).toNatClampNeg = true then some (f q).toNatClampNeg else z)
theorem afP_congr {f g : Nat → Int32} {V : Nat → Bool} : ∀ (q : Nat) (z : Option Nat), (∀ i, i < q → f i = g i) → afP f V q z = afP g V q z
  | 0, _, _ => rfl
  | q + 1, z, h => by
    show afP f V q _ = afP g V q _
    rw [h q (by omega), afP_congr q _ (fun i hi => h i (by omega))]
theorem afP_s {f : Nat → Int32} {V : Nat → Bool} {q c : Nat} {z : Option Nat} (hc : c < 2 ^ 31) : afP (upd f q (nI c)) V (q + 1) z = afP f V q (if V c = true then some c else z) := by
  show afP (upd f q (nI c)) V q (if V (upd f q (nI c) q).toNatClampNeg = true then some (upd f q (nI c) q).toNatClampNeg else z) = _
  rw [pk_us, nI_clamp hc, afP_congr q _ (fun i hi => pk_un (by omega))]
/-- the search, the first one first -/
def fwd (f : Nat → Int32) (V : Nat → Bool) (n : Nat) : Nat → Option Nat
  | 0 => none
  | m + 1 => if V (f n).toNatClampNeg = true then some (f n).toNatClampNeg else fwd f V (n + 1) m
def fwz (f : Nat → Int32) (V : Nat → Bool) (z : Option Nat) (n : Nat) : Nat → Option Nat
  | 0 => z
  | m + 1 => if V (f n).toNatClampNeg = true then some (f n).toNatClampNeg else fwz f V z (n + 1) m
theorem fwz_e {f : Nat → Int32} {V : Nat → Bool} {z : Option Nat} : ∀ m n : Nat, fwz f V z n (m + 1) = fwz f V (if V (f (n + m)).toNatClampNeg = true then some (f (n + m)).toNatClampNeg else z) n m
  | 0, n => rfl
  | m + 1, n => by
    show (if V (f n).toNatClampNeg = true then some (f n).toNatClampNeg else fwz f V z (n + 1) (m + 1)) = (if V (f n).toNatClampNeg = true then some (f n).toNatClampNeg else fwz f V _ (n + 1) m)
    rw [fwz_e m (n + 1), show n + 1 + m = n + (m + 1) by omega]
theorem fwz_a {f : Nat → Int32} {V : Nat → Bool} : ∀ (q : Nat) (z : Option Nat), fwz f V z 0 q = afP f V q z
  | 0, _ => rfl
  | q + 1, z => by
    rw [fwz_e q 0, fwz_a q, Nat.zero_add]
    rfl
def enc (o : Option Nat) : Int32 := match o with | none => -1 | some c => nI c
def encM (o : Option Nat) : Int32 := match o with | none => -6 | some c => nI c
theorem foV_y {a k p : Nat} {V : Nat → Bool} (h1 : 1 ≤ dgt a p) (h2 : dgt a p ≤ k) : foV a k V (p + 1) = if V (dgt a p - 1) = true then some (dgt a p - 1) else foV a k V p := by
  show (if 1 ≤ dgt a p ∧ dgt a p ≤ k ∧ V (dgt a p - 1) = true then some (dgt a p - 1) else foV a k V p) = _
  by_cases q : V (dgt a p - 1) = true
  · rw [if_pos ⟨h1, h2, q⟩, if_pos q]
  · rw [if_neg (fun w => q w.2.2), if_neg q]
theorem foV_n {a k p : Nat} {V : Nat → Bool} (h : ¬ (1 ≤ dgt a p ∧ dgt a p ≤ k ∧ V (dgt a p - 1) = true)) : foV a k V (p + 1) = foV a k V p := if_neg h
theorem foV_lt {a k : Nat} {V : Nat → Bool} : ∀ p c : Nat, foV a k V p = some c → c < k ∧ V c = true
  | 0, c, h => by cases h
  | p + 1, c, h => by
    by_cases q : 1 ≤ dgt a p ∧ dgt a p ≤ k ∧ V (dgt a p - 1) = true
    · have e : foV a k V (p + 1) = some (dgt a p - 1) := if_pos q
      rw [e] at h
      cases h
      exact ⟨by omega, q.2.2⟩
    · rw [foV_n q] at h
      exact foV_lt p c h
theorem foV_end {a k p : Nat} {V : Nat → Bool} (h : a / 10 ^ p = 0) : ∀ m : Nat, foV a k V (p + m) = foV a k V p
  | 0 => rfl
  | m + 1 => by
    have e : dgt a (p + m) = 0 := by
      unfold dgt
      rw [Nat.pow_add, ← Nat.div_div_eq_div_mul, h, Nat.zero_div]
    rw [← Nat.add_assoc, foV_n (fun w => by omega)]
    exact foV_end h m
/-- orders that tell the row -/
def ORD (f : Nat → Int32) (a k q p : Nat) : Prop := (∀ i, i < q → le_ 5 (f i) ∧ (f i).toNatClampNeg < k) ∧ ∀ V : Nat → Bool, afP f V q (foV a k V p) = foV a k V 6
theorem ORD_0 {f : Nat → Int32} {a k : Nat} : ORD f a k 0 6 := ⟨fun i hi => absurd hi (by omega), fun V => rfl⟩
theorem ORD_y {f : Nat → Int32} {a k q p : Nat} (h : ORD f a k q (p + 1)) (hk : k ≤ 6) (h1 : 1 ≤ dgt a p) (h2 : dgt a p ≤ k) : ORD (upd f q (nI (dgt a p - 1))) a k (q + 1) p := by
  refine ⟨fun i hi => ?_, fun V => ?_⟩
  · by_cases e : i = q
    · rw [e, pk_us, nI_clamp (by omega)]; exact ⟨⟨_, by omega, rfl⟩, by omega⟩
    · rw [pk_un e]; exact h.1 i (by omega)
  · rw [afP_s (by omega), ← foV_y h1 h2]; exact h.2 V
theorem ORD_n {f : Nat → Int32} {a k q p : Nat} (h : ORD f a k q (p + 1)) (hn : ¬ (1 ≤ dgt a p ∧ dgt a p ≤ k)) : ORD f a k q p := ⟨h.1, fun V => by rw [← foV_n (p := p) (fun w => hn ⟨w.1, w.2.1⟩)]; exact h.2 V⟩
/-- a day's teller -/
def vV (G : GD) (k d c : Nat) : Bool := decide (¬ vaV G k c d = -1)
def tlV (G : GD) (k a d : Nat) : Option Nat := foV a k (vV G k d) 6
theorem fw_0 {f : Nat → Int32} {a k q : Nat} {V : Nat → Bool} (h : ORD f a k q 0) : fwz f V none 0 q = foV a k V 6 := by rw [fwz_a]; exact h.2 V
theorem fw_s {f : Nat → Int32} {V : Nat → Bool} {T : Option Nat} {n q : Nat} (h : T = fwz f V none n (q - n)) (hn : n < q) (hV : ¬ V (f n).toNatClampNeg = true) : T = fwz f V none (n + 1) (q - (n + 1)) := by
  rw [h, show q - n = (q - (n + 1)) + 1 by omega]
  show (if _ then _ else _) = _
  rw [if_neg hV]
theorem fw_y {f : Nat → Int32} {V : Nat → Bool} {T : Option Nat} {n q : Nat} (h : T = fwz f V none n (q - n)) (hn : n < q) (hV : V (f n).toNatClampNeg = true) : T = some (f n).toNatClampNeg := by
  rw [h, show q - n = (q - (n + 1)) + 1 by omega]
  show (if _ then _ else _) = _
  rw [if_pos hV]
theorem fw_e {f : Nat → Int32} {V : Nat → Bool} {T : Option Nat} {n q : Nat} (h : T = fwz f V none n (q - n)) (hn : n = q) : T = none := by
  rw [h, hn, Nat.sub_self]; rfl
def Up (u pp q : Nat) : Prop := (u = 100000 ∧ pp = 6 ∧ q ≤ 0) ∨ (u = 10000 ∧ pp = 5 ∧ q ≤ 1) ∨ (u = 1000 ∧ pp = 4 ∧ q ≤ 2) ∨ (u = 100 ∧ pp = 3 ∧ q ≤ 3) ∨ (u = 10 ∧ pp = 2 ∧ q ≤ 4) ∨ (u = 1 ∧ pp = 1 ∧ q ≤ 5) ∨ (u = 0 ∧ pp = 0 ∧ q ≤ 6)
theorem Up_le {u pp q : Nat} (h : Up u pp q) : u ≤ 100000 ∧ q ≤ 6 ∧ (1 ≤ u → 1 ≤ pp ∧ q ≤ 5) ∧ (u < 1 → pp = 0) := by unfold Up at h; omega
theorem Up_0 : Up 100000 6 0 := Or.inl ⟨rfl, rfl, Nat.le_refl _⟩
theorem Up_d {u pp q a : Nat} (h : Up u pp q) (hu : 1 ≤ u) : a / u % 10 = dgt a (pp - 1) := by
  unfold Up at h
  unfold dgt
  rcases h with ⟨rfl, rfl, -⟩ | ⟨rfl, rfl, -⟩ | ⟨rfl, rfl, -⟩ | ⟨rfl, rfl, -⟩ | ⟨rfl, rfl, -⟩ | ⟨rfl, rfl, -⟩ | ⟨rfl, rfl, -⟩ <;> first | rfl | omega
theorem Up_s {u pp q q' : Nat} (h : Up u pp q) (hu : 1 ≤ u) (hq : q' ≤ q + 1) : Up (u / 10) (pp - 1) q' := by
  unfold Up at h ⊢
  rcases h with ⟨rfl, rfl, h⟩ | ⟨rfl, rfl, h⟩ | ⟨rfl, rfl, h⟩ | ⟨rfl, rfl, h⟩ | ⟨rfl, rfl, h⟩ | ⟨rfl, rfl, h⟩ | ⟨rfl, rfl, h⟩ <;> omega
set_option maxRecDepth 100000 in
set_option maxHeartbeats 4000000 in
theorem e_rgather (g kk : Nat → Nat) (σ : St) (k : Nat) (hk : σ.1 16 = nI k) (hk6 : k ≤ 6) (hI : iX σ) (hO : al_ 6 5 (σ.2.1 51)) (a : Nat) (ha0 : a ≤ 666666) : jM (S := St) yX8_gather cX8_gather 4 none { frames := 0, cells := 0, slots := 0, locals := 0 } kk (cX g kk σ) [.ref (g 50), .int (nI a)] (cX g kk) (rV (fun u : St => ∃ (pF51 : Nat → Int32) (q : Nat), u = sI (sF σ 51 pF51) 803 (nI q) ∧ (q ≤ 6) ∧ (ORD pF51 a k q 0) ∧ (al_ 6 5 pF51))) := by
  refine j_entry [(0, .ref (g 50)), (1, .int (nI a))] (by decide) (Nat.le_of_ble_eq_true rfl) rfl ?_
  intro X C E HI
  refine j_aload_n C 0 rfl dX8_gather_0 ?_
  refine j_iconst C (nI 0) (by decide) dX8_gather_1 ?_
  refine pX_50_3 C tb_372 dX8_gather_2 ?_
  refine j_ldc (v := nI 100000) C tb_786 dX8_gather_5 ?_
  refine j_istore_n C [(2, .int (nI 100000)), (0, .ref (g 50)), (1, .int (nI a))] rfl (by decide) rfl dX8_gather_7 ?_
  have L8 : ∀ (n8 : Nat) (u : Nat) (pp : Nat) (fo : Nat → Int32) (q : Nat) (hU : Up u pp q) (ho : ORD fo a k q pp) (ho2 : al_ 6 5 fo) (hm8 : u < n8), J X 0 0 (cX g kk (sI (sF σ 51 fo) 803 (nI q))) [(2, .int (nI u)), (0, .ref (g 50)), (1, .int (nI a))] 8 [] := by
    intro n8
    induction n8 with
    | zero => intro u pp fo q hU ho ho2 hm; exact absurd hm (Nat.not_lt_zero _)
    | succ n8 ih8 =>
      intro u pp fo q hU ho ho2 hm8
      have hUl := Up_le hU
      refine j_iload_n C 0 rfl dX8_gather_8 ?_
      refine j_iconst C (nI 1) (by decide) dX8_gather_9 ?_
      refine j_icmp_ltN C 69 (by decide) (by omega) (by omega) dX8_gather_10 (fun c1 => ?_) (fun c1 => ?_)
      · exact j_vret C E (sI (sF σ 51 fo) 803 (nI q)) ⟨rfl, ⟨fo, q, rfl, (by omega), (by have z := ho; rw [show pp = 0 by omega] at z; exact z), ho2⟩⟩ rfl dX8_gather_69
      · have hdg := Up_d (a := a) hU (by omega)
        have hdl : a / u % 10 < 10 := Nat.mod_lt _ (by decide)
        refine j_iload_n C 2 rfl dX8_gather_13 ?_
        refine j_iload_n C 0 rfl dX8_gather_14 ?_
        have hq2 := Nat.div_le_self a u
        refine j_idivN C (by omega) (by omega) (by omega) dX8_gather_15 ?_
        refine j_bipush C (nI 10) (by decide) dX8_gather_16 ?_
        refine j_iremN C (by omega) (by omega) (by omega) dX8_gather_18 ?_
        refine j_istore_n C [(3, .int (nI ((a / u) % 10))), (2, .int (nI u)), (0, .ref (g 50)), (1, .int (nI a))] rfl (by decide) rfl dX8_gather_19 ?_
        refine j_iload_n C 0 rfl dX8_gather_20 ?_
        refine j_iconst C (nI 1) (by decide) dX8_gather_21 ?_
        refine j_icmp_ltN C 61 (by decide) (by omega) (by omega) dX8_gather_22 (fun c3 => ?_) (fun c3 => ?_)
        · refine j_iload_n C 1 rfl dX8_gather_61 ?_
          refine j_bipush C (nI 10) (by decide) dX8_gather_62 ?_
          refine j_idivN C (by omega) (by omega) (by omega) dX8_gather_64 ?_
          refine j_istore_n C [(2, .int (nI (u / 10))), (3, .int (nI ((a / u) % 10))), (0, .ref (g 50)), (1, .int (nI a))] rfl (by decide) rfl dX8_gather_65 ?_
          refine j_goto C 8 (by decide) dX8_gather_66 ?_
          refine j_sub (lv' := [(2, .int (nI (u / 10))), (0, .ref (g 50)), (1, .int (nI a))]) [0, 2, 3] rfl ?_
          exact ih8 (u / 10) (pp - 1) fo q (Up_s hU (by omega) (by omega)) (ORD_n (by have z := ho; rw [show pp = (pp - 1) + 1 by omega] at z; exact z) (by omega)) ho2 (by have := Nat.div_lt_self (show 0 < u by omega) (show 1 < 10 by decide); omega)
        · refine j_iload_n C 0 rfl dX8_gather_25 ?_
          refine j_aload_n C 2 rfl dX8_gather_26 ?_
          refine gX_50_0 C tb_368 dX8_gather_27 ?_
          refine gX_27_0 C tb_200 dX8_gather_30 ?_
          refine gX_1_0 C tb_101 (nI k) hk dX8_gather_33 ?_
          refine j_icmp_gtN C 61 (by decide) (by omega) (by omega) dX8_gather_36 (fun c4 => ?_) (fun c4 => ?_)
          · refine j_iload_n C 1 rfl dX8_gather_61 ?_
            refine j_bipush C (nI 10) (by decide) dX8_gather_62 ?_
            refine j_idivN C (by omega) (by omega) (by omega) dX8_gather_64 ?_
            refine j_istore_n C [(2, .int (nI (u / 10))), (3, .int (nI ((a / u) % 10))), (0, .ref (g 50)), (1, .int (nI a))] rfl (by decide) rfl dX8_gather_65 ?_
            refine j_goto C 8 (by decide) dX8_gather_66 ?_
            refine j_sub (lv' := [(2, .int (nI (u / 10))), (0, .ref (g 50)), (1, .int (nI a))]) [0, 2, 3] rfl ?_
            exact ih8 (u / 10) (pp - 1) fo q (Up_s hU (by omega) (by omega)) (ORD_n (by have z := ho; rw [show pp = (pp - 1) + 1 by omega] at z; exact z) (by omega)) ho2 (by have := Nat.div_lt_self (show 0 < u by omega) (show 1 < 10 by decide); omega)
          · refine j_aload_n C 2 rfl dX8_gather_39 ?_
            refine gX_50_1 C tb_369 dX8_gather_40 ?_
            refine j_aload_n C 2 rfl dX8_gather_43 ?_
            refine gX_50_3 C tb_372 (nI q) rfl dX8_gather_44 ?_
            refine j_iload_n C 0 rfl dX8_gather_47 ?_
            refine j_iconst C (nI 1) (by decide) dX8_gather_48 ?_
            refine j_isubN C (by omega) dX8_gather_49 ?_
            refine tX_51 C q rfl (by omega) dX8_gather_50 ?_
            refine j_aload_n C 2 rfl dX8_gather_51 ?_
            refine j_dup C rfl dX8_gather_52 ?_
            refine gX_50_3 C tb_372 (nI q) rfl dX8_gather_53 ?_
            refine j_iconst C (nI 1) (by decide) dX8_gather_56 ?_
            refine j_iaddN C dX8_gather_57 ?_
            refine pX_50_3 C tb_372 dX8_gather_58 ?_
            refine j_iload_n C 1 rfl dX8_gather_61 ?_
            refine j_bipush C (nI 10) (by decide) dX8_gather_62 ?_
            refine j_idivN C (by omega) (by omega) (by omega) dX8_gather_64 ?_
            refine j_istore_n C [(2, .int (nI (u / 10))), (3, .int (nI ((a / u) % 10))), (0, .ref (g 50)), (1, .int (nI a))] rfl (by decide) rfl dX8_gather_65 ?_
            refine j_goto C 8 (by decide) dX8_gather_66 ?_
            refine j_sub (lv' := [(2, .int (nI (u / 10))), (0, .ref (g 50)), (1, .int (nI a))]) [0, 2, 3] rfl ?_
            refine j_w (cX g kk (sI (sF σ 51 (upd fo q (nI (((a / u) % 10) - 1)))) 803 (nI (q + 1)))) (congrArg (cX g kk) (show sI (sF (sI (sF σ 51 fo) 803 (nI q)) 51 (upd fo q (nI (((a / u) % 10) - 1)))) 803 (nI (q + 1)) = sI (sF σ 51 (upd fo q (nI (((a / u) % 10) - 1)))) 803 (nI (q + 1)) from (Eq.trans (wrI (Eq.trans wrFI (wrI wrFs))) wrIs))) ?_
            exact ih8 (u / 10) (pp - 1) (upd fo q (nI (((a / u) % 10) - 1))) (q + 1) (Up_s hU (by omega) (by omega)) (by rw [show a / u % 10 - 1 = dgt a (pp - 1) - 1 by rw [hdg]]; exact ORD_y (by have z := ho; rw [show pp = (pp - 1) + 1 by omega] at z; exact z) hk6 (by omega) (by omega)) (al_upd ho2 ⟨_, by omega, rfl⟩) (by have := Nat.div_lt_self (show 0 < u by omega) (show 1 < 10 by decide); omega)
  refine j_w (cX g kk (sF (sI σ 803 (nI 0)) 51 (σ.2.1 51))) (congrArg (cX g kk) (wrFi (S := (sI σ 803 (nI 0))) (c := 51) (v := σ.2.1 51) (gtFI rfl))) ?_
  refine j_w (cX g kk (sI (sF σ 51 (σ.2.1 51)) 803 (nI 0))) (congrArg (cX g kk) (show sF (sI σ 803 (nI 0)) 51 (σ.2.1 51) = sI (sF σ 51 (σ.2.1 51)) 803 (nI 0) from wrFI)) ?_
  exact L8 _ 100000 6 (σ.2.1 51) 0 Up_0 ORD_0 hO (Nat.lt_succ_self _)
set_option maxRecDepth 100000 in
set_option maxHeartbeats 4000000 in
theorem e_canOn (g kk : Nat → Nat) (σ : St) (k : Nat) (hk : σ.1 16 = nI k) (hk6 : k ≤ 6) (hI : iX σ) (G : GD) (hX : HX G k σ) (hC : CXf G k (σ.2.1 28) (σ.2.1 29) (σ.2.1 30) (σ.2.1 31)) (q : Nat) (hq : σ.1 803 = nI q) (hqb : q ≤ 6) (a : Nat) (hA : ORD (σ.2.1 51) a k q 0) (d : Nat) (hd0 : d < 28) : jM (S := St) yX8_canOn cX8_canOn 3 (some .int) { frames := 0, cells := 0, slots := 0, locals := 0 } kk (cX g kk σ) [.ref (g 50), .int (nI d)] (cX g kk) (rI (fun (r : Int32) (u : St) => u = σ ∧ (r = enc (tlV G k a d)))) := by
  refine j_entry [(0, .ref (g 50)), (1, .int (nI d))] (by decide) (Nat.le_of_ble_eq_true rfl) rfl ?_
  intro X C E HI
  refine j_iconst C (nI 0) (by decide) dX8_canOn_0 ?_
  refine j_istore_n C [(2, .int (nI 0)), (0, .ref (g 50)), (1, .int (nI d))] rfl (by decide) rfl dX8_canOn_1 ?_
  have L2 : ∀ (n2 : Nat) (n : Nat) (i2_0 : n ≤ q) (he : tlV G k a d = fwz (σ.2.1 51) (vV G k d) none n (q - n)) (hm2 : q - n < n2), J X 0 0 (cX g kk σ) [(2, .int (nI n)), (0, .ref (g 50)), (1, .int (nI d))] 2 [] := by
    intro n2
    induction n2 with
    | zero => intro n i2_0 he hm; exact absurd hm (Nat.not_lt_zero _)
    | succ n2 ih2 =>
      intro n i2_0 he hm2
      refine j_iload_n C 0 rfl dX8_canOn_2 ?_
      refine j_aload_n C 1 rfl dX8_canOn_3 ?_
      refine gX_50_3 C tb_372 (nI q) hq dX8_canOn_4 ?_
      refine j_icmp_geN C 46 (by decide) (by omega) (by omega) dX8_canOn_7 (fun c1 => ?_) (fun c1 => ?_)
      · refine j_iconst C ((-1)) (by decide) dX8_canOn_46 ?_
        exact j_iret C E (σ) ⟨_, rfl, ⟨rfl, (by rw [fw_e he (by omega)]; rfl)⟩⟩ rfl dX8_canOn_47
      · have hn9 := hA.1 n (by omega)
        refine j_aload_n C 1 rfl dX8_canOn_10 ?_
        refine gX_50_0 C tb_368 dX8_canOn_11 ?_
        refine gX_27_4 C tb_209 dX8_canOn_14 ?_
        refine j_aload_n C 1 rfl dX8_canOn_17 ?_
        refine gX_50_1 C tb_369 dX8_canOn_18 ?_
        refine j_iload_n C 0 rfl dX8_canOn_21 ?_
        refine rX_51 C n rfl (by omega) (nI ((σ.2.1 51 n).toNatClampNeg)) (le_cl (by decide) hn9.1).1 dX8_canOn_22 ?_
        refine j_bipush C (nI 28) (by decide) dX8_canOn_23 ?_
        refine j_imulN C dX8_canOn_25 ?_
        refine j_iload_n C 2 rfl dX8_canOn_26 ?_
        refine j_iaddN C dX8_canOn_27 ?_
        refine rX_31 C ((((σ.2.1 51 n).toNatClampNeg) * 28) + d) rfl (by omega) (vaV G k (σ.2.1 51 n).toNatClampNeg d) (hC (σ.2.1 51 n).toNatClampNeg d hn9.2 (by omega)).2.2.2 dX8_canOn_28 ?_
        refine j_iconst C ((-1)) (by decide) dX8_canOn_29 ?_
        refine j_icmp_eq C 40 (by decide) dX8_canOn_30 (fun c2 => ?_) (fun c2 => ?_)
        · refine j_iinc C (nI (n + 1)) [(2, .int (nI (n + 1))), (0, .ref (g 50)), (1, .int (nI d))] 0 rfl (by rw [show Int32.ofInt 1 = nI 1 from by decide, nI_add]) (by decide) rfl dX8_canOn_40 ?_
          refine j_goto C 2 (by decide) dX8_canOn_43 ?_
          exact ih2 (n + 1) (by omega) (fw_s he (by omega) (fun w => of_decide_eq_true w c2)) (by omega)
        · refine j_aload_n C 1 rfl dX8_canOn_33 ?_
          refine gX_50_1 C tb_369 dX8_canOn_34 ?_
          refine j_iload_n C 0 rfl dX8_canOn_37 ?_
          refine rX_51 C n rfl (by omega) (nI ((σ.2.1 51 n).toNatClampNeg)) (le_cl (by decide) hn9.1).1 dX8_canOn_38 ?_
          exact j_iret C E (σ) ⟨_, rfl, ⟨rfl, (by rw [fw_y he (by omega) (decide_eq_true c2)]; rfl)⟩⟩ rfl dX8_canOn_39
  exact L2 _ 0 (by omega) (by rw [Nat.sub_zero]; exact (fw_0 hA).symm) (Nat.lt_succ_self _)
theorem opt {α : Type} (x : Option α) : x = none ∨ ∃ c : α, x = some c := by
  cases x with
  | none => exact Or.inl rfl
  | some c => exact Or.inr ⟨c, rfl⟩
def jst (p : Option Nat × Nat × Nat × (Nat → Nat)) (c v d : Nat) : Option Nat × Nat × Nat × (Nat → Nat) := (some c, p.2.1 + v, if p.1 = none ∨ p.1 = some c then p.2.2.1 else p.2.2.1 + 1, if p.1 = none ∨ p.1 = some c then p.2.2.2 else fun j => if j = p.2.2.1 then d else p.2.2.2 j)
def jn (G : GD) (k a : Nat) : Nat → Option Nat × Nat × Nat × (Nat → Nat)
  | 0 => (none, 0, 0, fun _ => 0)
  | d + 1 => match tlV G k a d with
    | none => jn G k a d
    | some c => jst (jn G k a d) c (vaV G k c d).toNatClampNeg d
theorem jn_n {G : GD} {k a d : Nat} (h : tlV G k a d = none) : jn G k a (d + 1) = jn G k a d := by
  show (match tlV G k a d with | none => jn G k a d | some c => jst (jn G k a d) c (vaV G k c d).toNatClampNeg d) = _
  rw [h]
theorem jn_y {G : GD} {k a d c v : Nat} (h : tlV G k a d = some c) (hv : v < 2 ^ 31) (e : vaV G k c d = nI v) : jn G k a (d + 1) = jst (jn G k a d) c v d := by
  show (match tlV G k a d with | none => jn G k a d | some c => jst (jn G k a d) c (vaV G k c d).toNatClampNeg d) = _
  rw [h]
  show jst (jn G k a d) c (vaV G k c d).toNatClampNeg d = _
  rw [e, nI_clamp hv]
theorem tl_lt {G : GD} {k a d c : Nat} (h : tlV G k a d = some c) : c < k ∧ ¬ vaV G k c d = -1 := by
  obtain ⟨h1, h2⟩ := foV_lt _ _ h
  exact ⟨h1, of_decide_eq_true h2⟩
theorem jn_lt {G : GD} {k a : Nat} : ∀ d l : Nat, (jn G k a d).1 = some l → l < k
  | 0, l, h => by cases h
  | d + 1, l, h => by
    rcases opt (tlV G k a d) with q | ⟨c, q⟩
    · rw [jn_n q] at h; exact jn_lt d l h
    · have e : jn G k a (d + 1) = jst (jn G k a d) c (vaV G k c d).toNatClampNeg d := by
        show (match tlV G k a d with | none => jn G k a d | some c => jst (jn G k a d) c (vaV G k c d).toNatClampNeg d) = _
        rw [q]
      rw [e] at h
      cases h
      exact (tl_lt q).1
/-- what both sides hold of seams: last, sum, how many, which -/
def JS (G : GD) (k a d : Nat) (l : Option Nat) (s z : Nat) (f : Nat → Nat) : Prop := jn G k a d = (l, s, z, f)
theorem JS_0 {G : GD} {k a : Nat} : JS G k a 0 none 0 0 (fun _ => 0) := rfl
theorem JS_n {G : GD} {k a d s z : Nat} {l : Option Nat} {f : Nat → Nat} (h : JS G k a d l s z f) (t : tlV G k a d = none) : JS G k a (d + 1) l s z f := (jn_n t).trans h
theorem JS_y {G : GD} {k a d s z c v : Nat} {l : Option Nat} {f : Nat → Nat} (h : JS G k a d l s z f) (t : tlV G k a d = some c) (hv : v < 2 ^ 31) (e : vaV G k c d = nI v) (q : l = none ∨ l = some c) : JS G k a (d + 1) (some c) (s + v) z f := by
  refine (jn_y t hv e).trans ?_
  rw [h]
  unfold jst
  rw [if_pos q, if_pos q]
theorem JS_s {G : GD} {k a d s z c v : Nat} {l : Option Nat} {f : Nat → Nat} (h : JS G k a d l s z f) (t : tlV G k a d = some c) (hv : v < 2 ^ 31) (e : vaV G k c d = nI v) (q : ¬ (l = none ∨ l = some c)) : JS G k a (d + 1) (some c) (s + v) (z + 1) (fun j => if j = z then d else f j) := by
  refine (jn_y t hv e).trans ?_
  rw [h]
  unfold jst
  rw [if_neg q, if_neg q]
theorem sf_s {fs : Nat → Int32} {f : Nat → Nat} {z d : Nat} (h : ∀ i, i < z → fs i = nI (f i)) : ∀ i, i < z + 1 → upd fs z (nI d) i = nI (if i = z then d else f i) := fun i hi => by
  by_cases e : i = z
  · rw [e, pk_us, if_pos rfl]
  · rw [pk_un e, if_neg e]; exact h i (by omega)
set_option maxRecDepth 100000 in
set_option maxHeartbeats 4000000 in
theorem e_join (g kk : Nat → Nat) (σ : St) (k : Nat) (hk : σ.1 16 = nI k) (hk6 : k ≤ 6) (hI : iX σ) (G : GD) (hX : HX G k σ) (hC : CXf G k (σ.2.1 28) (σ.2.1 29) (σ.2.1 30) (σ.2.1 31)) (q : Nat) (hq : σ.1 803 = nI q) (hqb : q ≤ 6) (a : Nat) (hA : ORD (σ.2.1 51) a k q 0)  : jM (S := St) yX8_join cX8_join 4 none { frames := 1, cells := 0, slots := 0, locals := 22 } kk (cX g kk σ) [.ref (g 50)] (cX g kk) (rV (fun u : St => ∃ (pF52 : Nat → Int32) (z : Nat) (sm9 : Nat), u = sI (sI (sF σ 52 pF52) 804 (nI z)) 805 (nI sm9) ∧ (sm9 ≤ 279720 ∧ z ≤ 28 ∧ ∃ (lo : Option Nat) (sf : Nat → Nat), JS G k a 28 lo sm9 z sf ∧ ∀ i, i < z → pF52 i = nI (sf i)))) := by
  refine j_entry [(0, .ref (g 50))] (by decide) (Nat.le_of_ble_eq_true rfl) rfl ?_
  intro X C E HI
  refine j_aload_n C 0 rfl dX8_join_0 ?_
  refine j_iconst C (nI 0) (by decide) dX8_join_1 ?_
  refine pX_50_4 C tb_373 dX8_join_2 ?_
  refine j_aload_n C 0 rfl dX8_join_5 ?_
  refine j_iconst C (nI 0) (by decide) dX8_join_6 ?_
  refine pX_50_5 C tb_375 dX8_join_7 ?_
  refine j_iconst C ((-1)) (by decide) dX8_join_10 ?_
  refine j_istore_n C [(1, .int (-1)), (0, .ref (g 50))] rfl (by decide) rfl dX8_join_11 ?_
  refine j_iconst C (nI 0) (by decide) dX8_join_12 ?_
  refine j_istore_n C [(2, .int (nI 0)), (1, .int (-1)), (0, .ref (g 50))] rfl (by decide) rfl dX8_join_13 ?_
  have L14 : ∀ (n14 : Nat) (d : Nat) (y14_1 : Int32) (lo : Option Nat) (sf : Nat → Nat) (fs : Nat → Int32) (z : Nat) (sm9 : Nat) (i14_0 : d ≤ 28) (i14_1 : z ≤ d) (i14_2 : sm9 ≤ 9990 * d) (hl : y14_1 = enc lo) (hj : JS G k a d lo sm9 z sf) (hs9 : ∀ i, i < z → fs i = nI (sf i)) (hm14 : 28 - d < n14), J X 0 0 (cX g kk (sI (sI (sF σ 52 fs) 804 (nI z)) 805 (nI sm9))) [(2, .int (nI d)), (1, .int y14_1), (0, .ref (g 50))] 14 [] := by
    intro n14
    induction n14 with
    | zero => intro d y14_1 lo sf fs z sm9 i14_0 i14_1 i14_2 hl hj hs9 hm; exact absurd hm (Nat.not_lt_zero _)
    | succ n14 ih14 =>
      intro d y14_1 lo sf fs z sm9 i14_0 i14_1 i14_2 hl hj hs9 hm14
      refine j_iload_n C 0 rfl dX8_join_14 ?_
      refine j_bipush C (nI 28) (by decide) dX8_join_15 ?_
      refine j_icmp_geN C 95 (by decide) (by omega) (by omega) dX8_join_17 (fun c1 => ?_) (fun c1 => ?_)
      · exact j_vret C E (sI (sI (sF σ 52 fs) 804 (nI z)) 805 (nI sm9)) ⟨rfl, ⟨fs, z, sm9, rfl, ⟨by omega, by omega, lo, sf, by have y := hj; rw [show d = 28 by omega] at y; exact y, hs9⟩⟩⟩ rfl dX8_join_95
      · refine j_aload_n C 2 rfl dX8_join_20 ?_
        refine j_iload_n C 0 rfl dX8_join_21 ?_
        refine j_V1 C (e_canOn g kk (sI (sI (sF σ 52 fs) 804 (nI z)) 805 (nI sm9)) k hk hk6 hI G hX hC q hq (by omega) a hA d (by first | assumption | omega)) kyX8_canOn tb_799 tb_788 tb_789 50 rfl (eX_50 g kk _) rfl (Nat.le_of_ble_eq_true rfl) ⟨by decide, by decide⟩ dX8_join_22 rfl (fun vr ur hp => ?_)
        obtain ⟨r3, rfl, hu, g2⟩ := hp
        replace hu := hu.symm
        subst hu
        rcases opt (tlV G k a d) with ht9 | ⟨c9, ht9⟩
        · rw [ht9] at g2
          replace g2 : r3 = -1 := g2
          subst g2
          refine j_istore_n C [(3, .int (-1)), (2, .int (nI d)), (1, .int y14_1), (0, .ref (g 50))] rfl (by decide) rfl dX8_join_25 ?_
          refine j_iload_n C 0 rfl dX8_join_26 ?_
          refine j_iconst C ((-1)) (by decide) dX8_join_27 ?_
          refine j_icmp_ne C 34 (by decide) dX8_join_28 (fun c4 => ?_) (fun c4 => ?_)
          · exact absurd rfl c4
          · refine j_goto C 89 (by decide) dX8_join_31 ?_
            refine j_iinc C (nI (d + 1)) [(2, .int (nI (d + 1))), (3, .int (-1)), (1, .int y14_1), (0, .ref (g 50))] 1 rfl (by rw [show Int32.ofInt 1 = nI 1 from by decide, nI_add]) (by decide) rfl dX8_join_89 ?_
            refine j_goto C 14 (by decide) dX8_join_92 ?_
            refine j_sub (lv' := [(2, .int (nI (d + 1))), (1, .int y14_1), (0, .ref (g 50))]) [0, 2, 3] rfl ?_
            exact ih14 (d + 1) y14_1 lo sf fs z sm9 (by omega) (by omega) (by omega) hl (JS_n hj ht9) hs9 (by omega)
        · rw [ht9] at g2
          replace g2 : r3 = nI c9 := g2
          subst g2
          have hc9 := tl_lt ht9
          obtain ⟨v9, hv9, ev9⟩ := (va_lm hX.W hc9.1 (show d < 28 by omega)).resolve_left hc9.2
          refine j_istore_n C [(3, .int (nI c9)), (2, .int (nI d)), (1, .int y14_1), (0, .ref (g 50))] rfl (by decide) rfl dX8_join_25 ?_
          refine j_iload_n C 0 rfl dX8_join_26 ?_
          refine j_iconst C ((-1)) (by decide) dX8_join_27 ?_
          refine j_icmp_ne C 34 (by decide) dX8_join_28 (fun c5 => ?_) (fun c5 => ?_)
          · refine j_aload_n C 3 rfl dX8_join_34 ?_
            refine j_dup C rfl dX8_join_35 ?_
            refine gX_50_5 C tb_375 (nI sm9) rfl dX8_join_36 ?_
            refine j_aload_n C 3 rfl dX8_join_39 ?_
            refine gX_50_0 C tb_368 dX8_join_40 ?_
            refine gX_27_4 C tb_209 dX8_join_43 ?_
            refine j_iload_n C 0 rfl dX8_join_46 ?_
            refine j_bipush C (nI 28) (by decide) dX8_join_47 ?_
            refine j_imulN C dX8_join_49 ?_
            refine j_iload_n C 1 rfl dX8_join_50 ?_
            refine j_iaddN C dX8_join_51 ?_
            refine rX_31 C ((c9 * 28) + d) rfl (by omega) (nI v9) ((hC c9 d hc9.1 (by omega)).2.2.2.trans ev9) dX8_join_52 ?_
            refine j_iaddN C dX8_join_53 ?_
            refine pX_50_5 C tb_375 dX8_join_54 ?_
            rcases opt lo with hl9 | ⟨l9, hl9⟩
            · subst hl9
              replace hl : y14_1 = -1 := hl
              subst hl
              refine j_iload_n C 2 rfl dX8_join_57 ?_
              refine j_iconst C ((-1)) (by decide) dX8_join_58 ?_
              refine j_icmp_eq C 87 (by decide) dX8_join_59 (fun c6 => ?_) (fun c6 => ?_)
              · refine j_iload_n C 0 rfl dX8_join_87 ?_
                refine j_istore_n C [(1, .int (nI c9)), (3, .int (nI c9)), (2, .int (nI d)), (0, .ref (g 50))] rfl (by decide) rfl dX8_join_88 ?_
                refine j_iinc C (nI (d + 1)) [(2, .int (nI (d + 1))), (1, .int (nI c9)), (3, .int (nI c9)), (0, .ref (g 50))] 2 rfl (by rw [show Int32.ofInt 1 = nI 1 from by decide, nI_add]) (by decide) rfl dX8_join_89 ?_
                refine j_goto C 14 (by decide) dX8_join_92 ?_
                refine j_sub (lv' := [(2, .int (nI (d + 1))), (1, .int (nI c9)), (0, .ref (g 50))]) [0, 1, 3] rfl ?_
                refine j_w (cX g kk (sI (sI (sF σ 52 fs) 804 (nI z)) 805 (nI (sm9 + v9)))) (congrArg (cX g kk) (show sI (sI (sI (sF σ 52 fs) 804 (nI z)) 805 (nI sm9)) 805 (nI (sm9 + v9)) = sI (sI (sF σ 52 fs) 804 (nI z)) 805 (nI (sm9 + v9)) from wrIs)) ?_
                exact ih14 (d + 1) (nI c9) (some c9) sf fs z (sm9 + v9) (by omega) (by omega) (by omega) rfl (JS_y hj ht9 (by omega) ev9 (Or.inl rfl)) hs9 (by omega)
              · exact absurd rfl c6
            · subst hl9
              replace hl : y14_1 = nI l9 := hl
              subst hl
              have hl8 := jn_lt d l9 (by rw [hj])
              refine j_iload_n C 2 rfl dX8_join_57 ?_
              refine j_iconst C ((-1)) (by decide) dX8_join_58 ?_
              refine j_icmp_eq C 87 (by decide) dX8_join_59 (fun c7 => ?_) (fun c7 => ?_)
              · exact absurd c7 (nI_nm1 (by omega))
              · refine j_iload_n C 0 rfl dX8_join_62 ?_
                refine j_iload_n C 2 rfl dX8_join_63 ?_
                refine j_icmp_eqN C 87 (by decide) (by omega) (by omega) dX8_join_64 (fun c8 => ?_) (fun c8 => ?_)
                · refine j_iload_n C 0 rfl dX8_join_87 ?_
                  refine j_istore_n C [(1, .int (nI c9)), (3, .int (nI c9)), (2, .int (nI d)), (0, .ref (g 50))] rfl (by decide) rfl dX8_join_88 ?_
                  refine j_iinc C (nI (d + 1)) [(2, .int (nI (d + 1))), (1, .int (nI c9)), (3, .int (nI c9)), (0, .ref (g 50))] 2 rfl (by rw [show Int32.ofInt 1 = nI 1 from by decide, nI_add]) (by decide) rfl dX8_join_89 ?_
                  refine j_goto C 14 (by decide) dX8_join_92 ?_
                  refine j_sub (lv' := [(2, .int (nI (d + 1))), (1, .int (nI c9)), (0, .ref (g 50))]) [0, 1, 3] rfl ?_
                  refine j_w (cX g kk (sI (sI (sF σ 52 fs) 804 (nI z)) 805 (nI (sm9 + v9)))) (congrArg (cX g kk) (show sI (sI (sI (sF σ 52 fs) 804 (nI z)) 805 (nI sm9)) 805 (nI (sm9 + v9)) = sI (sI (sF σ 52 fs) 804 (nI z)) 805 (nI (sm9 + v9)) from wrIs)) ?_
                  exact ih14 (d + 1) (nI c9) (some c9) sf fs z (sm9 + v9) (by omega) (by omega) (by omega) rfl (JS_y hj ht9 (by omega) ev9 (Or.inr (by rw [c8]))) hs9 (by omega)
                · refine j_aload_n C 3 rfl dX8_join_67 ?_
                  refine gX_50_2 C tb_370 dX8_join_68 ?_
                  refine j_aload_n C 3 rfl dX8_join_71 ?_
                  refine gX_50_4 C tb_373 (nI z) rfl dX8_join_72 ?_
                  refine j_iload_n C 1 rfl dX8_join_75 ?_
                  refine tX_52 C z rfl (by omega) dX8_join_76 ?_
                  refine j_aload_n C 3 rfl dX8_join_77 ?_
                  refine j_dup C rfl dX8_join_78 ?_
                  refine gX_50_4 C tb_373 (nI z) rfl dX8_join_79 ?_
                  refine j_iconst C (nI 1) (by decide) dX8_join_82 ?_
                  refine j_iaddN C dX8_join_83 ?_
                  refine pX_50_4 C tb_373 dX8_join_84 ?_
                  refine j_iload_n C 0 rfl dX8_join_87 ?_
                  refine j_istore_n C [(1, .int (nI c9)), (3, .int (nI c9)), (2, .int (nI d)), (0, .ref (g 50))] rfl (by decide) rfl dX8_join_88 ?_
                  refine j_iinc C (nI (d + 1)) [(2, .int (nI (d + 1))), (1, .int (nI c9)), (3, .int (nI c9)), (0, .ref (g 50))] 2 rfl (by rw [show Int32.ofInt 1 = nI 1 from by decide, nI_add]) (by decide) rfl dX8_join_89 ?_
                  refine j_goto C 14 (by decide) dX8_join_92 ?_
                  refine j_sub (lv' := [(2, .int (nI (d + 1))), (1, .int (nI c9)), (0, .ref (g 50))]) [0, 1, 3] rfl ?_
                  refine j_w (cX g kk (sI (sI (sF σ 52 (upd fs z (nI d))) 804 (nI (z + 1))) 805 (nI (sm9 + v9)))) (congrArg (cX g kk) (show sI (sF (sI (sI (sI (sF σ 52 fs) 804 (nI z)) 805 (nI sm9)) 805 (nI (sm9 + v9))) 52 (upd fs z (nI d))) 804 (nI (z + 1)) = sI (sI (sF σ 52 (upd fs z (nI d))) 804 (nI (z + 1))) 805 (nI (sm9 + v9)) from (Eq.trans (wrI (Eq.trans (wrF wrIs) (Eq.trans wrFI (wrI (Eq.trans wrFI (wrI wrFs)))))) (Eq.trans (wrIc (by decide)) (wrI wrIs))))) ?_
                  exact ih14 (d + 1) (nI c9) (some c9) (fun j => if j = z then d else sf j) (upd fs z (nI d)) (z + 1) (sm9 + v9) (by omega) (by omega) (by omega) rfl (JS_s hj ht9 (by omega) ev9 (fun w => w.elim (fun w => by cases w) (fun w => by cases w; omega))) (sf_s hs9) (by omega)
          · exact absurd c5 (nI_nm1 (by omega))
  refine j_w (cX g kk (sF (sI (sI σ 804 (nI 0)) 805 (nI 0)) 52 (σ.2.1 52))) (congrArg (cX g kk) (wrFi (S := (sI (sI σ 804 (nI 0)) 805 (nI 0))) (c := 52) (v := σ.2.1 52) (gtFI (gtFI rfl)))) ?_
  refine j_w (cX g kk (sI (sI (sF σ 52 (σ.2.1 52)) 804 (nI 0)) 805 (nI 0))) (congrArg (cX g kk) (show sF (sI (sI σ 804 (nI 0)) 805 (nI 0)) 52 (σ.2.1 52) = sI (sI (sF σ 52 (σ.2.1 52)) 804 (nI 0)) 805 (nI 0) from (Eq.trans wrFI (wrI wrFI)))) ?_
  exact L14 _ 0 (-1) none (fun _ => 0) (σ.2.1 52) 0 0 (by omega) (by omega) (by omega) rfl JS_0 (fun i hi => absurd hi (by omega)) (Nat.lt_succ_self _)
noncomputable def rcF (G : GD) (k : Nat) (x y z : Int32) : Int32 := @ite _ (rowB x = false ∨ wB z (nI 0) (nI 1) = false) (Classical.propDecidable _) (-2) (@ite _ (wB y (nI 0) (nI 27) = false) (Classical.propDecidable _) (-1) (match tlV G k x.toNatClampNeg y.toNatClampNeg with | none => -6 | some c => @ite _ (z = nI 0) (Classical.propDecidable _) (vaV G k c y.toNatClampNeg) (nI c)))
theorem rcF_2 {G : GD} {k : Nat} {x y z : Int32} (h : rowB x = false ∨ wB z (nI 0) (nI 1) = false) : -2 = rcF G k x y z := by unfold rcF; rw [if_pos h]
theorem rcF_1 {G : GD} {k : Nat} {x y z : Int32} (h1 : rowB x = true) (h2 : wB z (nI 0) (nI 1) = true) (h : wB y (nI 0) (nI 27) = false) : -1 = rcF G k x y z := by unfold rcF; rw [if_neg (by rw [h1, h2]; decide), if_pos h]
theorem rcF_6 {G : GD} {k a d w : Nat} (h1 : rowB (nI a) = true) (h2 : wB (nI w) (nI 0) (nI 1) = true) (h : wB (nI d) (nI 0) (nI 27) = true) (ha : a < 2 ^ 31) (hd : d < 2 ^ 31) (t : tlV G k a d = none) : -6 = rcF G k (nI a) (nI d) (nI w) := by unfold rcF; rw [if_neg (by rw [h1, h2]; decide), if_neg (by rw [h]; decide), nI_clamp ha, nI_clamp hd, t]
theorem rcF_x {G : GD} {k a d w c v : Nat} {r : Int32} (h1 : rowB (nI a) = true) (h2 : wB (nI w) (nI 0) (nI 1) = true) (h : wB (nI d) (nI 0) (nI 27) = true) (ha : a < 2 ^ 31) (hd : d < 2 ^ 31) (hw : w ≤ 1) (t : tlV G k a d = some c) (ev : vaV G k c d = nI v) (hr : r = if w = 0 then nI v else nI c) : r = rcF G k (nI a) (nI d) (nI w) := by
  unfold rcF
  rw [if_neg (by rw [h1, h2]; decide), if_neg (by rw [h]; decide), nI_clamp ha, nI_clamp hd, t, hr]
  show _ = @ite _ (nI w = nI 0) (Classical.propDecidable _) (vaV G k c d) (nI c)
  by_cases q : w = 0
  · subst q; rw [if_pos rfl, if_pos rfl, ev]
  · rw [if_neg q, if_neg (show ¬ nI w = nI 0 from fun v => q ((nI_eq (by omega) (by decide)).mp v))]
noncomputable def smF (G : GD) (k : Nat) (x y : Int32) : Int32 := @ite _ (rowB x = false) (Classical.propDecidable _) (-2) (@ite _ (y = -2) (Classical.propDecidable _) (nI (jn G k x.toNatClampNeg 28).2.1) (@ite _ (y = -1) (Classical.propDecidable _) (nI (jn G k x.toNatClampNeg 28).2.2.1) (@ite _ (∃ j : Nat, j < (jn G k x.toNatClampNeg 28).2.2.1 ∧ y = nI j) (Classical.propDecidable _) (nI ((jn G k x.toNatClampNeg 28).2.2.2 y.toNatClampNeg)) (-6))))
theorem smF_1 {G : GD} {k : Nat} {x y : Int32} (h : rowB x = false) : -2 = smF G k x y := by unfold smF; rw [if_pos h]
theorem smF_s {G : GD} {k a s z : Nat} {y : Int32} {l : Option Nat} {f : Nat → Nat} (h1 : rowB (nI a) = true) (ha : a < 2 ^ 31) (hj : JS G k a 28 l s z f) (hy : y = -2) : nI s = smF G k (nI a) y := by unfold smF; rw [if_neg (by rw [h1]; decide), nI_clamp ha, if_pos hy, hj]
theorem smF_c {G : GD} {k a s z : Nat} {y : Int32} {l : Option Nat} {f : Nat → Nat} (h1 : rowB (nI a) = true) (ha : a < 2 ^ 31) (hj : JS G k a 28 l s z f) (hy2 : ¬ y = -2) (hy : y = -1) : nI z = smF G k (nI a) y := by unfold smF; rw [if_neg (by rw [h1]; decide), nI_clamp ha, if_neg hy2, if_pos hy, hj]
theorem smF_n {G : GD} {k a s z : Nat} {y : Int32} {l : Option Nat} {f : Nat → Nat} (h1 : rowB (nI a) = true) (ha : a < 2 ^ 31) (hj : JS G k a 28 l s z f) (hy2 : ¬ y = -2) (hy : ¬ y = -1) (hn : ∀ j : Nat, j < z → ¬ y = nI j) : -6 = smF G k (nI a) y := by
  unfold smF
  rw [if_neg (by rw [h1]; decide), nI_clamp ha, if_neg hy2, if_neg hy, hj, if_neg (fun w => by obtain ⟨j, j1, j2⟩ := w; exact hn j j1 j2)]
theorem smF_i {G : GD} {k a s z j : Nat} {l : Option Nat} {f : Nat → Nat} (h1 : rowB (nI a) = true) (ha : a < 2 ^ 31) (hz : z ≤ 28) (hj : JS G k a 28 l s z f) (h : j < z) : nI (f j) = smF G k (nI a) (nI j) := by
  unfold smF
  rw [if_neg (by rw [h1]; decide), nI_clamp ha, if_neg (fun q => by have e := congrArg Int32.toInt q; rw [nI_toInt (by omega)] at e; have z : (-2 : Int32).toInt = -2 := by decide
                                                                    omega), if_neg (nI_nm1 (by omega)), hj, if_pos ⟨j, h, rfl⟩, nI_clamp (by omega)]
set_option maxRecDepth 100000 in
set_option maxHeartbeats 4000000 in
theorem e_record (g kk : Nat → Nat) (σ : St) (k : Nat) (hk : σ.1 16 = nI k) (hk6 : k ≤ 6) (hI : iX σ) (G : GD) (hX : HX G k σ) (hst : σ.1 437 = 0 → CXf G k (σ.2.1 28) (σ.2.1 29) (σ.2.1 30) (σ.2.1 31)) (hO : al_ 6 5 (σ.2.1 51)) (x : Int32) (y : Int32) (z : Int32) : jM (S := St) yX10_record cX10_record 5 (some .int) { frames := 5, cells := 0, slots := 0, locals := 115 } kk (cX g kk σ) [.ref (g 0), .int x, .int y, .int z] (cX g kk) (rI (fun (r : Int32) (u : St) => ∃ (pF28 : Nat → Int32) (pF29 : Nat → Int32) (pF30 : Nat → Int32) (pF31 : Nat → Int32) (pF51 : Nat → Int32) (pI437 : Int32) (pI803 : Int32), u = sI (sI (sF (sF (sF (sF (sF σ 28 pF28) 29 pF29) 30 pF30) 31 pF31) 51 pF51) 437 pI437) 803 pI803 ∧ (r = rcF G k x y z) ∧ (al_ 6 5 pF51) ∧ ((pI437 = nI 0 ∧ CXf G k pF28 pF29 pF30 pF31) ∨ (pI437 = σ.1 437 ∧ pF28 = σ.2.1 28 ∧ pF29 = σ.2.1 29 ∧ pF30 = σ.2.1 30 ∧ pF31 = σ.2.1 31)))) := by
  refine j_entry [(0, .ref (g 0)), (1, .int x), (2, .int y), (3, .int z)] (by decide) (Nat.le_of_ble_eq_true rfl) rfl ?_
  intro X C E HI
  refine j_iload_n C 1 rfl dX10_record_0 ?_
  refine j_S01 C (c_isRow x) kyX10_isRow tb_778 tb_779 rfl (Nat.le_of_ble_eq_true rfl) ⟨by decide, by decide⟩ ⟨by decide, by decide⟩ dX10_record_1 rfl ?_
  refine j_if_eq C 16 (by decide) dX10_record_4 (fun c1 => ?_) (fun c1 => ?_)
  · replace c1 := bI_f c1
    refine j_bipush C ((-2)) (by decide) dX10_record_16 ?_
    refine j_w (cX g kk (sF σ 28 (σ.2.1 28))) (congrArg (cX g kk) (wrFi (S := σ) (c := 28) (v := σ.2.1 28) rfl)) ?_
    refine j_w (cX g kk (sF (sF σ 28 (σ.2.1 28)) 29 (σ.2.1 29))) (congrArg (cX g kk) (wrFi (S := (sF σ 28 (σ.2.1 28))) (c := 29) (v := σ.2.1 29) (gtFF (by decide) rfl))) ?_
    refine j_w (cX g kk (sF (sF (sF σ 28 (σ.2.1 28)) 29 (σ.2.1 29)) 30 (σ.2.1 30))) (congrArg (cX g kk) (wrFi (S := (sF (sF σ 28 (σ.2.1 28)) 29 (σ.2.1 29))) (c := 30) (v := σ.2.1 30) (gtFF (by decide) (gtFF (by decide) rfl)))) ?_
    refine j_w (cX g kk (sF (sF (sF (sF σ 28 (σ.2.1 28)) 29 (σ.2.1 29)) 30 (σ.2.1 30)) 31 (σ.2.1 31))) (congrArg (cX g kk) (wrFi (S := (sF (sF (sF σ 28 (σ.2.1 28)) 29 (σ.2.1 29)) 30 (σ.2.1 30))) (c := 31) (v := σ.2.1 31) (gtFF (by decide) (gtFF (by decide) (gtFF (by decide) rfl))))) ?_
    refine j_w (cX g kk (sF (sF (sF (sF (sF σ 28 (σ.2.1 28)) 29 (σ.2.1 29)) 30 (σ.2.1 30)) 31 (σ.2.1 31)) 51 (σ.2.1 51))) (congrArg (cX g kk) (wrFi (S := (sF (sF (sF (sF σ 28 (σ.2.1 28)) 29 (σ.2.1 29)) 30 (σ.2.1 30)) 31 (σ.2.1 31))) (c := 51) (v := σ.2.1 51) (gtFF (by decide) (gtFF (by decide) (gtFF (by decide) (gtFF (by decide) rfl)))))) ?_
    refine j_w (cX g kk (sI (sF (sF (sF (sF (sF σ 28 (σ.2.1 28)) 29 (σ.2.1 29)) 30 (σ.2.1 30)) 31 (σ.2.1 31)) 51 (σ.2.1 51)) 437 (σ.1 437))) (congrArg (cX g kk) (wrIi (S := (sF (sF (sF (sF (sF σ 28 (σ.2.1 28)) 29 (σ.2.1 29)) 30 (σ.2.1 30)) 31 (σ.2.1 31)) 51 (σ.2.1 51))) (c := 437) (v := σ.1 437) (gtIF (gtIF (gtIF (gtIF (gtIF rfl))))))) ?_
    refine j_w (cX g kk (sI (sI (sF (sF (sF (sF (sF σ 28 (σ.2.1 28)) 29 (σ.2.1 29)) 30 (σ.2.1 30)) 31 (σ.2.1 31)) 51 (σ.2.1 51)) 437 (σ.1 437)) 803 (σ.1 803))) (congrArg (cX g kk) (wrIi (S := (sI (sF (sF (sF (sF (sF σ 28 (σ.2.1 28)) 29 (σ.2.1 29)) 30 (σ.2.1 30)) 31 (σ.2.1 31)) 51 (σ.2.1 51)) 437 (σ.1 437))) (c := 803) (v := σ.1 803) (gtII (by decide) (gtIF (gtIF (gtIF (gtIF (gtIF rfl)))))))) ?_
    exact j_iret C E (sI (sI (sF (sF (sF (sF (sF σ 28 (σ.2.1 28)) 29 (σ.2.1 29)) 30 (σ.2.1 30)) 31 (σ.2.1 31)) 51 (σ.2.1 51)) 437 (σ.1 437)) 803 (σ.1 803)) ⟨_, rfl, ⟨(σ.2.1 28), (σ.2.1 29), (σ.2.1 30), (σ.2.1 31), (σ.2.1 51), (σ.1 437), (σ.1 803), rfl, (rcF_2 (Or.inl c1)), hO, (Or.inr ⟨rfl, rfl, rfl, rfl, rfl⟩)⟩⟩ rfl dX10_record_18
  · replace c1 := bI_t c1
    obtain ⟨xn, xn1, rfl⟩ := rowB_nat c1
    refine j_iload_n C 3 rfl dX10_record_7 ?_
    refine j_iconst C (nI 0) (by decide) dX10_record_8 ?_
    refine j_iconst C (nI 1) (by decide) dX10_record_9 ?_
    refine j_S01 C (c_isWithin z (nI 0) (nI 1)) kyX10_isWithin tb_467 tb_468 rfl (Nat.le_of_ble_eq_true rfl) ⟨by decide, by decide⟩ ⟨by decide, by decide⟩ dX10_record_10 rfl ?_
    refine j_if_ne C 19 (by decide) dX10_record_13 (fun c2 => ?_) (fun c2 => ?_)
    · replace c2 := bI_t c2
      obtain ⟨zn, zn1, zn2, rfl⟩ := wB_nat (by decide) (by decide) c2
      refine j_iload_n C 2 rfl dX10_record_19 ?_
      refine j_S01 C (c_isDay y) kyX10_isDay tb_486 tb_487 rfl (Nat.le_of_ble_eq_true rfl) ⟨by decide, by decide⟩ ⟨by decide, by decide⟩ dX10_record_20 rfl ?_
      refine j_if_ne C 28 (by decide) dX10_record_23 (fun c3 => ?_) (fun c3 => ?_)
      · replace c3 := bI_t c3
        obtain ⟨yn, yn1, yn2, rfl⟩ := wB_nat (by decide) (by decide) c3
        refine j_aload_n C 0 rfl dX10_record_28 ?_
        refine gX_0_2 C tb_430 dX10_record_29 ?_
        refine j_V1 C (e_refresh g kk σ k hk hk6 hI G hX hst ) kyX7_refresh tb_562 tb_563 tb_564 27 rfl (eX_27 g kk _) rfl (Nat.le_of_ble_eq_true rfl) ⟨by decide, by decide⟩ dX10_record_32 rfl (fun vr ur hp => ?_)
        obtain ⟨rfl, w4, w5, w6, w7, w8, hu, g9, g10⟩ := hp
        replace hu := hu.symm
        subst hu
        refine j_aload_n C 0 rfl dX10_record_35 ?_
        refine gX_0_6 C tb_434 dX10_record_36 ?_
        refine j_iload_n C 1 rfl dX10_record_39 ?_
        refine j_V1 C (e_rgather g kk (sI (sF (sF (sF (sF σ 28 w4) 29 w5) 30 w6) 31 w7) 437 w8) k hk hk6 hI hO xn (by first | assumption | omega)) kyX8_gather tb_782 tb_783 tb_784 50 rfl (eX_50 g kk _) rfl (Nat.le_of_ble_eq_true rfl) ⟨by decide, by decide⟩ dX10_record_40 rfl (fun vr ur hp => ?_)
        obtain ⟨rfl, w11, w12, hu, g13, g14, g15⟩ := hp
        replace hu := hu.symm
        subst hu
        refine j_aload_n C 0 rfl dX10_record_43 ?_
        refine gX_0_6 C tb_434 dX10_record_44 ?_
        refine j_iload_n C 2 rfl dX10_record_47 ?_
        refine j_V1 C (e_canOn g kk (sI (sF (sI (sF (sF (sF (sF σ 28 w4) 29 w5) 30 w6) 31 w7) 437 w8) 51 w11) 803 (nI w12)) k hk hk6 hI G hX g10 w12 rfl (by omega) xn g14 yn (by first | assumption | omega)) kyX8_canOn tb_787 tb_788 tb_789 50 rfl (eX_50 g kk _) rfl (Nat.le_of_ble_eq_true rfl) ⟨by decide, by decide⟩ dX10_record_48 rfl (fun vr ur hp => ?_)
        obtain ⟨r17, rfl, hu, g16⟩ := hp
        replace hu := hu.symm
        subst hu
        rcases opt (tlV G k xn yn) with ht9 | ⟨c9, ht9⟩
        · rw [ht9] at g16
          replace g16 : r17 = -1 := g16
          subst g16
          refine j_istore C [(4, .int (-1)), (0, .ref (g 0)), (1, .int (nI xn)), (2, .int (nI yn)), (3, .int (nI zn))] (by decide) rfl dX10_record_51 ?_
          refine j_iload C 0 rfl dX10_record_53 ?_
          refine j_iconst C ((-1)) (by decide) dX10_record_55 ?_
          refine j_icmp_ne C 62 (by decide) dX10_record_56 (fun c18 => ?_) (fun c18 => ?_)
          · exact absurd rfl c18
          · refine j_bipush C ((-6)) (by decide) dX10_record_59 ?_
            refine j_w (cX g kk (sI (sI (sF (sF (sF (sF (sF σ 28 w4) 29 w5) 30 w6) 31 w7) 51 w11) 437 w8) 803 (nI w12))) (congrArg (cX g kk) (show sI (sF (sI (sF (sF (sF (sF σ 28 w4) 29 w5) 30 w6) 31 w7) 437 w8) 51 w11) 803 (nI w12) = sI (sI (sF (sF (sF (sF (sF σ 28 w4) 29 w5) 30 w6) 31 w7) 51 w11) 437 w8) 803 (nI w12) from (wrI wrFI))) ?_
            exact j_iret C E (sI (sI (sF (sF (sF (sF (sF σ 28 w4) 29 w5) 30 w6) 31 w7) 51 w11) 437 w8) 803 (nI w12)) ⟨_, rfl, ⟨w4, w5, w6, w7, w11, w8, (nI w12), rfl, (rcF_6 c1 c2 c3 (by omega) (by omega) ht9), g15, (Or.inl ⟨g9, g10⟩)⟩⟩ rfl dX10_record_61
        · rw [ht9] at g16
          replace g16 : r17 = nI c9 := g16
          subst g16
          have hc9 := tl_lt ht9
          obtain ⟨v9, hv9, ev9⟩ := (va_lm hX.W hc9.1 (show yn < 28 by omega)).resolve_left hc9.2
          refine j_istore C [(4, .int (nI c9)), (0, .ref (g 0)), (1, .int (nI xn)), (2, .int (nI yn)), (3, .int (nI zn))] (by decide) rfl dX10_record_51 ?_
          refine j_iload C 0 rfl dX10_record_53 ?_
          refine j_iconst C ((-1)) (by decide) dX10_record_55 ?_
          refine j_icmp_ne C 62 (by decide) dX10_record_56 (fun c19 => ?_) (fun c19 => ?_)
          · refine j_iload_n C 4 rfl dX10_record_62 ?_
            refine j_if_neN C 84 (by decide) (by omega) dX10_record_63 (fun c20 => ?_) (fun c20 => ?_)
            · refine j_iload C 0 rfl dX10_record_84 ?_
              refine j_w (cX g kk (sI (sI (sF (sF (sF (sF (sF σ 28 w4) 29 w5) 30 w6) 31 w7) 51 w11) 437 w8) 803 (nI w12))) (congrArg (cX g kk) (show sI (sF (sI (sF (sF (sF (sF σ 28 w4) 29 w5) 30 w6) 31 w7) 437 w8) 51 w11) 803 (nI w12) = sI (sI (sF (sF (sF (sF (sF σ 28 w4) 29 w5) 30 w6) 31 w7) 51 w11) 437 w8) 803 (nI w12) from (wrI wrFI))) ?_
              exact j_iret C E (sI (sI (sF (sF (sF (sF (sF σ 28 w4) 29 w5) 30 w6) 31 w7) 51 w11) 437 w8) 803 (nI w12)) ⟨_, rfl, ⟨w4, w5, w6, w7, w11, w8, (nI w12), rfl, (rcF_x c1 c2 c3 (by omega) (by omega) (by omega) ht9 ev9 (by first | rw [if_pos (by omega)] | rw [if_neg (by omega)])), g15, (Or.inl ⟨g9, g10⟩)⟩⟩ rfl dX10_record_86
            · refine j_aload_n C 1 rfl dX10_record_66 ?_
              refine gX_0_2 C tb_430 dX10_record_67 ?_
              refine gX_27_4 C tb_212 dX10_record_70 ?_
              refine j_iload C 0 rfl dX10_record_73 ?_
              refine j_bipush C (nI 28) (by decide) dX10_record_75 ?_
              refine j_imulN C dX10_record_77 ?_
              refine j_iload_n C 3 rfl dX10_record_78 ?_
              refine j_iaddN C dX10_record_79 ?_
              refine rX_31 C ((c9 * 28) + yn) rfl (by omega) (nI v9) ((g10 c9 yn hc9.1 (by omega)).2.2.2.trans ev9) dX10_record_80 ?_
              refine j_goto C 86 (by decide) dX10_record_81 ?_
              refine j_w (cX g kk (sI (sI (sF (sF (sF (sF (sF σ 28 w4) 29 w5) 30 w6) 31 w7) 51 w11) 437 w8) 803 (nI w12))) (congrArg (cX g kk) (show sI (sF (sI (sF (sF (sF (sF σ 28 w4) 29 w5) 30 w6) 31 w7) 437 w8) 51 w11) 803 (nI w12) = sI (sI (sF (sF (sF (sF (sF σ 28 w4) 29 w5) 30 w6) 31 w7) 51 w11) 437 w8) 803 (nI w12) from (wrI wrFI))) ?_
              exact j_iret C E (sI (sI (sF (sF (sF (sF (sF σ 28 w4) 29 w5) 30 w6) 31 w7) 51 w11) 437 w8) 803 (nI w12)) ⟨_, rfl, ⟨w4, w5, w6, w7, w11, w8, (nI w12), rfl, (rcF_x c1 c2 c3 (by omega) (by omega) (by omega) ht9 ev9 (by first | rw [if_pos (by omega)] | rw [if_neg (by omega)])), g15, (Or.inl ⟨g9, g10⟩)⟩⟩ rfl dX10_record_86
          · exact absurd c19 (nI_nm1 (by omega))
      · replace c3 := bI_f c3
        refine j_iconst C ((-1)) (by decide) dX10_record_26 ?_
        refine j_w (cX g kk (sF σ 28 (σ.2.1 28))) (congrArg (cX g kk) (wrFi (S := σ) (c := 28) (v := σ.2.1 28) rfl)) ?_
        refine j_w (cX g kk (sF (sF σ 28 (σ.2.1 28)) 29 (σ.2.1 29))) (congrArg (cX g kk) (wrFi (S := (sF σ 28 (σ.2.1 28))) (c := 29) (v := σ.2.1 29) (gtFF (by decide) rfl))) ?_
        refine j_w (cX g kk (sF (sF (sF σ 28 (σ.2.1 28)) 29 (σ.2.1 29)) 30 (σ.2.1 30))) (congrArg (cX g kk) (wrFi (S := (sF (sF σ 28 (σ.2.1 28)) 29 (σ.2.1 29))) (c := 30) (v := σ.2.1 30) (gtFF (by decide) (gtFF (by decide) rfl)))) ?_
        refine j_w (cX g kk (sF (sF (sF (sF σ 28 (σ.2.1 28)) 29 (σ.2.1 29)) 30 (σ.2.1 30)) 31 (σ.2.1 31))) (congrArg (cX g kk) (wrFi (S := (sF (sF (sF σ 28 (σ.2.1 28)) 29 (σ.2.1 29)) 30 (σ.2.1 30))) (c := 31) (v := σ.2.1 31) (gtFF (by decide) (gtFF (by decide) (gtFF (by decide) rfl))))) ?_
        refine j_w (cX g kk (sF (sF (sF (sF (sF σ 28 (σ.2.1 28)) 29 (σ.2.1 29)) 30 (σ.2.1 30)) 31 (σ.2.1 31)) 51 (σ.2.1 51))) (congrArg (cX g kk) (wrFi (S := (sF (sF (sF (sF σ 28 (σ.2.1 28)) 29 (σ.2.1 29)) 30 (σ.2.1 30)) 31 (σ.2.1 31))) (c := 51) (v := σ.2.1 51) (gtFF (by decide) (gtFF (by decide) (gtFF (by decide) (gtFF (by decide) rfl)))))) ?_
        refine j_w (cX g kk (sI (sF (sF (sF (sF (sF σ 28 (σ.2.1 28)) 29 (σ.2.1 29)) 30 (σ.2.1 30)) 31 (σ.2.1 31)) 51 (σ.2.1 51)) 437 (σ.1 437))) (congrArg (cX g kk) (wrIi (S := (sF (sF (sF (sF (sF σ 28 (σ.2.1 28)) 29 (σ.2.1 29)) 30 (σ.2.1 30)) 31 (σ.2.1 31)) 51 (σ.2.1 51))) (c := 437) (v := σ.1 437) (gtIF (gtIF (gtIF (gtIF (gtIF rfl))))))) ?_
        refine j_w (cX g kk (sI (sI (sF (sF (sF (sF (sF σ 28 (σ.2.1 28)) 29 (σ.2.1 29)) 30 (σ.2.1 30)) 31 (σ.2.1 31)) 51 (σ.2.1 51)) 437 (σ.1 437)) 803 (σ.1 803))) (congrArg (cX g kk) (wrIi (S := (sI (sF (sF (sF (sF (sF σ 28 (σ.2.1 28)) 29 (σ.2.1 29)) 30 (σ.2.1 30)) 31 (σ.2.1 31)) 51 (σ.2.1 51)) 437 (σ.1 437))) (c := 803) (v := σ.1 803) (gtII (by decide) (gtIF (gtIF (gtIF (gtIF (gtIF rfl)))))))) ?_
        exact j_iret C E (sI (sI (sF (sF (sF (sF (sF σ 28 (σ.2.1 28)) 29 (σ.2.1 29)) 30 (σ.2.1 30)) 31 (σ.2.1 31)) 51 (σ.2.1 51)) 437 (σ.1 437)) 803 (σ.1 803)) ⟨_, rfl, ⟨(σ.2.1 28), (σ.2.1 29), (σ.2.1 30), (σ.2.1 31), (σ.2.1 51), (σ.1 437), (σ.1 803), rfl, (rcF_1 c1 c2 c3), hO, (Or.inr ⟨rfl, rfl, rfl, rfl, rfl⟩)⟩⟩ rfl dX10_record_27
    · replace c2 := bI_f c2
      refine j_bipush C ((-2)) (by decide) dX10_record_16 ?_
      refine j_w (cX g kk (sF σ 28 (σ.2.1 28))) (congrArg (cX g kk) (wrFi (S := σ) (c := 28) (v := σ.2.1 28) rfl)) ?_
      refine j_w (cX g kk (sF (sF σ 28 (σ.2.1 28)) 29 (σ.2.1 29))) (congrArg (cX g kk) (wrFi (S := (sF σ 28 (σ.2.1 28))) (c := 29) (v := σ.2.1 29) (gtFF (by decide) rfl))) ?_
      refine j_w (cX g kk (sF (sF (sF σ 28 (σ.2.1 28)) 29 (σ.2.1 29)) 30 (σ.2.1 30))) (congrArg (cX g kk) (wrFi (S := (sF (sF σ 28 (σ.2.1 28)) 29 (σ.2.1 29))) (c := 30) (v := σ.2.1 30) (gtFF (by decide) (gtFF (by decide) rfl)))) ?_
      refine j_w (cX g kk (sF (sF (sF (sF σ 28 (σ.2.1 28)) 29 (σ.2.1 29)) 30 (σ.2.1 30)) 31 (σ.2.1 31))) (congrArg (cX g kk) (wrFi (S := (sF (sF (sF σ 28 (σ.2.1 28)) 29 (σ.2.1 29)) 30 (σ.2.1 30))) (c := 31) (v := σ.2.1 31) (gtFF (by decide) (gtFF (by decide) (gtFF (by decide) rfl))))) ?_
      refine j_w (cX g kk (sF (sF (sF (sF (sF σ 28 (σ.2.1 28)) 29 (σ.2.1 29)) 30 (σ.2.1 30)) 31 (σ.2.1 31)) 51 (σ.2.1 51))) (congrArg (cX g kk) (wrFi (S := (sF (sF (sF (sF σ 28 (σ.2.1 28)) 29 (σ.2.1 29)) 30 (σ.2.1 30)) 31 (σ.2.1 31))) (c := 51) (v := σ.2.1 51) (gtFF (by decide) (gtFF (by decide) (gtFF (by decide) (gtFF (by decide) rfl)))))) ?_
      refine j_w (cX g kk (sI (sF (sF (sF (sF (sF σ 28 (σ.2.1 28)) 29 (σ.2.1 29)) 30 (σ.2.1 30)) 31 (σ.2.1 31)) 51 (σ.2.1 51)) 437 (σ.1 437))) (congrArg (cX g kk) (wrIi (S := (sF (sF (sF (sF (sF σ 28 (σ.2.1 28)) 29 (σ.2.1 29)) 30 (σ.2.1 30)) 31 (σ.2.1 31)) 51 (σ.2.1 51))) (c := 437) (v := σ.1 437) (gtIF (gtIF (gtIF (gtIF (gtIF rfl))))))) ?_
      refine j_w (cX g kk (sI (sI (sF (sF (sF (sF (sF σ 28 (σ.2.1 28)) 29 (σ.2.1 29)) 30 (σ.2.1 30)) 31 (σ.2.1 31)) 51 (σ.2.1 51)) 437 (σ.1 437)) 803 (σ.1 803))) (congrArg (cX g kk) (wrIi (S := (sI (sF (sF (sF (sF (sF σ 28 (σ.2.1 28)) 29 (σ.2.1 29)) 30 (σ.2.1 30)) 31 (σ.2.1 31)) 51 (σ.2.1 51)) 437 (σ.1 437))) (c := 803) (v := σ.1 803) (gtII (by decide) (gtIF (gtIF (gtIF (gtIF (gtIF rfl)))))))) ?_
      exact j_iret C E (sI (sI (sF (sF (sF (sF (sF σ 28 (σ.2.1 28)) 29 (σ.2.1 29)) 30 (σ.2.1 30)) 31 (σ.2.1 31)) 51 (σ.2.1 51)) 437 (σ.1 437)) 803 (σ.1 803)) ⟨_, rfl, ⟨(σ.2.1 28), (σ.2.1 29), (σ.2.1 30), (σ.2.1 31), (σ.2.1 51), (σ.1 437), (σ.1 803), rfl, (rcF_2 (Or.inr c2)), hO, (Or.inr ⟨rfl, rfl, rfl, rfl, rfl⟩)⟩⟩ rfl dX10_record_18
set_option maxRecDepth 100000 in
set_option maxHeartbeats 4000000 in
theorem e_seam (g kk : Nat → Nat) (σ : St) (k : Nat) (hk : σ.1 16 = nI k) (hk6 : k ≤ 6) (hI : iX σ) (G : GD) (hX : HX G k σ) (hst : σ.1 437 = 0 → CXf G k (σ.2.1 28) (σ.2.1 29) (σ.2.1 30) (σ.2.1 31)) (hO : al_ 6 5 (σ.2.1 51)) (x : Int32) (y : Int32) : jM (S := St) yX10_seam cX10_seam 3 (some .int) { frames := 5, cells := 0, slots := 0, locals := 115 } kk (cX g kk σ) [.ref (g 0), .int x, .int y] (cX g kk) (rI (fun (r : Int32) (u : St) => ∃ (pF28 : Nat → Int32) (pF29 : Nat → Int32) (pF30 : Nat → Int32) (pF31 : Nat → Int32) (pF51 : Nat → Int32) (pF52 : Nat → Int32) (pI437 : Int32) (pI803 : Int32) (pI804 : Int32) (pI805 : Int32), u = sI (sI (sI (sI (sF (sF (sF (sF (sF (sF σ 28 pF28) 29 pF29) 30 pF30) 31 pF31) 51 pF51) 52 pF52) 437 pI437) 803 pI803) 804 pI804) 805 pI805 ∧ (r = smF G k x y) ∧ (al_ 6 5 pF51) ∧ ((pI437 = nI 0 ∧ CXf G k pF28 pF29 pF30 pF31) ∨ (pI437 = σ.1 437 ∧ pF28 = σ.2.1 28 ∧ pF29 = σ.2.1 29 ∧ pF30 = σ.2.1 30 ∧ pF31 = σ.2.1 31)))) := by
  refine j_entry [(0, .ref (g 0)), (1, .int x), (2, .int y)] (by decide) (Nat.le_of_ble_eq_true rfl) rfl ?_
  intro X C E HI
  refine j_iload_n C 1 rfl dX10_seam_0 ?_
  refine j_S01 C (c_isRow x) kyX10_isRow tb_778 tb_779 rfl (Nat.le_of_ble_eq_true rfl) ⟨by decide, by decide⟩ ⟨by decide, by decide⟩ dX10_seam_1 rfl ?_
  refine j_if_ne C 10 (by decide) dX10_seam_4 (fun c1 => ?_) (fun c1 => ?_)
  · replace c1 := bI_t c1
    obtain ⟨xn, xn1, rfl⟩ := rowB_nat c1
    refine j_aload_n C 0 rfl dX10_seam_10 ?_
    refine gX_0_2 C tb_430 dX10_seam_11 ?_
    refine j_V1 C (e_refresh g kk σ k hk hk6 hI G hX hst ) kyX7_refresh tb_562 tb_563 tb_564 27 rfl (eX_27 g kk _) rfl (Nat.le_of_ble_eq_true rfl) ⟨by decide, by decide⟩ dX10_seam_14 rfl (fun vr ur hp => ?_)
    obtain ⟨rfl, w2, w3, w4, w5, w6, hu, g7, g8⟩ := hp
    replace hu := hu.symm
    subst hu
    refine j_aload_n C 0 rfl dX10_seam_17 ?_
    refine gX_0_6 C tb_434 dX10_seam_18 ?_
    refine j_iload_n C 1 rfl dX10_seam_21 ?_
    refine j_V1 C (e_rgather g kk (sI (sF (sF (sF (sF σ 28 w2) 29 w3) 30 w4) 31 w5) 437 w6) k hk hk6 hI hO xn (by first | assumption | omega)) kyX8_gather tb_782 tb_783 tb_784 50 rfl (eX_50 g kk _) rfl (Nat.le_of_ble_eq_true rfl) ⟨by decide, by decide⟩ dX10_seam_22 rfl (fun vr ur hp => ?_)
    obtain ⟨rfl, w9, w10, hu, g11, g12, g13⟩ := hp
    replace hu := hu.symm
    subst hu
    refine j_aload_n C 0 rfl dX10_seam_25 ?_
    refine gX_0_6 C tb_434 dX10_seam_26 ?_
    refine j_V1 C (e_join g kk (sI (sF (sI (sF (sF (sF (sF σ 28 w2) 29 w3) 30 w4) 31 w5) 437 w6) 51 w9) 803 (nI w10)) k hk hk6 hI G hX g8 w10 rfl (by omega) xn g12 ) kyX8_join tb_795 tb_796 tb_797 50 rfl (eX_50 g kk _) rfl (Nat.le_of_ble_eq_true rfl) ⟨by decide, by decide⟩ dX10_seam_29 rfl (fun vr ur hp => ?_)
    obtain ⟨rfl, w14, w15, w16, hu, g17⟩ := hp
    replace hu := hu.symm
    subst hu
    obtain ⟨hsm9, hz9, lo9, sf9, hj9, hs9⟩ := g17
    refine j_iload_n C 2 rfl dX10_seam_32 ?_
    refine j_bipush C ((-2)) (by decide) dX10_seam_33 ?_
    refine j_icmp_ne C 46 (by decide) dX10_seam_35 (fun c18 => ?_) (fun c18 => ?_)
    · refine j_iload_n C 2 rfl dX10_seam_46 ?_
      refine j_iconst C ((-1)) (by decide) dX10_seam_47 ?_
      refine j_icmp_ne C 59 (by decide) dX10_seam_48 (fun c19 => ?_) (fun c19 => ?_)
      · refine j_iload_n C 2 rfl dX10_seam_59 ?_
        refine j_if_lt C 86 (by decide) dX10_seam_60 (fun c20 => ?_) (fun c20 => ?_)
        · refine j_bipush C ((-6)) (by decide) dX10_seam_86 ?_
          refine j_w (cX g kk (sI (sI (sI (sI (sF (sF (sF (sF (sF (sF σ 28 w2) 29 w3) 30 w4) 31 w5) 51 w9) 52 w14) 437 w6) 803 (nI w10)) 804 (nI w15)) 805 (nI w16))) (congrArg (cX g kk) (show sI (sI (sF (sI (sF (sI (sF (sF (sF (sF σ 28 w2) 29 w3) 30 w4) 31 w5) 437 w6) 51 w9) 803 (nI w10)) 52 w14) 804 (nI w15)) 805 (nI w16) = sI (sI (sI (sI (sF (sF (sF (sF (sF (sF σ 28 w2) 29 w3) 30 w4) 31 w5) 51 w9) 52 w14) 437 w6) 803 (nI w10)) 804 (nI w15)) 805 (nI w16) from (wrI (wrI (Eq.trans (wrF (wrI wrFI)) (Eq.trans wrFI (wrI wrFI))))))) ?_
          exact j_iret C E (sI (sI (sI (sI (sF (sF (sF (sF (sF (sF σ 28 w2) 29 w3) 30 w4) 31 w5) 51 w9) 52 w14) 437 w6) 803 (nI w10)) 804 (nI w15)) 805 (nI w16)) ⟨_, rfl, ⟨w2, w3, w4, w5, w9, w14, w6, (nI w10), (nI w15), (nI w16), rfl, (smF_n c1 (by omega) hj9 c18 c19 (fun j hj q => nI_nlt0 (show j < 2 ^ 31 by omega) (q ▸ c20))), g13, (Or.inl ⟨g7, g8⟩)⟩⟩ rfl dX10_seam_88
        · obtain ⟨yn, yn1, rfl⟩ := nI_of c20
          refine j_iload_n C 2 rfl dX10_seam_63 ?_
          refine j_aload_n C 0 rfl dX10_seam_64 ?_
          refine gX_0_6 C tb_434 dX10_seam_65 ?_
          refine gX_50_4 C tb_374 (nI w15) rfl dX10_seam_68 ?_
          refine j_icmp_geN C 86 (by decide) (by omega) (by omega) dX10_seam_71 (fun c21 => ?_) (fun c21 => ?_)
          · refine j_bipush C ((-6)) (by decide) dX10_seam_86 ?_
            refine j_w (cX g kk (sI (sI (sI (sI (sF (sF (sF (sF (sF (sF σ 28 w2) 29 w3) 30 w4) 31 w5) 51 w9) 52 w14) 437 w6) 803 (nI w10)) 804 (nI w15)) 805 (nI w16))) (congrArg (cX g kk) (show sI (sI (sF (sI (sF (sI (sF (sF (sF (sF σ 28 w2) 29 w3) 30 w4) 31 w5) 437 w6) 51 w9) 803 (nI w10)) 52 w14) 804 (nI w15)) 805 (nI w16) = sI (sI (sI (sI (sF (sF (sF (sF (sF (sF σ 28 w2) 29 w3) 30 w4) 31 w5) 51 w9) 52 w14) 437 w6) 803 (nI w10)) 804 (nI w15)) 805 (nI w16) from (wrI (wrI (Eq.trans (wrF (wrI wrFI)) (Eq.trans wrFI (wrI wrFI))))))) ?_
            exact j_iret C E (sI (sI (sI (sI (sF (sF (sF (sF (sF (sF σ 28 w2) 29 w3) 30 w4) 31 w5) 51 w9) 52 w14) 437 w6) 803 (nI w10)) 804 (nI w15)) 805 (nI w16)) ⟨_, rfl, ⟨w2, w3, w4, w5, w9, w14, w6, (nI w10), (nI w15), (nI w16), rfl, (smF_n c1 (by omega) hj9 c18 c19 (fun j hj q => by have := (nI_eq (by omega) (by omega)).mp q; omega)), g13, (Or.inl ⟨g7, g8⟩)⟩⟩ rfl dX10_seam_88
          · refine j_aload_n C 0 rfl dX10_seam_74 ?_
            refine gX_0_6 C tb_434 dX10_seam_75 ?_
            refine gX_50_2 C tb_371 dX10_seam_78 ?_
            refine j_iload_n C 2 rfl dX10_seam_81 ?_
            refine rX_52 C yn rfl (by omega) (nI (sf9 yn)) (hs9 yn (by omega)) dX10_seam_82 ?_
            refine j_goto C 88 (by decide) dX10_seam_83 ?_
            refine j_w (cX g kk (sI (sI (sI (sI (sF (sF (sF (sF (sF (sF σ 28 w2) 29 w3) 30 w4) 31 w5) 51 w9) 52 w14) 437 w6) 803 (nI w10)) 804 (nI w15)) 805 (nI w16))) (congrArg (cX g kk) (show sI (sI (sF (sI (sF (sI (sF (sF (sF (sF σ 28 w2) 29 w3) 30 w4) 31 w5) 437 w6) 51 w9) 803 (nI w10)) 52 w14) 804 (nI w15)) 805 (nI w16) = sI (sI (sI (sI (sF (sF (sF (sF (sF (sF σ 28 w2) 29 w3) 30 w4) 31 w5) 51 w9) 52 w14) 437 w6) 803 (nI w10)) 804 (nI w15)) 805 (nI w16) from (wrI (wrI (Eq.trans (wrF (wrI wrFI)) (Eq.trans wrFI (wrI wrFI))))))) ?_
            exact j_iret C E (sI (sI (sI (sI (sF (sF (sF (sF (sF (sF σ 28 w2) 29 w3) 30 w4) 31 w5) 51 w9) 52 w14) 437 w6) 803 (nI w10)) 804 (nI w15)) 805 (nI w16)) ⟨_, rfl, ⟨w2, w3, w4, w5, w9, w14, w6, (nI w10), (nI w15), (nI w16), rfl, (smF_i c1 (by omega) hz9 hj9 (by omega)), g13, (Or.inl ⟨g7, g8⟩)⟩⟩ rfl dX10_seam_88
      · refine j_aload_n C 0 rfl dX10_seam_51 ?_
        refine gX_0_6 C tb_434 dX10_seam_52 ?_
        refine gX_50_4 C tb_374 (nI w15) rfl dX10_seam_55 ?_
        refine j_w (cX g kk (sI (sI (sI (sI (sF (sF (sF (sF (sF (sF σ 28 w2) 29 w3) 30 w4) 31 w5) 51 w9) 52 w14) 437 w6) 803 (nI w10)) 804 (nI w15)) 805 (nI w16))) (congrArg (cX g kk) (show sI (sI (sF (sI (sF (sI (sF (sF (sF (sF σ 28 w2) 29 w3) 30 w4) 31 w5) 437 w6) 51 w9) 803 (nI w10)) 52 w14) 804 (nI w15)) 805 (nI w16) = sI (sI (sI (sI (sF (sF (sF (sF (sF (sF σ 28 w2) 29 w3) 30 w4) 31 w5) 51 w9) 52 w14) 437 w6) 803 (nI w10)) 804 (nI w15)) 805 (nI w16) from (wrI (wrI (Eq.trans (wrF (wrI wrFI)) (Eq.trans wrFI (wrI wrFI))))))) ?_
        exact j_iret C E (sI (sI (sI (sI (sF (sF (sF (sF (sF (sF σ 28 w2) 29 w3) 30 w4) 31 w5) 51 w9) 52 w14) 437 w6) 803 (nI w10)) 804 (nI w15)) 805 (nI w16)) ⟨_, rfl, ⟨w2, w3, w4, w5, w9, w14, w6, (nI w10), (nI w15), (nI w16), rfl, (smF_c c1 (by omega) hj9 c18 c19), g13, (Or.inl ⟨g7, g8⟩)⟩⟩ rfl dX10_seam_58
    · refine j_aload_n C 0 rfl dX10_seam_38 ?_
      refine gX_0_6 C tb_434 dX10_seam_39 ?_
      refine gX_50_5 C tb_376 (nI w16) rfl dX10_seam_42 ?_
      refine j_w (cX g kk (sI (sI (sI (sI (sF (sF (sF (sF (sF (sF σ 28 w2) 29 w3) 30 w4) 31 w5) 51 w9) 52 w14) 437 w6) 803 (nI w10)) 804 (nI w15)) 805 (nI w16))) (congrArg (cX g kk) (show sI (sI (sF (sI (sF (sI (sF (sF (sF (sF σ 28 w2) 29 w3) 30 w4) 31 w5) 437 w6) 51 w9) 803 (nI w10)) 52 w14) 804 (nI w15)) 805 (nI w16) = sI (sI (sI (sI (sF (sF (sF (sF (sF (sF σ 28 w2) 29 w3) 30 w4) 31 w5) 51 w9) 52 w14) 437 w6) 803 (nI w10)) 804 (nI w15)) 805 (nI w16) from (wrI (wrI (Eq.trans (wrF (wrI wrFI)) (Eq.trans wrFI (wrI wrFI))))))) ?_
      exact j_iret C E (sI (sI (sI (sI (sF (sF (sF (sF (sF (sF σ 28 w2) 29 w3) 30 w4) 31 w5) 51 w9) 52 w14) 437 w6) 803 (nI w10)) 804 (nI w15)) 805 (nI w16)) ⟨_, rfl, ⟨w2, w3, w4, w5, w9, w14, w6, (nI w10), (nI w15), (nI w16), rfl, (smF_s c1 (by omega) hj9 c18), g13, (Or.inl ⟨g7, g8⟩)⟩⟩ rfl dX10_seam_45
  · replace c1 := bI_f c1
    refine j_bipush C ((-2)) (by decide) dX10_seam_7 ?_
    refine j_w (cX g kk (sF σ 28 (σ.2.1 28))) (congrArg (cX g kk) (wrFi (S := σ) (c := 28) (v := σ.2.1 28) rfl)) ?_
    refine j_w (cX g kk (sF (sF σ 28 (σ.2.1 28)) 29 (σ.2.1 29))) (congrArg (cX g kk) (wrFi (S := (sF σ 28 (σ.2.1 28))) (c := 29) (v := σ.2.1 29) (gtFF (by decide) rfl))) ?_
    refine j_w (cX g kk (sF (sF (sF σ 28 (σ.2.1 28)) 29 (σ.2.1 29)) 30 (σ.2.1 30))) (congrArg (cX g kk) (wrFi (S := (sF (sF σ 28 (σ.2.1 28)) 29 (σ.2.1 29))) (c := 30) (v := σ.2.1 30) (gtFF (by decide) (gtFF (by decide) rfl)))) ?_
    refine j_w (cX g kk (sF (sF (sF (sF σ 28 (σ.2.1 28)) 29 (σ.2.1 29)) 30 (σ.2.1 30)) 31 (σ.2.1 31))) (congrArg (cX g kk) (wrFi (S := (sF (sF (sF σ 28 (σ.2.1 28)) 29 (σ.2.1 29)) 30 (σ.2.1 30))) (c := 31) (v := σ.2.1 31) (gtFF (by decide) (gtFF (by decide) (gtFF (by decide) rfl))))) ?_
    refine j_w (cX g kk (sF (sF (sF (sF (sF σ 28 (σ.2.1 28)) 29 (σ.2.1 29)) 30 (σ.2.1 30)) 31 (σ.2.1 31)) 51 (σ.2.1 51))) (congrArg (cX g kk) (wrFi (S := (sF (sF (sF (sF σ 28 (σ.2.1 28)) 29 (σ.2.1 29)) 30 (σ.2.1 30)) 31 (σ.2.1 31))) (c := 51) (v := σ.2.1 51) (gtFF (by decide) (gtFF (by decide) (gtFF (by decide) (gtFF (by decide) rfl)))))) ?_
    refine j_w (cX g kk (sF (sF (sF (sF (sF (sF σ 28 (σ.2.1 28)) 29 (σ.2.1 29)) 30 (σ.2.1 30)) 31 (σ.2.1 31)) 51 (σ.2.1 51)) 52 (σ.2.1 52))) (congrArg (cX g kk) (wrFi (S := (sF (sF (sF (sF (sF σ 28 (σ.2.1 28)) 29 (σ.2.1 29)) 30 (σ.2.1 30)) 31 (σ.2.1 31)) 51 (σ.2.1 51))) (c := 52) (v := σ.2.1 52) (gtFF (by decide) (gtFF (by decide) (gtFF (by decide) (gtFF (by decide) (gtFF (by decide) rfl))))))) ?_
    refine j_w (cX g kk (sI (sF (sF (sF (sF (sF (sF σ 28 (σ.2.1 28)) 29 (σ.2.1 29)) 30 (σ.2.1 30)) 31 (σ.2.1 31)) 51 (σ.2.1 51)) 52 (σ.2.1 52)) 437 (σ.1 437))) (congrArg (cX g kk) (wrIi (S := (sF (sF (sF (sF (sF (sF σ 28 (σ.2.1 28)) 29 (σ.2.1 29)) 30 (σ.2.1 30)) 31 (σ.2.1 31)) 51 (σ.2.1 51)) 52 (σ.2.1 52))) (c := 437) (v := σ.1 437) (gtIF (gtIF (gtIF (gtIF (gtIF (gtIF rfl)))))))) ?_
    refine j_w (cX g kk (sI (sI (sF (sF (sF (sF (sF (sF σ 28 (σ.2.1 28)) 29 (σ.2.1 29)) 30 (σ.2.1 30)) 31 (σ.2.1 31)) 51 (σ.2.1 51)) 52 (σ.2.1 52)) 437 (σ.1 437)) 803 (σ.1 803))) (congrArg (cX g kk) (wrIi (S := (sI (sF (sF (sF (sF (sF (sF σ 28 (σ.2.1 28)) 29 (σ.2.1 29)) 30 (σ.2.1 30)) 31 (σ.2.1 31)) 51 (σ.2.1 51)) 52 (σ.2.1 52)) 437 (σ.1 437))) (c := 803) (v := σ.1 803) (gtII (by decide) (gtIF (gtIF (gtIF (gtIF (gtIF (gtIF rfl))))))))) ?_
    refine j_w (cX g kk (sI (sI (sI (sF (sF (sF (sF (sF (sF σ 28 (σ.2.1 28)) 29 (σ.2.1 29)) 30 (σ.2.1 30)) 31 (σ.2.1 31)) 51 (σ.2.1 51)) 52 (σ.2.1 52)) 437 (σ.1 437)) 803 (σ.1 803)) 804 (σ.1 804))) (congrArg (cX g kk) (wrIi (S := (sI (sI (sF (sF (sF (sF (sF (sF σ 28 (σ.2.1 28)) 29 (σ.2.1 29)) 30 (σ.2.1 30)) 31 (σ.2.1 31)) 51 (σ.2.1 51)) 52 (σ.2.1 52)) 437 (σ.1 437)) 803 (σ.1 803))) (c := 804) (v := σ.1 804) (gtII (by decide) (gtII (by decide) (gtIF (gtIF (gtIF (gtIF (gtIF (gtIF rfl)))))))))) ?_
    refine j_w (cX g kk (sI (sI (sI (sI (sF (sF (sF (sF (sF (sF σ 28 (σ.2.1 28)) 29 (σ.2.1 29)) 30 (σ.2.1 30)) 31 (σ.2.1 31)) 51 (σ.2.1 51)) 52 (σ.2.1 52)) 437 (σ.1 437)) 803 (σ.1 803)) 804 (σ.1 804)) 805 (σ.1 805))) (congrArg (cX g kk) (wrIi (S := (sI (sI (sI (sF (sF (sF (sF (sF (sF σ 28 (σ.2.1 28)) 29 (σ.2.1 29)) 30 (σ.2.1 30)) 31 (σ.2.1 31)) 51 (σ.2.1 51)) 52 (σ.2.1 52)) 437 (σ.1 437)) 803 (σ.1 803)) 804 (σ.1 804))) (c := 805) (v := σ.1 805) (gtII (by decide) (gtII (by decide) (gtII (by decide) (gtIF (gtIF (gtIF (gtIF (gtIF (gtIF rfl))))))))))) ?_
    exact j_iret C E (sI (sI (sI (sI (sF (sF (sF (sF (sF (sF σ 28 (σ.2.1 28)) 29 (σ.2.1 29)) 30 (σ.2.1 30)) 31 (σ.2.1 31)) 51 (σ.2.1 51)) 52 (σ.2.1 52)) 437 (σ.1 437)) 803 (σ.1 803)) 804 (σ.1 804)) 805 (σ.1 805)) ⟨_, rfl, ⟨(σ.2.1 28), (σ.2.1 29), (σ.2.1 30), (σ.2.1 31), (σ.2.1 51), (σ.2.1 52), (σ.1 437), (σ.1 803), (σ.1 804), (σ.1 805), rfl, (smF_1 c1), hO, (Or.inr ⟨rfl, rfl, rfl, rfl, rfl⟩)⟩⟩ rfl dX10_seam_9
theorem cB_lt2 {c k : Nat} (hc : c < 2 ^ 31) (hk : k < 2 ^ 31) (h : cB (nI c) (nI k) = true) : c < k := by
  obtain ⟨m, m1, m2⟩ := cB_nat hk h
  have := (nI_eq hc (by omega)).mp m2
  omega
theorem dg_p {a p l : Nat} (h : l = a / 10 ^ p) : l % 10 = dgt a p := by rw [h]; rfl
theorem dg_q {a p l : Nat} (h : l = a / 10 ^ p) : l / 10 = a / 10 ^ (p + 1) := by rw [h, Nat.div_div_eq_div_mul, Nat.pow_succ]
theorem dg_6 {a p l : Nat} (ha : a ≤ 666666) (h : l = a / 10 ^ p) (hl : 1 ≤ l) : p ≤ 5 := by
  rcases Nat.lt_or_ge p 6 with q | q
  · omega
  · have : 10 ^ 6 ≤ 10 ^ p := Nat.pow_le_pow_right (by decide) q
    have e : a / 10 ^ p = 0 := Nat.div_eq_of_lt (by omega)
    omega
theorem fo_y {a k p l : Nat} {V : Nat → Bool} (h : l = a / 10 ^ p) (h1 : 1 ≤ l % 10) (h2 : l % 10 - 1 < k) (hV : V (l % 10 - 1) = true) : nI (l % 10 - 1) = encM (foV a k V (p + 1)) := by
  rw [dg_p h] at h1 h2 hV ⊢
  rw [foV_y h1 (by omega), if_pos hV]; rfl
theorem fo_n {a k p l : Nat} {V : Nat → Bool} {y : Int32} (h : l = a / 10 ^ p) (hy : y = encM (foV a k V p)) (hn : ¬ (1 ≤ l % 10 ∧ l % 10 ≤ k ∧ V (l % 10 - 1) = true)) : y = encM (foV a k V (p + 1)) := by
  rw [dg_p h] at hn
  rw [foV_n hn]; exact hy
theorem fo_e {a k p l : Nat} {V : Nat → Bool} {y : Int32} (h : l = a / 10 ^ p) (hl : l = 0) (hp : p ≤ 6) (hy : y = encM (foV a k V p)) : y = encM (foV a k V 6) := by
  have := foV_end (k := k) (V := V) (h.symm.trans hl) (6 - p)
  rw [show p + (6 - p) = 6 by omega] at this
  rw [this]; exact hy
theorem vV_t {G : GD} {k d c v : Nat} (hv : v < 2 ^ 31) (h : vaV G k c d = nI v) : vV G k d c = true := decide_eq_true (fun q => nI_nm1 hv (h.symm.trans q))
theorem vV_f {G : GD} {k d c : Nat} (h : vaV G k c d = -1) : ¬ vV G k d c = true := fun q => of_decide_eq_true q h
def FD (i : Int32) (z : Nat) (f : Nat → Nat) (y : Int32) : Prop := (∀ j : Nat, j < z → i = nI j → y = nI (f j)) ∧ ((∀ j : Nat, j < z → ¬ i = nI j) → y = -6)
theorem FD_0 {i : Int32} {f : Nat → Nat} : FD i 0 f (-6) := ⟨fun j hj => absurd hj (by omega), fun _ => rfl⟩
theorem FD_y {i y : Int32} {z d : Nat} {f : Nat → Nat} (hz : z ≤ 28) (h : FD i z f y) (e : nI z = i) : FD i (z + 1) (fun j => if j = z then d else f j) (nI d) := by
  subst e
  refine ⟨fun j hj q => ?_, fun q => absurd rfl (q z (by omega))⟩
  have := (nI_eq (by omega) (by omega)).mp q
  show nI d = nI (if j = z then d else f j)
  rw [if_pos this.symm]
theorem FD_n {i y : Int32} {z d : Nat} {f : Nat → Nat} (h : FD i z f y) (e : ¬ nI z = i) : FD i (z + 1) (fun j => if j = z then d else f j) y := by
  refine ⟨fun j hj q => ?_, fun q => h.2 (fun j hj => q j (by omega))⟩
  have ne : ¬ j = z := fun w => e (by rw [q, w])
  show y = nI (if j = z then d else f j)
  rw [if_neg ne]
  exact h.1 j (by omega) q
theorem smF_f {G : GD} {k a s z : Nat} {i y : Int32} {l : Option Nat} {f : Nat → Nat} (h1 : rowB (nI a) = true) (ha : a < 2 ^ 31) (hz : z ≤ 28) (hj : JS G k a 28 l s z f) (hy2 : ¬ i = -2) (hy : ¬ i = -1) (hf : FD i z f y) : y = smF G k (nI a) i := by
  by_cases q : ∃ j : Nat, j < z ∧ i = nI j
  · obtain ⟨j, j1, j2⟩ := q
    rw [hf.1 j j1 j2, j2]
    exact smF_i h1 ha hz hj j1
  · rw [hf.2 (fun j j1 j2 => q ⟨j, j1, j2⟩)]
    exact smF_n h1 ha hj hy2 hy (fun j j1 j2 => q ⟨j, j1, j2⟩)
set_option maxRecDepth 100000 in
set_option maxHeartbeats 4000000 in
theorem o_toldBy (g kk : Nat → Nat) (σ : St) (k : Nat) (hk : σ.1 3 = nI k) (hk6 : k ≤ 6) (hI : iM σ) (nf : Nat) (hnf : σ.1 9 = nI nf) (hnfb : nf ≤ 20) (G : GD) (hM : HM G k nf σ) (hC : CMf G k (σ.2.1 16) (σ.2.1 17) (σ.2.1 18)) (a : Nat) (ha0 : a ≤ 666666) (d : Nat) (hd0 : d < 28) : jM (S := St) yX11_toldBy cX11_toldBy 6 (some .int) { frames := 2, cells := 0, slots := 0, locals := 46 } kk (cM g kk σ) [.ref (g 0), .int (nI a), .int (nI d)] (cM g kk) (rI (fun (r : Int32) (u : St) => u = σ ∧ (r = encM (tlV G k a d)))) := by
  refine j_entry [(0, .ref (g 0)), (1, .int (nI a)), (2, .int (nI d))] (by decide) (Nat.le_of_ble_eq_true rfl) rfl ?_
  intro X C E HI
  refine j_bipush C ((-6)) (by decide) dX11_toldBy_0 ?_
  refine j_istore_n C [(3, .int (-6)), (0, .ref (g 0)), (1, .int (nI a)), (2, .int (nI d))] rfl (by decide) rfl dX11_toldBy_2 ?_
  refine j_iload_n C 2 rfl dX11_toldBy_3 ?_
  refine j_istore C [(4, .int (nI a)), (3, .int (-6)), (0, .ref (g 0)), (1, .int (nI a)), (2, .int (nI d))] (by decide) rfl dX11_toldBy_4 ?_
  have L6 : ∀ (n6 : Nat) (l : Nat) (y6_3 : Int32) (pp : Nat) (i6_0 : pp ≤ 6) (i6_1 : l ≤ 666666) (hl : l = a / 10 ^ pp) (hf : y6_3 = encM (foV a k (vV G k d) pp)) (hm6 : l < n6), J X 0 0 (cM g kk σ) [(4, .int (nI l)), (3, .int y6_3), (0, .ref (g 0)), (1, .int (nI a)), (2, .int (nI d))] 6 [] := by
    intro n6
    induction n6 with
    | zero => intro l y6_3 pp i6_0 i6_1 hl hf hm; exact absurd hm (Nat.not_lt_zero _)
    | succ n6 ih6 =>
      intro l y6_3 pp i6_0 i6_1 hl hf hm6
      refine j_iload C 0 rfl dX11_toldBy_6 ?_
      refine j_if_leN C 60 (by decide) (by omega) dX11_toldBy_8 (fun c1 => ?_) (fun c1 => ?_)
      · refine j_iload_n C 1 rfl dX11_toldBy_60 ?_
        exact j_iret C E (σ) ⟨_, rfl, ⟨rfl, (fo_e hl (by omega) (by omega) hf)⟩⟩ rfl dX11_toldBy_61
      · have hp5 := dg_6 ha0 hl (by omega)
        refine j_iload C 0 rfl dX11_toldBy_11 ?_
        refine j_bipush C (nI 10) (by decide) dX11_toldBy_13 ?_
        refine j_iremN C (by omega) (by omega) (by omega) dX11_toldBy_15 ?_
        refine j_iconst C (nI 1) (by decide) dX11_toldBy_16 ?_
        refine j_isub C dX11_toldBy_17 ?_
        rcases Nat.eq_zero_or_pos (l % 10) with hz9 | hz9
        · refine j_teq (show nI (l % 10) - nI 1 = (-1) from by rw [hz9]; decide) ?_
          refine j_istore C [(5, .int (-1)), (4, .int (nI l)), (3, .int y6_3), (0, .ref (g 0)), (1, .int (nI a)), (2, .int (nI d))] (by decide) rfl dX11_toldBy_18 ?_
          refine j_aload_n C 3 rfl dX11_toldBy_20 ?_
          refine j_iload C 0 rfl dX11_toldBy_21 ?_
          refine j_V1 C (m_isCan g kk σ k hk hk6 (-1)) kyX11_isCan tb_1067 tb_1069 sp_21 0 rfl (eM_0 g kk _) rfl (Nat.le_of_ble_eq_true rfl) ⟨by decide, by decide⟩ dX11_toldBy_23 rfl (fun vr ur hp => ?_)
          obtain ⟨r, rfl, rfl, hu⟩ := hp
          replace hu := hu.symm
          subst hu
          refine j_if_eq C 48 (by decide) dX11_toldBy_26 (fun c2 => ?_) (fun c2 => ?_)
          · replace c2 := bI_f c2
            refine j_iload_n C 2 rfl dX11_toldBy_48 ?_
            refine j_istore_n C [(3, .int y6_3), (5, .int (-1)), (4, .int (nI l)), (0, .ref (g 0)), (1, .int (nI a)), (2, .int (nI d))] rfl (by decide) rfl dX11_toldBy_49 ?_
            refine j_iload C 2 rfl dX11_toldBy_50 ?_
            refine j_bipush C (nI 10) (by decide) dX11_toldBy_52 ?_
            refine j_idivN C (by omega) (by omega) (by omega) dX11_toldBy_54 ?_
            refine j_istore C [(4, .int (nI (l / 10))), (3, .int y6_3), (5, .int (-1)), (0, .ref (g 0)), (1, .int (nI a)), (2, .int (nI d))] (by decide) rfl dX11_toldBy_55 ?_
            refine j_goto C 6 (by decide) dX11_toldBy_57 ?_
            refine j_sub (lv' := [(4, .int (nI (l / 10))), (3, .int y6_3), (0, .ref (g 0)), (1, .int (nI a)), (2, .int (nI d))]) [0, 1, 3, 4, 5] rfl ?_
            exact ih6 (l / 10) y6_3 (pp + 1) (by omega) (by omega) (dg_q hl) (fo_n hl hf (by omega)) (by have := Nat.div_lt_self (show 0 < l by omega) (show 1 < 10 by decide); omega)
          · replace c2 := bI_t c2
            rw [cB_lt (by decide)] at c2
            exact absurd c2 (by decide)
        · refine j_teq (show nI (l % 10) - nI 1 = nI (l % 10 - 1) from pk_sub hz9) ?_
          refine j_istore C [(5, .int (nI (l % 10 - 1))), (4, .int (nI l)), (3, .int y6_3), (0, .ref (g 0)), (1, .int (nI a)), (2, .int (nI d))] (by decide) rfl dX11_toldBy_18 ?_
          refine j_aload_n C 3 rfl dX11_toldBy_20 ?_
          refine j_iload C 0 rfl dX11_toldBy_21 ?_
          refine j_V1 C (m_isCan g kk σ k hk hk6 (nI (l % 10 - 1))) kyX11_isCan tb_1067 tb_1069 sp_21 0 rfl (eM_0 g kk _) rfl (Nat.le_of_ble_eq_true rfl) ⟨by decide, by decide⟩ dX11_toldBy_23 rfl (fun vr ur hp => ?_)
          obtain ⟨r, rfl, rfl, hu⟩ := hp
          replace hu := hu.symm
          subst hu
          refine j_if_eq C 48 (by decide) dX11_toldBy_26 (fun c3 => ?_) (fun c3 => ?_)
          · replace c3 := bI_f c3
            refine j_iload_n C 2 rfl dX11_toldBy_48 ?_
            refine j_istore_n C [(3, .int y6_3), (5, .int (nI (l % 10 - 1))), (4, .int (nI l)), (0, .ref (g 0)), (1, .int (nI a)), (2, .int (nI d))] rfl (by decide) rfl dX11_toldBy_49 ?_
            refine j_iload C 2 rfl dX11_toldBy_50 ?_
            refine j_bipush C (nI 10) (by decide) dX11_toldBy_52 ?_
            refine j_idivN C (by omega) (by omega) (by omega) dX11_toldBy_54 ?_
            refine j_istore C [(4, .int (nI (l / 10))), (3, .int y6_3), (5, .int (nI (l % 10 - 1))), (0, .ref (g 0)), (1, .int (nI a)), (2, .int (nI d))] (by decide) rfl dX11_toldBy_55 ?_
            refine j_goto C 6 (by decide) dX11_toldBy_57 ?_
            refine j_sub (lv' := [(4, .int (nI (l / 10))), (3, .int y6_3), (0, .ref (g 0)), (1, .int (nI a)), (2, .int (nI d))]) [0, 1, 3, 4, 5] rfl ?_
            exact ih6 (l / 10) y6_3 (pp + 1) (by omega) (by omega) (dg_q hl) (fo_n hl hf (fun w => by rw [cB_of (show l % 10 - 1 < k by omega) (by omega)] at c3; cases c3)) (by have := Nat.div_lt_self (show 0 < l by omega) (show 1 < 10 by decide); omega)
          · replace c3 := bI_t c3
            have hl9 := cB_lt2 (by omega) (by omega) c3
            refine j_aload_n C 3 rfl dX11_toldBy_29 ?_
            refine gM_0_24 C tb_897 dX11_toldBy_30 ?_
            refine j_iload C 0 rfl dX11_toldBy_33 ?_
            refine j_iload_n C 5 rfl dX11_toldBy_35 ?_
            refine j_S01 C (m_at (l % 10 - 1) d) kyX11_at tb_1060 tb_1061 rfl (Nat.le_of_ble_eq_true rfl) ⟨by decide, by decide⟩ ⟨by decide, by decide⟩ dX11_toldBy_36 rfl ?_
            refine rM_18 C (28 * (l % 10 - 1) + d) rfl (by omega) (tr (vaV G k (l % 10 - 1) d)) (hC (l % 10 - 1) d hl9 (by omega)).2.2 dX11_toldBy_39 ?_
            rcases va_lm hM.W hl9 hd0 with ev9 | ⟨v9, hv9, ev9⟩
            · rw [ev9, tr_m]
              refine j_if_lt C 48 (by decide) dX11_toldBy_40 (fun c4 => ?_) (fun c4 => ?_)
              · refine j_iload_n C 2 rfl dX11_toldBy_48 ?_
                refine j_istore_n C [(3, .int y6_3), (5, .int (nI (l % 10 - 1))), (4, .int (nI l)), (0, .ref (g 0)), (1, .int (nI a)), (2, .int (nI d))] rfl (by decide) rfl dX11_toldBy_49 ?_
                refine j_iload C 2 rfl dX11_toldBy_50 ?_
                refine j_bipush C (nI 10) (by decide) dX11_toldBy_52 ?_
                refine j_idivN C (by omega) (by omega) (by omega) dX11_toldBy_54 ?_
                refine j_istore C [(4, .int (nI (l / 10))), (3, .int y6_3), (5, .int (nI (l % 10 - 1))), (0, .ref (g 0)), (1, .int (nI a)), (2, .int (nI d))] (by decide) rfl dX11_toldBy_55 ?_
                refine j_goto C 6 (by decide) dX11_toldBy_57 ?_
                refine j_sub (lv' := [(4, .int (nI (l / 10))), (3, .int y6_3), (0, .ref (g 0)), (1, .int (nI a)), (2, .int (nI d))]) [0, 1, 3, 4, 5] rfl ?_
                exact ih6 (l / 10) y6_3 (pp + 1) (by omega) (by omega) (dg_q hl) (fo_n hl hf (fun w => vV_f ev9 w.2.2)) (by have := Nat.div_lt_self (show 0 < l by omega) (show 1 < 10 by decide); omega)
              · exact absurd c4 (by decide)
            · rw [ev9, tr_n (by omega)]
              refine j_if_ltN C 48 (by decide) (by omega) dX11_toldBy_40 (fun c5 => ?_) (fun c5 => ?_)
              · exact absurd c5 (Nat.not_lt_zero _)
              · refine j_iload C 0 rfl dX11_toldBy_43 ?_
                refine j_goto C 49 (by decide) dX11_toldBy_45 ?_
                refine j_istore_n C [(3, .int (nI (l % 10 - 1))), (5, .int (nI (l % 10 - 1))), (4, .int (nI l)), (0, .ref (g 0)), (1, .int (nI a)), (2, .int (nI d))] rfl (by decide) rfl dX11_toldBy_49 ?_
                refine j_iload C 2 rfl dX11_toldBy_50 ?_
                refine j_bipush C (nI 10) (by decide) dX11_toldBy_52 ?_
                refine j_idivN C (by omega) (by omega) (by omega) dX11_toldBy_54 ?_
                refine j_istore C [(4, .int (nI (l / 10))), (3, .int (nI (l % 10 - 1))), (5, .int (nI (l % 10 - 1))), (0, .ref (g 0)), (1, .int (nI a)), (2, .int (nI d))] (by decide) rfl dX11_toldBy_55 ?_
                refine j_goto C 6 (by decide) dX11_toldBy_57 ?_
                refine j_sub (lv' := [(4, .int (nI (l / 10))), (3, .int (nI (l % 10 - 1))), (0, .ref (g 0)), (1, .int (nI a)), (2, .int (nI d))]) [0, 1, 3, 4, 5] rfl ?_
                exact ih6 (l / 10) (nI (l % 10 - 1)) (pp + 1) (by omega) (by omega) (dg_q hl) (fo_y hl (by omega) hl9 (vV_t (by omega) ev9)) (by have := Nat.div_lt_self (show 0 < l by omega) (show 1 < 10 by decide); omega)
  exact L6 _ a (-6) 0 (by omega) (by omega) (by rw [Nat.pow_zero, Nat.div_one]) rfl (Nat.lt_succ_self _)
set_option maxRecDepth 100000 in
set_option maxHeartbeats 4000000 in
theorem o_record (g kk : Nat → Nat) (σ : St) (k : Nat) (hk : σ.1 3 = nI k) (hk6 : k ≤ 6) (hI : iM σ) (nf : Nat) (hnf : σ.1 9 = nI nf) (hnfb : nf ≤ 20) (G : GD) (hM : HM G k nf σ) (x : Int32) (y : Int32) (z : Int32) : jM (S := St) yX11_record cX11_record 5 (some .int) { frames := 6, cells := 0, slots := 0, locals := 141 } kk (cM g kk σ) [.ref (g 0), .int x, .int y, .int z] (cM g kk) (rI (fun (r : Int32) (u : St) => ∃ (pF16 : Nat → Int32) (pF17 : Nat → Int32) (pF18 : Nat → Int32), u = sF (sF (sF σ 16 pF16) 17 pF17) 18 pF18 ∧ (r = rcF G k x y z))) := by
  refine j_entry [(0, .ref (g 0)), (1, .int x), (2, .int y), (3, .int z)] (by decide) (Nat.le_of_ble_eq_true rfl) rfl ?_
  intro X C E HI
  refine j_iload_n C 1 rfl dX11_record_0 ?_
  refine j_S01 C (m_isRow x) kyX11_isRow tb_1278 tb_1279 rfl (Nat.le_of_ble_eq_true rfl) ⟨by decide, by decide⟩ ⟨by decide, by decide⟩ dX11_record_1 rfl ?_
  refine j_if_eq C 17 (by decide) dX11_record_4 (fun c1 => ?_) (fun c1 => ?_)
  · replace c1 := bI_f c1
    refine j_bipush C ((-2)) (by decide) dX11_record_17 ?_
    refine j_w (cM g kk (sF σ 16 (σ.2.1 16))) (congrArg (cM g kk) (wrFi (S := σ) (c := 16) (v := σ.2.1 16) rfl)) ?_
    refine j_w (cM g kk (sF (sF σ 16 (σ.2.1 16)) 17 (σ.2.1 17))) (congrArg (cM g kk) (wrFi (S := (sF σ 16 (σ.2.1 16))) (c := 17) (v := σ.2.1 17) (gtFF (by decide) rfl))) ?_
    refine j_w (cM g kk (sF (sF (sF σ 16 (σ.2.1 16)) 17 (σ.2.1 17)) 18 (σ.2.1 18))) (congrArg (cM g kk) (wrFi (S := (sF (sF σ 16 (σ.2.1 16)) 17 (σ.2.1 17))) (c := 18) (v := σ.2.1 18) (gtFF (by decide) (gtFF (by decide) rfl)))) ?_
    exact j_iret C E (sF (sF (sF σ 16 (σ.2.1 16)) 17 (σ.2.1 17)) 18 (σ.2.1 18)) ⟨_, rfl, ⟨(σ.2.1 16), (σ.2.1 17), (σ.2.1 18), rfl, (rcF_2 (Or.inl c1))⟩⟩ rfl dX11_record_19
  · replace c1 := bI_t c1
    obtain ⟨xn, xn1, rfl⟩ := rowB_nat c1
    refine j_iload_n C 3 rfl dX11_record_7 ?_
    refine j_i2l C dX11_record_8 ?_
    refine j_lconst C 0 (by decide) dX11_record_9 ?_
    refine j_lconst C 1 (by decide) dX11_record_10 ?_
    refine j_S01 C (m_inB z (nI 0) (nI 1) 0 1 (by decide) (by decide)) kyX11_in tb_1057 tb_1058 rfl (Nat.le_of_ble_eq_true rfl) ⟨by decide, by decide⟩ ⟨by decide, by decide⟩ dX11_record_11 rfl ?_
    refine j_if_ne C 20 (by decide) dX11_record_14 (fun c2 => ?_) (fun c2 => ?_)
    · replace c2 := bI_t c2
      obtain ⟨zn, zn1, zn2, rfl⟩ := wB_nat (by decide) (by decide) c2
      refine j_iload_n C 2 rfl dX11_record_20 ?_
      refine j_S01 C (m_isDay y) kyX11_isDay tb_1077 tb_1078 rfl (Nat.le_of_ble_eq_true rfl) ⟨by decide, by decide⟩ ⟨by decide, by decide⟩ dX11_record_21 rfl ?_
      refine j_if_ne C 29 (by decide) dX11_record_24 (fun c3 => ?_) (fun c3 => ?_)
      · replace c3 := bI_t c3
        obtain ⟨yn, yn1, yn2, rfl⟩ := wB_nat (by decide) (by decide) c3
        refine j_aload_n C 0 rfl dX11_record_29 ?_
        refine j_V1 C (o_findAll g kk σ k hk hk6 hI nf hnf (by omega) G hM ) kyX11_findAll tb_1131 tb_1133 sp_24 0 rfl (eM_0 g kk _) rfl (Nat.le_of_ble_eq_true rfl) ⟨by decide, by decide⟩ dX11_record_30 rfl (fun vr ur hp => ?_)
        obtain ⟨rfl, w4, w5, w6, hu, g7⟩ := hp
        replace hu := hu.symm
        subst hu
        refine j_aload_n C 0 rfl dX11_record_33 ?_
        refine j_iload_n C 1 rfl dX11_record_34 ?_
        refine j_iload_n C 2 rfl dX11_record_35 ?_
        refine j_V1 C (o_toldBy g kk (sF (sF (sF σ 16 w4) 17 w5) 18 w6) k hk hk6 hI nf hnf (by omega) G hM g7 xn (by first | assumption | omega) yn (by first | assumption | omega)) kyX11_toldBy tb_1282 tb_1284 sp_43 0 rfl (eM_0 g kk _) rfl (Nat.le_of_ble_eq_true rfl) ⟨by decide, by decide⟩ dX11_record_36 rfl (fun vr ur hp => ?_)
        obtain ⟨r9, rfl, hu, g8⟩ := hp
        replace hu := hu.symm
        subst hu
        rcases opt (tlV G k xn yn) with ht9 | ⟨c9, ht9⟩
        · rw [ht9] at g8
          replace g8 : r9 = -6 := g8
          subst g8
          refine j_istore C [(4, .int (-6)), (0, .ref (g 0)), (1, .int (nI xn)), (2, .int (nI yn)), (3, .int (nI zn))] (by decide) rfl dX11_record_39 ?_
          refine j_iload C 0 rfl dX11_record_41 ?_
          refine j_if_ge C 51 (by decide) dX11_record_43 (fun c10 => ?_) (fun c10 => ?_)
          · exact absurd c10 (by decide)
          · refine j_bipush C ((-6)) (by decide) dX11_record_46 ?_
            refine j_goto C 71 (by decide) dX11_record_48 ?_
            exact j_iret C E (sF (sF (sF σ 16 w4) 17 w5) 18 w6) ⟨_, rfl, ⟨w4, w5, w6, rfl, (rcF_6 c1 c2 c3 (by omega) (by omega) ht9)⟩⟩ rfl dX11_record_71
        · rw [ht9] at g8
          replace g8 : r9 = nI c9 := g8
          subst g8
          have hc9 := tl_lt ht9
          obtain ⟨v9, hv9, ev9⟩ := (va_lm hM.W hc9.1 (show yn < 28 by omega)).resolve_left hc9.2
          refine j_istore C [(4, .int (nI c9)), (0, .ref (g 0)), (1, .int (nI xn)), (2, .int (nI yn)), (3, .int (nI zn))] (by decide) rfl dX11_record_39 ?_
          refine j_iload C 0 rfl dX11_record_41 ?_
          refine j_if_geN C 51 (by decide) (by omega) dX11_record_43 (fun c11 => ?_) (fun c11 => ?_)
          · refine j_iload_n C 4 rfl dX11_record_51 ?_
            refine j_if_neN C 69 (by decide) (by omega) dX11_record_52 (fun c12 => ?_) (fun c12 => ?_)
            · refine j_iload C 0 rfl dX11_record_69 ?_
              exact j_iret C E (sF (sF (sF σ 16 w4) 17 w5) 18 w6) ⟨_, rfl, ⟨w4, w5, w6, rfl, (rcF_x c1 c2 c3 (by omega) (by omega) (by omega) ht9 ev9 (by first | rw [if_pos (by omega)] | rw [if_neg (by omega)]))⟩⟩ rfl dX11_record_71
            · refine j_aload_n C 1 rfl dX11_record_55 ?_
              refine gM_0_24 C tb_897 dX11_record_56 ?_
              refine j_iload C 0 rfl dX11_record_59 ?_
              refine j_iload_n C 3 rfl dX11_record_61 ?_
              refine j_S01 C (m_at c9 yn) kyX11_at tb_1060 tb_1061 rfl (Nat.le_of_ble_eq_true rfl) ⟨by decide, by decide⟩ ⟨by decide, by decide⟩ dX11_record_62 rfl ?_
              refine rM_18 C (28 * c9 + yn) rfl (by omega) (nI v9) ((g7 c9 yn hc9.1 (by omega)).2.2.trans (by rw [ev9, tr_n (by omega)])) dX11_record_65 ?_
              refine j_goto C 71 (by decide) dX11_record_66 ?_
              exact j_iret C E (sF (sF (sF σ 16 w4) 17 w5) 18 w6) ⟨_, rfl, ⟨w4, w5, w6, rfl, (rcF_x c1 c2 c3 (by omega) (by omega) (by omega) ht9 ev9 (by first | rw [if_pos (by omega)] | rw [if_neg (by omega)]))⟩⟩ rfl dX11_record_71
          · exact absurd c11 (Nat.not_lt_zero _)
      · replace c3 := bI_f c3
        refine j_iconst C ((-1)) (by decide) dX11_record_27 ?_
        refine j_w (cM g kk (sF σ 16 (σ.2.1 16))) (congrArg (cM g kk) (wrFi (S := σ) (c := 16) (v := σ.2.1 16) rfl)) ?_
        refine j_w (cM g kk (sF (sF σ 16 (σ.2.1 16)) 17 (σ.2.1 17))) (congrArg (cM g kk) (wrFi (S := (sF σ 16 (σ.2.1 16))) (c := 17) (v := σ.2.1 17) (gtFF (by decide) rfl))) ?_
        refine j_w (cM g kk (sF (sF (sF σ 16 (σ.2.1 16)) 17 (σ.2.1 17)) 18 (σ.2.1 18))) (congrArg (cM g kk) (wrFi (S := (sF (sF σ 16 (σ.2.1 16)) 17 (σ.2.1 17))) (c := 18) (v := σ.2.1 18) (gtFF (by decide) (gtFF (by decide) rfl)))) ?_
        exact j_iret C E (sF (sF (sF σ 16 (σ.2.1 16)) 17 (σ.2.1 17)) 18 (σ.2.1 18)) ⟨_, rfl, ⟨(σ.2.1 16), (σ.2.1 17), (σ.2.1 18), rfl, (rcF_1 c1 c2 c3)⟩⟩ rfl dX11_record_28
    · replace c2 := bI_f c2
      refine j_bipush C ((-2)) (by decide) dX11_record_17 ?_
      refine j_w (cM g kk (sF σ 16 (σ.2.1 16))) (congrArg (cM g kk) (wrFi (S := σ) (c := 16) (v := σ.2.1 16) rfl)) ?_
      refine j_w (cM g kk (sF (sF σ 16 (σ.2.1 16)) 17 (σ.2.1 17))) (congrArg (cM g kk) (wrFi (S := (sF σ 16 (σ.2.1 16))) (c := 17) (v := σ.2.1 17) (gtFF (by decide) rfl))) ?_
      refine j_w (cM g kk (sF (sF (sF σ 16 (σ.2.1 16)) 17 (σ.2.1 17)) 18 (σ.2.1 18))) (congrArg (cM g kk) (wrFi (S := (sF (sF σ 16 (σ.2.1 16)) 17 (σ.2.1 17))) (c := 18) (v := σ.2.1 18) (gtFF (by decide) (gtFF (by decide) rfl)))) ?_
      exact j_iret C E (sF (sF (sF σ 16 (σ.2.1 16)) 17 (σ.2.1 17)) 18 (σ.2.1 18)) ⟨_, rfl, ⟨(σ.2.1 16), (σ.2.1 17), (σ.2.1 18), rfl, (rcF_2 (Or.inr c2))⟩⟩ rfl dX11_record_19
set_option maxRecDepth 100000 in
set_option maxHeartbeats 4000000 in
theorem o_seam (g kk : Nat → Nat) (σ : St) (k : Nat) (hk : σ.1 3 = nI k) (hk6 : k ≤ 6) (hI : iM σ) (nf : Nat) (hnf : σ.1 9 = nI nf) (hnfb : nf ≤ 20) (G : GD) (hM : HM G k nf σ) (x : Int32) (y : Int32) : jM (S := St) yX11_seam cX11_seam 9 (some .int) { frames := 6, cells := 0, slots := 0, locals := 141 } kk (cM g kk σ) [.ref (g 0), .int x, .int y] (cM g kk) (rI (fun (r : Int32) (u : St) => ∃ (pF16 : Nat → Int32) (pF17 : Nat → Int32) (pF18 : Nat → Int32), u = sF (sF (sF σ 16 pF16) 17 pF17) 18 pF18 ∧ (r = smF G k x y))) := by
  refine j_entry [(0, .ref (g 0)), (1, .int x), (2, .int y)] (by decide) (Nat.le_of_ble_eq_true rfl) rfl ?_
  intro X C E HI
  refine j_iload_n C 1 rfl dX11_seam_0 ?_
  refine j_S01 C (m_isRow x) kyX11_isRow tb_1278 tb_1279 rfl (Nat.le_of_ble_eq_true rfl) ⟨by decide, by decide⟩ ⟨by decide, by decide⟩ dX11_seam_1 rfl ?_
  refine j_if_ne C 10 (by decide) dX11_seam_4 (fun c1 => ?_) (fun c1 => ?_)
  · replace c1 := bI_t c1
    obtain ⟨xn, xn1, rfl⟩ := rowB_nat c1
    refine j_aload_n C 0 rfl dX11_seam_10 ?_
    refine j_V1 C (o_findAll g kk σ k hk hk6 hI nf hnf (by omega) G hM ) kyX11_findAll tb_1131 tb_1133 sp_24 0 rfl (eM_0 g kk _) rfl (Nat.le_of_ble_eq_true rfl) ⟨by decide, by decide⟩ dX11_seam_11 rfl (fun vr ur hp => ?_)
    obtain ⟨rfl, w2, w3, w4, hu, g5⟩ := hp
    replace hu := hu.symm
    subst hu
    refine j_bipush C ((-6)) (by decide) dX11_seam_14 ?_
    refine j_istore_n C [(3, .int (-6)), (0, .ref (g 0)), (1, .int (nI xn)), (2, .int y)] rfl (by decide) rfl dX11_seam_16 ?_
    refine j_iconst C (nI 0) (by decide) dX11_seam_17 ?_
    refine j_istore C [(4, .int (nI 0)), (3, .int (-6)), (0, .ref (g 0)), (1, .int (nI xn)), (2, .int y)] (by decide) rfl dX11_seam_18 ?_
    refine j_iconst C (nI 0) (by decide) dX11_seam_20 ?_
    refine j_istore C [(5, .int (nI 0)), (4, .int (nI 0)), (3, .int (-6)), (0, .ref (g 0)), (1, .int (nI xn)), (2, .int y)] (by decide) rfl dX11_seam_21 ?_
    refine j_bipush C ((-6)) (by decide) dX11_seam_23 ?_
    refine j_istore C [(6, .int (-6)), (5, .int (nI 0)), (4, .int (nI 0)), (3, .int (-6)), (0, .ref (g 0)), (1, .int (nI xn)), (2, .int y)] (by decide) rfl dX11_seam_25 ?_
    refine j_iconst C (nI 0) (by decide) dX11_seam_27 ?_
    refine j_istore C [(7, .int (nI 0)), (6, .int (-6)), (5, .int (nI 0)), (4, .int (nI 0)), (3, .int (-6)), (0, .ref (g 0)), (1, .int (nI xn)), (2, .int y)] (by decide) rfl dX11_seam_28 ?_
    have L30 : ∀ (n30 : Nat) (d : Nat) (y30_6 : Int32) (sm9 : Nat) (z : Nat) (y30_3 : Int32) (lo : Option Nat) (sf : Nat → Nat) (i30_0 : d ≤ 28) (i30_1 : z ≤ d) (i30_2 : sm9 ≤ 9990 * d) (hl : y30_3 = encM lo) (hj : JS G k xn d lo sm9 z sf) (hfd : FD y z sf y30_6) (hm30 : 28 - d < n30), J X 0 0 (cM g kk (sF (sF (sF σ 16 w2) 17 w3) 18 w4)) [(7, .int (nI d)), (6, .int y30_6), (5, .int (nI sm9)), (4, .int (nI z)), (3, .int y30_3), (0, .ref (g 0)), (1, .int (nI xn)), (2, .int y)] 30 [] := by
      intro n30
      induction n30 with
      | zero => intro d y30_6 sm9 z y30_3 lo sf i30_0 i30_1 i30_2 hl hj hfd hm; exact absurd hm (Nat.not_lt_zero _)
      | succ n30 ih30 =>
        intro d y30_6 sm9 z y30_3 lo sf i30_0 i30_1 i30_2 hl hj hfd hm30
        refine j_iload C 0 rfl dX11_seam_30 ?_
        refine j_bipush C (nI 28) (by decide) dX11_seam_32 ?_
        refine j_icmp_geN C 105 (by decide) (by omega) (by omega) dX11_seam_34 (fun c6 => ?_) (fun c6 => ?_)
        · refine j_iload_n C 7 rfl dX11_seam_105 ?_
          refine j_bipush C ((-2)) (by decide) dX11_seam_106 ?_
          refine j_icmp_ne C 116 (by decide) dX11_seam_108 (fun c7 => ?_) (fun c7 => ?_)
          · refine j_iload_n C 7 rfl dX11_seam_116 ?_
            refine j_iconst C ((-1)) (by decide) dX11_seam_117 ?_
            refine j_icmp_ne C 126 (by decide) dX11_seam_118 (fun c8 => ?_) (fun c8 => ?_)
            · refine j_iload C 1 rfl dX11_seam_126 ?_
              exact j_iret C E (sF (sF (sF σ 16 w2) 17 w3) 18 w4) ⟨_, rfl, ⟨w2, w3, w4, rfl, (smF_f c1 (by omega) (by omega) (by have q := hj; rw [show d = 28 by omega] at q; exact q) c7 c8 hfd)⟩⟩ rfl dX11_seam_128
            · refine j_iload C 3 rfl dX11_seam_121 ?_
              refine j_goto C 128 (by decide) dX11_seam_123 ?_
              exact j_iret C E (sF (sF (sF σ 16 w2) 17 w3) 18 w4) ⟨_, rfl, ⟨w2, w3, w4, rfl, (smF_c c1 (by omega) (by have q := hj; rw [show d = 28 by omega] at q; exact q) c7 c8)⟩⟩ rfl dX11_seam_128
          · refine j_iload C 2 rfl dX11_seam_111 ?_
            refine j_goto C 128 (by decide) dX11_seam_113 ?_
            exact j_iret C E (sF (sF (sF σ 16 w2) 17 w3) 18 w4) ⟨_, rfl, ⟨w2, w3, w4, rfl, (smF_s c1 (by omega) (by have q := hj; rw [show d = 28 by omega] at q; exact q) c7)⟩⟩ rfl dX11_seam_128
        · refine j_aload_n C 5 rfl dX11_seam_37 ?_
          refine j_iload_n C 6 rfl dX11_seam_38 ?_
          refine j_iload C 0 rfl dX11_seam_39 ?_
          refine j_V1 C (o_toldBy g kk (sF (sF (sF σ 16 w2) 17 w3) 18 w4) k hk hk6 hI nf hnf (by omega) G hM g5 xn (by first | assumption | omega) d (by first | assumption | omega)) kyX11_toldBy tb_1282 tb_1284 sp_43 0 rfl (eM_0 g kk _) rfl (Nat.le_of_ble_eq_true rfl) ⟨by decide, by decide⟩ dX11_seam_41 rfl (fun vr ur hp => ?_)
          obtain ⟨r10, rfl, hu, g9⟩ := hp
          replace hu := hu.symm
          subst hu
          rcases opt (tlV G k xn d) with ht9 | ⟨c9, ht9⟩
          · rw [ht9] at g9
            replace g9 : r10 = -6 := g9
            subst g9
            refine j_istore C [(8, .int (-6)), (7, .int (nI d)), (6, .int y30_6), (5, .int (nI sm9)), (4, .int (nI z)), (3, .int y30_3), (0, .ref (g 0)), (1, .int (nI xn)), (2, .int y)] (by decide) rfl dX11_seam_44 ?_
            refine j_iload C 0 rfl dX11_seam_46 ?_
            refine j_if_lt C 99 (by decide) dX11_seam_48 (fun c11 => ?_) (fun c11 => ?_)
            · refine j_iinc C (nI (d + 1)) [(7, .int (nI (d + 1))), (8, .int (-6)), (6, .int y30_6), (5, .int (nI sm9)), (4, .int (nI z)), (3, .int y30_3), (0, .ref (g 0)), (1, .int (nI xn)), (2, .int y)] 1 rfl (by rw [show Int32.ofInt 1 = nI 1 from by decide, nI_add]) (by decide) rfl dX11_seam_99 ?_
              refine j_goto C 30 (by decide) dX11_seam_102 ?_
              refine j_sub (lv' := [(7, .int (nI (d + 1))), (6, .int y30_6), (5, .int (nI sm9)), (4, .int (nI z)), (3, .int y30_3), (0, .ref (g 0)), (1, .int (nI xn)), (2, .int y)]) [0, 2, 3, 4, 5, 6, 7, 8] rfl ?_
              exact ih30 (d + 1) y30_6 sm9 z y30_3 lo sf (by omega) (by omega) (by omega) hl (JS_n hj ht9) hfd (by omega)
            · exact absurd c11 (by decide)
          · rw [ht9] at g9
            replace g9 : r10 = nI c9 := g9
            subst g9
            have hc9 := tl_lt ht9
            obtain ⟨v9, hv9, ev9⟩ := (va_lm hM.W hc9.1 (show d < 28 by omega)).resolve_left hc9.2
            refine j_istore C [(8, .int (nI c9)), (7, .int (nI d)), (6, .int y30_6), (5, .int (nI sm9)), (4, .int (nI z)), (3, .int y30_3), (0, .ref (g 0)), (1, .int (nI xn)), (2, .int y)] (by decide) rfl dX11_seam_44 ?_
            refine j_iload C 0 rfl dX11_seam_46 ?_
            refine j_if_ltN C 99 (by decide) (by omega) dX11_seam_48 (fun c12 => ?_) (fun c12 => ?_)
            · exact absurd c12 (Nat.not_lt_zero _)
            · refine j_iload C 3 rfl dX11_seam_51 ?_
              refine j_aload_n C 6 rfl dX11_seam_53 ?_
              refine gM_0_24 C tb_897 dX11_seam_54 ?_
              refine j_iload C 0 rfl dX11_seam_57 ?_
              refine j_iload C 1 rfl dX11_seam_59 ?_
              refine j_S01 C (m_at c9 d) kyX11_at tb_1060 tb_1061 rfl (Nat.le_of_ble_eq_true rfl) ⟨by decide, by decide⟩ ⟨by decide, by decide⟩ dX11_seam_61 rfl ?_
              refine rM_18 C (28 * c9 + d) rfl (by omega) (nI v9) ((g5 c9 d hc9.1 (by omega)).2.2.trans (by rw [ev9, tr_n (by omega)])) dX11_seam_64 ?_
              refine j_iaddN C dX11_seam_65 ?_
              refine j_istore C [(5, .int (nI (sm9 + v9))), (8, .int (nI c9)), (7, .int (nI d)), (6, .int y30_6), (4, .int (nI z)), (3, .int y30_3), (0, .ref (g 0)), (1, .int (nI xn)), (2, .int y)] (by decide) rfl dX11_seam_66 ?_
              rcases opt lo with hl9 | ⟨l9, hl9⟩
              · subst hl9
                replace hl : y30_3 = -6 := hl
                subst hl
                refine j_iload_n C 5 rfl dX11_seam_68 ?_
                refine j_if_lt C 96 (by decide) dX11_seam_69 (fun c13 => ?_) (fun c13 => ?_)
                · refine j_iload C 1 rfl dX11_seam_96 ?_
                  refine j_istore_n C [(3, .int (nI c9)), (5, .int (nI (sm9 + v9))), (8, .int (nI c9)), (7, .int (nI d)), (6, .int y30_6), (4, .int (nI z)), (0, .ref (g 0)), (1, .int (nI xn)), (2, .int y)] rfl (by decide) rfl dX11_seam_98 ?_
                  refine j_iinc C (nI (d + 1)) [(7, .int (nI (d + 1))), (3, .int (nI c9)), (5, .int (nI (sm9 + v9))), (8, .int (nI c9)), (6, .int y30_6), (4, .int (nI z)), (0, .ref (g 0)), (1, .int (nI xn)), (2, .int y)] 3 rfl (by rw [show Int32.ofInt 1 = nI 1 from by decide, nI_add]) (by decide) rfl dX11_seam_99 ?_
                  refine j_goto C 30 (by decide) dX11_seam_102 ?_
                  refine j_sub (lv' := [(7, .int (nI (d + 1))), (6, .int y30_6), (5, .int (nI (sm9 + v9))), (4, .int (nI z)), (3, .int (nI c9)), (0, .ref (g 0)), (1, .int (nI xn)), (2, .int y)]) [0, 4, 2, 5, 1, 6, 7, 8] rfl ?_
                  exact ih30 (d + 1) y30_6 (sm9 + v9) z (nI c9) (some c9) sf (by omega) (by omega) (by omega) rfl (JS_y hj ht9 (by omega) ev9 (Or.inl rfl)) hfd (by omega)
                · exact absurd c13 (by decide)
              · subst hl9
                replace hl : y30_3 = nI l9 := hl
                subst hl
                have hl8 := jn_lt d l9 (by rw [hj])
                refine j_iload_n C 5 rfl dX11_seam_68 ?_
                refine j_if_ltN C 96 (by decide) (by omega) dX11_seam_69 (fun c14 => ?_) (fun c14 => ?_)
                · exact absurd c14 (Nat.not_lt_zero _)
                · refine j_iload C 1 rfl dX11_seam_72 ?_
                  refine j_iload_n C 5 rfl dX11_seam_74 ?_
                  refine j_icmp_eqN C 96 (by decide) (by omega) (by omega) dX11_seam_75 (fun c15 => ?_) (fun c15 => ?_)
                  · refine j_iload C 1 rfl dX11_seam_96 ?_
                    refine j_istore_n C [(3, .int (nI c9)), (5, .int (nI (sm9 + v9))), (8, .int (nI c9)), (7, .int (nI d)), (6, .int y30_6), (4, .int (nI z)), (0, .ref (g 0)), (1, .int (nI xn)), (2, .int y)] rfl (by decide) rfl dX11_seam_98 ?_
                    refine j_iinc C (nI (d + 1)) [(7, .int (nI (d + 1))), (3, .int (nI c9)), (5, .int (nI (sm9 + v9))), (8, .int (nI c9)), (6, .int y30_6), (4, .int (nI z)), (0, .ref (g 0)), (1, .int (nI xn)), (2, .int y)] 3 rfl (by rw [show Int32.ofInt 1 = nI 1 from by decide, nI_add]) (by decide) rfl dX11_seam_99 ?_
                    refine j_goto C 30 (by decide) dX11_seam_102 ?_
                    refine j_sub (lv' := [(7, .int (nI (d + 1))), (6, .int y30_6), (5, .int (nI (sm9 + v9))), (4, .int (nI z)), (3, .int (nI c9)), (0, .ref (g 0)), (1, .int (nI xn)), (2, .int y)]) [0, 4, 2, 5, 1, 6, 7, 8] rfl ?_
                    exact ih30 (d + 1) y30_6 (sm9 + v9) z (nI c9) (some c9) sf (by omega) (by omega) (by omega) rfl (JS_y hj ht9 (by omega) ev9 (Or.inr (by rw [c15]))) hfd (by omega)
                  · refine j_iload C 4 rfl dX11_seam_78 ?_
                    refine j_iload_n C 8 rfl dX11_seam_80 ?_
                    refine j_icmp_ne C 89 (by decide) dX11_seam_81 (fun c16 => ?_) (fun c16 => ?_)
                    · refine j_iload C 3 rfl dX11_seam_89 ?_
                      refine j_istore C [(6, .int y30_6), (5, .int (nI (sm9 + v9))), (8, .int (nI c9)), (7, .int (nI d)), (4, .int (nI z)), (3, .int (nI l9)), (0, .ref (g 0)), (1, .int (nI xn)), (2, .int y)] (by decide) rfl dX11_seam_91 ?_
                      refine j_iinc C (nI (z + 1)) [(4, .int (nI (z + 1))), (6, .int y30_6), (5, .int (nI (sm9 + v9))), (8, .int (nI c9)), (7, .int (nI d)), (3, .int (nI l9)), (0, .ref (g 0)), (1, .int (nI xn)), (2, .int y)] 4 rfl (by rw [show Int32.ofInt 1 = nI 1 from by decide, nI_add]) (by decide) rfl dX11_seam_93 ?_
                      refine j_iload C 3 rfl dX11_seam_96 ?_
                      refine j_istore_n C [(3, .int (nI c9)), (4, .int (nI (z + 1))), (6, .int y30_6), (5, .int (nI (sm9 + v9))), (8, .int (nI c9)), (7, .int (nI d)), (0, .ref (g 0)), (1, .int (nI xn)), (2, .int y)] rfl (by decide) rfl dX11_seam_98 ?_
                      refine j_iinc C (nI (d + 1)) [(7, .int (nI (d + 1))), (3, .int (nI c9)), (4, .int (nI (z + 1))), (6, .int y30_6), (5, .int (nI (sm9 + v9))), (8, .int (nI c9)), (0, .ref (g 0)), (1, .int (nI xn)), (2, .int y)] 5 rfl (by rw [show Int32.ofInt 1 = nI 1 from by decide, nI_add]) (by decide) rfl dX11_seam_99 ?_
                      refine j_goto C 30 (by decide) dX11_seam_102 ?_
                      refine j_sub (lv' := [(7, .int (nI (d + 1))), (6, .int y30_6), (5, .int (nI (sm9 + v9))), (4, .int (nI (z + 1))), (3, .int (nI c9)), (0, .ref (g 0)), (1, .int (nI xn)), (2, .int y)]) [0, 3, 4, 2, 1, 6, 7, 8] rfl ?_
                      exact ih30 (d + 1) y30_6 (sm9 + v9) (z + 1) (nI c9) (some c9) (fun j => if j = z then d else sf j) (by omega) (by omega) (by omega) rfl (JS_s hj ht9 (by omega) ev9 (fun w => w.elim (fun w => by cases w) (fun w => by cases w; omega))) (FD_n hfd c16) (by omega)
                    · refine j_iload C 2 rfl dX11_seam_84 ?_
                      refine j_goto C 91 (by decide) dX11_seam_86 ?_
                      refine j_istore C [(6, .int (nI d)), (5, .int (nI (sm9 + v9))), (8, .int (nI c9)), (7, .int (nI d)), (4, .int (nI z)), (3, .int (nI l9)), (0, .ref (g 0)), (1, .int (nI xn)), (2, .int y)] (by decide) rfl dX11_seam_91 ?_
                      refine j_iinc C (nI (z + 1)) [(4, .int (nI (z + 1))), (6, .int (nI d)), (5, .int (nI (sm9 + v9))), (8, .int (nI c9)), (7, .int (nI d)), (3, .int (nI l9)), (0, .ref (g 0)), (1, .int (nI xn)), (2, .int y)] 4 rfl (by rw [show Int32.ofInt 1 = nI 1 from by decide, nI_add]) (by decide) rfl dX11_seam_93 ?_
                      refine j_iload C 3 rfl dX11_seam_96 ?_
                      refine j_istore_n C [(3, .int (nI c9)), (4, .int (nI (z + 1))), (6, .int (nI d)), (5, .int (nI (sm9 + v9))), (8, .int (nI c9)), (7, .int (nI d)), (0, .ref (g 0)), (1, .int (nI xn)), (2, .int y)] rfl (by decide) rfl dX11_seam_98 ?_
                      refine j_iinc C (nI (d + 1)) [(7, .int (nI (d + 1))), (3, .int (nI c9)), (4, .int (nI (z + 1))), (6, .int (nI d)), (5, .int (nI (sm9 + v9))), (8, .int (nI c9)), (0, .ref (g 0)), (1, .int (nI xn)), (2, .int y)] 5 rfl (by rw [show Int32.ofInt 1 = nI 1 from by decide, nI_add]) (by decide) rfl dX11_seam_99 ?_
                      refine j_goto C 30 (by decide) dX11_seam_102 ?_
                      refine j_sub (lv' := [(7, .int (nI (d + 1))), (6, .int (nI d)), (5, .int (nI (sm9 + v9))), (4, .int (nI (z + 1))), (3, .int (nI c9)), (0, .ref (g 0)), (1, .int (nI xn)), (2, .int y)]) [0, 3, 4, 2, 1, 6, 7, 8] rfl ?_
                      exact ih30 (d + 1) (nI d) (sm9 + v9) (z + 1) (nI c9) (some c9) (fun j => if j = z then d else sf j) (by omega) (by omega) (by omega) rfl (JS_s hj ht9 (by omega) ev9 (fun w => w.elim (fun w => by cases w) (fun w => by cases w; omega))) (FD_y (by omega) hfd c16) (by omega)
    exact L30 _ 0 (-6) 0 0 (-6) none (fun _ => 0) (by omega) (by omega) (by omega) rfl JS_0 FD_0 (Nat.lt_succ_self _)
  · replace c1 := bI_f c1
    refine j_bipush C ((-2)) (by decide) dX11_seam_7 ?_
    refine j_w (cM g kk (sF σ 16 (σ.2.1 16))) (congrArg (cM g kk) (wrFi (S := σ) (c := 16) (v := σ.2.1 16) rfl)) ?_
    refine j_w (cM g kk (sF (sF σ 16 (σ.2.1 16)) 17 (σ.2.1 17))) (congrArg (cM g kk) (wrFi (S := (sF σ 16 (σ.2.1 16))) (c := 17) (v := σ.2.1 17) (gtFF (by decide) rfl))) ?_
    refine j_w (cM g kk (sF (sF (sF σ 16 (σ.2.1 16)) 17 (σ.2.1 17)) 18 (σ.2.1 18))) (congrArg (cM g kk) (wrFi (S := (sF (sF σ 16 (σ.2.1 16)) 17 (σ.2.1 17))) (c := 18) (v := σ.2.1 18) (gtFF (by decide) (gtFF (by decide) rfl)))) ?_
    exact j_iret C E (sF (sF (sF σ 16 (σ.2.1 16)) 17 (σ.2.1 17)) 18 (σ.2.1 18)) ⟨_, rfl, ⟨(σ.2.1 16), (σ.2.1 17), (σ.2.1 18), rfl, (smF_1 c1)⟩⟩ rfl dX11_seam_9
