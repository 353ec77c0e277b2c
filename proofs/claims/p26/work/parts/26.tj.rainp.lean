/-- counted, kind, first, last, tenths missed, by can and day; x, y by can; settings -/
abbrev GD := (Nat → Nat → Int32) × (Nat → Nat → Nat) × (Nat → Nat → Nat) × (Nat → Nat → Nat) × (Nat → Nat → Nat) × (Nat → Nat) × (Nat → Nat) × (Nat → Nat)
abbrev zC (G : GD) : Nat → Nat → Int32 := G.1
abbrev zK (G : GD) : Nat → Nat → Nat := G.2.1
abbrev zF (G : GD) : Nat → Nat → Nat := G.2.2.1
abbrev zL (G : GD) : Nat → Nat → Nat := G.2.2.2.1
abbrev zM (G : GD) : Nat → Nat → Nat := G.2.2.2.2.1
abbrev zX (G : GD) : Nat → Nat := G.2.2.2.2.2.1
abbrev zY (G : GD) : Nat → Nat := G.2.2.2.2.2.2.1
abbrev zS (G : GD) : Nat → Nat := G.2.2.2.2.2.2.2
def frN (a b c d : Nat) : Nat := (a - c) + (c - a) + ((b - d) + (d - b))
theorem frN_le {a b c d : Nat} (ha : a ≤ 20) (hb : b ≤ 20) (hc : c ≤ 20) (hd : d ≤ 20) : frN a b c d ≤ 40 := by unfold frN; omega
theorem ab_n {a c : Nat} (ha : a ≤ 20) (hc : c ≤ 20) : ab (nI a - nI c) = nI ((a - c) + (c - a)) := by
  unfold ab
  rcases Nat.lt_or_ge a c with h | h
  · rw [if_neg (Int32.not_le.mpr (pk_sneg (by omega) h)), show (0 : Int32) - (nI a - nI c) = nI c - nI a from by rw [Int32.zero_sub, Int32.neg_sub], pk_sub (by omega)]
    congr 1
    omega
  · rw [pk_sub h, if_pos (nI_pos' (by omega))]
    congr 1
    omega
theorem far_n {a b c d : Nat} (ha : a ≤ 20) (hb : b ≤ 20) (hc : c ≤ 20) (hd : d ≤ 20) : ab (nI a - nI c) + ab (nI b - nI d) = nI (frN a b c d) := by
  rw [ab_n ha hc, ab_n hb hd, nI_add]; rfl
theorem off_n {a c : Nat} (ha : a ≤ 20) (hc : c ≤ 20) : (if nI a < nI c then nI c - nI a else nI a - nI c) = nI ((a - c) + (c - a)) := by
  by_cases h : a < c
  · rw [if_pos ((nI_ltI (by omega) (by omega)).mpr h), pk_sub (by omega)]
    congr 1
    omega
  · rw [if_neg (fun q => h ((nI_ltI (by omega) (by omega)).mp q)), pk_sub (by omega)]
    congr 1
    omega
theorem frN_sym (a b c d : Nat) : frN a b c d = frN c d a b := by unfold frN; omega
/-- what is read -/
def rdV (G : GD) (c d : Nat) : Int32 := if zK G c d = 1 ∨ (zK G c d = 3 ∧ ¬ zL G c d = d) then -1 else if d < 27 ∧ zK G c (d + 1) = 2 then zC G c (d + 1) else if zK G c d = 2 then -1 else zC G c d
def flV (G : GD) (c d : Nat) (v : Int32) : Int32 := if v = -1 then -1 else nI (v.toNatClampNeg * 10 / (10 - zM G c d))
def plV (G : GD) (c d : Nat) : Int32 := if zK G c d = 3 then -1 else flV G c d (rdV G c d)
def nbV (G : GD) (c e : Nat) : Bool := decide (¬ c = e ∧ frN (zX G c) (zY G c) (zX G e) (zY G e) ≤ zS G 0)
def exS (G : GD) (c d : Nat) : Nat → Nat × Nat
  | 0 => (0, 0)
  | e + 1 => if plV G e d = -1 ∨ nbV G c e = false then exS G c d e else ((exS G c d e).1 + (plV G e d).toNatClampNeg, (exS G c d e).2 + 1)
def exV (G : GD) (k c d : Nat) : Int32 := if (exS G c d k).2 = 0 then -1 else nI ((exS G c d k).1 / (exS G c d k).2)
def sm (E : Nat → Nat) (a : Nat) : Nat → Nat
  | 0 => 0
  | m + 1 => sm E a m + E (a + m)
def shV (t T e : Nat) : Nat := if T = 0 then 0 else t * e / T
def xe (G : GD) (k c i : Nat) : Nat := (exV G k c i).toNatClampNeg
/-- a part of a sum: for a day, of the days from a to b -/
def ptV (t : Nat) (E : Nat → Nat) (a b d : Nat) : Nat := if d < b then shV t (sm E a (b + 1 - a)) (E d) else t - sm (fun i => shV t (sm E a (b + 1 - a)) (E i)) a (b - a)
def vaV (G : GD) (k c d : Nat) : Int32 := if zK G c d = 3 then (if rdV G c (zL G c d) = -1 then -1 else nI (ptV (flV G c (zL G c d) (rdV G c (zL G c d))).toNatClampNeg (xe G k c) (zF G c d) (zL G c d) d)) else plV G c d
/-- numbers as they must be -/
def WG (G : GD) (k : Nat) : Prop := (∀ c d : Nat, c < k → d < 28 → lm_ 999 (zC G c d) ∧ zK G c d ≤ 3 ∧ zM G c d ≤ 9 ∧ (zK G c d = 3 → zF G c d ≤ d ∧ d ≤ zL G c d ∧ zL G c d ≤ 27 ∧ ∀ e : Nat, zF G c d ≤ e → e ≤ zL G c d → zK G c e = 3 ∧ zF G c e = zF G c d ∧ zL G c e = zL G c d)) ∧ (∀ c : Nat, c < k → zX G c ≤ 20 ∧ zY G c ≤ 20) ∧ (1 ≤ zS G 0 ∧ zS G 0 ≤ 40 ∧ zS G 1 ≤ 999 ∧ zS G 2 ≤ 99 ∧ zS G 3 ≤ 9)
theorem rd_lm {G : GD} {k c d : Nat} (h : WG G k) (hc : c < k) (hd : d < 28) : lm_ 999 (rdV G c d) := by
  unfold rdV
  split
  · exact Or.inl rfl
  · split
    · exact (h.1 c (d + 1) hc (by omega)).1
    · split
      · exact Or.inl rfl
      · exact (h.1 c d hc hd).1
theorem fl_1 {G : GD} {c d : Nat} : flV G c d (-1) = -1 := if_pos rfl
theorem fl_n {G : GD} {c d m : Nat} (hm : m < 2 ^ 31) : flV G c d (nI m) = nI (m * 10 / (10 - zM G c d)) := by
  unfold flV
  rw [if_neg (nI_nm1 hm), nI_clamp hm]
theorem fl_b {m t : Nat} (hm : m ≤ 999) (ht : t ≤ 9) : m * 10 / (10 - t) ≤ 9990 := Nat.le_trans (Nat.div_le_self _ _) (by omega)
theorem fl_lm {G : GD} {c d : Nat} {v : Int32} (hm : zM G c d ≤ 9) (hv : lm_ 999 v) : lm_ 9990 (flV G c d v) := by
  rcases hv with rfl | ⟨m, h1, rfl⟩
  · exact Or.inl fl_1
  · rw [fl_n (by omega)]; exact Or.inr ⟨_, fl_b h1 hm, rfl⟩
theorem pl_lm {G : GD} {k c d : Nat} (h : WG G k) (hc : c < k) (hd : d < 28) : lm_ 9990 (plV G c d) := by
  unfold plV
  split
  · exact Or.inl rfl
  · exact fl_lm (h.1 c d hc hd).2.2.1 (rd_lm h hc hd)
theorem pl_1 {G : GD} {c d : Nat} (h : rdV G c d = -1 ∨ zK G c d = 3) : plV G c d = -1 := by
  unfold plV
  split
  · rfl
  · rename_i q
    rw [h.resolve_right q]; exact fl_1
theorem pl_n {G : GD} {c d m : Nat} (hm : m < 2 ^ 31) (h : ¬ zK G c d = 3) (e : rdV G c d = nI m) : plV G c d = nI (m * 10 / (10 - zM G c d)) := by
  unfold plV
  rw [if_neg h, e, fl_n hm]
theorem exS_n {G : GD} {c d e s m : Nat} (h : (s, m) = exS G c d e) (q : plV G e d = -1 ∨ nbV G c e = false) : (s, m) = exS G c d (e + 1) := by
  show (s, m) = (if plV G e d = -1 ∨ nbV G c e = false then exS G c d e else _)
  rw [if_pos q]; exact h
theorem exS_y {G : GD} {c d e s m p : Nat} (h : (s, m) = exS G c d e) (hp : p < 2 ^ 31) (q1 : plV G e d = nI p) (q2 : nbV G c e = true) : (s + p, m + 1) = exS G c d (e + 1) := by
  show (s + p, m + 1) = (if plV G e d = -1 ∨ nbV G c e = false then exS G c d e else ((exS G c d e).1 + (plV G e d).toNatClampNeg, (exS G c d e).2 + 1))
  rw [if_neg (fun w => w.elim (fun w => nI_nm1 hp (q1.symm.trans w)) (fun w => absurd (q2.symm.trans w) (by decide))), ← h, q1, nI_clamp hp]
theorem ex_0 {G : GD} {k c d s m : Nat} (h : (s, m) = exS G c d k) (q : m = 0) : -1 = exV G k c d := by
  unfold exV
  rw [← h, if_pos q]
theorem ex_1 {G : GD} {k c d s m : Nat} (h : (s, m) = exS G c d k) (q : ¬ m = 0) : nI (s / m) = exV G k c d := by
  unfold exV
  rw [← h, if_neg q]
theorem exS_b {G : GD} {k c d : Nat} (h : WG G k) (hd : d < 28) : ∀ e : Nat, e ≤ k → (exS G c d e).1 ≤ 9990 * (exS G c d e).2
  | 0, _ => Nat.le_refl _
  | e + 1, he => by
    have ih := exS_b (c := c) h hd e (by omega)
    show (if plV G e d = -1 ∨ nbV G c e = false then exS G c d e else ((exS G c d e).1 + (plV G e d).toNatClampNeg, (exS G c d e).2 + 1)).1 ≤ 9990 * (if plV G e d = -1 ∨ nbV G c e = false then exS G c d e else ((exS G c d e).1 + (plV G e d).toNatClampNeg, (exS G c d e).2 + 1)).2
    split
    · exact ih
    · rename_i q
      obtain ⟨p, p1, p2⟩ := (pl_lm h (show e < k by omega) hd).resolve_left (fun w => q (Or.inl w))
      rw [p2, nI_clamp (by omega)]
      show _ + p ≤ 9990 * (_ + 1)
      omega
theorem ex_lm {G : GD} {k c d : Nat} (h : WG G k) (hd : d < 28) : lm_ 9990 (exV G k c d) := by
  unfold exV
  split
  · exact Or.inl rfl
  · exact Or.inr ⟨_, Nat.div_le_of_le_mul (by rw [Nat.mul_comm]; exact exS_b h hd k (Nat.le_refl _)), rfl⟩
theorem xe_le {G : GD} {k c d : Nat} (h : WG G k) (hd : d < 28) : xe G k c d ≤ 9990 := by
  unfold xe
  rcases ex_lm (c := c) h hd with q | ⟨m, q1, q2⟩
  · rw [q]; decide
  · rw [q2, nI_clamp (by omega)]; exact q1
/-- the greater of 0 and a number that may be nothing -/
theorem mx0 {b : Nat} {v : Int32} (hb : b < 2 ^ 31) (h : lm_ b v) : (if nI 0 < v then v else nI 0) = nI v.toNatClampNeg := by
  rcases h with rfl | ⟨m, m1, rfl⟩
  · decide
  · rw [nI_clamp (by omega)]
    by_cases q : 0 < m
    · rw [if_pos ((nI_ltI (by decide) (by omega)).mpr q)]
    · rw [if_neg (fun w => q ((nI_ltI (by decide) (by omega)).mp w)), show m = 0 by omega]
theorem cl_le {b : Nat} {v : Int32} (hb : b < 2 ^ 31) (h : lm_ b v) : v.toNatClampNeg ≤ b := by
  rcases h with rfl | ⟨m, m1, rfl⟩
  · exact Nat.zero_le _
  · rw [nI_clamp (by omega)]; exact m1
theorem sm_le {E : Nat → Nat} {a b : Nat} : ∀ m : Nat, (∀ i, a ≤ i → i < a + m → E i ≤ b) → sm E a m ≤ m * b
  | 0, _ => by rw [Nat.zero_mul]; exact Nat.le_refl _
  | m + 1, h => by
    have ih := sm_le (E := E) (a := a) (b := b) m (fun i h1 h2 => h i h1 (by omega))
    have := h (a + m) (by omega) (by omega)
    show sm E a m + E (a + m) ≤ (m + 1) * b
    rw [Nat.succ_mul]
    omega
theorem sm_congr {E H : Nat → Nat} {a : Nat} : ∀ m : Nat, (∀ i, a ≤ i → i < a + m → E i = H i) → sm E a m = sm H a m
  | 0, _ => rfl
  | m + 1, h => by
    show sm E a m + E (a + m) = sm H a m + H (a + m)
    rw [sm_congr m (fun i h1 h2 => h i h1 (by omega)), h (a + m) (by omega) (by omega)]
theorem sm_off {E : Nat → Nat} {a c : Nat} : ∀ m : Nat, sm (fun i => E (c + i)) a m = sm E (c + a) m
  | 0 => rfl
  | m + 1 => by
    show sm (fun i => E (c + i)) a m + E (c + (a + m)) = sm E (c + a) m + E (c + a + m)
    rw [sm_off m, Nat.add_assoc]
/-- shares do not pass the sum -/
theorem sh_sum {E : Nat → Nat} {t T a : Nat} : ∀ m : Nat, T * sm (fun i => shV t T (E i)) a m ≤ t * sm E a m
  | 0 => by show T * 0 ≤ _; omega
  | m + 1 => by
    have ih := sh_sum (E := E) (t := t) (T := T) (a := a) m
    show T * (sm (fun i => shV t T (E i)) a m + shV t T (E (a + m))) ≤ t * (sm E a m + E (a + m))
    rw [Nat.mul_add, Nat.mul_add]
    have : T * shV t T (E (a + m)) ≤ t * E (a + m) := by
      unfold shV
      split
      · omega
      · exact Nat.mul_div_le _ _
    omega
theorem sm_mono {E : Nat → Nat} {a : Nat} : ∀ {m n : Nat}, m ≤ n → sm E a m ≤ sm E a n
  | m, 0, h => by rw [show m = 0 by omega]; exact Nat.le_refl _
  | m, n + 1, h => by
    by_cases q : m = n + 1
    · rw [q]; exact Nat.le_refl _
    · exact Nat.le_trans (sm_mono (show m ≤ n by omega)) (Nat.le_add_right _ _)
theorem sh_le {E : Nat → Nat} {t a m n : Nat} (h : m ≤ n) : sm (fun i => shV t (sm E a n) (E i)) a m ≤ t := by
  by_cases q : sm E a n = 0
  · have : ∀ m : Nat, sm (fun i => shV t (sm E a n) (E i)) a m = 0 := fun m => by
      induction m with
      | zero => rfl
      | succ m ih =>
        show sm (fun i => shV t (sm E a n) (E i)) a m + shV t (sm E a n) (E (a + m)) = 0
        rw [ih]
        unfold shV
        rw [if_pos q]
    rw [this]; exact Nat.zero_le _
  · have h1 := sh_sum (E := E) (t := t) (T := sm E a n) (a := a) m
    have h2 : t * sm E a m ≤ t * sm E a n := Nat.mul_le_mul_left _ (sm_mono h)
    rw [Nat.mul_comm t (sm E a n)] at h2
    exact Nat.le_of_mul_le_mul_left (Nat.le_trans h1 h2) (by omega)
theorem pt_le {E : Nat → Nat} {t a b d : Nat} (h1 : a ≤ d) (h2 : d ≤ b) : ptV t E a b d ≤ t := by
  unfold ptV
  split
  · have := sh_le (E := E) (t := t) (a := a) (m := d - a + 1) (n := b + 1 - a) (by omega)
    have e : sm (fun i => shV t (sm E a (b + 1 - a)) (E i)) a (d - a + 1) = sm (fun i => shV t (sm E a (b + 1 - a)) (E i)) a (d - a) + shV t (sm E a (b + 1 - a)) (E (a + (d - a))) := rfl
    rw [e, show a + (d - a) = d by omega] at this
    omega
  · omega
theorem va_lm {G : GD} {k c d : Nat} (h : WG G k) (hc : c < k) (hd : d < 28) : lm_ 9990 (vaV G k c d) := by
  unfold vaV
  split
  · rename_i q
    obtain ⟨w1, w2, w3, w4⟩ := (h.1 c d hc hd).2.2.2 q
    split
    · exact Or.inl rfl
    · have hf := fl_lm (v := rdV G c (zL G c d)) (h.1 c (zL G c d) hc (by omega)).2.2.1 (rd_lm h hc (by omega))
      exact Or.inr ⟨_, Nat.le_trans (pt_le w1 w2) (cl_le (by decide) hf), rfl⟩
  · exact pl_lm h hc hd
/-- rows by can and day, up to a day -/
def R2 (f : Nat → Int32) (V : Nat → Nat → Int32) (a b : Nat) : Prop := ∀ c d : Nat, d < 28 → (c < a ∨ (c = a ∧ d < b)) → f (c * 28 + d) = V c d
theorem R2_0 {f : Nat → Int32} {V : Nat → Nat → Int32} : R2 f V 0 0 := fun c d hd h => absurd h (by omega)
theorem R2_s {f : Nat → Int32} {V : Nat → Nat → Int32} {a b : Nat} {v : Int32} (h : R2 f V a b) (hv : v = V a b) : R2 (upd f (a * 28 + b) v) V a (b + 1) := fun c d hd q => by
  subst hv
  by_cases e : c = a ∧ d = b
  · rw [e.1, e.2, pk_us]
  · rw [pk_un (fun w => e (by omega))]; exact h c d hd (by omega)
theorem R2_r {f : Nat → Int32} {V : Nat → Nat → Int32} {a b : Nat} (hb : 28 ≤ b) (h : R2 f V a b) : R2 f V (a + 1) 0 := fun c d hd q => h c d hd (by omega)
theorem R2_all {f : Nat → Int32} {V : Nat → Nat → Int32} {a k : Nat} (h : R2 f V a 0) (hk : k ≤ a) {c d : Nat} (hc : c < k) (hd : d < 28) : f (c * 28 + d) = V c d := h c d hd (by omega)
def R3 (f : Nat → Int32) (V : Nat → Nat → Int32) (a b : Nat) : Prop := ∀ c d : Nat, d < 28 → (c < a ∨ (c = a ∧ d < b)) → f (28 * c + d) = V c d
theorem R3_0 {f : Nat → Int32} {V : Nat → Nat → Int32} : R3 f V 0 0 := fun c d hd h => absurd h (by omega)
theorem R3_s {f : Nat → Int32} {V : Nat → Nat → Int32} {a b : Nat} {v : Int32} (h : R3 f V a b) (hv : v = V a b) : R3 (upd f (28 * a + b) v) V a (b + 1) := fun c d hd q => by
  subst hv
  by_cases e : c = a ∧ d = b
  · rw [e.1, e.2, pk_us]
  · rw [pk_un (fun w => e (by omega))]; exact h c d hd (by omega)
theorem R3_r {f : Nat → Int32} {V : Nat → Nat → Int32} {a b : Nat} (hb : 28 ≤ b) (h : R3 f V a b) : R3 f V (a + 1) 0 := fun c d hd q => h c d hd (by omega)
/-- a row behind its part -/
def ptF (f : Nat → Int32) (t : Nat) (E : Nat → Nat) (a b : Nat) : Nat → Int32 := fun j => if a ≤ j ∧ j ≤ b then nI (ptV t E a b j) else f j
theorem ptF_in {f : Nat → Int32} {t a b j : Nat} {E : Nat → Nat} (h1 : a ≤ j) (h2 : j ≤ b) : ptF f t E a b j = nI (ptV t E a b j) := if_pos ⟨h1, h2⟩
theorem ptF_out {f : Nat → Int32} {t a b j : Nat} {E : Nat → Nat} (h : ¬ (a ≤ j ∧ j ≤ b)) : ptF f t E a b j = f j := if_neg h
