def mdL : List Nat := [0, 10, 20, 30, 40, 50, 111, 112, 113, 114, 115, 116, 122, 123, 124, 125, 126, 133, 134, 135, 136, 144, 145, 146, 155, 156, 166, 201, 202, 212, 213, 223, 224, 234, 235, 245, 246, 256]
def mdC (a : Nat) : Nat := mdL.getD a 0
theorem mdC_wf : ∀ a : Fin 38, wf 257 a.val = nI (mdC a.val) := by decide +kernel
theorem mdC_P : ∀ a : Fin 38, (mdC a.val / 100 = 0 ∧ mdC a.val / 10 % 10 ≤ 5 ∧ mdC a.val % 10 = 0) ∨ (mdC a.val / 100 = 1 ∧ 1 ≤ mdC a.val / 10 % 10 ∧ mdC a.val / 10 % 10 ≤ mdC a.val % 10 ∧ mdC a.val % 10 ≤ 6) ∨ (mdC a.val / 100 = 2 ∧ mdC a.val / 10 % 10 < mdC a.val % 10 ∧ mdC a.val % 10 ≤ 6) := by decide +kernel
theorem mdC_lt : ∀ a : Fin 38, mdC a.val < 257 := by decide +kernel
def mis (E r : Nat → Nat) : Nat := sm (fun x => (r x - E x) + (E x - r x)) 0 7
def md0 (r : Nat → Nat) (i x : Nat) : Nat := if x = i + 1 then r i else if x = i then r (i + 1) else r x
def md1 (r : Nat → Nat) (i j x : Nat) : Nat := if x = j then 0 else if i - 1 ≤ x ∧ x < i - 1 + (j - i + 1) then r (i + (x - (i - 1))) else r x
def md2 (E r : Nat → Nat) (i j x : Nat) : Nat := if i ≤ x ∧ x ≤ j then ptV (r j) E i j x else r x
/-- a row behind a mending; none: it can't be -/
noncomputable def mdV (E r : Nat → Nat) (c : Nat) : Option (Nat → Nat) := if c / 100 = 0 then some (md0 r (c / 10 % 10)) else if c / 100 = 1 then some (md1 r (c / 10 % 10) (c % 10)) else @ite _ (∃ x : Nat, c / 10 % 10 ≤ x ∧ x < c % 10 ∧ ¬ r x = 0) (Classical.propDecidable _) none (some (md2 E r (c / 10 % 10) (c % 10)))
theorem mdV_0 {E r : Nat → Nat} {c : Nat} (h : c / 100 = 0) : mdV E r c = some (md0 r (c / 10 % 10)) := if_pos h
theorem mdV_1 {E r : Nat → Nat} {c : Nat} (h : c / 100 = 1) : mdV E r c = some (md1 r (c / 10 % 10) (c % 10)) := by unfold mdV; rw [if_neg (by omega), if_pos h]
theorem mdV_2 {E r : Nat → Nat} {c : Nat} (h : c / 100 = 2) (hz : ∀ x, c / 10 % 10 ≤ x → x < c % 10 → r x = 0) : mdV E r c = some (md2 E r (c / 10 % 10) (c % 10)) := by unfold mdV; rw [if_neg (by omega), if_neg (by omega), if_neg (fun w => by obtain ⟨x, x1, x2, x3⟩ := w; exact x3 (hz x x1 x2))]
theorem mdV_n {E r : Nat → Nat} {c x : Nat} (h : c / 100 = 2) (h1 : c / 10 % 10 ≤ x) (h2 : x < c % 10) (h3 : ¬ r x = 0) : mdV E r c = none := by unfold mdV; rw [if_neg (by omega), if_neg (by omega), if_pos ⟨x, h1, h2, h3⟩]
/-- a row of seven -/
def R7 (f : Nat → Int32) (o : Nat) (r : Nat → Nat) : Prop := ∀ x : Nat, x < 7 → f (o + x) = nI (r x) ∧ r x ≤ 9990
def B7 (r : Nat → Nat) : Prop := ∀ x : Nat, x < 7 → r x ≤ 9990
theorem md0_b {r : Nat → Nat} {i : Nat} (hi : i ≤ 5) (h : B7 r) : B7 (md0 r i) := fun x hx => by
  unfold md0
  split
  · exact h _ (by omega)
  · split
    · exact h _ (by omega)
    · exact h x hx
theorem md1_b {r : Nat → Nat} {i j : Nat} (hi : 1 ≤ i) (hij : i ≤ j) (hj : j ≤ 6) (h : B7 r) : B7 (md1 r i j) := fun x hx => by
  unfold md1
  split
  · omega
  · split
    · exact h _ (by omega)
    · exact h x hx
theorem md2_b {E r : Nat → Nat} {i j : Nat} (hj : j ≤ 6) (h : B7 r) : B7 (md2 E r i j) := fun x hx => by
  unfold md2
  split
  · rename_i q
    exact Nat.le_trans (pt_le q.1 q.2) (h j (by omega))
  · exact h x hx
theorem mdV_b {E r q : Nat → Nat} {a : Nat} (ha : a < 38) (h : B7 r) (e : mdV E r (mdC a) = some q) : B7 q := by
  rcases mdC_P ⟨a, ha⟩ with ⟨p1, p2, p3⟩ | ⟨p1, p2, p3, p4⟩ | ⟨p1, p2, p3⟩
  · rw [mdV_0 p1] at e; cases e; exact md0_b p2 h
  · rw [mdV_1 p1] at e; cases e; exact md1_b p2 p3 p4 h
  · by_cases w : ∃ x : Nat, mdC a / 10 % 10 ≤ x ∧ x < mdC a % 10 ∧ ¬ r x = 0
    · obtain ⟨x, x1, x2, x3⟩ := w
      rw [mdV_n p1 x1 x2 x3] at e; cases e
    · rw [mdV_2 p1 (fun x x1 x2 => Classical.byContradiction (fun z => w ⟨x, x1, x2, z⟩))] at e; cases e; exact md2_b p3 h
/-- what is best so far: its cost, how many, which -/
abbrev BW := Nat × Nat × Option Nat × Option Nat
def bwk (p : BW) (c n : Nat) (a b : Option Nat) : BW := if c < p.1 then (c, n, a, b) else p
noncomputable def bw1 (E r : Nat → Nat) (pr : Nat) : Nat → BW
  | 0 => (mis E r, 0, none, none)
  | a + 1 => match mdV E r (mdC a) with
    | none => bw1 E r pr a
    | some q => bwk (bw1 E r pr a) (mis E q + pr) 1 (some a) none
noncomputable def bwi (E q : Nat → Nat) (pr a : Nat) (p : BW) : Nat → BW
  | 0 => p
  | b + 1 => match mdV E q (mdC b) with
    | none => bwi E q pr a p b
    | some z => bwk (bwi E q pr a p b) (mis E z + 2 * pr) 2 (some a) (some b)
noncomputable def bw2 (E r : Nat → Nat) (pr : Nat) (p : BW) : Nat → BW
  | 0 => p
  | a + 1 => match mdV E r (mdC a) with
    | none => bw2 E r pr p a
    | some q => bwi E q pr a (bw2 E r pr p a) 38
noncomputable def wkV (E r : Nat → Nat) (pr : Nat) : BW := bw2 E r pr (bw1 E r pr 38) 38
theorem bw1_n {E r : Nat → Nat} {pr a : Nat} (h : mdV E r (mdC a) = none) : bw1 E r pr (a + 1) = bw1 E r pr a := by
  show (match mdV E r (mdC a) with | none => bw1 E r pr a | some q => bwk (bw1 E r pr a) (mis E q + pr) 1 (some a) none) = _
  rw [h]
theorem bw1_y {E r q : Nat → Nat} {pr a : Nat} (h : mdV E r (mdC a) = some q) : bw1 E r pr (a + 1) = bwk (bw1 E r pr a) (mis E q + pr) 1 (some a) none := by
  show (match mdV E r (mdC a) with | none => bw1 E r pr a | some q => bwk (bw1 E r pr a) (mis E q + pr) 1 (some a) none) = _
  rw [h]
theorem bwi_n {E q : Nat → Nat} {pr a b : Nat} {p : BW} (h : mdV E q (mdC b) = none) : bwi E q pr a p (b + 1) = bwi E q pr a p b := by
  show (match mdV E q (mdC b) with | none => bwi E q pr a p b | some z => bwk (bwi E q pr a p b) (mis E z + 2 * pr) 2 (some a) (some b)) = _
  rw [h]
theorem bwi_y {E q z : Nat → Nat} {pr a b : Nat} {p : BW} (h : mdV E q (mdC b) = some z) : bwi E q pr a p (b + 1) = bwk (bwi E q pr a p b) (mis E z + 2 * pr) 2 (some a) (some b) := by
  show (match mdV E q (mdC b) with | none => bwi E q pr a p b | some z => bwk (bwi E q pr a p b) (mis E z + 2 * pr) 2 (some a) (some b)) = _
  rw [h]
theorem bw2_n {E r : Nat → Nat} {pr a : Nat} {p : BW} (h : mdV E r (mdC a) = none) : bw2 E r pr p (a + 1) = bw2 E r pr p a := by
  show (match mdV E r (mdC a) with | none => bw2 E r pr p a | some q => bwi E q pr a (bw2 E r pr p a) 38) = _
  rw [h]
theorem bw2_y {E r q : Nat → Nat} {pr a : Nat} {p : BW} (h : mdV E r (mdC a) = some q) : bw2 E r pr p (a + 1) = bwi E q pr a (bw2 E r pr p a) 38 := by
  show (match mdV E r (mdC a) with | none => bw2 E r pr p a | some q => bwi E q pr a (bw2 E r pr p a) 38) = _
  rw [h]
theorem mis_s {E r : Nat → Nat} {s i : Nat} (h : s = sm (fun x => (r x - E x) + (E x - r x)) 0 i) : s + ((r i - E i) + (E i - r i)) = sm (fun x => (r x - E x) + (E x - r x)) 0 (i + 1) := by
  show _ = sm _ 0 i + ((r (0 + i) - E (0 + i)) + (E (0 + i) - r (0 + i)))
  rw [← h, Nat.zero_add]
theorem mis_b {E r : Nat → Nat} (hE : B7 E) (hr : B7 r) : mis E r ≤ 69930 := by
  have := sm_le (E := fun x => (r x - E x) + (E x - r x)) (a := 0) (b := 9990) 7 (fun i h1 h2 => by
    have a := hE i (by omega)
    have b := hr i (by omega)
    show (r i - E i) + (E i - r i) ≤ 9990
    omega)
  unfold mis
  omega
theorem ab_g {a c : Nat} (ha : a ≤ 9990) (hc : c ≤ 9990) : (if 0 ≤ nI a - nI c then nI a - nI c else 0 - (nI a - nI c)) = nI ((a - c) + (c - a)) := by
  rcases Nat.lt_or_ge a c with h | h
  · rw [if_neg (Int32.not_le.mpr (pk_sneg (by omega) h)), show (0 : Int32) - (nI a - nI c) = nI c - nI a from by rw [Int32.zero_sub, Int32.neg_sub], pk_sub (by omega)]
    congr 1
    omega
  · rw [pk_sub h, if_pos (nI_pos' (by omega))]
    congr 1
    omega
theorem off_g {a c : Nat} (ha : a ≤ 9990) (hc : c ≤ 9990) : (if nI a < nI c then nI c - nI a else nI a - nI c) = nI ((a - c) + (c - a)) := by
  by_cases h : a < c
  · rw [if_pos ((nI_ltI (by omega) (by omega)).mpr h), pk_sub (by omega)]
    congr 1
    omega
  · rw [if_neg (fun q => h ((nI_ltI (by omega) (by omega)).mp q)), pk_sub (by omega)]
    congr 1
    omega
theorem cpy7 {f g : Nat → Int32} {r : Nat → Nat} (h : R7 f 0 r) {x : Nat} (hx : x < 7) : va_cpy f g 0 0 7 x = nI (r x) := by
  rw [pk_cpy_in (Nat.zero_le _) (by omega), Nat.sub_zero]; exact (h x hx).1
theorem r7_0 {f g : Nat → Int32} {r : Nat → Nat} {i : Nat} (h : R7 f 0 r) (hi : i ≤ 5) : R7 (upd (upd (va_cpy f g 0 0 7) i (nI (r (i + 1)))) (i + 1) (nI (r i))) 0 (md0 r i) := fun x hx => by
  refine ⟨?_, md0_b hi (fun x hx => (h x hx).2) x hx⟩
  rw [Nat.zero_add]
  unfold md0
  by_cases q : x = i + 1
  · rw [q, pk_us, if_pos rfl]
  · rw [pk_un q, if_neg q]
    by_cases w : x = i
    · rw [w, pk_us, if_pos rfl]
    · rw [pk_un w, if_neg w]; exact cpy7 h hx
theorem r7_1 {f g : Nat → Int32} {r : Nat → Nat} {i j : Nat} (h : R7 f 0 r) (hi : 1 ≤ i) (hij : i ≤ j) (hj : j ≤ 6) : R7 (upd (va_cpy f (va_cpy f g 0 0 7) i (i - 1) (j - i + 1)) j (nI 0)) 0 (md1 r i j) := fun x hx => by
  refine ⟨?_, md1_b hi hij hj (fun x hx => (h x hx).2) x hx⟩
  rw [Nat.zero_add]
  unfold md1
  by_cases q : x = j
  · rw [q, pk_us, if_pos rfl]
  · rw [pk_un q, if_neg q]
    by_cases w : i - 1 ≤ x ∧ x < i - 1 + (j - i + 1)
    · rw [pk_cpy_in w.1 w.2, if_pos w]
      have e := (h (i + (x - (i - 1))) (by omega)).1
      rw [Nat.zero_add] at e
      exact e
    · rw [pk_cpy_out (by omega), if_neg w]; exact cpy7 h hx
theorem r7_2 {f g p : Nat → Int32} {E r : Nat → Nat} {F : Nat → Nat} {i j : Nat} (h : R7 f 0 r) (hij : i < j) (hj : j ≤ 6) (hF : ∀ x, x < 7 → F x = E x) (e : p = ptF (va_cpy f g 0 0 7) (r j) F i j) : R7 p 0 (md2 E r i j) := fun x hx => by
  refine ⟨?_, md2_b hj (fun x hx => (h x hx).2) x hx⟩
  rw [Nat.zero_add, e]
  unfold md2
  by_cases q : i ≤ x ∧ x ≤ j
  · rw [ptF_in q.1 q.2, if_pos q]
    have := ptV_off (C := 0) (t := r j) (E := F) (H := E) (a := i) (b := j) (d := x) (fun y y1 y2 => by rw [Nat.zero_add]; exact hF y (by omega)) q.1 q.2
    rw [Nat.zero_add, Nat.zero_add, Nat.zero_add] at this
    rw [this]
  · rw [ptF_out q, if_neg q]; exact cpy7 h hx
