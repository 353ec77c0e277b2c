def itF (lt : Int32) (s : Bool) (b : Nat) : Nat := if s = true ∧ lt = nI 115 then b - 1 else b
def itL (s : Bool) (b e : Nat) : Nat := if s = true then b else e
def itO (N : Nat → Int32) (lt : Int32) (s : Bool) (b e : Nat) : Prop := itL s b e ≤ 27 ∧ (s = false → b < e) ∧ (lt = nI 108 → 1 ≤ b) ∧ (s = true → lt = nI 115 → 1 ≤ b) ∧ okR N (itF lt s b) (itL s b e)
def itS (lt : Int32) (s : Bool) (b e : Nat) (z : RT) : RT := (fillR z.1 (itF lt s b) (itL s b e + 1 - itF lt s b) (nI (knd lt)), fillR z.2.1 (itF lt s b) (itL s b e + 1 - itF lt s b) (nI (itF lt s b)), fillR z.2.2.1 (itF lt s b) (itL s b e + 1 - itF lt s b) (nI (itL s b e)), z.2.2.2 + 1)
noncomputable def lyI (lt : Int32) (s : Bool) (b e : Nat) (z : RT) : Option RT := @ite _ (itO z.1 lt s b e) (Classical.propDecidable _) (some (itS lt s b e z)) none
theorem lyI_y {lt : Int32} {s : Bool} {b e : Nat} {z : RT} (h : itO z.1 lt s b e) : lyI lt s b e z = some (itS lt s b e z) := if_pos h
theorem lyI_n {lt : Int32} {s : Bool} {b e : Nat} {z : RT} (h : ¬ itO z.1 lt s b e) : lyI lt s b e z = none := if_neg h
theorem itO_e {N : Nat → Int32} {lt : Int32} {b e e' : Nat} (h : itO N lt true b e) : itO N lt true b e' := ⟨h.1, fun q => absurd q (by decide), h.2.2.1, h.2.2.2.1, h.2.2.2.2⟩
theorem lyI_e {lt : Int32} {b e e' : Nat} {z : RT} : lyI lt true b e z = lyI lt true b e' z := by
  by_cases h : itO z.1 lt true b e
  · rw [lyI_y h, lyI_y (itO_e (e' := e') h)]; rfl
  · rw [lyI_n h, lyI_n (fun q => h (itO_e q))]
def dg (c : Int32) : Nat := c.toNatClampNeg - 48
noncomputable def rdI (f : Nat → Int32) : Nat → Nat → Nat → Int32 → Nat → Nat → RT → Option RT
  | 0, _, a, lt, b, e, z => lyI lt (decide (a < 4)) b e z
  | m + 1, i, a, lt, b, e, z =>
    if nx a (f i) = 0 then (lyI lt (decide (a < 4)) b e z).bind (fun w => rdI f m (i + 1) 0 (nI 0) 0 0 w)
    else if nx a (f i) = 1 then rdI f m (i + 1) 1 (f i) 0 0 z
    else if nx a (f i) = 4 then rdI f m (i + 1) 4 lt b 0 z
    else if nx a (f i) ≤ 3 then rdI f m (i + 1) (nx a (f i)) lt (10 * b + dg (f i)) e z
    else rdI f m (i + 1) (nx a (f i)) lt b (10 * e + dg (f i)) z
theorem nx_59 {a : Nat} (h : a ≤ 6) (h7 : ¬ nx a (nI 59) = 7) : (a = 2 ∨ a = 3 ∨ a = 5 ∨ a = 6) ∧ nx a (nI 59) = 0 := by
  rcases (show a = 0 ∨ a = 1 ∨ a = 2 ∨ a = 3 ∨ a = 4 ∨ a = 5 ∨ a = 6 by omega) with rfl | rfl | rfl | rfl | rfl | rfl | rfl <;> revert h7 <;> decide
theorem nx_45 {a : Nat} (h : a ≤ 6) (h7 : ¬ nx a (nI 45) = 7) : (a = 2 ∨ a = 3) ∧ nx a (nI 45) = 4 := by
  rcases (show a = 0 ∨ a = 1 ∨ a = 2 ∨ a = 3 ∨ a = 4 ∨ a = 5 ∨ a = 6 by omega) with rfl | rfl | rfl | rfl | rfl | rfl | rfl <;> revert h7 <;> decide
theorem nx_dig {a : Nat} {c : Int32} (h : a ≤ 6) (hc : wB c (nI 48) (nI 57) = true) (h7 : ¬ nx a c = 7) : (a = 1 ∨ a = 2 ∨ a = 4 ∨ a = 5) ∧ nx a c = a + 1 := by
  have e1 := (dgn hc).1
  have e2 := (dgn hc).2
  have l : ¬ (c = nI 120 ∨ c = nI 108 ∨ c = nI 115) := by
    obtain ⟨m, m1, m2, rfl⟩ := wB_nat (by decide) (by decide) hc
    rintro (q | q | q) <;> (have := (nI_eq (by omega) (by decide)).mp q; omega)
  have n0 : nx 0 c = 7 := by unfold nx; rw [if_pos rfl, if_neg l]
  have n1 : nx 1 c = 2 := by unfold nx; rw [if_neg (by decide), if_pos rfl, if_pos hc]
  have n2 : nx 2 c = 3 := by unfold nx; rw [if_neg (by decide), if_neg (by decide), if_pos rfl, if_pos hc]
  have n3 : nx 3 c = 7 := by unfold nx bhd; rw [if_neg (by decide), if_neg (by decide), if_neg (by decide), if_pos rfl, if_neg e1, if_neg e2]
  have n4 : nx 4 c = 5 := by unfold nx; rw [if_neg (by decide), if_neg (by decide), if_neg (by decide), if_neg (by decide), if_pos rfl, if_pos hc]
  have n5 : nx 5 c = 6 := by unfold nx; rw [if_neg (by decide), if_neg (by decide), if_neg (by decide), if_neg (by decide), if_neg (by decide), if_pos rfl, if_pos hc]
  have n6 : nx 6 c = 7 := by unfold nx bhd; rw [if_neg (by decide), if_neg (by decide), if_neg (by decide), if_neg (by decide), if_neg (by decide), if_neg (by decide), if_neg e2]
  rcases (show a = 0 ∨ a = 1 ∨ a = 2 ∨ a = 3 ∨ a = 4 ∨ a = 5 ∨ a = 6 by omega) with rfl | rfl | rfl | rfl | rfl | rfl | rfl
  · exact absurd n0 h7
  · exact ⟨by omega, n1⟩
  · exact ⟨by omega, n2⟩
  · exact absurd n3 h7
  · exact ⟨by omega, n4⟩
  · exact ⟨by omega, n5⟩
  · exact absurd n6 h7
theorem nx_oth {a : Nat} {c : Int32} (h : a ≤ 6) (h1 : ¬ c = nI 59) (h2 : ¬ c = nI 45) (h3 : wB c (nI 48) (nI 57) = false) (h7 : ¬ nx a c = 7) : a = 0 ∧ nx a c = 1 ∧ (c = nI 120 ∨ c = nI 108 ∨ c = nI 115) := by
  rcases (show a = 0 ∨ a = 1 ∨ a = 2 ∨ a = 3 ∨ a = 4 ∨ a = 5 ∨ a = 6 by omega) with rfl | rfl | rfl | rfl | rfl | rfl | rfl
  · by_cases q : c = nI 120 ∨ c = nI 108 ∨ c = nI 115
    · exact ⟨rfl, by unfold nx; rw [if_pos rfl, if_pos q], q⟩
    · exact absurd (by unfold nx; rw [if_pos rfl, if_neg q]) h7
  all_goals (exfalso; apply h7; simp [nx, bhd, h1, h2, h3])
theorem nx_cls {a : Nat} {c : Int32} (h : a ≤ 6) (h7 : ¬ nx a c = 7) : (c = nI 59 ∧ (a = 2 ∨ a = 3 ∨ a = 5 ∨ a = 6) ∧ nx a c = 0) ∨ (c = nI 45 ∧ (a = 2 ∨ a = 3) ∧ nx a c = 4) ∨ (wB c (nI 48) (nI 57) = true ∧ (a = 1 ∨ a = 2 ∨ a = 4 ∨ a = 5) ∧ nx a c = a + 1) ∨ (a = 0 ∧ nx a c = 1 ∧ (c = nI 120 ∨ c = nI 108 ∨ c = nI 115)) := by
  by_cases h1 : c = nI 59
  · subst h1; exact Or.inl ⟨rfl, nx_59 h h7⟩
  · by_cases h2 : c = nI 45
    · subst h2; exact Or.inr (Or.inl ⟨rfl, nx_45 h h7⟩)
    · cases h3 : wB c (nI 48) (nI 57) with
      | true => exact Or.inr (Or.inr (Or.inl ⟨rfl, nx_dig h h3 h7⟩))
      | false => exact Or.inr (Or.inr (Or.inr (nx_oth h h1 h2 h3 h7)))
theorem dg_v {c : Int32} (hc : wB c (nI 48) (nI 57) = true) : ∃ m : Nat, m ≤ 9 ∧ dg c = m ∧ c = nI (48 + m) := by
  obtain ⟨m, m1, m2, rfl⟩ := wB_nat (by decide) (by decide) hc
  refine ⟨m - 48, by omega, ?_, by rw [show 48 + (m - 48) = m by omega]⟩
  unfold dg
  rw [nI_clamp (by omega)]
theorem dg_a {c : Int32} {b : Nat} (hc : wB c (nI 48) (nI 57) = true) : nI b * nI 10 + c - nI 48 = nI (10 * b + dg c) := by
  obtain ⟨m, m1, m2, m3⟩ := dg_v hc
  rw [m2, m3, pk_mul, nI_add, pk_sub (by omega)]
  congr 1
  omega
theorem dg_b {c : Int32} {b : Nat} (hc : wB c (nI 48) (nI 57) = true) : nI 10 * nI b + (c - nI 48) = nI (10 * b + dg c) := by
  obtain ⟨m, m1, m2, m3⟩ := dg_v hc
  rw [m2, m3, pk_sub (by omega), pk_mul, nI_add]
  congr 1
  omega
theorem dg_c {c : Int32} (hc : wB c (nI 48) (nI 57) = true) : c - nI 48 = nI (10 * 0 + dg c) := by
  obtain ⟨m, m1, m2, m3⟩ := dg_v hc
  rw [m2, m3, pk_sub (by omega)]
  congr 1
  omega
theorem dg_le {c : Int32} (hc : wB c (nI 48) (nI 57) = true) : dg c ≤ 9 := by
  obtain ⟨m, m1, m2, -⟩ := dg_v hc
  omega
def DB (a b e : Nat) : Prop := b ≤ 99 ∧ e ≤ 99 ∧ (a = 1 → b = 0) ∧ (a = 2 → b ≤ 9) ∧ (a = 4 → e = 0) ∧ (a = 5 → e ≤ 9)
def EN (a e : Nat) (y : Int32) : Prop := (1 ≤ a → a ≤ 3 → y = -1) ∧ (4 ≤ a → y = nI e)
def EM (a e : Nat) (y : Int32) : Prop := (1 ≤ a → a ≤ 4 → y = -6) ∧ (5 ≤ a → y = nI e)
def LT (lt : Int32) : Prop := lt = nI 120 ∨ lt = nI 108 ∨ lt = nI 115
theorem nf_7 {f : Nat → Int32} {p i a : Nat} (h : ftR f (p - i) i a = -1) (hi : i < p) (hp : p ≤ 40) : ¬ nx a (f i) = 7 := fun q => nI_nm1 (show i < 2 ^ 31 by omega) (ftR_7 h.symm hi q).symm
theorem nf_s {f : Nat → Int32} {p i a : Nat} (h : ftR f (p - i) i a = -1) (hi : i < p) (hp : p ≤ 40) : ftR f (p - (i + 1)) (i + 1) (nx a (f i)) = -1 := (ftR_s h.symm hi (nf_7 h hi hp)).symm
theorem nf_e {f : Nat → Int32} {p a : Nat} (h : ftR f (p - p) p a = -1) (ha : a ≤ 6) (hp : p ≤ 40) : a = 2 ∨ a = 3 ∨ a = 5 ∨ a = 6 := by
  have : ¬ (a = 0 ∨ a = 1 ∨ a = 4) := fun q => nI_nm1 (show p < 2 ^ 31 by omega) (ftR_e h.symm rfl q).symm
  omega
noncomputable def rS (f : Nat → Int32) (m i a : Nat) (lt : Int32) (b e : Nat) (z : RT) : Option RT :=
    if nx a (f i) = 0 then (lyI lt (decide (a < 4)) b e z).bind (fun w => rdI f m (i + 1) 0 (nI 0) 0 0 w)
    else if nx a (f i) = 1 then rdI f m (i + 1) 1 (f i) 0 0 z
    else if nx a (f i) = 4 then rdI f m (i + 1) 4 lt b 0 z
    else if nx a (f i) ≤ 3 then rdI f m (i + 1) (nx a (f i)) lt (10 * b + dg (f i)) e z
    else rdI f m (i + 1) (nx a (f i)) lt b (10 * e + dg (f i)) z
theorem rdI_u {f : Nat → Int32} {p i a b e : Nat} {lt : Int32} {z : RT} (hi : i < p) : rdI f (p - i) i a lt b e z = rS f (p - (i + 1)) i a lt b e z := by
  rw [show p - i = (p - (i + 1)) + 1 by omega]; rfl
theorem rdI_0 {f : Nat → Int32} {p i a b e : Nat} {lt : Int32} {z : RT} (hi : i < p) (h : nx a (f i) = 0) : rdI f (p - i) i a lt b e z = (lyI lt (decide (a < 4)) b e z).bind (fun w => rdI f (p - (i + 1)) (i + 1) 0 (nI 0) 0 0 w) := by
  rw [rdI_u hi]; unfold rS; rw [if_pos h]
theorem rdI_1 {f : Nat → Int32} {p i a b e : Nat} {lt : Int32} {z : RT} (hi : i < p) (h : nx a (f i) = 1) : rdI f (p - i) i a lt b e z = rdI f (p - (i + 1)) (i + 1) 1 (f i) 0 0 z := by
  rw [rdI_u hi]; unfold rS; rw [if_neg (by omega), if_pos h]
theorem rdI_4 {f : Nat → Int32} {p i a b e : Nat} {lt : Int32} {z : RT} (hi : i < p) (h : nx a (f i) = 4) : rdI f (p - i) i a lt b e z = rdI f (p - (i + 1)) (i + 1) 4 lt b 0 z := by
  rw [rdI_u hi]; unfold rS; rw [if_neg (by omega), if_neg (by omega), if_pos h]
theorem rdI_b {f : Nat → Int32} {p i a b e : Nat} {lt : Int32} {z : RT} (hi : i < p) (h : nx a (f i) = 2 ∨ nx a (f i) = 3) : rdI f (p - i) i a lt b e z = rdI f (p - (i + 1)) (i + 1) (nx a (f i)) lt (10 * b + dg (f i)) e z := by
  rw [rdI_u hi]; unfold rS; rw [if_neg (by omega), if_neg (by omega), if_neg (by omega), if_pos (by omega)]
theorem rdI_e {f : Nat → Int32} {p i a b e : Nat} {lt : Int32} {z : RT} (hi : i < p) (h : nx a (f i) = 5 ∨ nx a (f i) = 6) : rdI f (p - i) i a lt b e z = rdI f (p - (i + 1)) (i + 1) (nx a (f i)) lt b (10 * e + dg (f i)) z := by
  rw [rdI_u hi]; unfold rS; rw [if_neg (by omega), if_neg (by omega), if_neg (by omega), if_neg (by omega)]
/-- what the class's reader holds at a sign -/
def IX (f : Nat → Int32) (p i : Nat) (T : Option RT) (lt yd ye : Int32) (z : RT) : Prop :=
  ∃ (a b e : Nat) (l : Int32), a ≤ 6 ∧ (1 ≤ a → yd = nI b ∧ lt = l ∧ LT l) ∧ EN a e ye ∧ DB a b e ∧ ftR f (p - i) i a = -1 ∧ T = rdI f (p - i) i a l b e z
theorem IX_0 {f : Nat → Int32} {p : Nat} {z : RT} {lt yd ye : Int32} (h : ftR f p 0 0 = -1) : IX f p 0 (rdI f p 0 0 (nI 0) 0 0 z) lt yd ye z :=
  ⟨0, 0, 0, nI 0, by omega, fun q => absurd q (by omega), ⟨fun q => absurd q (by omega), fun q => absurd q (by omega)⟩, ⟨by omega, by omega, by omega, by omega, by omega, by omega⟩, h, rfl⟩
theorem IX_d1 {f : Nat → Int32} {p i : Nat} {T : Option RT} {lt yd ye : Int32} {z : RT} (h : IX f p i T lt yd ye z) (hi : i < p) (hp : p ≤ 40) (hc : wB (f i) (nI 48) (nI 57) = true) (hy : ye = -1) : IX f p (i + 1) T lt (yd * nI 10 + f i - nI 48) ye z := by
  obtain ⟨a, b, e, l, ha, hy1, ⟨n1, n2⟩, ⟨d1, d2, d3, d4, d5, d6⟩, hf, rfl⟩ := h
  obtain ⟨c1, c2⟩ := nx_dig ha hc (nf_7 hf hi hp)
  have ha4 : a < 4 := by
    rcases Nat.lt_or_ge a 4 with q | q
    · exact q
    · exact absurd ((n2 q).symm.trans hy) (nI_nm1 (by omega))
  have := dg_le hc
  obtain ⟨rfl, hl1, hl2⟩ := hy1 (by omega)
  exact ⟨nx a (f i), 10 * b + dg (f i), e, l, by omega, fun _ => ⟨dg_a hc, hl1, hl2⟩, ⟨fun _ _ => hy, fun q => absurd q (by omega)⟩, ⟨by omega, d2, by omega, by omega, by omega, by omega⟩, nf_s hf hi hp, rdI_b hi (by omega)⟩
theorem IX_d2 {f : Nat → Int32} {p i : Nat} {T : Option RT} {lt yd ye : Int32} {z : RT} (h : IX f p i T lt yd ye z) (hi : i < p) (hp : p ≤ 40) (hc : wB (f i) (nI 48) (nI 57) = true) (hy : ¬ ye = -1) : IX f p (i + 1) T lt yd (ye * nI 10 + f i - nI 48) z := by
  obtain ⟨a, b, e, l, ha, hy1, ⟨n1, n2⟩, ⟨d1, d2, d3, d4, d5, d6⟩, hf, rfl⟩ := h
  obtain ⟨c1, c2⟩ := nx_dig ha hc (nf_7 hf hi hp)
  have ha4 : 4 ≤ a := by
    rcases Nat.lt_or_ge a 4 with q | q
    · exact absurd (n1 (by omega) (by omega)) hy
    · exact q
  have := dg_le hc
  have hy2 := hy1 (by omega)
  exact ⟨nx a (f i), b, 10 * e + dg (f i), l, by omega, fun _ => hy2, ⟨fun _ q => absurd q (by omega), fun q => by rw [n2 ha4]; exact dg_a hc⟩, ⟨d1, by omega, by omega, by omega, by omega, by omega⟩, nf_s hf hi hp, rdI_e hi (by omega)⟩
theorem IX_m {f : Nat → Int32} {p i : Nat} {T : Option RT} {lt yd ye : Int32} {z : RT} (h : IX f p i T lt yd ye z) (hi : i < p) (hp : p ≤ 40) (hc : f i = nI 45) : IX f p (i + 1) T lt yd (nI 0) z := by
  obtain ⟨a, b, e, l, ha, hy1, ⟨n1, n2⟩, ⟨d1, d2, d3, d4, d5, d6⟩, hf, rfl⟩ := h
  have h7 := nf_7 hf hi hp
  have hs := nf_s hf hi hp
  have hr := rdI_4 (b := b) (e := e) (lt := l) (z := z) hi (show nx a (f i) = 4 by rw [hc] at h7 ⊢; exact (nx_45 ha h7).2)
  rw [hc] at h7 hs
  obtain ⟨c1, c2⟩ := nx_45 ha h7
  rw [c2] at hs
  have hy2 := hy1 (by omega)
  exact ⟨4, b, 0, l, by omega, fun _ => hy2, ⟨fun _ q => absurd q (by omega), fun _ => rfl⟩, ⟨d1, by omega, by omega, by omega, by omega, by omega⟩, hs, hr⟩
theorem IX_l {f : Nat → Int32} {p i : Nat} {T : Option RT} {lt yd ye : Int32} {z : RT} (h : IX f p i T lt yd ye z) (hi : i < p) (hp : p ≤ 40) (h1 : ¬ f i = nI 59) (h2 : ¬ f i = nI 45) (h3 : wB (f i) (nI 48) (nI 57) = false) : IX f p (i + 1) T (f i) (nI 0) (-1) z := by
  obtain ⟨a, b, e, l, ha, hy1, ⟨n1, n2⟩, ⟨d1, d2, d3, d4, d5, d6⟩, hf, rfl⟩ := h
  obtain ⟨c1, c2, c3⟩ := nx_oth ha h1 h2 h3 (nf_7 hf hi hp)
  have hs := nf_s hf hi hp
  rw [c2] at hs
  exact ⟨1, 0, 0, f i, by omega, fun _ => ⟨rfl, rfl, c3⟩, ⟨fun _ _ => rfl, fun q => absurd q (by omega)⟩, ⟨by omega, by omega, by omega, by omega, by omega, by omega⟩, hs, rdI_1 hi c2⟩
def sPn (s : Bool) (ye : Int32) (e : Nat) : Prop := (s = true ∧ ye = -1) ∨ (s = false ∧ e ≤ 99 ∧ ye = nI e)
/-- an item is whole: its numbers -/
theorem IX_q {f : Nat → Int32} {p i : Nat} {T : Option RT} {lt yd ye : Int32} {z : RT} (h : IX f p i T lt yd ye z) (hp : p ≤ 40) (hi : (i < p ∧ f i = nI 59) ∨ i = p) : ∃ b : Nat, b ≤ 99 ∧ yd = nI b ∧ (ye = -1 ∨ ∃ e : Nat, e ≤ 99 ∧ ye = nI e) ∧ LT lt := by
  obtain ⟨a, b, e, l, ha, hy1, ⟨n1, n2⟩, ⟨d1, d2, d3, d4, d5, d6⟩, hf, rfl⟩ := h
  have c : a = 2 ∨ a = 3 ∨ a = 5 ∨ a = 6 := by
    rcases hi with ⟨hi, hc⟩ | hi
    · have h7 := nf_7 hf hi hp
      rw [hc] at h7
      exact (nx_59 ha h7).1
    · subst hi; exact nf_e hf ha hp
  obtain ⟨hl0, hl1, hl2⟩ := hy1 (by omega)
  refine ⟨b, d1, hl0, ?_, by rw [hl1]; exact hl2⟩
  rcases Nat.lt_or_ge a 4 with q | q
  · exact Or.inl (n1 (by omega) (by omega))
  · exact Or.inr ⟨e, d2, n2 q⟩
theorem lyI_g {a b b' e e' : Nat} {s : Bool} {lt ye : Int32} {z : RT} (hb : b' = b) (n2 : 4 ≤ a → ye = nI e') (he : e' ≤ 99) (n1 : a ≤ 3 → ye = -1) (hs : sPn s ye e) : lyI lt (decide (a < 4)) b' e' z = lyI lt s b e z := by
  subst hb
  rcases hs with ⟨rfl, q⟩ | ⟨rfl, q1, q2⟩
  · have a4 : a < 4 := by
      rcases Nat.lt_or_ge a 4 with w | w
      · exact w
      · exact absurd ((n2 w).symm.trans q) (nI_nm1 (by omega))
    rw [show decide (a < 4) = true from decide_eq_true a4]
    exact lyI_e
  · have a4 : 4 ≤ a := by
      rcases Nat.lt_or_ge a 4 with w | w
      · exact absurd (q2.symm.trans (n1 (by omega))) (nI_nm1 (by omega))
      · exact w
    rw [show decide (a < 4) = false from decide_eq_false (by omega), (nI_eq (by omega) (by omega)).mp ((n2 a4).symm.trans q2)]
theorem IX_i {f : Nat → Int32} {p i b e : Nat} {s : Bool} {T : Option RT} {lt yd ye : Int32} {z : RT} (h : IX f p i T lt yd ye z) (hp : p ≤ 40) (hi : i < p) (hc : f i = nI 59) (hb : b ≤ 99) (hy : yd = nI b) (hs : sPn s ye e) : T = (lyI lt s b e z).bind (fun w => rdI f (p - (i + 1)) (i + 1) 0 (nI 0) 0 0 w) ∧ ftR f (p - (i + 1)) (i + 1) 0 = -1 := by
  obtain ⟨a, b', e', l, ha, hy1, ⟨n1, n2⟩, ⟨d1, d2, d3, d4, d5, d6⟩, hf, rfl⟩ := h
  have h7 := nf_7 hf hi hp
  have hS := nf_s hf hi hp
  rw [hc] at h7 hS
  obtain ⟨c1, c2⟩ := nx_59 ha h7
  rw [c2] at hS
  obtain ⟨hl0, rfl, hl2⟩ := hy1 (by omega)
  refine ⟨?_, hS⟩
  rw [rdI_0 hi (by rw [hc]; exact c2), lyI_g ((nI_eq (by omega) (by omega)).mp (hl0.symm.trans hy)) n2 d2 (fun q => n1 (by omega) q) hs]
theorem IX_ok {f : Nat → Int32} {p i b e : Nat} {s : Bool} {T : Option RT} {lt yd ye : Int32} {z : RT} {lt2 yd2 ye2 : Int32} {w2 : RT} (h : IX f p i T lt yd ye z) (hp : p ≤ 40) (hi : i < p) (hc : f i = nI 59) (hb : b ≤ 99) (hy : yd = nI b) (hs : sPn s ye e) (hO : itO z.1 lt s b e) (hz : itS lt s b e z = w2) : IX f p (i + 1) T lt2 yd2 ye2 w2 := by
  subst hz
  obtain ⟨h1, h2⟩ := IX_i h hp hi hc hb hy hs
  rw [lyI_y hO] at h1
  exact ⟨0, 0, 0, nI 0, by omega, fun q => absurd q (by omega), ⟨fun q => absurd q (by omega), fun q => absurd q (by omega)⟩, ⟨by omega, by omega, by omega, by omega, by omega, by omega⟩, h2, h1⟩
theorem IX_no {f : Nat → Int32} {p i b e : Nat} {s : Bool} {T : Option RT} {lt yd ye : Int32} {z : RT} (h : IX f p i T lt yd ye z) (hp : p ≤ 40) (hi : i < p) (hc : f i = nI 59) (hb : b ≤ 99) (hy : yd = nI b) (hs : sPn s ye e) (hO : ¬ itO z.1 lt s b e) : T = none := by
  obtain ⟨h1, h2⟩ := IX_i h hp hi hc hb hy hs
  rw [lyI_n hO] at h1
  exact h1
theorem IX_e {f : Nat → Int32} {p i b e : Nat} {s : Bool} {T : Option RT} {lt yd ye : Int32} {z : RT} (h : IX f p i T lt yd ye z) (hp : p ≤ 40) (hi : i = p) (hb : b ≤ 99) (hy : yd = nI b) (hs : sPn s ye e) : T = lyI lt s b e z := by
  obtain ⟨a, b', e', l, ha, hy1, ⟨n1, n2⟩, ⟨d1, d2, d3, d4, d5, d6⟩, hf, rfl⟩ := h
  subst hi
  have c1 := nf_e hf ha hp
  obtain ⟨hl0, rfl, hl2⟩ := hy1 (by omega)
  rw [Nat.sub_self]
  exact lyI_g ((nI_eq (by omega) (by omega)).mp (hl0.symm.trans hy)) n2 d2 (fun q => n1 (by omega) q) hs
/-- what the reference's reader holds at a sign -/
noncomputable def rdP (f : Nat → Int32) (p i a : Nat) (l : Int32) (b e : Nat) (z : RT) : Option RT := if i ≤ p then rdI f (p - i) i a l b e z else some z
def IM (f : Nat → Int32) (p i a : Nat) (T : Option RT) (lt fr ti : Int32) (z : RT) (g : Nat) : Prop :=
  ∃ (b e : Nat) (l : Int32), a ≤ 6 ∧ (1 ≤ a → fr = nI b ∧ lt = l ∧ LT l) ∧ EM a e ti ∧ DB a b e ∧ (i ≤ p → ftR f (p - i) i a = -1) ∧ (g = 1 → T = rdP f p i a l b e z) ∧ (g = 0 → T = none)
theorem IM_0 {f : Nat → Int32} {p : Nat} {z : RT} {lt fr ti : Int32} (h : ftR f p 0 0 = -1) : IM f p 0 0 (rdI f p 0 0 (nI 0) 0 0 z) lt fr ti z 1 :=
  ⟨0, 0, nI 0, by omega, fun q => absurd q (by omega), ⟨fun q => absurd q (by omega), fun q => absurd q (by omega)⟩, ⟨by omega, by omega, by omega, by omega, by omega, by omega⟩, fun _ => h, fun _ => by unfold rdP; rw [if_pos (Nat.zero_le p)]; rfl, fun q => absurd q (by decide)⟩
theorem IM_7 {f : Nat → Int32} {p i a g : Nat} {T : Option RT} {lt fr ti : Int32} {z : RT} (h : IM f p i a T lt fr ti z g) (hi : i < p) (hp : p ≤ 40) : ¬ nx a (f i) = 7 := by
  obtain ⟨b, e, l, ha, hy1, -, -, hf, -, -⟩ := h
  exact nf_7 (hf (by omega)) hi hp
theorem IM_p {f : Nat → Int32} {p i a g : Nat} {T : Option RT} {lt fr ti : Int32} {z : RT} (h : IM f p i a T lt fr ti z g) (hi : i = p) (hp : p ≤ 40) : nx a (nI 59) = 0 := by
  obtain ⟨b, e, l, ha, hy1, -, -, hf, -, -⟩ := h
  subst hi
  have c := nf_e (hf (Nat.le_refl _)) ha hp
  rcases c with rfl | rfl | rfl | rfl <;> decide
theorem IM_1 {f : Nat → Int32} {p i a g : Nat} {T : Option RT} {lt fr ti : Int32} {z : RT} (h : IM f p i a T lt fr ti z g) (hi : i < p) (hp : p ≤ 40) (h1 : nx a (f i) = 1) : IM f p (i + 1) (nx a (f i)) T (f i) (nI 0) (-6) z g := by
  obtain ⟨b, e, l, ha, hy1, ⟨n1, n2⟩, ⟨d1, d2, d3, d4, d5, d6⟩, hf, t1, t0⟩ := h
  have hF := hf (by omega)
  have hs := nf_s hF hi hp
  have h7 := nf_7 hF hi hp
  have hc : a = 0 ∧ LT (f i) := by
    clear d3 d4 d5 d6
    rcases nx_cls ha h7 with ⟨q1, q2, q3⟩ | ⟨q1, q2, q3⟩ | ⟨q1, q2, q3⟩ | ⟨q1, q2, q3⟩ <;> first | exact ⟨q1, q3⟩ | (exfalso; omega)
  have hr := rdI_1 (b := b) (e := e) (lt := l) (z := z) hi h1
  rw [h1] at hs ⊢
  exact ⟨0, 0, f i, by omega, fun _ => ⟨rfl, rfl, hc.2⟩, ⟨fun _ _ => rfl, fun q => absurd q (by omega)⟩, ⟨by omega, by omega, by omega, by omega, by omega, by omega⟩, fun _ => hs, fun q => by rw [t1 q]; unfold rdP; rw [if_pos (by omega), if_pos (by omega)]; exact hr, t0⟩
theorem IM_23 {f : Nat → Int32} {p i a g : Nat} {T : Option RT} {lt fr ti : Int32} {z : RT} (h : IM f p i a T lt fr ti z g) (hi : i < p) (hp : p ≤ 40) (h1 : nx a (f i) = 2 ∨ nx a (f i) = 3) : IM f p (i + 1) (nx a (f i)) T lt (nI 10 * fr + (f i - nI 48)) ti z g := by
  obtain ⟨b, e, l, ha, hy1, ⟨n1, n2⟩, ⟨d1, d2, d3, d4, d5, d6⟩, hf, t1, t0⟩ := h
  have hF := hf (by omega)
  have hs := nf_s hF hi hp
  have h7 := nf_7 hF hi hp
  have hc : wB (f i) (nI 48) (nI 57) = true ∧ ((a = 1 ∧ nx a (f i) = 2) ∨ (a = 2 ∧ nx a (f i) = 3)) := by
    clear d3 d4 d5 d6
    rcases nx_cls ha h7 with ⟨q1, q2, q3⟩ | ⟨q1, q2, q3⟩ | ⟨q1, q2, q3⟩ | ⟨q1, q2, q3⟩ <;> first | (exfalso; omega) | exact ⟨q1, by omega⟩
  obtain ⟨rfl, hl1, hl2⟩ := hy1 (by clear d3 d4 d5 d6; omega)
  have := dg_le hc.1
  have hn := n1 (by clear d3 d4 d5 d6; omega) (by clear d3 d4 d5 d6; omega)
  exact ⟨10 * b + dg (f i), e, l, by omega, fun _ => ⟨dg_b hc.1, hl1, hl2⟩, ⟨fun _ _ => hn, fun q => absurd q (by omega)⟩, ⟨by omega, by omega, by omega, by omega, by omega, by omega⟩, fun _ => hs, fun q => by rw [t1 q]; unfold rdP; rw [if_pos (by omega), if_pos (by omega)]; exact rdI_b hi h1, t0⟩
theorem IM_4 {f : Nat → Int32} {p i a g : Nat} {T : Option RT} {lt fr ti : Int32} {z : RT} (h : IM f p i a T lt fr ti z g) (hi : i < p) (hp : p ≤ 40) (h0 : ¬ nx a (f i) = 0) (h1 : ¬ nx a (f i) = 1) (h2 : ¬ nx a (f i) = 2) (h3 : ¬ nx a (f i) = 3) (h5 : ¬ nx a (f i) = 5) (h6 : ¬ nx a (f i) = 6) : IM f p (i + 1) (nx a (f i)) T lt fr ti z g := by
  obtain ⟨b, e, l, ha, hy1, ⟨n1, n2⟩, ⟨d1, d2, d3, d4, d5, d6⟩, hf, t1, t0⟩ := h
  have hF := hf (by omega)
  have hs := nf_s hF hi hp
  have h7 := nf_7 hF hi hp
  have hc : nx a (f i) = 4 ∧ (a = 2 ∨ a = 3) := by
    clear d3 d4 d5 d6
    rcases nx_cls ha h7 with ⟨q1, q2, q3⟩ | ⟨q1, q2, q3⟩ | ⟨q1, q2, q3⟩ | ⟨q1, q2, q3⟩ <;> first | (exfalso; omega) | exact ⟨q3, q2⟩
  have hy2 := hy1 (by clear d3 d4 d5 d6; omega)
  have hn := n1 (by clear d3 d4 d5 d6; omega) (by clear d3 d4 d5 d6; omega)
  have hr := rdI_4 (b := b) (e := e) (lt := l) (z := z) hi hc.1
  rw [hc.1] at hs ⊢
  exact ⟨b, 0, l, by omega, fun _ => hy2, ⟨fun _ _ => hn, fun q => absurd q (by omega)⟩, ⟨by omega, by omega, by omega, by omega, by omega, by omega⟩, fun _ => hs, fun q => by rw [t1 q]; unfold rdP; rw [if_pos (by omega), if_pos (by omega)]; exact hr, t0⟩
theorem IM_5 {f : Nat → Int32} {p i a g : Nat} {T : Option RT} {lt fr ti : Int32} {z : RT} (h : IM f p i a T lt fr ti z g) (hi : i < p) (hp : p ≤ 40) (h1 : nx a (f i) = 5) : IM f p (i + 1) (nx a (f i)) T lt fr (f i - nI 48) z g := by
  obtain ⟨b, e, l, ha, hy1, ⟨n1, n2⟩, ⟨d1, d2, d3, d4, d5, d6⟩, hf, t1, t0⟩ := h
  have hF := hf (by omega)
  have hs := nf_s hF hi hp
  have h7 := nf_7 hF hi hp
  have hc : wB (f i) (nI 48) (nI 57) = true ∧ a = 4 := by
    clear d3 d4 d5 d6
    rcases nx_cls ha h7 with ⟨q1, q2, q3⟩ | ⟨q1, q2, q3⟩ | ⟨q1, q2, q3⟩ | ⟨q1, q2, q3⟩ <;> first | (exfalso; omega) | exact ⟨q1, by omega⟩
  have hy2 := hy1 (by clear d3 d4 d5 d6; omega)
  have e0 : e = 0 := d5 hc.2
  subst e0
  have := dg_le hc.1
  exact ⟨b, 10 * 0 + dg (f i), l, by omega, fun _ => hy2, ⟨fun _ q => absurd q (by omega), fun _ => dg_c hc.1⟩, ⟨by omega, by omega, by omega, by omega, by omega, by omega⟩, fun _ => hs, fun q => by rw [t1 q]; unfold rdP; rw [if_pos (by omega), if_pos (by omega)]; exact rdI_e hi (by omega), t0⟩
theorem IM_6 {f : Nat → Int32} {p i a g : Nat} {T : Option RT} {lt fr ti : Int32} {z : RT} (h : IM f p i a T lt fr ti z g) (hi : i < p) (hp : p ≤ 40) (h1 : nx a (f i) = 6) : IM f p (i + 1) (nx a (f i)) T lt fr (nI 10 * ti + (f i - nI 48)) z g := by
  obtain ⟨b, e, l, ha, hy1, ⟨n1, n2⟩, ⟨d1, d2, d3, d4, d5, d6⟩, hf, t1, t0⟩ := h
  have hF := hf (by omega)
  have hs := nf_s hF hi hp
  have h7 := nf_7 hF hi hp
  have hc : wB (f i) (nI 48) (nI 57) = true ∧ a = 5 := by
    clear d3 d4 d5 d6
    rcases nx_cls ha h7 with ⟨q1, q2, q3⟩ | ⟨q1, q2, q3⟩ | ⟨q1, q2, q3⟩ | ⟨q1, q2, q3⟩ <;> first | (exfalso; omega) | exact ⟨q1, by omega⟩
  have hy2 := hy1 (by clear d3 d4 d5 d6; omega)
  have hn := n2 (by clear d3 d4 d5 d6; omega)
  have := dg_le hc.1
  have := d6 hc.2
  exact ⟨b, 10 * e + dg (f i), l, by omega, fun _ => hy2, ⟨fun _ q => absurd q (by omega), fun _ => by rw [hn]; exact dg_b hc.1⟩, ⟨by omega, by omega, by omega, by omega, by omega, by omega⟩, fun _ => hs, fun q => by rw [t1 q]; unfold rdP; rw [if_pos (by omega), if_pos (by omega)]; exact rdI_e hi (by omega), t0⟩
theorem IM_a {f : Nat → Int32} {p i a g : Nat} {T : Option RT} {lt fr ti : Int32} {z : RT} (h : IM f p i a T lt fr ti z g) (hp : p ≤ 40) (hi : (i < p ∧ nx a (f i) = 0) ∨ i = p) : a = 2 ∨ a = 3 ∨ a = 5 ∨ a = 6 := by
  obtain ⟨b, e, l, ha, hy1, ⟨n1, n2⟩, ⟨d1, d2, d3, d4, d5, d6⟩, hf, t1, t0⟩ := h
  clear d3 d4 d5 d6
  rcases hi with ⟨hi, h0⟩ | hi
  · rcases nx_cls ha (nf_7 (hf (by omega)) hi hp) with ⟨q1, q2, q3⟩ | ⟨q1, q2, q3⟩ | ⟨q1, q2, q3⟩ | ⟨q1, q2, q3⟩ <;> first | exact q2 | (exfalso; omega)
  · subst hi; exact nf_e (hf (Nat.le_refl _)) ha hp
theorem IM_q {f : Nat → Int32} {p i a g : Nat} {T : Option RT} {lt fr ti : Int32} {z : RT} (h : IM f p i a T lt fr ti z g) (hp : p ≤ 40) (hi : (i < p ∧ nx a (f i) = 0) ∨ i = p) : ∃ b : Nat, b ≤ 99 ∧ fr = nI b ∧ (ti = -6 ∨ ∃ e : Nat, e ≤ 99 ∧ ti = nI e) ∧ LT lt := by
  have c := IM_a h hp hi
  obtain ⟨b, e, l, ha, hy1, ⟨n1, n2⟩, ⟨d1, d2, d3, d4, d5, d6⟩, hf, t1, t0⟩ := h
  clear d3 d4 d5 d6
  obtain ⟨hl0, hl1, hl2⟩ := hy1 (by omega)
  refine ⟨b, d1, hl0, ?_, by rw [hl1]; exact hl2⟩
  rcases Nat.lt_or_ge a 5 with q | q
  · exact Or.inl (n1 (by omega) (by omega))
  · exact Or.inr ⟨e, d2, n2 q⟩
def sPm (s : Bool) (ti : Int32) (e : Nat) : Prop := (s = true ∧ ti = -6) ∨ (s = false ∧ e ≤ 99 ∧ ti = nI e)
theorem nI_nm6 {n : Nat} (h : n < 2 ^ 31) : ¬ nI n = -6 := fun q => by
  have e := congrArg Int32.toInt q
  rw [nI_toInt h] at e
  have z : (-6 : Int32).toInt = -6 := by decide
  omega
theorem IM_i {f : Nat → Int32} {p i a g b e : Nat} {s : Bool} {T : Option RT} {lt fr ti : Int32} {z : RT} (h : IM f p i a T lt fr ti z g) (hp : p ≤ 40) (hi : (i < p ∧ nx a (f i) = 0) ∨ i = p) (hb : b ≤ 99) (hy : fr = nI b) (hs : sPm s ti e) : (g = 1 → T = (lyI lt s b e z).bind (fun w => rdP f p (i + 1) 0 (nI 0) 0 0 w)) ∧ (g = 0 → T = none) ∧ (i + 1 ≤ p → ftR f (p - (i + 1)) (i + 1) 0 = -1) := by
  have c := IM_a h hp hi
  obtain ⟨b', e', l, ha, hy1, ⟨n1, n2⟩, ⟨d1, d2, d3, d4, d5, d6⟩, hf, t1, t0⟩ := h
  clear d3 d4 d5 d6
  obtain ⟨hl0, rfl, hl2⟩ := hy1 (by omega)
  have eb : b' = b := (nI_eq (by omega) (by omega)).mp (hl0.symm.trans hy)
  have key : lyI lt (decide (a < 4)) b' e' z = lyI lt s b e z := by
    subst eb
    rcases hs with ⟨rfl, q⟩ | ⟨rfl, q1, q2⟩
    · have a4 : a < 4 := by
        rcases Nat.lt_or_ge a 5 with w | w
        · omega
        · exact absurd ((n2 w).symm.trans q) (nI_nm6 (by omega))
      rw [show decide (a < 4) = true from decide_eq_true a4]
      exact lyI_e
    · have a4 : 5 ≤ a := by
        rcases Nat.lt_or_ge a 5 with w | w
        · exact absurd (q2.symm.trans (n1 (by omega) (by omega))) (nI_nm6 (by omega))
        · exact w
      rw [show decide (a < 4) = false from decide_eq_false (by omega), (nI_eq (by omega) (by omega)).mp ((n2 a4).symm.trans q2)]
  rcases hi with ⟨hi, h0⟩ | hi
  · have hs := nf_s (hf (by omega)) hi hp
    rw [h0] at hs
    refine ⟨fun q => ?_, t0, fun _ => hs⟩
    rw [t1 q]; unfold rdP; rw [if_pos (by omega), rdI_0 hi h0, key]
    congr 1
    funext w
    rw [if_pos (by omega)]
  · subst hi
    refine ⟨fun q => ?_, t0, fun w => absurd w (by omega)⟩
    rw [t1 q]; unfold rdP; rw [if_pos (Nat.le_refl _), Nat.sub_self]
    show lyI lt (decide (a < 4)) b' e' z = _
    rw [key]
    cases lyI lt s b e z with
    | none => rfl
    | some w => show some w = (if i + 1 ≤ i then _ else some w); rw [if_neg (by omega)]
theorem IM_ok {lt2 fr2 ti2 : Int32} {w2 : RT} {f : Nat → Int32} {p i a g b e : Nat} {s : Bool} {T : Option RT} {lt fr ti : Int32} {z : RT} (h : IM f p i a T lt fr ti z g) (hp : p ≤ 40) (hi : (i < p ∧ nx a (f i) = 0) ∨ i = p) (hg : g = 1) (hb : b ≤ 99) (hy : fr = nI b) (hs : sPm s ti e) (hO : itO z.1 lt s b e) (hz : itS lt s b e z = w2) : IM f p (i + 1) 0 T lt2 fr2 ti2 w2 1 := by
  subst hz
  obtain ⟨h1, h2, h3⟩ := IM_i h hp hi hb hy hs
  have h1 := h1 hg
  rw [lyI_y hO] at h1
  exact ⟨0, 0, nI 0, by omega, fun q => absurd q (by omega), ⟨fun q => absurd q (by omega), fun q => absurd q (by omega)⟩, ⟨by omega, by omega, by omega, by omega, by omega, by omega⟩, h3, fun _ => h1, fun q => absurd q (by decide)⟩
theorem IM_no {lt2 fr2 ti2 : Int32} {w2 : RT} {f : Nat → Int32} {p i a g b e : Nat} {s : Bool} {T : Option RT} {lt fr ti : Int32} {z : RT} (h : IM f p i a T lt fr ti z g) (hp : p ≤ 40) (hi : (i < p ∧ nx a (f i) = 0) ∨ i = p) (hg : g = 1) (hb : b ≤ 99) (hy : fr = nI b) (hs : sPm s ti e) (hO : ¬ itO z.1 lt s b e) : IM f p (i + 1) 0 T lt2 fr2 ti2 w2 0 := by
  obtain ⟨h1, h2, h3⟩ := IM_i h hp hi hb hy hs
  have h1 := h1 hg
  rw [lyI_n hO] at h1
  exact ⟨0, 0, nI 0, by omega, fun q => absurd q (by omega), ⟨fun q => absurd q (by omega), fun q => absurd q (by omega)⟩, ⟨by omega, by omega, by omega, by omega, by omega, by omega⟩, h3, fun q => absurd q (by decide), fun _ => h1⟩
theorem IM_z {lt2 fr2 ti2 : Int32} {w2 : RT} {f : Nat → Int32} {p i a g : Nat} {T : Option RT} {lt fr ti : Int32} {z : RT} (h : IM f p i a T lt fr ti z g) (hp : p ≤ 40) (hi : (i < p ∧ nx a (f i) = 0) ∨ i = p) (hg : g = 0) : IM f p (i + 1) 0 T lt2 fr2 ti2 w2 0 := by
  obtain ⟨b, b1, b2, b3, b4⟩ := IM_q h hp hi
  have q : ∃ (s : Bool) (e : Nat), sPm s ti e := by
    rcases b3 with w | ⟨e, w1, w2⟩
    · exact ⟨true, 0, Or.inl ⟨rfl, w⟩⟩
    · exact ⟨false, e, Or.inr ⟨rfl, w1, w2⟩⟩
  obtain ⟨s, e, q⟩ := q
  obtain ⟨h1, h2, h3⟩ := IM_i h hp hi b1 b2 q
  exact ⟨0, 0, nI 0, by omega, fun q => absurd q (by omega), ⟨fun q => absurd q (by omega), fun q => absurd q (by omega)⟩, ⟨by omega, by omega, by omega, by omega, by omega, by omega⟩, h3, fun q => absurd q (by decide), fun _ => h2 hg⟩
theorem IM_e {f : Nat → Int32} {p i a g : Nat} {T : Option RT} {lt fr ti : Int32} {z : RT} (h : IM f p i a T lt fr ti z g) (hi : p < i) : (g = 1 → T = some z) ∧ (g = 0 → T = none) := by
  obtain ⟨b, e, l, -, -, -, -, -, t1, t0⟩ := h
  exact ⟨fun q => by rw [t1 q]; unfold rdP; rw [if_neg (by omega)], t0⟩
theorem iF120_1 {b : Nat} : itF (nI 120) true b = b := if_neg (by decide)
theorem iO120_1 {N : Nat → Int32} {b e : Nat} : itO N (nI 120) true b e ↔ ((b ≤ 27) ∧ okR N (b) (b)) := by
  unfold itO
  rw [iF120_1, show itL true b e = b from rfl]
  constructor
  · rintro ⟨h1, h2, h3, h4, h5⟩
    exact ⟨by omega, h5⟩
  · rintro ⟨h1, h5⟩
    exact ⟨by omega, fun q => absurd q (by decide), fun q => absurd q (by decide), fun _ q => absurd q (by decide), h5⟩
theorem iS120_1 {b e : Nat} {z : RT} {n f l : Nat → Int32} {q : Nat} (hn : n = fillR z.1 (b) (b + 1 - (b)) (nI 1)) (hf : f = fillR z.2.1 (b) (b + 1 - (b)) (nI (b))) (hl : l = fillR z.2.2.1 (b) (b + 1 - (b)) (nI (b))) (hq : q = z.2.2.2 + 1) : itS (nI 120) true b e z = (n, f, l, q) := by
  subst hn hf hl hq
  unfold itS
  rw [iF120_1, show itL true b e = b from rfl, show knd (nI 120) = 1 by decide]
theorem iF108_1 {b : Nat} : itF (nI 108) true b = b := if_neg (by decide)
theorem iO108_1 {N : Nat → Int32} {b e : Nat} : itO N (nI 108) true b e ↔ ((1 ≤ b ∧ b ≤ 27) ∧ okR N (b) (b)) := by
  unfold itO
  rw [iF108_1, show itL true b e = b from rfl]
  constructor
  · rintro ⟨h1, h2, h3, h4, h5⟩
    have h3 := h3 rfl
    exact ⟨by omega, h5⟩
  · rintro ⟨h1, h5⟩
    exact ⟨by omega, fun q => absurd q (by decide), fun _ => by omega, fun _ q => absurd q (by decide), h5⟩
theorem iS108_1 {b e : Nat} {z : RT} {n f l : Nat → Int32} {q : Nat} (hn : n = fillR z.1 (b) (b + 1 - (b)) (nI 2)) (hf : f = fillR z.2.1 (b) (b + 1 - (b)) (nI (b))) (hl : l = fillR z.2.2.1 (b) (b + 1 - (b)) (nI (b))) (hq : q = z.2.2.2 + 1) : itS (nI 108) true b e z = (n, f, l, q) := by
  subst hn hf hl hq
  unfold itS
  rw [iF108_1, show itL true b e = b from rfl, show knd (nI 108) = 2 by decide]
theorem iF115_1 {b : Nat} : itF (nI 115) true b = b - 1 := if_pos ⟨rfl, rfl⟩
theorem iO115_1 {N : Nat → Int32} {b e : Nat} (hb1 : 1 ≤ b) : itO N (nI 115) true b e ↔ ((b ≤ 27) ∧ okR N (b - 1) (b)) := by
  unfold itO
  rw [iF115_1, show itL true b e = b from rfl]
  constructor
  · rintro ⟨h1, h2, h3, h4, h5⟩
    exact ⟨by omega, h5⟩
  · rintro ⟨h1, h5⟩
    exact ⟨by omega, fun q => absurd q (by decide), fun q => absurd q (by decide), fun _ _ => hb1, h5⟩
theorem iS115_1 {b e : Nat} {z : RT} {n f l : Nat → Int32} {q : Nat} (hn : n = fillR z.1 (b - 1) (b + 1 - (b - 1)) (nI 3)) (hf : f = fillR z.2.1 (b - 1) (b + 1 - (b - 1)) (nI (b - 1))) (hl : l = fillR z.2.2.1 (b - 1) (b + 1 - (b - 1)) (nI (b))) (hq : q = z.2.2.2 + 1) : itS (nI 115) true b e z = (n, f, l, q) := by
  subst hn hf hl hq
  unfold itS
  rw [iF115_1, show itL true b e = b from rfl, show knd (nI 115) = 3 by decide]
theorem iF120_2 {b : Nat} : itF (nI 120) false b = b := if_neg (by decide)
theorem iO120_2 {N : Nat → Int32} {b c : Nat} : itO N (nI 120) false b c ↔ ((b < c ∧ c ≤ 27) ∧ okR N (b) (c)) := by
  unfold itO
  rw [iF120_2, show itL false b c = c from rfl]
  constructor
  · rintro ⟨h1, h2, h3, h4, h5⟩
    have h2 := h2 rfl
    exact ⟨by omega, h5⟩
  · rintro ⟨h1, h5⟩
    exact ⟨by omega, fun _ => by omega, fun q => absurd q (by decide), fun q => absurd q (by decide), h5⟩
theorem iS120_2 {b c : Nat} {z : RT} {n f l : Nat → Int32} {q : Nat} (hn : n = fillR z.1 (b) (c + 1 - (b)) (nI 1)) (hf : f = fillR z.2.1 (b) (c + 1 - (b)) (nI (b))) (hl : l = fillR z.2.2.1 (b) (c + 1 - (b)) (nI (c))) (hq : q = z.2.2.2 + 1) : itS (nI 120) false b c z = (n, f, l, q) := by
  subst hn hf hl hq
  unfold itS
  rw [iF120_2, show itL false b c = c from rfl, show knd (nI 120) = 1 by decide]
theorem iF108_2 {b : Nat} : itF (nI 108) false b = b := if_neg (by decide)
theorem iO108_2 {N : Nat → Int32} {b c : Nat} : itO N (nI 108) false b c ↔ ((1 ≤ b ∧ b < c ∧ c ≤ 27) ∧ okR N (b) (c)) := by
  unfold itO
  rw [iF108_2, show itL false b c = c from rfl]
  constructor
  · rintro ⟨h1, h2, h3, h4, h5⟩
    have h2 := h2 rfl
    have h3 := h3 rfl
    exact ⟨by omega, h5⟩
  · rintro ⟨h1, h5⟩
    exact ⟨by omega, fun _ => by omega, fun _ => by omega, fun q => absurd q (by decide), h5⟩
theorem iS108_2 {b c : Nat} {z : RT} {n f l : Nat → Int32} {q : Nat} (hn : n = fillR z.1 (b) (c + 1 - (b)) (nI 2)) (hf : f = fillR z.2.1 (b) (c + 1 - (b)) (nI (b))) (hl : l = fillR z.2.2.1 (b) (c + 1 - (b)) (nI (c))) (hq : q = z.2.2.2 + 1) : itS (nI 108) false b c z = (n, f, l, q) := by
  subst hn hf hl hq
  unfold itS
  rw [iF108_2, show itL false b c = c from rfl, show knd (nI 108) = 2 by decide]
theorem iF115_2 {b : Nat} : itF (nI 115) false b = b := if_neg (by decide)
theorem iO115_2 {N : Nat → Int32} {b c : Nat} : itO N (nI 115) false b c ↔ ((b < c ∧ c ≤ 27) ∧ okR N (b) (c)) := by
  unfold itO
  rw [iF115_2, show itL false b c = c from rfl]
  constructor
  · rintro ⟨h1, h2, h3, h4, h5⟩
    have h2 := h2 rfl
    exact ⟨by omega, h5⟩
  · rintro ⟨h1, h5⟩
    exact ⟨by omega, fun _ => by omega, fun q => absurd q (by decide), fun q => absurd q (by decide), h5⟩
theorem iS115_2 {b c : Nat} {z : RT} {n f l : Nat → Int32} {q : Nat} (hn : n = fillR z.1 (b) (c + 1 - (b)) (nI 3)) (hf : f = fillR z.2.1 (b) (c + 1 - (b)) (nI (b))) (hl : l = fillR z.2.2.1 (b) (c + 1 - (b)) (nI (c))) (hq : q = z.2.2.2 + 1) : itS (nI 115) false b c z = (n, f, l, q) := by
  subst hn hf hl hq
  unfold itS
  rw [iF115_2, show itL false b c = c from rfl, show knd (nI 115) = 3 by decide]
theorem iO0 {N : Nat → Int32} {e : Nat} : ¬ itO N (nI 115) true 0 e := fun h => absurd (h.2.2.2.1 rfl rfl) (by omega)
theorem itO_r {N M : Nat → Int32} {lt : Int32} {s : Bool} {b e : Nat} (h : ∀ d : Nat, d < 28 → N d = M d) (o : itO N lt s b e) : itO M lt s b e :=
  ⟨o.1, o.2.1, o.2.2.1, o.2.2.2.1, fun d h1 h2 => by rw [← h d (by have := o.1; omega)]; exact o.2.2.2.2 d h1 h2⟩
theorem itS_r {lt : Int32} {s : Bool} {b e : Nat} {z w : RT} (h : ZR z w) : ZR (itS lt s b e z) (itS lt s b e w) := by
  obtain ⟨h1, h2, h3⟩ := h
  refine ⟨fun d hd => ?_, fun d hd => ?_, by show z.2.2.2 + 1 = w.2.2.2 + 1; rw [h3]⟩
  · show fillR z.1 _ _ _ d = fillR w.1 _ _ _ d
    unfold fillR
    rw [h1 d hd]
  · show ¬ fillR z.1 _ _ _ d = 0 → fillR z.2.1 _ _ _ d = fillR w.2.1 _ _ _ d ∧ fillR z.2.2.1 _ _ _ d = fillR w.2.2.1 _ _ _ d
    unfold fillR
    by_cases q : itF lt s b ≤ d ∧ d < itF lt s b + (itL s b e + 1 - itF lt s b)
    · rw [if_pos q, if_pos q, if_pos q, if_pos q, if_pos q]; exact fun _ => ⟨rfl, rfl⟩
    · rw [if_neg q, if_neg q, if_neg q, if_neg q, if_neg q]; exact h2 d hd
def OR (o p : Option RT) : Prop := (o = none ∧ p = none) ∨ ∃ z w : RT, o = some z ∧ p = some w ∧ ZR z w
theorem lyI_r {lt : Int32} {s : Bool} {b e : Nat} {z w : RT} (h : ZR z w) : OR (lyI lt s b e z) (lyI lt s b e w) := by
  by_cases o : itO z.1 lt s b e
  · exact Or.inr ⟨_, _, lyI_y o, lyI_y (itO_r h.1 o), itS_r h⟩
  · exact Or.inl ⟨lyI_n o, lyI_n (fun q => o (itO_r (fun d hd => (h.1 d hd).symm) q))⟩
theorem rdI_r {f g : Nat → Int32} : ∀ (m i a : Nat) (lt : Int32) (b e : Nat) (z w : RT), (∀ j, j < i + m → f j = g j) → ZR z w → OR (rdI f m i a lt b e z) (rdI g m i a lt b e w)
  | 0, i, a, lt, b, e, z, w, _, h => lyI_r h
  | m + 1, i, a, lt, b, e, z, w, hf, h => by
    have hi : f i = g i := hf i (by omega)
    have hs : ∀ j, j < i + 1 + m → f j = g j := fun j hj => hf j (by omega)
    show OR (rS f m i a lt b e z) (rS g m i a lt b e w)
    unfold rS
    rw [← hi]
    by_cases q0 : nx a (f i) = 0
    · rw [if_pos q0, if_pos q0]
      rcases lyI_r (lt := lt) (s := decide (a < 4)) (b := b) (e := e) h with ⟨e1, e2⟩ | ⟨z', w', e1, e2, h'⟩
      · rw [e1, e2]; exact Or.inl ⟨rfl, rfl⟩
      · rw [e1, e2]; exact rdI_r m (i + 1) 0 (nI 0) 0 0 z' w' hs h'
    · rw [if_neg q0, if_neg q0]
      by_cases q1 : nx a (f i) = 1
      · rw [if_pos q1, if_pos q1]; exact rdI_r m (i + 1) 1 _ 0 0 z w hs h
      · rw [if_neg q1, if_neg q1]
        by_cases q4 : nx a (f i) = 4
        · rw [if_pos q4, if_pos q4]; exact rdI_r m (i + 1) 4 lt b 0 z w hs h
        · rw [if_neg q4, if_neg q4]
          by_cases q3 : nx a (f i) ≤ 3
          · rw [if_pos q3, if_pos q3]; exact rdI_r m (i + 1) _ lt _ e z w hs h
          · rw [if_neg q3, if_neg q3]; exact rdI_r m (i + 1) _ lt b _ z w hs h
theorem knd_le (lt : Int32) : 1 ≤ knd lt ∧ knd lt ≤ 3 := by
  unfold knd
  split
  · omega
  · split <;> omega
theorem itS_w {lt : Int32} {s : Bool} {b e : Nat} {z : RT} (o : itO z.1 lt s b e) (h : WZ z) : WZ (itS lt s b e z) := by
  obtain ⟨o1, o2, o3, o4, o5⟩ := o
  have kl := knd_le lt
  have hfl : itF lt s b ≤ itL s b e := by
    unfold itF itL
    cases s with
    | true => rw [if_pos rfl]; split <;> omega
    | false => have := o2 rfl; rw [if_neg (fun q => absurd q.1 (by decide)), if_neg (by decide)]; omega
  intro d hd
  show le_ 3 (fillR z.1 (itF lt s b) (itL s b e + 1 - itF lt s b) (nI (knd lt)) d) ∧ (¬ fillR z.1 (itF lt s b) (itL s b e + 1 - itF lt s b) (nI (knd lt)) d = 0 → ∃ fi la : Nat, fi ≤ d ∧ d ≤ la ∧ la ≤ 27 ∧ ∀ j : Nat, fi ≤ j → j ≤ la → fillR z.1 (itF lt s b) (itL s b e + 1 - itF lt s b) (nI (knd lt)) j = fillR z.1 (itF lt s b) (itL s b e + 1 - itF lt s b) (nI (knd lt)) d ∧ fillR z.2.1 (itF lt s b) (itL s b e + 1 - itF lt s b) (nI (itF lt s b)) j = nI fi ∧ fillR z.2.2.1 (itF lt s b) (itL s b e + 1 - itF lt s b) (nI (itL s b e)) j = nI la)
  by_cases q : itF lt s b ≤ d ∧ d < itF lt s b + (itL s b e + 1 - itF lt s b)
  · rw [fR_in q]
    refine ⟨⟨_, kl.2, rfl⟩, fun _ => ⟨itF lt s b, itL s b e, q.1, by omega, o1, fun j j1 j2 => ?_⟩⟩
    rw [fR_in (by omega), fR_in (by omega), fR_in (by omega)]
    exact ⟨rfl, rfl, rfl⟩
  · rw [fR_out q]
    obtain ⟨w1, w2⟩ := h d hd
    refine ⟨w1, fun nz => ?_⟩
    obtain ⟨fi, la, r1, r2, r3, r4⟩ := w2 nz
    refine ⟨fi, la, r1, r2, r3, fun j j1 j2 => ?_⟩
    obtain ⟨k1, k2, k3⟩ := r4 j j1 j2
    have q' : ¬ (itF lt s b ≤ j ∧ j < itF lt s b + (itL s b e + 1 - itF lt s b)) := fun w => nz (k1.symm.trans (o5 j w.1 (by omega)))
    rw [fR_out q', fR_out q', fR_out q']
    exact ⟨k1, k2, k3⟩
theorem lyI_w {lt : Int32} {s : Bool} {b e : Nat} {z w : RT} (h : WZ z) (hw : lyI lt s b e z = some w) : WZ w := by
  by_cases o : itO z.1 lt s b e
  · rw [lyI_y o] at hw
    cases hw
    exact itS_w o h
  · rw [lyI_n o] at hw
    cases hw
theorem rdI_w {f : Nat → Int32} : ∀ (m i a : Nat) (lt : Int32) (b e : Nat) (z w : RT), WZ z → rdI f m i a lt b e z = some w → WZ w
  | 0, i, a, lt, b, e, z, w, h, hw => lyI_w h hw
  | m + 1, i, a, lt, b, e, z, w, h, hw => by
    have hw : rS f m i a lt b e z = some w := hw
    unfold rS at hw
    by_cases q0 : nx a (f i) = 0
    · rw [if_pos q0] at hw
      cases e1 : lyI lt (decide (a < 4)) b e z with
      | none => rw [e1] at hw; cases hw
      | some z' => rw [e1] at hw; exact rdI_w m (i + 1) 0 (nI 0) 0 0 z' w (lyI_w h e1) hw
    · rw [if_neg q0] at hw
      by_cases q1 : nx a (f i) = 1
      · rw [if_pos q1] at hw; exact rdI_w m (i + 1) 1 _ 0 0 z w h hw
      · rw [if_neg q1] at hw
        by_cases q4 : nx a (f i) = 4
        · rw [if_pos q4] at hw; exact rdI_w m (i + 1) 4 lt b 0 z w h hw
        · rw [if_neg q4] at hw
          by_cases q3 : nx a (f i) ≤ 3
          · rw [if_pos q3] at hw; exact rdI_w m (i + 1) _ lt _ e z w h hw
          · rw [if_neg q3] at hw; exact rdI_w m (i + 1) _ lt b _ z w h hw
