abbrev RT := (Nat → Int32) × (Nat → Int32) × (Nat → Int32) × Nat
/-- two readings that tell the same -/
def ZR (z w : RT) : Prop := (∀ d : Nat, d < 28 → z.1 d = w.1 d) ∧ (∀ d : Nat, d < 28 → ¬ z.1 d = 0 → z.2.1 d = w.2.1 d ∧ z.2.2.1 d = w.2.2.1 d) ∧ z.2.2.2 = w.2.2.2
/-- kinds, and ranges that hold together -/
def WZ (z : RT) : Prop := ∀ d : Nat, d < 28 → le_ 3 (z.1 d) ∧ (¬ z.1 d = 0 → ∃ fi la : Nat, fi ≤ d ∧ d ≤ la ∧ la ≤ 27 ∧ ∀ j : Nat, fi ≤ j → j ≤ la → z.1 j = z.1 d ∧ z.2.1 j = nI fi ∧ z.2.2.1 j = nI la)
def rwz (a : Nat → Nat → Int32) (f c : Nat) : RT := (fun d => a f (28 * c + d), fun d => a (f + 1) (28 * c + d), fun d => a (f + 2) (28 * c + d), 0)
theorem ZR_congr {z w z' w' : RT} (hz : ∀ d : Nat, d < 28 → z'.1 d = z.1 d ∧ z'.2.1 d = z.2.1 d ∧ z'.2.2.1 d = z.2.2.1 d) (hw : ∀ d : Nat, d < 28 → w'.1 d = w.1 d ∧ w'.2.1 d = w.2.1 d ∧ w'.2.2.1 d = w.2.2.1 d) (hq : z'.2.2.2 = w'.2.2.2) (h : ZR z w) : ZR z' w' := by
  refine ⟨fun d hd => ?_, fun d hd => ?_, hq⟩
  · rw [(hz d hd).1, (hw d hd).1]; exact h.1 d hd
  · rw [(hz d hd).1, (hz d hd).2.1, (hz d hd).2.2, (hw d hd).2.1, (hw d hd).2.2]; exact h.2.1 d hd
theorem WZ_congr {z z' : RT} (hz : ∀ d : Nat, d < 28 → z'.1 d = z.1 d ∧ z'.2.1 d = z.2.1 d ∧ z'.2.2.1 d = z.2.2.1 d) (h : WZ z) : WZ z' := fun d hd => by
  rw [(hz d hd).1]
  refine ⟨(h d hd).1, fun nz => ?_⟩
  obtain ⟨fi, la, r1, r2, r3, r4⟩ := (h d hd).2 nz
  refine ⟨fi, la, r1, r2, r3, fun j j1 j2 => ?_⟩
  rw [(hz j (by omega)).1, (hz j (by omega)).2.1, (hz j (by omega)).2.2]
  exact r4 j j1 j2
def tr (v : Int32) : Int32 := if v = -1 then -6 else v
/-- the last of the first n that is c -/
def lst (f : Nat → Int32) : Nat → Int32 → Int32
  | 0, _ => -1
  | n + 1, c => if f n = c then nI n else lst f n c
theorem lst_congr {f g : Nat → Int32} (c : Int32) : ∀ n : Nat, (∀ j, j < n → f j = g j) → lst f n c = lst g n c
  | 0, _ => rfl
  | n + 1, h => by
    show (if f n = c then nI n else lst f n c) = (if g n = c then nI n else lst g n c)
    rw [h n (Nat.lt_succ_self n), lst_congr c n (fun j hj => h j (by omega))]
theorem lst_lm (f : Nat → Int32) (c : Int32) : ∀ n : Nat, n ≤ 20 → lm_ 19 (lst f n c)
  | 0, _ => Or.inl rfl
  | n + 1, h => by
    show lm_ 19 (if f n = c then nI n else lst f n c)
    by_cases e : f n = c
    · rw [if_pos e]; exact Or.inr ⟨n, by omega, rfl⟩
    · rw [if_neg e]; exact lst_lm f c n (by omega)
def gv (b : Nat) (σ : St) (f j : Nat) : Int32 := if f = 0 ∨ f = 10 ∨ f = 15 then σ.1 (16 * (b + f)) else σ.2.1 (b + f) j
def sgx (f : Nat) : Nat := if f = 0 ∨ f = 10 ∨ f = 15 then 1 else if f = 1 ∨ f = 2 then 6 else if f = 3 then 18 else if f = 4 then 28 else if f ≤ 8 then 168 else if f = 9 then 4 else if f ≤ 13 then 20 else if f = 14 then 168 else if f ≤ 20 then 6 else 0
def mv (μ : St) (c j : Nat) : Int32 := valF μ c j
def kv (t : Nat) (μ : St) (c j : Nat) : Int32 := μ.2.1 32 (t + pos c j)
def stB (j : Nat) (v : Nat) : Prop := (j = 0 → 1 ≤ v ∧ v ≤ 40) ∧ (j = 1 → v ≤ 999) ∧ (j = 2 → v ≤ 99) ∧ (j = 3 → v ≤ 9)
def gXY (a m : Nat → Nat → Int32) : Prop := ∀ j : Nat, j < 6 → (a 1 j = m 1 j ∧ le_ 20 (a 1 j)) ∧ (a 2 j = m 2 j ∧ le_ 20 (a 2 j))
def gMi (k : Nat) (a m : Nat → Nat → Int32) : Prop := ∀ j : Nat, j < 18 → (j < 3 * k → a 3 j = m 3 j) ∧ (3 * k ≤ j → a 3 j = 0) ∧ le_ 9 (a 3 j) ∧ le_ 9 (m 3 j)
def gWi (a m : Nat → Nat → Int32) : Prop := ∀ j : Nat, j < 28 → a 4 j = m 4 j ∧ le_ 2 (a 4 j)
def gRw (k : Nat) (a m : Nat → Nat → Int32) : Prop := ∀ j : Nat, j < 168 → (j < 28 * k → tr (a 5 j) = m 5 j) ∧ (28 * k ≤ j → a 5 j = -1) ∧ lm_ 999 (a 5 j)
def gNo (k : Nat) (a m : Nat → Nat → Int32) : Prop := (∀ j : Nat, j < 168 → le_ 27 (a 7 j) ∧ le_ 27 (m 11 j)) ∧ ∀ c : Nat, c < 6 → (c < k → ZR (rwz a 6 c) (rwz m 10 c) ∧ WZ (rwz a 6 c)) ∧ (k ≤ c → ∀ d : Nat, d < 28 → a 6 (28 * c + d) = 0)
def s4 (m : Nat → Nat → Int32) (j : Nat) : Int32 := if j = 0 then m 0 3 else if j = 1 then m 0 4 else if j = 2 then m 0 5 else m 0 6
def gSt (a m : Nat → Nat → Int32) : Prop := ∀ j : Nat, j < 4 → a 9 j = s4 m j ∧ ∃ v : Nat, a 9 j = nI v ∧ stB j v
def gFe (a m : Nat → Nat → Int32) (j : Nat) : Prop := ∃ c d : Nat, c < 6 ∧ d < 28 ∧ a 11 j = nI (28 * c + d) ∧ m 6 j = nI c ∧ m 7 j = nI d ∧ tr (a 12 j) = m 8 j ∧ lm_ 999 (a 12 j)
def gFx (n : Nat) (a m : Nat → Nat → Int32) : Prop := n ≤ 20 ∧ a 10 0 = nI n ∧ m 0 1 = nI n ∧ (∀ j : Nat, j < 20 → gFe a m j) ∧ (∀ j : Nat, j < 20 → lm_ 19 (a 13 j)) ∧ (∀ q : Nat, q < 168 → a 14 q = lst (a 11) n (nI q)) ∧ (∀ j : Nat, j < n → a 13 j = lst (a 11) j (a 11 j))
def gRd (n : Nat) (a m : Nat → Nat → Int32) : Prop := n ≤ 6 ∧ a 15 0 = nI n ∧ m 0 2 = nI n ∧ (∀ j : Nat, j < 6 → (a 16 j = m 26 j ∧ a 17 j = m 27 j ∧ a 18 j = m 28 j ∧ a 19 j = m 29 j ∧ a 20 j = m 30 j) ∧ (le_ 27 (a 16 j) ∧ le_ 20 (a 17 j) ∧ le_ 20 (a 18 j) ∧ le_ 999 (a 19 j) ∧ le_ 999 (a 20 j)))
def gK (k : Nat) (a m : Nat → Nat → Int32) : Prop := k ≤ 6 ∧ a 0 0 = nI k ∧ m 0 0 = nI k
def GR (k n r : Nat) (a m : Nat → Nat → Int32) : Prop := gK k a m ∧ gXY a m ∧ gMi k a m ∧ gWi a m ∧ gRw k a m ∧ gNo k a m ∧ gSt a m ∧ gFx n a m ∧ gRd r a m
def GE (a m : Nat → Nat → Int32) : Prop := ∃ k n r : Nat, GR k n r a m
theorem GR_congrN {k n r : Nat} {a m a' m' : Nat → Nat → Int32} (ha : ∀ f j : Nat, j < sgx f → f ≠ 6 → f ≠ 7 → f ≠ 8 → a' f j = a f j) (hm : ∀ c j : Nat, j < szp c → c ≠ 10 → c ≠ 11 → c ≠ 12 → m' c j = m c j) (hN' : gNo k a' m') (h : GR k n r a m) : GR k n r a' m' := by
  obtain ⟨⟨h1, h2, h3⟩, hXY, hM, hW, hR, hN, hS, ⟨f1, f2, f3, f4, f5, f6, f7⟩, ⟨d1, d2, d3, d4⟩⟩ := h
  have e11 : ∀ (q : Nat) (c : Int32), q ≤ 20 → lst (a' 11) q c = lst (a 11) q c := fun q c hq => lst_congr c q (fun j hj => ha 11 j (show j < 20 by omega) (by decide) (by decide) (by decide))
  refine ⟨⟨h1, (ha 0 0 (by decide) (by decide) (by decide) (by decide)).trans h2, (hm 0 0 (by decide) (by decide) (by decide) (by decide)).trans h3⟩, fun j hj => ?_, fun j hj => ?_, fun j hj => ?_, fun j hj => ?_, hN', fun j hj => ?_, ⟨f1, (ha 10 0 (by decide) (by decide) (by decide) (by decide)).trans f2, (hm 0 1 (by decide) (by decide) (by decide) (by decide)).trans f3, fun j hj => ?_, fun j hj => ?_, fun q hq => ?_, fun j hj => ?_⟩, ⟨d1, (ha 15 0 (by decide) (by decide) (by decide) (by decide)).trans d2, (hm 0 2 (by decide) (by decide) (by decide) (by decide)).trans d3, fun j hj => ?_⟩⟩
  · rw [ha 1 j hj (by decide) (by decide) (by decide), hm 1 j hj (by decide) (by decide) (by decide), ha 2 j hj (by decide) (by decide) (by decide), hm 2 j hj (by decide) (by decide) (by decide)]; exact hXY j hj
  · rw [ha 3 j hj (by decide) (by decide) (by decide), hm 3 j hj (by decide) (by decide) (by decide)]; exact hM j hj
  · rw [ha 4 j hj (by decide) (by decide) (by decide), hm 4 j hj (by decide) (by decide) (by decide)]; exact hW j hj
  · rw [ha 5 j hj (by decide) (by decide) (by decide), hm 5 j hj (by decide) (by decide) (by decide)]; exact hR j hj
  · rw [ha 9 j hj (by decide) (by decide) (by decide)]; unfold s4; rw [hm 0 3 (by decide) (by decide) (by decide) (by decide), hm 0 4 (by decide) (by decide) (by decide) (by decide), hm 0 5 (by decide) (by decide) (by decide) (by decide), hm 0 6 (by decide) (by decide) (by decide) (by decide)]; exact hS j hj
  · unfold gFe; rw [ha 11 j hj (by decide) (by decide) (by decide), hm 6 j hj (by decide) (by decide) (by decide), hm 7 j hj (by decide) (by decide) (by decide), ha 12 j hj (by decide) (by decide) (by decide), hm 8 j hj (by decide) (by decide) (by decide)]; exact f4 j hj
  · rw [ha 13 j hj (by decide) (by decide) (by decide)]; exact f5 j hj
  · rw [ha 14 q hq (by decide) (by decide) (by decide), e11 n _ f1]; exact f6 q hq
  · rw [ha 13 j (show j < 20 by omega) (by decide) (by decide) (by decide), ha 11 j (show j < 20 by omega) (by decide) (by decide) (by decide), e11 j _ (by omega)]; exact f7 j hj
  · rw [ha 16 j hj (by decide) (by decide) (by decide), ha 17 j hj (by decide) (by decide) (by decide), ha 18 j hj (by decide) (by decide) (by decide), ha 19 j hj (by decide) (by decide) (by decide), ha 20 j hj (by decide) (by decide) (by decide), hm 26 j hj (by decide) (by decide) (by decide), hm 27 j hj (by decide) (by decide) (by decide), hm 28 j hj (by decide) (by decide) (by decide), hm 29 j hj (by decide) (by decide) (by decide), hm 30 j hj (by decide) (by decide) (by decide)]; exact d4 j hj
theorem gNo_congr {k : Nat} {a m a' m' : Nat → Nat → Int32} (ha : ∀ f j : Nat, j < sgx f → a' f j = a f j) (hm : ∀ c j : Nat, j < szp c → m' c j = m c j) (h : gNo k a m) : gNo k a' m' := by
  refine ⟨fun j hj => by rw [ha 7 j hj, hm 11 j hj]; exact h.1 j hj, fun c hc => ?_⟩
  have e : ∀ d : Nat, d < 28 → 28 * c + d < 168 := fun d hd => by omega
  obtain ⟨h1, h2⟩ := h.2 c hc
  refine ⟨fun q => ?_, fun q d hd => by rw [ha 6 _ (e d hd)]; exact h2 q d hd⟩
  obtain ⟨z, w⟩ := h1 q
  exact ⟨ZR_congr (z := rwz a 6 c) (w := rwz m 10 c) (fun d hd => ⟨ha 6 _ (e d hd), ha 7 _ (e d hd), ha 8 _ (e d hd)⟩) (fun d hd => ⟨hm 10 _ (e d hd), hm 11 _ (e d hd), hm 12 _ (e d hd)⟩) rfl z, WZ_congr (z := rwz a 6 c) (fun d hd => ⟨ha 6 _ (e d hd), ha 7 _ (e d hd), ha 8 _ (e d hd)⟩) w⟩
theorem gNo_can {k : Nat} {a m a' m' : Nat → Nat → Int32} (hk : k < 6) (h : gNo k a m) (e6 : a' 6 = a 6) (e7 : a' 7 = a 7) (e8 : a' 8 = a 8) (e10 : m' 10 = fillR (m 10) (28 * k) 28 (nI 0)) (e11 : m' 11 = m 11) (e12 : m' 12 = m 12) : gNo (k + 1) a' m' := by
  refine ⟨fun j hj => by rw [e7, e11]; exact h.1 j hj, fun c hc => ?_⟩
  obtain ⟨h1, h2⟩ := h.2 c hc
  refine ⟨fun q => ?_, fun q d hd => by rw [e6]; exact h2 (by omega) d hd⟩
  have ez : rwz a' 6 c = rwz a 6 c := by unfold rwz; rw [e6, e7, e8]
  rw [ez]
  by_cases w : c = k
  · subst w
    have z0 : ∀ d : Nat, d < 28 → (rwz a 6 c).1 d = 0 := fun d hd => h2 (Nat.le_refl _) d hd
    refine ⟨⟨fun d hd => ?_, fun d hd nz => absurd (z0 d hd) nz, rfl⟩, fun d hd => ⟨⟨0, by omega, z0 d hd⟩, fun nz => absurd (z0 d hd) nz⟩⟩
    rw [z0 d hd]
    show 0 = m' 10 (28 * c + d)
    rw [e10]
    exact (if_pos (by omega)).symm
  · obtain ⟨z, v⟩ := h1 (by omega)
    refine ⟨ZR_congr (z := rwz a 6 c) (w := rwz m 10 c) (fun d hd => ⟨rfl, rfl, rfl⟩) (fun d hd => ⟨?_, ?_, ?_⟩) rfl z, v⟩
    · show m' 10 (28 * c + d) = m 10 (28 * c + d)
      rw [e10]; exact if_neg (by omega)
    · show m' 11 (28 * c + d) = m 11 (28 * c + d)
      rw [e11]
    · show m' 12 (28 * c + d) = m 12 (28 * c + d)
      rw [e12]
/-- the notes of one can are new -/
theorem gNo_note {k c : Nat} {a m a' m' : Nat → Nat → Int32} {z w : RT} (hc : c < k) (h : gNo k a m) (hb : ∀ j : Nat, j < 168 → le_ 27 (a' 7 j) ∧ le_ 27 (m' 11 j)) (hz : ZR z w) (hw : WZ z) (e6 : a' 6 = va_cpy z.1 (a 6) 0 (28 * c) 28) (e7 : a' 7 = va_cpy z.2.1 (a 7) 0 (28 * c) 28) (e8 : a' 8 = va_cpy z.2.2.1 (a 8) 0 (28 * c) 28) (e10 : m' 10 = va_cpy w.1 (m 10) 0 (28 * c) 28) (e11 : m' 11 = va_cpy w.2.1 (m 11) 0 (28 * c) 28) (e12 : m' 12 = va_cpy w.2.2.1 (m 12) 0 (28 * c) 28) : gNo k a' m' := by
  refine ⟨hb, fun e he => ?_⟩
  obtain ⟨h1, h2⟩ := h.2 e he
  have inn : ∀ (f g : Nat → Int32) (d : Nat), d < 28 → e = c → va_cpy f g 0 (28 * c) 28 (28 * e + d) = f d := fun f g d hd q => by
    rw [q, pk_cpy_in (by omega) (by omega), show 0 + (28 * c + d - 28 * c) = d by omega]
  have out : ∀ (f g : Nat → Int32) (d : Nat), d < 28 → ¬ e = c → va_cpy f g 0 (28 * c) 28 (28 * e + d) = g (28 * e + d) := fun f g d hd q => pk_cpy_out (by omega)
  refine ⟨fun q => ?_, fun q d hd => by rw [e6, out _ _ d hd (by omega)]; exact h2 q d hd⟩
  by_cases v : e = c
  · have ea : ∀ d : Nat, d < 28 → (rwz a' 6 e).1 d = z.1 d ∧ (rwz a' 6 e).2.1 d = z.2.1 d ∧ (rwz a' 6 e).2.2.1 d = z.2.2.1 d := fun d hd => by
      show a' 6 (28 * e + d) = _ ∧ a' 7 (28 * e + d) = _ ∧ a' 8 (28 * e + d) = _
      rw [e6, e7, e8, inn _ _ d hd v, inn _ _ d hd v, inn _ _ d hd v]; exact ⟨rfl, rfl, rfl⟩
    have em : ∀ d : Nat, d < 28 → (rwz m' 10 e).1 d = w.1 d ∧ (rwz m' 10 e).2.1 d = w.2.1 d ∧ (rwz m' 10 e).2.2.1 d = w.2.2.1 d := fun d hd => by
      show m' 10 (28 * e + d) = _ ∧ m' 11 (28 * e + d) = _ ∧ m' 12 (28 * e + d) = _
      rw [e10, e11, e12, inn _ _ d hd v, inn _ _ d hd v, inn _ _ d hd v]; exact ⟨rfl, rfl, rfl⟩
    exact ⟨ZR_congr ea em rfl hz, WZ_congr ea hw⟩
  · have ea : ∀ d : Nat, d < 28 → (rwz a' 6 e).1 d = (rwz a 6 e).1 d ∧ (rwz a' 6 e).2.1 d = (rwz a 6 e).2.1 d ∧ (rwz a' 6 e).2.2.1 d = (rwz a 6 e).2.2.1 d := fun d hd => by
      show a' 6 (28 * e + d) = a 6 (28 * e + d) ∧ a' 7 (28 * e + d) = a 7 (28 * e + d) ∧ a' 8 (28 * e + d) = a 8 (28 * e + d)
      rw [e6, e7, e8, out _ _ d hd v, out _ _ d hd v, out _ _ d hd v]; exact ⟨rfl, rfl, rfl⟩
    have em : ∀ d : Nat, d < 28 → (rwz m' 10 e).1 d = (rwz m 10 e).1 d ∧ (rwz m' 10 e).2.1 d = (rwz m 10 e).2.1 d ∧ (rwz m' 10 e).2.2.1 d = (rwz m 10 e).2.2.1 d := fun d hd => by
      show m' 10 (28 * e + d) = m 10 (28 * e + d) ∧ m' 11 (28 * e + d) = m 11 (28 * e + d) ∧ m' 12 (28 * e + d) = m 12 (28 * e + d)
      rw [e10, e11, e12, out _ _ d hd v, out _ _ d hd v, out _ _ d hd v]; exact ⟨rfl, rfl, rfl⟩
    exact ⟨ZR_congr ea em rfl (h1 q).1, WZ_congr ea (h1 q).2⟩
theorem GR_congr {k n r : Nat} {a m a' m' : Nat → Nat → Int32} (ha : ∀ f j : Nat, j < sgx f → a' f j = a f j) (hm : ∀ c j : Nat, j < szp c → m' c j = m c j) (h : GR k n r a m) : GR k n r a' m' :=
  GR_congrN (fun f j hj _ _ _ => ha f j hj) (fun c j hj _ _ _ => hm c j hj) (gNo_congr ha hm h.2.2.2.2.2.1) h
/-- two states that agree where P and Q say -/
def ag (P Q : Nat → Prop) (σ u : St) : Prop := (∀ i : Nat, P i → u.1 i = σ.1 i) ∧ (∀ c : Nat, Q c → u.2.1 c = σ.2.1 c)
theorem ag.rf {P Q : Nat → Prop} {σ : St} : ag P Q σ σ := ⟨fun _ _ => rfl, fun _ _ => rfl⟩
theorem ag.I {P Q : Nat → Prop} {σ u : St} {i : Nat} {v : Int32} (hi : ¬ P i) (h : ag P Q σ u) : ag P Q σ (sI u i v) := ⟨fun j hj => (if_neg (fun e : j = i => hi (e ▸ hj))).trans (h.1 j hj), h.2⟩
theorem ag.F {P Q : Nat → Prop} {σ u : St} {c : Nat} {f : Nat → Int32} (hc : ¬ Q c) (h : ag P Q σ u) : ag P Q σ (sF u c f) := ⟨h.1, fun j hj => (if_neg (fun e : j = c => hc (e ▸ hj))).trans (h.2 j hj)⟩
theorem ag.L {P Q : Nat → Prop} {σ u : St} {i : Nat} {v : Int64} (h : ag P Q σ u) : ag P Q σ (sL u i v) := h
theorem ag.G {P Q : Nat → Prop} {σ u : St} {c : Nat} {f : Nat → Int64} (h : ag P Q σ u) : ag P Q σ (sG u c f) := h
abbrev xP (i : Nat) : Prop := i < 352 ∨ 896 ≤ i
abbrev xQ (c : Nat) : Prop := c ≤ 21 ∨ c = 33 ∨ 56 ≤ c
abbrev iP (i : Nat) : Prop := 896 ≤ i
abbrev gP (i : Nat) : Prop := i < 352
abbrev gQ (c : Nat) : Prop := c ≤ 21
abbrev yM (c : Nat) : Prop := (c ≤ 12 ∧ c ≠ 9) ∨ (26 ≤ c ∧ c ≤ 30)
abbrev sP (i : Nat) : Prop := 1232 ≤ i
abbrev sQ (c : Nat) : Prop := 77 ≤ c ∧ c ≤ 97
abbrev fP (i : Nat) : Prop := 896 ≤ i ∧ i < 1232
abbrev fQ (c : Nat) : Prop := 56 ≤ c ∧ c ≤ 76
abbrev iQ (c : Nat) : Prop := 56 ≤ c
abbrev yP (i : Nat) : Prop := i ≤ 13 ∨ i = 46
abbrev yQ (c : Nat) : Prop := (c ≤ 12 ∧ c ≠ 9) ∨ (26 ≤ c ∧ c ≠ 31)
abbrev xN (c : Nat) : Prop := (c ≤ 21 ∧ c ≠ 7 ∧ c ≠ 8 ∧ c ≠ 9) ∨ c = 33 ∨ 56 ≤ c
abbrev yN (c : Nat) : Prop := (c ≤ 12 ∧ c ≠ 9 ∧ c ≠ 10 ∧ c ≠ 11 ∧ c ≠ 12) ∨ (26 ≤ c ∧ c ≠ 31)
theorem sgx_20 {f j : Nat} (h : j < sgx f) : f ≤ 20 := by
  by_cases q : f ≤ 20
  · exact q
  · exfalso
    unfold sgx at h
    rw [if_neg (by omega), if_neg (by omega), if_neg (by omega), if_neg (by omega), if_neg (by omega), if_neg (by omega), if_neg (by omega), if_neg (by omega), if_neg (by omega)] at h
    omega
theorem gv_ag1 {σ u : St} (h : ag gP gQ σ u) : ∀ f j : Nat, j < sgx f → gv 1 u f j = gv 1 σ f j := fun f j hj => by
  have := sgx_20 hj
  unfold gv
  by_cases q : f = 0 ∨ f = 10 ∨ f = 15
  · rw [if_pos q, if_pos q]; exact h.1 _ (by show _ < 352; omega)
  · rw [if_neg q, if_neg q]; exact congrFun (h.2 _ (by show _ ≤ 21; omega)) j
theorem gv_ag77 {σ u : St} (h : ag sP sQ σ u) : ∀ f j : Nat, j < sgx f → gv 77 u f j = gv 77 σ f j := fun f j hj => by
  have := sgx_20 hj
  unfold gv
  by_cases q : f = 0 ∨ f = 10 ∨ f = 15
  · rw [if_pos q, if_pos q]; exact h.1 _ (by show 1232 ≤ _; omega)
  · rw [if_neg q, if_neg q]; exact congrFun (h.2 _ (by show 77 ≤ _ ∧ _ ≤ 97; omega)) j
theorem gv_ag56 {σ u : St} (h : ag fP fQ σ u) : ∀ f j : Nat, j < sgx f → gv 56 u f j = gv 56 σ f j := fun f j hj => by
  have := sgx_20 hj
  unfold gv
  by_cases q : f = 0 ∨ f = 10 ∨ f = 15
  · rw [if_pos q, if_pos q]; exact h.1 _ (by show 896 ≤ _ ∧ _ < 1232; omega)
  · rw [if_neg q, if_neg q]; exact congrFun (h.2 _ (by show 56 ≤ _ ∧ _ ≤ 76; omega)) j
theorem gv_ag {σ u : St} {b : Nat} (hb : 56 ≤ b) (h : ag iP iQ σ u) : ∀ f j : Nat, j < sgx f → gv b u f j = gv b σ f j := fun f j hj => by
  unfold gv
  by_cases q : f = 0 ∨ f = 10 ∨ f = 15
  · rw [if_pos q, if_pos q]; exact h.1 _ (by show 896 ≤ _; omega)
  · rw [if_neg q, if_neg q]; exact congrFun (h.2 _ (by show 56 ≤ _; omega)) j
theorem isl_y (j : Nat) : yP (isl j) := by
  unfold isl
  by_cases h0 : j = 0
  · rw [if_pos h0]; decide
  rw [if_neg h0]
  by_cases h1 : j = 1
  · rw [if_pos h1]; decide
  rw [if_neg h1]
  by_cases h2 : j = 2
  · rw [if_pos h2]; decide
  rw [if_neg h2]
  by_cases h3 : j = 3
  · rw [if_pos h3]; decide
  rw [if_neg h3]
  by_cases h4 : j = 4
  · rw [if_pos h4]; decide
  rw [if_neg h4]
  by_cases h5 : j = 5
  · rw [if_pos h5]; decide
  rw [if_neg h5]
  by_cases h6 : j = 6
  · rw [if_pos h6]; decide
  rw [if_neg h6]
  decide
theorem mv_ag {μ w : St} (h : ag yP yM μ w) : ∀ c j : Nat, j < szp c → mv w c j = mv μ c j := fun c j hj => by
  unfold mv valF
  by_cases q : c = 0
  · rw [if_pos q, if_pos q]; exact h.1 _ (isl_y j)
  · rw [if_neg q, if_neg q]
    refine congrFun (h.2 _ ?_) j
    have := szp_c hj
    show _ ∨ _
    omega
theorem kv_eq {μ w : St} {t : Nat} (h : w.2.1 32 = μ.2.1 32) : ∀ c j : Nat, j < szp c → kv t w c j = kv t μ c j := fun c j _ => by
  unfold kv; rw [h]
/-- the images and what else stays -/
def RI (σ μ : St) : Prop := (σ.2.1 98 0 = μ.2.1 33 0 ∧ σ.2.1 98 1 = μ.2.1 33 1) ∧ ((¬ μ.2.1 33 0 = 0 → GE (gv 56 σ) (kv 0 μ)) ∧ (¬ μ.2.1 33 1 = 0 → GE (gv 77 σ) (kv 900 μ))) ∧ (gB (σ.1 896) (σ.2.1 60) (σ.2.1 63) (σ.1 1056) (σ.2.1 67) (σ.2.1 69) (σ.2.1 70) (σ.1 1136) ∧ gB (σ.1 1232) (σ.2.1 81) (σ.2.1 84) (σ.1 1392) (σ.2.1 88) (σ.2.1 90) (σ.2.1 91) (σ.1 1472))
def RP (σ μ : St) : Prop := le_ 40 (σ.1 352) ∧ le_ 40 (μ.1 15) ∧ σ.2.1 33 = wf 257
theorem GE.congr {a m a' m' : Nat → Nat → Int32} (ha : ∀ f j : Nat, j < sgx f → a' f j = a f j) (hm : ∀ c j : Nat, j < szp c → m' c j = m c j) (h : GE a m) : GE a' m' := by
  obtain ⟨k, n, r, h⟩ := h
  exact ⟨k, n, r, GR_congr ha hm h⟩
theorem RI_ag {σ μ u w : St} (hu : ag iP iQ σ u) (h2 : w.2.1 32 = μ.2.1 32) (h3 : w.2.1 33 = μ.2.1 33) (h : RI σ μ) : RI u w := by
  obtain ⟨⟨a1, a2⟩, ⟨b1, b2⟩, c1, c2⟩ := h
  refine ⟨⟨?_, ?_⟩, ⟨?_, ?_⟩, ?_, ?_⟩
  · rw [hu.2 98 (by decide), h3]; exact a1
  · rw [hu.2 98 (by decide), h3]; exact a2
  · rw [h3]; exact fun q => (b1 q).congr (gv_ag (by decide) hu) (kv_eq h2)
  · rw [h3]; exact fun q => (b2 q).congr (gv_ag (by decide) hu) (kv_eq h2)
  · rw [hu.1 896 (by decide), hu.2 60 (by decide), hu.2 63 (by decide), hu.1 1056 (by decide), hu.2 67 (by decide), hu.2 69 (by decide), hu.2 70 (by decide), hu.1 1136 (by decide)]; exact c1
  · rw [hu.1 1232 (by decide), hu.2 81 (by decide), hu.2 84 (by decide), hu.1 1392 (by decide), hu.2 88 (by decide), hu.2 90 (by decide), hu.2 91 (by decide), hu.1 1472 (by decide)]; exact c2
def RB (k n r : Nat) (σ μ : St) : Prop := GR k n r (gv 1 σ) (mv μ) ∧ RI σ μ ∧ RP σ μ
theorem ag.xi {σ u : St} (h : ag xP xQ σ u) : ag iP iQ σ u := ⟨fun i hi => h.1 i (Or.inr hi), fun c hc => h.2 c (Or.inr (Or.inr hc))⟩
theorem ag.xg {σ u : St} (h : ag xP xQ σ u) : ag gP gQ σ u := ⟨fun i hi => h.1 i (Or.inl hi), fun c hc => h.2 c (Or.inl hc)⟩
theorem ag.ym {σ u : St} (h : ag yP yQ σ u) : ag yP yM σ u := ⟨h.1, fun c hc => h.2 c (by show _ ∨ _; omega)⟩
theorem RB_ag {k n r : Nat} {σ μ u w : St} (hu : ag xP xQ σ u) (hw : ag yP yQ μ w) (h4 : le_ 40 (u.1 352)) (h5 : le_ 40 (w.1 15)) (h : RB k n r σ μ) : RB k n r u w := by
  refine ⟨GR_congr (gv_ag1 hu.xg) (mv_ag hw.ym) h.1, RI_ag hu.xi (hw.2 32 (by decide)) (hw.2 33 (by decide)) h.2.1, h4, h5, ?_⟩
  rw [hu.2 33 (by decide)]; exact h.2.2.2.2
theorem gv_agN {σ u : St} (h : ag xP xN σ u) : ∀ f j : Nat, j < sgx f → f ≠ 6 → f ≠ 7 → f ≠ 8 → gv 1 u f j = gv 1 σ f j := fun f j hj h6 h7 h8 => by
  have := sgx_20 hj
  unfold gv
  by_cases q : f = 0 ∨ f = 10 ∨ f = 15
  · rw [if_pos q, if_pos q]; exact h.1 _ (by show _ ∨ _; omega)
  · rw [if_neg q, if_neg q]; exact congrFun (h.2 _ (by show _ ∨ _; omega)) j
theorem mv_agN {μ w : St} (h : ag yP yN μ w) : ∀ c j : Nat, j < szp c → c ≠ 10 → c ≠ 11 → c ≠ 12 → mv w c j = mv μ c j := fun c j hj h6 h7 h8 => by
  unfold mv valF
  by_cases q : c = 0
  · rw [if_pos q, if_pos q]; exact h.1 _ (isl_y j)
  · rw [if_neg q, if_neg q]
    refine congrFun (h.2 _ ?_) j
    have := szp_c hj
    show _ ∨ _
    omega
/-- the notes have changed -/
theorem RB_n {k n r : Nat} {σ μ u w : St} (hu : ag xP xN σ u) (hw : ag yP yN μ w) (hN' : gNo k (gv 1 u) (mv w)) (h4 : le_ 40 (u.1 352)) (h5 : le_ 40 (w.1 15)) (h : RB k n r σ μ) : RB k n r u w := by
  refine ⟨GR_congrN (gv_agN hu) (mv_agN hw) hN' h.1, RI_ag ⟨fun i hi => hu.1 i (Or.inr hi), fun c hc => hu.2 c (Or.inr (Or.inr hc))⟩ (hw.2 32 (by decide)) (hw.2 33 (by decide)) h.2.1, h4, h5, ?_⟩
  rw [hu.2 33 (by decide)]; exact h.2.2.2.2
/-- the garden has changed, the rest hasn't -/
theorem RB_g {k n r k' n' r' : Nat} {σ μ u w : St} (h : RB k n r σ μ) (hg : GR k' n' r' (gv 1 u) (mv w)) (hu : ag iP iQ σ u) (h2 : w.2.1 32 = μ.2.1 32) (h3 : w.2.1 33 = μ.2.1 33) (h4 : u.1 352 = σ.1 352) (h5 : w.1 15 = μ.1 15) (h6 : u.2.1 33 = σ.2.1 33) : RB k' n' r' u w := by
  refine ⟨hg, RI_ag hu h2 h3 h.2.1, ?_, ?_, ?_⟩
  · rw [h4]; exact h.2.2.1
  · rw [h5]; exact h.2.2.2.1
  · rw [h6]; exact h.2.2.2.2
theorem RB.k {k n r : Nat} {σ μ : St} (h : RB k n r σ μ) : k ≤ 6 ∧ σ.1 16 = nI k ∧ μ.1 3 = nI k := h.1.1
theorem RB.n {k n r : Nat} {σ μ : St} (h : RB k n r σ μ) : n ≤ 20 ∧ σ.1 176 = nI n ∧ μ.1 9 = nI n := ⟨h.1.2.2.2.2.2.2.2.1.1, h.1.2.2.2.2.2.2.2.1.2.1, h.1.2.2.2.2.2.2.2.1.2.2.1⟩
theorem RB.r {k n r : Nat} {σ μ : St} (h : RB k n r σ μ) : r ≤ 6 ∧ σ.1 256 = nI r ∧ μ.1 46 = nI r := ⟨h.1.2.2.2.2.2.2.2.2.1, h.1.2.2.2.2.2.2.2.2.2.1, h.1.2.2.2.2.2.2.2.2.2.2.1⟩
theorem gB_of {k n r : Nat} {a m : Nat → Nat → Int32} (h : GR k n r a m) : gB (a 0 0) (a 4) (a 7) (a 10 0) (a 11) (a 13) (a 14) (a 15 0) := by
  obtain ⟨⟨h1, h2, -⟩, -, -, hW, -, hN, -, ⟨f1, f2, -, f4, f5, f6, -⟩, ⟨d1, d2, -, -⟩⟩ := h
  refine ⟨⟨k, h1, h2⟩, fun j hj => (hW j hj).2, fun j hj => (hN.1 j hj).1, ⟨n, f1, f2⟩, fun j hj => ?_, fun j hj => f5 j hj, fun q hq => ?_, ⟨r, d1, d2⟩⟩
  · obtain ⟨c, d, hc, hd, e, -⟩ := f4 j hj
    exact ⟨28 * c + d, by omega, e⟩
  · rw [f6 q hq]; exact lst_lm _ _ n f1
theorem mB_of {k n r : Nat} {a m : Nat → Nat → Int32} {si : Int32} (h : GR k n r a m) (hs : le_ 40 si) : mB (m 0 0) (m 3) (m 4) (m 0 1) si (m 11) (m 0 2) := by
  obtain ⟨⟨h1, -, h3⟩, -, hM, hW, -, hN, -, ⟨f1, -, f3, -⟩, ⟨d1, -, d3, -⟩⟩ := h
  refine ⟨⟨k, h1, h3⟩, fun j hj => (hM j hj).2.2.2, fun j hj => ?_, ⟨n, f1, f3⟩, hs, fun j hj => (hN.1 j hj).2, ⟨r, d1, d3⟩⟩
  rw [← (hW j hj).1]; exact (hW j hj).2
theorem RB.iX {k n r : Nat} {σ μ : St} (h : RB k n r σ μ) : iX σ := ⟨gB_of h.1, h.2.1.2.2.1, h.2.1.2.2.2, h.2.2.1, h.2.2.2.2⟩
theorem kB_of {k n r t : Nat} {a : Nat → Nat → Int32} {μ : St} (h : GR k n r a (kv t μ)) : kB t (μ.2.1 32) := by
  obtain ⟨⟨h1, -, h3⟩, -, hM, hW, -, hN, -, ⟨f1, -, f3, -⟩, ⟨d1, -, d3, -⟩⟩ := h
  refine ⟨⟨k, h1, h3⟩, ⟨n, f1, f3⟩, ⟨r, d1, d3⟩, fun j hj => ?_, fun j hj => ?_, fun j hj => ?_⟩
  · have q := (hM j hj).2.2.2
    unfold kv at q
    rw [pos_3] at q
    rw [Nat.add_assoc]; exact q
  · have q := (hW j hj).2
    rw [(hW j hj).1] at q
    unfold kv at q
    rw [pos_4] at q
    rw [Nat.add_assoc]; exact q
  · have q := (hN.1 j hj).2
    unfold kv at q
    rw [pos_11] at q
    rw [show t + 65 + 4 * j + 2 = t + (65 + 4 * j + 2) by omega]; exact q
theorem RB.iM {k n r : Nat} {σ μ : St} (h : RB k n r σ μ) : iM μ := by
  refine ⟨mB_of h.1 h.2.2.2.1, fun q => ?_, fun q => ?_⟩
  · obtain ⟨k, n, r, g⟩ := h.2.1.2.1.1 q
    exact kB_of g
  · obtain ⟨k, n, r, g⟩ := h.2.1.2.1.2 q
    exact kB_of g
theorem nI_inj {a b : Nat} {x : Int32} (ha : a < 2 ^ 31) (hb : b < 2 ^ 31) (h1 : x = nI a) (h2 : x = nI b) : a = b := (nI_eq ha hb).mp (h1.symm.trans h2)
