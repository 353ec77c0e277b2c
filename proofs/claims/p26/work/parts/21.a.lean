theorem j_topLe {X : jC} {ce sl : Nat} {w : va_W} {lv : List (Nat × Value)} {pc : Nat} {st : List Value} {x : Int64} (k : ∀ v : Int64, v = x → J X ce sl w lv pc (.long v :: st)) : J X ce sl w lv pc (.long x :: st) := k x rfl
theorem j_teq {X : jC} {ce sl : Nat} {w : va_W} {lv : List (Nat × Value)} {pc : Nat} {st : List Value} {x y : Int32} (h : x = y) (k : J X ce sl w lv pc (.int y :: st)) : J X ce sl w lv pc (.int x :: st) := h ▸ k
theorem hp_lt {q i : Nat} {pa : Int32} {pl : Int64} (hp : q < 8 ∨ (i ≤ 4 ∧ pa = -6) ∨ (∃ p : Nat, p ≤ 24 ∧ pa = nI p ∧ ¬ pl = 0)) (h : q < 8 ∨ i + 1 ≤ 4 ∨ 5 ≤ i) : q < 8 ∨ (i + 1 ≤ 4 ∧ pa = -6) ∨ (∃ p : Nat, p ≤ 24 ∧ pa = nI p ∧ ¬ pl = 0) := by
  rcases hp with hp | hp | hp
  · exact Or.inl hp
  · rcases h with h | h | h
    · exact Or.inl h
    · exact Or.inr (Or.inl ⟨h, hp.2⟩)
    · exact absurd hp.1 (by omega)
  · exact Or.inr (Or.inr hp)
theorem hp_ge {q i : Nat} {pa : Int32} {pl : Int64} (hp : q < 8 ∨ (i ≤ 4 ∧ pa = -6) ∨ (∃ p : Nat, p ≤ 24 ∧ pa = nI p ∧ ¬ pl = 0)) (h : ¬ pa < 0) : q < 8 ∨ (i + 1 ≤ 4 ∧ pa = -6) ∨ (∃ p : Nat, p ≤ 24 ∧ pa = nI p ∧ ¬ pl = 0) := by
  rcases hp with hp | hp | hp
  · exact Or.inl hp
  · exact absurd (by rw [hp.2]; decide) h
  · exact Or.inr (Or.inr hp)
