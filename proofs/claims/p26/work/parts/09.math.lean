/-! ===== small sums: truths as ints, ranges, ints as naturals ===== -/
def bI (b : Bool) : Int32 := if b then 1 else 0
theorem bI_f {b : Bool} (h : bI b = 0) : b = false := by
  cases b with
  | false => rfl
  | true => exact absurd h (by decide)
theorem bI_t {b : Bool} (h : ¬ bI b = 0) : b = true := by
  cases b with
  | true => rfl
  | false => exact absurd rfl h
theorem bI_0 {b : Bool} (h : b = false) : nI 0 = bI b := by subst h; rfl
theorem bI_1 {b : Bool} (h : b = true) : nI 1 = bI b := by subst h; rfl
theorem bI_n (b : Bool) : narrow .boolean (.int (bI b)) = .int (bI b) := by cases b <;> rfl
def wB (v a b : Int32) : Bool := decide (a ≤ v ∧ v ≤ b)
theorem wB_lt {v a b : Int32} (h : v < a) : wB v a b = false := decide_eq_false fun q => absurd q.1 (Int32.not_le.mpr h)
theorem wB_gt {v a b : Int32} (h : b < v) : wB v a b = false := decide_eq_false fun q => absurd q.2 (Int32.not_le.mpr h)
theorem wB_in {v a b : Int32} (h1 : ¬ v < a) (h2 : ¬ b < v) : wB v a b = true := decide_eq_true ⟨Int32.not_lt.mp h1, Int32.not_lt.mp h2⟩
theorem wB_nat {x : Int32} {a b : Nat} (ha : a < 2 ^ 31) (hb : b < 2 ^ 31) (h : wB x (nI a) (nI b) = true) : ∃ n : Nat, a ≤ n ∧ n ≤ b ∧ x = nI n := by
  obtain ⟨h1, h2⟩ := of_decide_eq_true h
  have e1 := Int32.le_iff_toInt_le.mp h1
  have e2 := Int32.le_iff_toInt_le.mp h2
  rw [nI_toInt ha] at e1
  rw [nI_toInt hb] at e2
  refine ⟨x.toInt.toNat, by omega, by omega, Int32.toInt_inj.mp ?_⟩
  rw [nI_toInt (by omega)]
  omega
theorem wB_of {n a b : Nat} (hb : b < 2 ^ 31) (h1 : a ≤ n) (h2 : n ≤ b) : wB (nI n) (nI a) (nI b) = true := decide_eq_true ⟨nI_le h1 (by omega), nI_le h2 hb⟩
def wL (v a b : Int64) : Bool := decide (a ≤ v ∧ v ≤ b)
theorem wL_lt {v a b : Int64} (h : v < a) : wL v a b = false := decide_eq_false fun q => absurd q.1 (Int64.not_le.mpr h)
theorem wL_gt {v a b : Int64} (h : b < v) : wL v a b = false := decide_eq_false fun q => absurd q.2 (Int64.not_le.mpr h)
theorem wL_in {v a b : Int64} (h1 : ¬ v < a) (h2 : ¬ b < v) : wL v a b = true := decide_eq_true ⟨Int64.not_lt.mp h1, Int64.not_lt.mp h2⟩
theorem le64 (x y : Int32) : x.toInt64 ≤ y.toInt64 ↔ x ≤ y := by
  rw [Int64.le_iff_toInt_le, Int32.le_iff_toInt_le, Int32.toInt_toInt64, Int32.toInt_toInt64]
theorem wL_wB {x a b : Int32} {A B : Int64} (hA : A = a.toInt64) (hB : B = b.toInt64) : wL x.toInt64 A B = wB x a b := by
  subst hA hB
  simp only [wL, wB, le64]
/-- a can's number: from 0, below the number of cans -/
def cB (c k : Int32) : Bool := decide (0 ≤ c ∧ c < k)
theorem cB_nat {c : Int32} {k : Nat} (hk : k < 2 ^ 31) (h : cB c (nI k) = true) : ∃ n : Nat, n < k ∧ c = nI n := by
  obtain ⟨h1, h2⟩ := of_decide_eq_true h
  have e1 := Int32.le_iff_toInt_le.mp h1
  have e2 := Int32.lt_iff_toInt_lt.mp h2
  have e0 : (0 : Int32).toInt = 0 := by decide
  rw [nI_toInt hk] at e2
  rw [e0] at e1
  refine ⟨c.toInt.toNat, by omega, Int32.toInt_inj.mp ?_⟩
  rw [nI_toInt (by omega)]
  omega
theorem cB_lt {c k : Int32} (h : c < 0) : cB c k = false := decide_eq_false fun q => absurd q.1 (Int32.not_le.mpr h)
theorem cB_ge {c k : Int32} (h : k ≤ c) : cB c k = false := decide_eq_false fun q => absurd h (Int32.not_le.mpr q.2)
theorem cB_in {c k : Int32} (h1 : ¬ c < 0) (h2 : ¬ k ≤ c) : cB c k = true := decide_eq_true ⟨Int32.not_lt.mp h1, Int32.not_le.mp h2⟩
theorem cB_0 (c : Int32) : cB c (nI 0) = false := decide_eq_false fun q => absurd q.1 (Int32.not_le.mpr q.2)
theorem cB_wL {c : Int32} {k : Nat} (hk : k < 2 ^ 31) : wL c.toInt64 0 (nI k - nI 1).toInt64 = cB c (nI k) := by
  have e : (nI k - nI 1).toInt = (k : Int) - 1 := by
    rcases Nat.eq_zero_or_pos k with h | h
    · subst h; decide
    · rw [pk_sub (show 1 ≤ k from h), nI_toInt (by omega)]; omega
  have z : (0 : Int64).toInt = 0 := by decide
  have z2 : (0 : Int32).toInt = 0 := by decide
  unfold wL cB
  rw [decide_eq_decide, Int64.le_iff_toInt_le, Int64.le_iff_toInt_le, Int32.le_iff_toInt_le, Int32.lt_iff_toInt_lt, Int32.toInt_toInt64, Int32.toInt_toInt64, e, z, z2, nI_toInt hk]
  omega
def fillF (f : Nat → Int32) (v : Int32) (n : Nat) : Nat → Int32 := fun j => if j < n then v else f j
theorem fillF_0 (f : Nat → Int32) (v : Int32) : fillF f v 0 = f := by funext j; simp [fillF]
theorem fillF_s (f : Nat → Int32) (v : Int32) (n : Nat) : upd (fillF f v n) n v = fillF f v (n + 1) := by
  funext j
  simp only [fillF, upd]
  by_cases h : j = n
  · subst h; simp
  · by_cases h2 : j < n
    · simp [h, h2, Nat.lt_succ_of_lt h2]
    · have : ¬ j < n + 1 := by omega
      simp [h, h2, this]
theorem swOut {x : Int32} (n : Nat) (hn : n < 2 ^ 31) (h : ∀ j : Nat, j ≤ n → ¬ x = nI j) : x.toInt < 0 ∨ (n : Int) < x.toInt := by
  rcases Classical.em (x.toInt < 0) with h1 | h1
  · exact Or.inl h1
  · rcases Classical.em ((n : Int) < x.toInt) with h2 | h2
    · exact Or.inr h2
    · exact absurd (Int32.toInt_inj.mp (by rw [nI_toInt (by omega)]; omega)) (h x.toInt.toNat (by omega))
theorem swOutN {m : Nat} (n : Nat) (hm : m < 2 ^ 31) (h : n < m) : (nI m).toInt < 0 ∨ (n : Int) < (nI m).toInt := by
  rw [nI_toInt hm]; omega
theorem andL {a b : Bool} (h : (a && b) = true) : a = true := ((Bool.and_eq_true _ _).mp h).1
theorem andR {a b : Bool} (h : (a && b) = true) : b = true := ((Bool.and_eq_true _ _).mp h).2
theorem cB_wB {c : Int32} {k : Nat} (hk : k < 2 ^ 31) : wB c (nI 0) (nI k - nI 1) = cB c (nI k) := by
  rw [← cB_wL hk, wL_wB (a := nI 0) (b := nI k - nI 1) (by decide) rfl]
/-- places a to a + n hold v -/
def fillR (f : Nat → Int32) (a n : Nat) (v : Int32) : Nat → Int32 := fun j => if a ≤ j ∧ j < a + n then v else f j
theorem fillR_0 (f : Nat → Int32) (a : Nat) (v : Int32) : f = fillR f a 0 v := by
  funext j
  unfold fillR
  rw [if_neg (by omega)]
theorem fillR_s {f h : Nat → Int32} {a n : Nat} {v : Int32} (e : h = fillR f a n v) : upd h (a + n) v = fillR f a (n + 1) v := by
  subst e
  funext j
  simp only [fillR, upd]
  by_cases h1 : j = a + n
  · rw [if_pos h1, if_pos (by omega)]
  · rw [if_neg h1]
    by_cases h2 : a ≤ j ∧ j < a + n
    · rw [if_pos h2, if_pos (by omega)]
    · rw [if_neg h2, if_neg (by omega)]
