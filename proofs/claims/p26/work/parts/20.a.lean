def mdM (a i j : Int32) : Prop := ∃ x y z : Nat, ((x = 0 ∧ y ≤ 5 ∧ z = 0) ∨ (x = 1 ∧ 1 ≤ y ∧ y ≤ z ∧ z ≤ 6) ∨ (x = 2 ∧ y < z ∧ z ≤ 6)) ∧ a = nI x ∧ i = nI y ∧ j = nI z
def mM (f g h : Nat → Int32) : Prop := ∀ n : Nat, n < 38 → mdM (f n) (g n) (h n)
theorem mM_upd {f g h : Nat → Int32} {n : Nat} {a i j : Int32} (H : mM f g h) (Hn : mdM a i j) : mM (upd f n a) (upd g n i) (upd h n j) := fun m hm => by
  by_cases e : m = n
  · rw [e, pk_us, pk_us, pk_us]; exact Hn
  · rw [pk_un e, pk_un e, pk_un e]; exact H m hm
theorem lnz : ∀ a b : Fin 29, 1 ≤ a.val → 1 ≤ b.val → ¬ (nI a.val).toInt64 * (nI b.val).toInt64 = 0 := by decide +kernel
theorem lnzN {a b : Nat} (h1 : 1 ≤ a) (h2 : a ≤ 28) (h3 : 1 ≤ b) (h4 : b ≤ 28) : ¬ (nI a).toInt64 * (nI b).toInt64 = 0 := lnz ⟨a, by omega⟩ ⟨b, by omega⟩ h1 h3
theorem lm_dec {b m : Nat} (h : m ≤ b) : lm_ b (nI m + (-1)) := by
  cases m with
  | zero => exact Or.inl (by decide)
  | succ m => exact Or.inr ⟨m, by omega, pk_m1 m⟩
theorem lm_nat {b m : Nat} (h : lm_ b (nI m)) (hm : m < 2 ^ 31) (hb : b < 2 ^ 31) : m ≤ b := by
  rcases h with h | ⟨q, h1, h2⟩
  · exact absurd h (nI_nm1 hm)
  · have := (nI_eq hm (by omega)).mp h2; omega
def ms (y : Int32) : Nat := (y.toInt + 1).toNat
theorem ms_nI {m : Nat} (h : m < 2 ^ 31) : ms (nI m) = m + 1 := by
  unfold ms; rw [nI_toInt h]; omega
theorem ms_d {m : Nat} (h : m < 2 ^ 31) : ms (nI m + (-1)) = m := by
  cases m with
  | zero => decide
  | succ m => rw [pk_m1, ms_nI (by omega)]
def p5 : Nat → Int64
  | 0 => 1
  | n + 1 => p5 n * 5
theorem p5_ne : ∀ n : Fin 27, ¬ p5 n.val = 0 := by decide +kernel
theorem lrm (x y : Int64) : x - (x / y) * y = x % y := by
  apply Int64.toInt_inj.mp
  have h1 := Int64.le_toInt (x % y)
  have h2 := Int64.toInt_lt (x % y)
  rw [Int64.toInt_sub, Int64.toInt_mul, Int64.toInt_div, Int.bmod_mul_bmod, Int.sub_bmod_bmod, Int.mul_comm (x.toInt.tdiv y.toInt), ← Int.tmod_def, ← Int64.toInt_mod]
  exact Int.bmod_eq_of_le_mul_two (by omega) (by omega)
theorem lrem_lt {x y : Int64} (h : ¬ y = 0) : (x - x / y * y).toInt.natAbs < y.toInt.natAbs := by
  rw [lrm, Int64.toInt_mod]
  have hy : ¬ y.toInt = 0 := fun q => h (Int64.toInt_inj.mp q)
  rcases Int.lt_or_gt_of_ne hy with q | q
  · have h1 := Int.tmod_lt_of_pos x.toInt (show 0 < -y.toInt by omega)
    have h2 := Int.lt_tmod_of_pos x.toInt (show 0 < -y.toInt by omega)
    rw [Int.tmod_neg] at h1 h2
    omega
  · have h1 := Int.tmod_lt_of_pos x.toInt (show 0 < y.toInt by omega)
    have h2 := Int.lt_tmod_of_pos x.toInt (show 0 < y.toInt by omega)
    omega
def Tp (i n : Nat) : Prop := (i = 1 ∧ n = 6) ∨ (i = 2 ∧ n = 12) ∨ (i = 3 ∧ n = 17) ∨ (i = 4 ∧ n = 21) ∨ (i = 5 ∧ n = 24) ∨ (i = 6 ∧ n = 26) ∨ (i = 7 ∧ n = 27)
theorem Tp_le {i n : Nat} (h : Tp i n) : 1 ≤ i ∧ i ≤ 7 ∧ n + 7 ≤ 27 + i := by unfold Tp at h; omega
theorem Tp_1 : Tp 1 6 := Or.inl ⟨rfl, rfl⟩
theorem Tp_s {i n m : Nat} (h : Tp i n) (hi : i < 7) (hm : m = n + (7 - i)) : Tp (i + 1) m := by
  rcases h with ⟨rfl, rfl⟩ | ⟨rfl, rfl⟩ | ⟨rfl, rfl⟩ | ⟨rfl, rfl⟩ | ⟨rfl, rfl⟩ | ⟨rfl, rfl⟩ | ⟨rfl, rfl⟩
  · subst hm; exact Or.inr (Or.inl ⟨rfl, rfl⟩)
  · subst hm; exact Or.inr (Or.inr (Or.inl ⟨rfl, rfl⟩))
  · subst hm; exact Or.inr (Or.inr (Or.inr (Or.inl ⟨rfl, rfl⟩)))
  · subst hm; exact Or.inr (Or.inr (Or.inr (Or.inr (Or.inl ⟨rfl, rfl⟩))))
  · subst hm; exact Or.inr (Or.inr (Or.inr (Or.inr (Or.inr (Or.inl ⟨rfl, rfl⟩)))))
  · subst hm; exact Or.inr (Or.inr (Or.inr (Or.inr (Or.inr (Or.inr (⟨rfl, rfl⟩))))))
  · exact absurd hi (by decide)
