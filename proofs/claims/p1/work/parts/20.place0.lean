/-! ===== sums over a land, the best new place ===== -/
def psum (f : Nat → Nat) : Nat → Nat
  | 0 => 0
  | n + 1 => psum f n + f n
theorem psum_le {f : Nat → Nat} {P : Nat} (h : ∀ m, m < P → f m ≤ 40) : ∀ n, n ≤ P → psum f n ≤ 40 * n
  | 0, _ => Nat.le_refl 0
  | n + 1, hn => by
    have h1 := psum_le h n (by omega)
    have h2 := h n (by omega)
    simp only [psum]
    omega
theorem psum_add (f : Nat → Nat) (n : Nat) : ∀ d, psum f n ≤ psum f (n + d)
  | 0 => Nat.le_refl _
  | d + 1 => Nat.le_trans (psum_add f n d) (Nat.le_add_right _ _)
theorem psum_mono {f : Nat → Nat} {n P : Nat} (h : n ≤ P) : psum f n ≤ psum f P := by
  have := psum_add f n (P - n)
  rwa [show n + (P - n) = P by omega] at this
def fr (u v x y : Nat) : Nat := (u - x + (x - u)) + (v - y + (y - v))
theorem fr_le {u v x y : Nat} (hu : u ≤ 20) (hv : v ≤ 20) (hx : x ≤ 20) (hy : y ≤ 20) : fr u v x y ≤ 40 := by unfold fr; omega
def pf (i k h u v m : Nat) : Nat := fr u v (i + m / h) (k + m % h)
def sc (i k h P t : Nat) : Nat := psum (pf i k h (t / 21) (t % 21)) P
def bm (s : Nat → Nat) : Nat → Nat × Nat
  | 0 => (0, 18522)
  | t + 1 => if s t < (bm s t).2 then (100 * (t / 21) + t % 21, s t) else bm s t
theorem bm_le (s : Nat → Nat) : ∀ t, (bm s t).2 ≤ 18522
  | 0 => Nat.le_refl _
  | t + 1 => by
    have h := bm_le s t
    simp only [bm]
    by_cases q : s t < (bm s t).2
    · rw [if_pos q]; exact Nat.le_of_lt (Nat.lt_of_lt_of_le q h)
    · rw [if_neg q]; exact h
theorem bm_lt (s : Nat → Nat) : ∀ t, t ≤ 441 → (bm s t).1 ≤ 2020
  | 0, _ => Nat.zero_le _
  | t + 1, ht => by
    have h := bm_lt s t (by omega)
    simp only [bm]
    by_cases q : s t < (bm s t).2
    · rw [if_pos q]; show 100 * (t / 21) + t % 21 ≤ 2020; omega
    · rw [if_neg q]; exact h
theorem bm_t {s : Nat → Nat} {t : Nat} (h : s t < (bm s t).2) : bm s (t + 1) = (100 * (t / 21) + t % 21, s t) := by simp only [bm, if_pos h]
theorem bm_f {s : Nat → Nat} {t : Nat} (h : ¬ s t < (bm s t).2) : bm s (t + 1) = bm s t := by simp only [bm, if_neg h]
theorem bm_1 {s : Nat → Nat} (h : s 0 ≤ 17640) : bm s 1 = (0, s 0) := bm_t (s := s) (t := 0) (Nat.lt_of_le_of_lt h (show 17640 < 18522 by decide))
theorem divlt {m h W : Nat} (hm : m < W * h) : m / h < W := Nat.lt_of_not_le (fun q => absurd (Nat.le_trans (Nat.mul_le_mul_right h q) (Nat.div_mul_le_self m h)) (Nat.not_le.mpr hm))
theorem px_le {i j k l m : Nat} (hj : j ≤ 20) (hm : m < (j + 1 - i) * (l + 1 - k)) : i + m / (l + 1 - k) ≤ 20 := by
  have := divlt hm
  generalize m / (l + 1 - k) = z at this ⊢
  omega
theorem py_le {k l m : Nat} (hl : l ≤ 20) (hkl : k ≤ l) : k + m % (l + 1 - k) ≤ 20 := by
  have := Nat.mod_lt m (show l + 1 - k > 0 by omega)
  generalize m % (l + 1 - k) = z at this ⊢
  omega
theorem pf_le {i j k l u v m : Nat} (hu : u ≤ 20) (hv : v ≤ 20) (hj : j ≤ 20) (hl : l ≤ 20) (hkl : k ≤ l) (hm : m < (j + 1 - i) * (l + 1 - k)) : pf i k (l + 1 - k) u v m ≤ 40 := fr_le hu hv (px_le hj hm) (py_le hl hkl)
theorem sc_le {i j k l t : Nat} (ht : t < 441) (hj : j ≤ 20) (hl : l ≤ 20) (hkl : k ≤ l) : sc i k (l + 1 - k) ((j + 1 - i) * (l + 1 - k)) t ≤ 17640 := by
  have h1 := psum_le (f := pf i k (l + 1 - k) (t / 21) (t % 21)) (P := (j + 1 - i) * (l + 1 - k)) (fun m hm => pf_le (by omega) (by omega) hj hl hkl hm) _ (Nat.le_refl _)
  have h2 := rect_b (i := i) (k := k) hj hl
  unfold sc
  omega
theorem gdiv {a b h : Nat} (hb : b < h) : (a * h + b) / h = a := by
  rw [Nat.add_comm, Nat.add_mul_div_right _ _ (by omega), Nat.div_eq_of_lt hb, Nat.zero_add]
theorem gmod {a b h : Nat} (hb : b < h) : (a * h + b) % h = b := by
  rw [Nat.add_comm, Nat.add_mul_mod_self_right, Nat.mod_eq_of_lt hb]
theorem pf_at {i k h u v x y : Nat} (hx : i ≤ x) (hy : k ≤ y) (hb : y - k < h) : pf i k h u v ((x - i) * h + (y - k)) = fr u v x y := by
  unfold pf
  rw [gdiv hb, gmod hb, show i + (x - i) = x by omega, show k + (y - k) = y by omega]
theorem sub0 (a b : Int32) : 0 - (a - b) = b - a := by grind
theorem abN {u x : Nat} (hu : u < 2 ^ 30) (hx : x < 2 ^ 30) : ab (nI u - nI x) = nI (u - x + (x - u)) := by
  unfold ab
  rcases Nat.lt_or_ge u x with h | h
  · rw [if_neg (Int32.not_le.mpr (pk_sneg hx h)), sub0, pk_sub (Nat.le_of_lt h), show u - x + (x - u) = x - u by omega]
  · rw [pk_sub h, if_pos (nI_pos' (by omega)), show u - x + (x - u) = u - x by omega]
theorem farN {u v x y : Nat} (hu : u ≤ 20) (hv : v ≤ 20) (hx : x ≤ 20) (hy : y ≤ 20) : ab (nI u - nI x) + ab (nI v - nI y) = nI (fr u v x y) := by
  rw [abN (by omega) (by omega), abN (by omega) (by omega), nI_add]
  rfl
theorem offN {a b : Nat} (ha : a < 2 ^ 31) (hb : b < 2 ^ 31) : (if nI a < nI b then nI b - nI a else nI a - nI b) = nI (a - b + (b - a)) := by
  rcases Nat.lt_or_ge a b with h | h
  · rw [if_pos (nI_lt h hb), pk_sub (Nat.le_of_lt h), show a - b + (b - a) = b - a by omega]
  · rw [if_neg (nI_nlt h ha), pk_sub h, show a - b + (b - a) = a - b by omega]
theorem minN {a b : Nat} (ha : a < 2 ^ 31) (hb : b < 2 ^ 31) (h : a < b) : (if nI a < nI b then nI a else nI b) = nI a := if_pos (nI_lt h hb)
