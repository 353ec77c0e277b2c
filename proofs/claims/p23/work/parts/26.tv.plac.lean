/-! sums over a land, the best new place -/
def psum (f : Nat → Nat) : Nat → Nat
  | 0 => 0
  | n + 1 => psum f n + f n
theorem psum_le {f : Nat → Nat} {P : Nat} (h : ∀ m, m < P → f m ≤ 40) : ∀ n, n ≤ P → psum f n ≤ 40 * n
  | 0, _ => Nat.le_refl 0
  | n + 1, hn => by
    have h1 := psum_le h n (by omega)
    have h2 := h n (by omega)
    simp only [psum]
    omega
theorem psum_add (f : Nat → Nat) (n : Nat) : ∀ d, psum f n ≤ psum f (n + d)
  | 0 => Nat.le_refl _
  | d + 1 => Nat.le_trans (psum_add f n d) (Nat.le_add_right _ _)
theorem psum_mono {f : Nat → Nat} {n P : Nat} (h : n ≤ P) : psum f n ≤ psum f P := by
  have := psum_add f n (P - n)
  rwa [show n + (P - n) = P by omega] at this
def nrV (X Y : Nat → Nat) (x y : Nat) : Nat → Nat
  | 0 => 99
  | c + 1 => min (nrV X Y x y c) (frN x y (X c) (Y c))
theorem nr_le {X Y : Nat → Nat} {x y : Nat} : ∀ c : Nat, nrV X Y x y c ≤ 99
  | 0 => Nat.le_refl _
  | c + 1 => Nat.le_trans (Nat.min_le_left _ _) (nr_le c)
def pg (F : Nat → Nat → Nat) (i k h u v m : Nat) : Nat := min (F (i + m / h) (k + m % h)) (frN u v (i + m / h) (k + m % h))
def sg (F : Nat → Nat → Nat) (i k h P t : Nat) : Nat := psum (pg F i k h (t / 21) (t % 21)) P
def bm (s : Nat → Nat) : Nat → Nat × Nat
  | 0 => (0, 18522)
  | t + 1 => if s t < (bm s t).2 then (100 * (t / 21) + t % 21, s t) else bm s t
theorem bm_le (s : Nat → Nat) : ∀ t, (bm s t).2 ≤ 18522
  | 0 => Nat.le_refl _
  | t + 1 => by
    have h := bm_le s t
    simp only [bm]
    by_cases q : s t < (bm s t).2
    · rw [if_pos q]; exact Nat.le_of_lt (Nat.lt_of_lt_of_le q h)
    · rw [if_neg q]; exact h
theorem bm_lt (s : Nat → Nat) : ∀ t, t ≤ 441 → (bm s t).1 ≤ 2020
  | 0, _ => Nat.zero_le _
  | t + 1, ht => by
    have h := bm_lt s t (by omega)
    simp only [bm]
    by_cases q : s t < (bm s t).2
    · rw [if_pos q]; show 100 * (t / 21) + t % 21 ≤ 2020; omega
    · rw [if_neg q]; exact h
theorem bm_t {s : Nat → Nat} {t : Nat} (h : s t < (bm s t).2) : bm s (t + 1) = (100 * (t / 21) + t % 21, s t) := by simp only [bm, if_pos h]
theorem bm_f {s : Nat → Nat} {t : Nat} (h : ¬ s t < (bm s t).2) : bm s (t + 1) = bm s t := by simp only [bm, if_neg h]
theorem bm_1 {s : Nat → Nat} (h : s 0 ≤ 17640) : bm s 1 = (0, s 0) := bm_t (s := s) (t := 0) (Nat.lt_of_le_of_lt h (show 17640 < 18522 by decide))
theorem divlt {m h W : Nat} (hm : m < W * h) : m / h < W := Nat.lt_of_not_le (fun q => absurd (Nat.le_trans (Nat.mul_le_mul_right h q) (Nat.div_mul_le_self m h)) (Nat.not_le.mpr hm))
theorem px_le {i j k l m : Nat} (hj : j ≤ 20) (hm : m < (j + 1 - i) * (l + 1 - k)) : i + m / (l + 1 - k) ≤ 20 := by
  have := divlt hm
  generalize m / (l + 1 - k) = z at this ⊢
  omega
theorem py_le {k l m : Nat} (hl : l ≤ 20) (hkl : k ≤ l) : k + m % (l + 1 - k) ≤ 20 := by
  have := Nat.mod_lt m (show l + 1 - k > 0 by omega)
  generalize m % (l + 1 - k) = z at this ⊢
  omega
theorem pg_le {F : Nat → Nat → Nat} {i j k l u v m : Nat} (hu : u ≤ 20) (hv : v ≤ 20) (hj : j ≤ 20) (hl : l ≤ 20) (hkl : k ≤ l) (hm : m < (j + 1 - i) * (l + 1 - k)) : pg F i k (l + 1 - k) u v m ≤ 40 := Nat.le_trans (Nat.min_le_right _ _) (frN_le hu hv (px_le hj hm) (py_le hl hkl))
theorem gdiv {a b h : Nat} (hb : b < h) : (a * h + b) / h = a := by
  rw [Nat.add_comm, Nat.add_mul_div_right _ _ (by omega), Nat.div_eq_of_lt hb, Nat.zero_add]
theorem gmod {a b h : Nat} (hb : b < h) : (a * h + b) % h = b := by
  rw [Nat.add_comm, Nat.add_mul_mod_self_right, Nat.mod_eq_of_lt hb]
theorem pg_at {F : Nat → Nat → Nat} {i k h u v x y : Nat} (hx : i ≤ x) (hy : k ≤ y) (hb : y - k < h) : pg F i k h u v ((x - i) * h + (y - k)) = min (F x y) (frN u v x y) := by
  unfold pg
  rw [gdiv hb, gmod hb, show i + (x - i) = x by omega, show k + (y - k) = y by omega]
theorem rect_s {x i w p : Nat} (hx : i ≤ x) (hp : p = (x - i) * w) : p + w = (x + 1 - i) * w := by
  rw [show x + 1 - i = (x - i) + 1 by omega, Nat.succ_mul, hp]
theorem rect_b {i j k l : Nat} (h1 : j ≤ 20) (h2 : l ≤ 20) : (j + 1 - i) * (l + 1 - k) ≤ 441 := Nat.le_trans (Nat.mul_le_mul (show j + 1 - i ≤ 21 by omega) (show l + 1 - k ≤ 21 by omega)) (by decide)
theorem rect_m {x i j k l : Nat} (h0 : x ≤ j + 1) (h1 : j ≤ 20) (h2 : l ≤ 20) : (x - i) * (l + 1 - k) ≤ 441 := Nat.le_trans (Nat.mul_le_mul (show x - i ≤ 21 by omega) (show l + 1 - k ≤ 21 by omega)) (by decide)
/-- the class's places, up to n -/
def GN (F : Nat → Nat → Nat) (i k h : Nat) (f1 f2 f3 : Nat → Int32) (n : Nat) : Prop := ∀ m, m < n → f1 m = nI (i + m / h) ∧ f2 m = nI (k + m % h) ∧ f3 m = nI (min 42 (F (i + m / h) (k + m % h)))
theorem GN_0 {F : Nat → Nat → Nat} {i k h : Nat} {f1 f2 f3 : Nat → Int32} : GN F i k h f1 f2 f3 0 := fun m hm => absurd hm (by omega)
theorem GN_s {F : Nat → Nat → Nat} {f1 f2 f3 : Nat → Int32} {i k h x y n : Nat} (hx : i ≤ x) (hy : k ≤ y) (hb : y - k < h) (hn : n = (x - i) * h + (y - k)) (hF : GN F i k h f1 f2 f3 n) : GN F i k h (upd f1 n (nI x)) (upd f2 n (nI y)) (upd f3 n (nI (min 42 (F x y)))) (n + 1) := by
  intro m hm
  by_cases e : m = n
  · rw [e, pk_us, pk_us, pk_us, hn, gdiv hb, gmod hb, show i + (x - i) = x by omega, show k + (y - k) = y by omega]
    exact ⟨rfl, rfl, rfl⟩
  · rw [pk_un e, pk_un e, pk_un e]
    exact hF m (by omega)
theorem sg_at {F : Nat → Nat → Nat} {i k h P x y : Nat} (hy : y < 21) : sg F i k h P (21 * x + y) = psum (pg F i k h x y) P := by
  unfold sg
  rw [show (21 * x + y) / 21 = x by omega, show (21 * x + y) % 21 = y by omega]
theorem bstep_t {F : Nat → Nat → Nat} {i k h P x y b s t : Nat} (hy : y < 21) (hbm : (b, s) = bm (sg F i k h P) (21 * x + y)) (h2 : t = psum (pg F i k h x y) P ∨ (s ≤ t ∧ s ≤ psum (pg F i k h x y) P)) (hlt : t < s) : (100 * x + y, t) = bm (sg F i k h P) (21 * x + (y + 1)) := by
  have ht : t = psum (pg F i k h x y) P := h2.elim id (fun q => absurd q.1 (by omega))
  have hs : (bm (sg F i k h P) (21 * x + y)).2 = s := by rw [← hbm]
  have e := bm_t (s := sg F i k h P) (t := 21 * x + y) (by rw [sg_at hy, hs]; omega)
  rw [show 21 * x + (y + 1) = 21 * x + y + 1 by omega, e, sg_at hy, ht, show (21 * x + y) / 21 = x by omega, show (21 * x + y) % 21 = y by omega]
theorem bstep_f {F : Nat → Nat → Nat} {i k h P x y b s t : Nat} (hy : y < 21) (hbm : (b, s) = bm (sg F i k h P) (21 * x + y)) (h2 : t = psum (pg F i k h x y) P ∨ (s ≤ t ∧ s ≤ psum (pg F i k h x y) P)) (hge : s ≤ t) : (b, s) = bm (sg F i k h P) (21 * x + (y + 1)) := by
  have hs : (bm (sg F i k h P) (21 * x + y)).2 = s := by rw [← hbm]
  have e := bm_f (s := sg F i k h P) (t := 21 * x + y) (by rw [sg_at hy, hs]; rcases h2 with q | q <;> omega)
  rw [show 21 * x + (y + 1) = 21 * x + y + 1 by omega, e, hbm]
def bi (s : Nat → Nat) (t : Nat) (be le : Int32) : Prop := (t = 0 ∧ be = -6 ∧ le = nI 0) ∨ (0 < t ∧ be = nI (bm s t).1 ∧ le = nI (bm s t).2)
theorem bi_A {F : Nat → Nat → Nat} {i k h P u v t : Nat} {be le : Int32} (hv : v < 21) (hu : u < 21) (hB : bi (sg F i k h P) (21 * u + v) be le) (ht : t = psum (pg F i k h u v) P) (ht2 : t ≤ 17640) (hn : be < 0) : bi (sg F i k h P) (21 * u + (v + 1)) (nI (100 * u + v)) (nI t) := by
  rcases hB with ⟨h0, -, -⟩ | ⟨h0, h1, -⟩
  · have hu0 : u = 0 := by omega
    have hv0 : v = 0 := by omega
    subst hu0 hv0
    have e0 : sg F i k h P 0 = t := by rw [ht]; exact sg_at (x := 0) (y := 0) (by decide)
    have e := bm_1 (s := sg F i k h P) (by rw [e0]; exact ht2)
    refine Or.inr ⟨by decide, ?_, ?_⟩
    · show nI _ = nI (bm (sg F i k h P) 1).1
      rw [e]
    · show nI t = nI (bm (sg F i k h P) 1).2
      rw [e, e0]
  · rw [h1] at hn
    exact absurd hn (nI_pos (by have := bm_lt (sg F i k h P) (21 * u + v) (by omega); omega))
theorem bi_B {F : Nat → Nat → Nat} {i k h P u v t : Nat} {be le : Int32} (hv : v < 21) (hu : u < 21) (hB : bi (sg F i k h P) (21 * u + v) be le) (ht : t = psum (pg F i k h u v) P) (ht2 : t ≤ 17640) (hn : ¬ be < 0) (hl : ¬ le ≤ nI t) : bi (sg F i k h P) (21 * u + (v + 1)) (nI (100 * u + v)) (nI t) := by
  rcases hB with ⟨-, h0, -⟩ | ⟨h0, -, h1⟩
  · subst h0
    exact absurd (by decide) hn
  · subst h1
    have hm := bm_le (sg F i k h P) (21 * u + v)
    have hlt : t < (bm (sg F i k h P) (21 * u + v)).2 := Nat.not_le.mp (fun q => hl ((nI_leI (by omega) (by omega)).mpr q))
    have e := bm_t (s := sg F i k h P) (t := 21 * u + v) (by rw [sg_at hv, ← ht]; exact hlt)
    refine Or.inr ⟨by omega, ?_, ?_⟩
    · rw [show 21 * u + (v + 1) = 21 * u + v + 1 by omega, e, show (21 * u + v) / 21 = u by omega, show (21 * u + v) % 21 = v by omega]
    · rw [show 21 * u + (v + 1) = 21 * u + v + 1 by omega, e, sg_at hv, ht]
theorem bi_C {F : Nat → Nat → Nat} {i k h P u v t : Nat} {be le : Int32} (hv : v < 21) (hu : u < 21) (hB : bi (sg F i k h P) (21 * u + v) be le) (ht : t = psum (pg F i k h u v) P) (ht2 : t ≤ 17640) (hn : ¬ be < 0) (hl : le ≤ nI t) : bi (sg F i k h P) (21 * u + (v + 1)) be le := by
  rcases hB with ⟨-, h0, -⟩ | ⟨h0, h2, h1⟩
  · subst h0
    exact absurd (by decide) hn
  · have hm := bm_le (sg F i k h P) (21 * u + v)
    rw [h1] at hl
    have hge : (bm (sg F i k h P) (21 * u + v)).2 ≤ t := (nI_leI (by omega) (by omega)).mp hl
    have e := bm_f (s := sg F i k h P) (t := 21 * u + v) (by rw [sg_at hv, ← ht]; omega)
    refine Or.inr ⟨by omega, ?_, ?_⟩
    · rw [show 21 * u + (v + 1) = 21 * u + v + 1 by omega, e, h2]
    · rw [show 21 * u + (v + 1) = 21 * u + v + 1 by omega, e, h1]
theorem bi_end {s : Nat → Nat} {t : Nat} {be le : Int32} (hB : bi s t be le) (ht : t = 441) : be = nI (bm s 441).1 := by
  subst ht
  rcases hB with ⟨h, -, -⟩ | ⟨-, h, -⟩
  · exact absurd h (by decide)
  · exact h
theorem mn2 {a b : Nat} (ha : a < 2 ^ 31) (hb : b < 2 ^ 31) : (if nI b < nI a then nI b else nI a) = nI (min a b) := by
  by_cases q : b < a
  · rw [if_pos ((nI_ltI (by omega) (by omega)).mpr q), show min a b = b by omega]
  · rw [if_neg (fun z => q ((nI_ltI (by omega) (by omega)).mp z)), show min a b = a by omega]
theorem nr_s {X Y : Nat → Nat} {x y c : Nat} : min (min 42 (nrV X Y x y c)) (frN x y (X c) (Y c)) = min 42 (nrV X Y x y (c + 1)) := by
  show _ = min 42 (min (nrV X Y x y c) (frN x y (X c) (Y c)))
  omega
theorem pg_s {F : Nat → Nat → Nat} {i k h u v n t : Nat} (hf : frN u v (i + n / h) (k + n % h) ≤ 40) (ht : t = psum (pg F i k h u v) n) : t + min (min 42 (F (i + n / h) (k + n % h))) (frN u v (i + n / h) (k + n % h)) = psum (pg F i k h u v) (n + 1) := by
  show _ = psum (pg F i k h u v) n + min (F (i + n / h) (k + n % h)) (frN u v (i + n / h) (k + n % h))
  rw [← ht]
  omega
set_option maxRecDepth 100000 in
set_option maxHeartbeats 4000000 in
theorem e_nearestCan (g kk : Nat → Nat) (σ : St) (k : Nat) (hk : σ.1 16 = nI k) (hk6 : k ≤ 6) (hI : iX σ) (G : GD) (hX : HX G k σ) (x : Nat) (hx0 : x ≤ 20) (y : Nat) (hy0 : y ≤ 20) : jM (S := St) yX4_nearestCan cX4_nearestCan 5 (some .int) { frames := 2, cells := 0, slots := 0, locals := 44 } kk (cX g kk σ) [.ref (g 42), .int (nI x), .int (nI y)] (cX g kk) (rI (fun (r : Int32) (u : St) => u = σ ∧ (r = nI (min 42 (nrV (zX G) (zY G) x y k))))) := by
  refine j_entry [(0, .ref (g 42)), (1, .int (nI x)), (2, .int (nI y))] (by decide) (Nat.le_of_ble_eq_true rfl) rfl ?_
  intro X C E HI
  refine j_bipush C (nI 42) (by decide) dX4_nearestCan_0 ?_
  refine j_istore_n C [(3, .int (nI 42)), (0, .ref (g 42)), (1, .int (nI x)), (2, .int (nI y))] rfl (by decide) rfl dX4_nearestCan_2 ?_
  refine j_iconst C (nI 0) (by decide) dX4_nearestCan_3 ?_
  refine j_istore C [(4, .int (nI 0)), (3, .int (nI 42)), (0, .ref (g 42)), (1, .int (nI x)), (2, .int (nI y))] (by decide) rfl dX4_nearestCan_4 ?_
  have L6 : ∀ (n6 : Nat) (c : Nat) (n9 : Nat) (i6_0 : c ≤ k) (i6_1 : n9 ≤ 42) (hn9 : n9 = min 42 (nrV (zX G) (zY G) x y c)) (hm6 : k - c < n6), J X 0 0 (cX g kk σ) [(4, .int (nI c)), (3, .int (nI n9)), (0, .ref (g 42)), (1, .int (nI x)), (2, .int (nI y))] 6 [] := by
    intro n6
    induction n6 with
    | zero => intro c n9 i6_0 i6_1 hn9 hm; exact absurd hm (Nat.not_lt_zero _)
    | succ n6 ih6 =>
      intro c n9 i6_0 i6_1 hn9 hm6
      refine j_iload C 0 rfl dX4_nearestCan_6 ?_
      refine j_aload_n C 2 rfl dX4_nearestCan_8 ?_
      refine gX_42_1 C tb_313 dX4_nearestCan_9 ?_
      refine gX_1_0 C tb_98 (nI k) hk dX4_nearestCan_12 ?_
      refine j_icmp_geN C 54 (by decide) (by omega) (by omega) dX4_nearestCan_15 (fun c1 => ?_) (fun c1 => ?_)
      · refine j_iload_n C 1 rfl dX4_nearestCan_54 ?_
        exact j_iret C E (σ) ⟨_, rfl, ⟨rfl, (by rw [hn9, show c = k by omega])⟩⟩ rfl dX4_nearestCan_55
      · refine j_iload_n C 1 rfl dX4_nearestCan_18 ?_
        refine j_iload_n C 3 rfl dX4_nearestCan_19 ?_
        refine j_iload_n C 4 rfl dX4_nearestCan_20 ?_
        refine j_aload_n C 2 rfl dX4_nearestCan_21 ?_
        refine gX_42_1 C tb_313 dX4_nearestCan_22 ?_
        refine gX_1_1 C tb_103 dX4_nearestCan_25 ?_
        refine j_iload C 0 rfl dX4_nearestCan_28 ?_
        refine rX_2 C c rfl (by omega) (nI (zX G c)) (hX.P (by omega)).1 dX4_nearestCan_30 ?_
        refine j_aload_n C 2 rfl dX4_nearestCan_31 ?_
        refine gX_42_1 C tb_313 dX4_nearestCan_32 ?_
        refine gX_1_2 C tb_107 dX4_nearestCan_35 ?_
        refine j_iload C 0 rfl dX4_nearestCan_38 ?_
        refine rX_3 C c rfl (by omega) (nI (zY G c)) (hX.P (by omega)).2 dX4_nearestCan_40 ?_
        refine j_SN01 C (c_far (nI x) (nI y) (nI (zX G c)) (nI (zY G c))) kyX10_far (fun _ h => h.2.2.2.2.2.1) tb_587 rfl (Nat.le_of_ble_eq_true rfl) ⟨by decide, by decide⟩ ⟨by decide, by decide⟩ dX4_nearestCan_41 rfl ?_
        have hXY := hX.W.XY (show c < k by omega)
        have hfr := frN_le hx0 hy0 hXY.1 hXY.2
        rw [far_n hx0 hy0 hXY.1 hXY.2]
        refine j_mmin C tb_726 tb_727 tb_15 tb_728 (by decide) (Nat.le_of_ble_eq_true rfl) (by decide) (by decide) dX4_nearestCan_44 ?_
        rw [mn2 (by omega) (by omega)]
        refine j_istore_n C [(3, .int (nI (min n9 (frN x y (zX G c) (zY G c))))), (4, .int (nI c)), (0, .ref (g 42)), (1, .int (nI x)), (2, .int (nI y))] rfl (by decide) rfl dX4_nearestCan_47 ?_
        refine j_iinc C (nI (c + 1)) [(4, .int (nI (c + 1))), (3, .int (nI (min n9 (frN x y (zX G c) (zY G c))))), (0, .ref (g 42)), (1, .int (nI x)), (2, .int (nI y))] 1 rfl (by rw [show Int32.ofInt 1 = nI 1 from by decide, nI_add]) (by decide) rfl dX4_nearestCan_48 ?_
        refine j_goto C 6 (by decide) dX4_nearestCan_51 ?_
        exact ih6 (c + 1) (min n9 (frN x y (zX G c) (zY G c))) (by omega) (by omega) (by rw [hn9]; exact nr_s) (by omega)
  exact L6 _ 0 42 (by omega) (by omega) rfl (Nat.lt_succ_self _)
set_option maxRecDepth 100000 in
set_option maxHeartbeats 4000000 in
theorem e_gatherNearest (g kk : Nat → Nat) (σ : St) (k : Nat) (hk : σ.1 16 = nI k) (hk6 : k ≤ 6) (hI : iX σ) (G : GD) (hX : HX G k σ) (i : Nat) (j : Nat) (hj0 : i ≤ j) (hj1 : j ≤ 20) (m : Nat) (l : Nat) (hl0 : m ≤ l) (hl1 : l ≤ 20) : jM (S := St) yX4_gatherNearest cX4_gatherNearest 7 none { frames := 3, cells := 0, slots := 0, locals := 68 } kk (cX g kk σ) [.ref (g 42), .int (nI i), .int (nI j), .int (nI m), .int (nI l)] (cX g kk) (rV (fun u : St => ∃ (pF47 : Nat → Int32) (pF48 : Nat → Int32) (pF49 : Nat → Int32) (P9 : Nat), u = sI (sF (sF (sF σ 47 pF47) 48 pF48) 49 pF49) 686 (nI P9) ∧ (P9 = ((j + 1 - i) * (l + 1 - m)) ∧ GN (fun x y => nrV (zX G) (zY G) x y k) i m (l + 1 - m) pF47 pF48 pF49 P9))) := by
  refine j_entry [(0, .ref (g 42)), (1, .int (nI i)), (2, .int (nI j)), (3, .int (nI m)), (4, .int (nI l))] (by decide) (Nat.le_of_ble_eq_true rfl) rfl ?_
  intro X C E HI
  refine j_aload_n C 0 rfl dX4_gatherNearest_0 ?_
  refine j_iconst C (nI 0) (by decide) dX4_gatherNearest_1 ?_
  refine pX_42_14 C tb_330 dX4_gatherNearest_2 ?_
  refine j_iload_n C 1 rfl dX4_gatherNearest_5 ?_
  refine j_istore C [(5, .int (nI i)), (0, .ref (g 42)), (1, .int (nI i)), (2, .int (nI j)), (3, .int (nI m)), (4, .int (nI l))] (by decide) rfl dX4_gatherNearest_6 ?_
  have L8 : ∀ (n8 : Nat) (x : Nat) (fa8 : Nat → Int32) (fb8 : Nat → Int32) (fc8 : Nat → Int32) (n : Nat) (i8_0 : i ≤ x) (i8_1 : x ≤ j + 1) (h3 : n = (x - i) * (l + 1 - m)) (hF : GN (fun x y => nrV (zX G) (zY G) x y k) i m (l + 1 - m) fa8 fb8 fc8 n) (hm8 : j + 1 - x < n8), J X 0 0 (cX g kk (sI (sF (sF (sF σ 47 fa8) 48 fb8) 49 fc8) 686 (nI n))) [(5, .int (nI x)), (0, .ref (g 42)), (1, .int (nI i)), (2, .int (nI j)), (3, .int (nI m)), (4, .int (nI l))] 8 [] := by
    intro n8
    induction n8 with
    | zero => intro x fa8 fb8 fc8 n i8_0 i8_1 h3 hF hm; exact absurd hm (Nat.not_lt_zero _)
    | succ n8 ih8 =>
      intro x fa8 fb8 fc8 n i8_0 i8_1 h3 hF hm8
      refine j_iload C 0 rfl dX4_gatherNearest_8 ?_
      refine j_iload_n C 3 rfl dX4_gatherNearest_10 ?_
      refine j_icmp_gtN C 85 (by decide) (by omega) (by omega) dX4_gatherNearest_11 (fun c1 => ?_) (fun c1 => ?_)
      · exact j_vret C E (sI (sF (sF (sF σ 47 fa8) 48 fb8) 49 fc8) 686 (nI n)) ⟨rfl, ⟨fa8, fb8, fc8, n, rfl, ⟨by rw [h3, show x = j + 1 by omega], hF⟩⟩⟩ rfl dX4_gatherNearest_85
      · refine j_iload_n C 4 rfl dX4_gatherNearest_14 ?_
        refine j_istore C [(6, .int (nI m)), (5, .int (nI x)), (0, .ref (g 42)), (1, .int (nI i)), (2, .int (nI j)), (3, .int (nI m)), (4, .int (nI l))] (by decide) rfl dX4_gatherNearest_15 ?_
        have L17 : ∀ (n17 : Nat) (y : Nat) (fa17 : Nat → Int32) (fb17 : Nat → Int32) (fc17 : Nat → Int32) (n2 : Nat) (i17_0 : m ≤ y) (i17_1 : y ≤ l + 1) (i17_2 : n2 = n + (y - m)) (hF2 : GN (fun x y => nrV (zX G) (zY G) x y k) i m (l + 1 - m) fa17 fb17 fc17 n2) (hm17 : l + 1 - y < n17), J X 0 0 (cX g kk (sI (sF (sF (sF σ 47 fa17) 48 fb17) 49 fc17) 686 (nI n2))) [(6, .int (nI y)), (5, .int (nI x)), (0, .ref (g 42)), (1, .int (nI i)), (2, .int (nI j)), (3, .int (nI m)), (4, .int (nI l))] 17 [] := by
          intro n17
          induction n17 with
          | zero => intro y fa17 fb17 fc17 n2 i17_0 i17_1 i17_2 hF2 hm; exact absurd hm (Nat.not_lt_zero _)
          | succ n17 ih17 =>
            intro y fa17 fb17 fc17 n2 i17_0 i17_1 i17_2 hF2 hm17
            have gb := rect_m (x := x + 1) (i := i) (k := m) (j := j) (by omega) hj1 hl1
            rw [← rect_s (by omega) h3] at gb
            refine j_iload C 0 rfl dX4_gatherNearest_17 ?_
            refine j_iload C 6 rfl dX4_gatherNearest_19 ?_
            refine j_icmp_gtN C 79 (by decide) (by omega) (by omega) dX4_gatherNearest_21 (fun c2 => ?_) (fun c2 => ?_)
            · refine j_iinc C (nI (x + 1)) [(5, .int (nI (x + 1))), (6, .int (nI y)), (0, .ref (g 42)), (1, .int (nI i)), (2, .int (nI j)), (3, .int (nI m)), (4, .int (nI l))] 1 rfl (by rw [show Int32.ofInt 1 = nI 1 from by decide, nI_add]) (by decide) rfl dX4_gatherNearest_79 ?_
              refine j_goto C 8 (by decide) dX4_gatherNearest_82 ?_
              refine j_sub (lv' := [(5, .int (nI (x + 1))), (0, .ref (g 42)), (1, .int (nI i)), (2, .int (nI j)), (3, .int (nI m)), (4, .int (nI l))]) [0, 2, 3, 4, 5, 6] rfl ?_
              exact ih8 (x + 1) fa17 fb17 fc17 n2 (by omega) (by omega) (by rw [← rect_s (by omega) h3]; omega) hF2 (by omega)
            · refine j_aload_n C 2 rfl dX4_gatherNearest_24 ?_
              refine gX_42_11 C tb_327 dX4_gatherNearest_25 ?_
              refine j_aload_n C 2 rfl dX4_gatherNearest_28 ?_
              refine gX_42_14 C tb_330 (nI n2) rfl dX4_gatherNearest_29 ?_
              refine j_iload C 1 rfl dX4_gatherNearest_32 ?_
              refine tX_47 C n2 rfl (by omega) dX4_gatherNearest_34 ?_
              refine j_aload_n C 2 rfl dX4_gatherNearest_35 ?_
              refine gX_42_12 C tb_328 dX4_gatherNearest_36 ?_
              refine j_aload_n C 2 rfl dX4_gatherNearest_39 ?_
              refine gX_42_14 C tb_330 (nI n2) rfl dX4_gatherNearest_40 ?_
              refine j_iload C 0 rfl dX4_gatherNearest_43 ?_
              refine tX_48 C n2 rfl (by omega) dX4_gatherNearest_45 ?_
              refine j_aload_n C 2 rfl dX4_gatherNearest_46 ?_
              refine gX_42_13 C tb_329 dX4_gatherNearest_47 ?_
              refine j_aload_n C 2 rfl dX4_gatherNearest_50 ?_
              refine gX_42_14 C tb_330 (nI n2) rfl dX4_gatherNearest_51 ?_
              refine j_aload_n C 2 rfl dX4_gatherNearest_54 ?_
              refine j_iload C 1 rfl dX4_gatherNearest_55 ?_
              refine j_iload C 0 rfl dX4_gatherNearest_57 ?_
              refine j_V1 C (e_nearestCan g kk (sF (sF (sI (sF (sF (sF σ 47 fa17) 48 fb17) 49 fc17) 686 (nI n2)) 47 (upd fa17 n2 (nI x))) 48 (upd fb17 n2 (nI y))) k hk hk6 hI G hX x (by first | assumption | omega) y (by first | assumption | omega)) kyX4_nearestCan tb_762 tb_764 sp_18 42 rfl (eX_42 g kk _) rfl (Nat.le_of_ble_eq_true rfl) ⟨by decide, by decide⟩ dX4_gatherNearest_59 rfl (fun vr ur hp => ?_)
              obtain ⟨r4, rfl, hu, g3⟩ := hp
              replace hu := hu.symm
              subst hu
              subst g3
              refine tX_49 C n2 rfl (by omega) dX4_gatherNearest_62 ?_
              refine j_aload_n C 2 rfl dX4_gatherNearest_63 ?_
              refine j_dup C rfl dX4_gatherNearest_64 ?_
              refine gX_42_14 C tb_330 (nI n2) rfl dX4_gatherNearest_65 ?_
              refine j_iconst C (nI 1) (by decide) dX4_gatherNearest_68 ?_
              refine j_iaddN C dX4_gatherNearest_69 ?_
              refine pX_42_14 C tb_330 dX4_gatherNearest_70 ?_
              refine j_iinc C (nI (y + 1)) [(6, .int (nI (y + 1))), (5, .int (nI x)), (0, .ref (g 42)), (1, .int (nI i)), (2, .int (nI j)), (3, .int (nI m)), (4, .int (nI l))] 0 rfl (by rw [show Int32.ofInt 1 = nI 1 from by decide, nI_add]) (by decide) rfl dX4_gatherNearest_73 ?_
              refine j_goto C 17 (by decide) dX4_gatherNearest_76 ?_
              refine j_w (cX g kk (sI (sF (sF (sF σ 47 (upd fa17 n2 (nI x))) 48 (upd fb17 n2 (nI y))) 49 (upd fc17 n2 (nI (min 42 (nrV (zX G) (zY G) x y k))))) 686 (nI (n2 + 1)))) (congrArg (cX g kk) (show sI (sF (sF (sF (sI (sF (sF (sF σ 47 fa17) 48 fb17) 49 fc17) 686 (nI n2)) 47 (upd fa17 n2 (nI x))) 48 (upd fb17 n2 (nI y))) 49 (upd fc17 n2 (nI (min 42 (nrV (zX G) (zY G) x y k))))) 686 (nI (n2 + 1)) = sI (sF (sF (sF σ 47 (upd fa17 n2 (nI x))) 48 (upd fb17 n2 (nI y))) 49 (upd fc17 n2 (nI (min 42 (nrV (zX G) (zY G) x y k))))) 686 (nI (n2 + 1)) from (Eq.trans (wrI (Eq.trans (wrF (Eq.trans (wrF (Eq.trans wrFI (wrI (Eq.trans (wrFc (by decide)) (wrF (Eq.trans (wrFc (by decide)) (wrF wrFs))))))) (Eq.trans wrFI (wrI (Eq.trans (wrFc (by decide)) (wrF wrFs)))))) (Eq.trans wrFI (wrI wrFs)))) wrIs))) ?_
              exact ih17 (y + 1) (upd fa17 n2 (nI x)) (upd fb17 n2 (nI y)) (upd fc17 n2 (nI (min 42 (nrV (zX G) (zY G) x y k)))) (n2 + 1) (by omega) (by omega) (by omega) (GN_s (F := fun x y => nrV (zX G) (zY G) x y k) (by omega) (by omega) (by omega) (by rw [← h3]; omega) hF2) (by omega)
        exact L17 _ m fa8 fb8 fc8 n (by omega) (by omega) (by omega) hF (Nat.lt_succ_self _)
  refine j_w (cX g kk (sF (sI σ 686 (nI 0)) 47 (σ.2.1 47))) (congrArg (cX g kk) (wrFi (S := (sI σ 686 (nI 0))) (c := 47) (v := σ.2.1 47) (gtFI rfl))) ?_
  refine j_w (cX g kk (sF (sF (sI σ 686 (nI 0)) 47 (σ.2.1 47)) 48 (σ.2.1 48))) (congrArg (cX g kk) (wrFi (S := (sF (sI σ 686 (nI 0)) 47 (σ.2.1 47))) (c := 48) (v := σ.2.1 48) (gtFF (by decide) (gtFI rfl)))) ?_
  refine j_w (cX g kk (sF (sF (sF (sI σ 686 (nI 0)) 47 (σ.2.1 47)) 48 (σ.2.1 48)) 49 (σ.2.1 49))) (congrArg (cX g kk) (wrFi (S := (sF (sF (sI σ 686 (nI 0)) 47 (σ.2.1 47)) 48 (σ.2.1 48))) (c := 49) (v := σ.2.1 49) (gtFF (by decide) (gtFF (by decide) (gtFI rfl))))) ?_
  refine j_w (cX g kk (sI (sF (sF (sF σ 47 (σ.2.1 47)) 48 (σ.2.1 48)) 49 (σ.2.1 49)) 686 (nI 0))) (congrArg (cX g kk) (show sF (sF (sF (sI σ 686 (nI 0)) 47 (σ.2.1 47)) 48 (σ.2.1 48)) 49 (σ.2.1 49) = sI (sF (sF (sF σ 47 (σ.2.1 47)) 48 (σ.2.1 48)) 49 (σ.2.1 49)) 686 (nI 0) from (Eq.trans (wrF (Eq.trans (wrF wrFI) wrFI)) wrFI))) ?_
  exact L8 _ i (σ.2.1 47) (σ.2.1 48) (σ.2.1 49) 0 (by omega) (by omega) (by rw [Nat.sub_self, Nat.zero_mul]) GN_0 (Nat.lt_succ_self _)
set_option maxRecDepth 100000 in
set_option maxHeartbeats 4000000 in
theorem e_farness (g kk : Nat → Nat) (σ : St) (k : Nat) (hk : σ.1 16 = nI k) (hk6 : k ≤ 6) (hI : iX σ) (P9 : Nat) (hP9 : σ.1 686 = nI P9) (hP9b : P9 ≤ 441) (F : Nat → Nat → Nat) (i m h : Nat) (hG : GN F i m h (σ.2.1 47) (σ.2.1 48) (σ.2.1 49) P9) (hB : ∀ q, q < P9 → i + q / h ≤ 20 ∧ m + q % h ≤ 20) (pu : Nat) (hpu0 : pu ≤ 20) (pv : Nat) (hpv0 : pv ≤ 20) (en : Nat) (hen0 : en ≤ 18522) : jM (S := St) yX4_farness cX4_farness 6 (some .int) { frames := 2, cells := 0, slots := 0, locals := 44 } kk (cX g kk σ) [.ref (g 42), .int (nI pu), .int (nI pv), .int (nI en)] (cX g kk) (rI (fun (r : Int32) (u : St) => u = σ ∧ (∃ t : Nat, r = nI t ∧ t ≤ 17640 ∧ (t = psum (pg F i m h pu pv) P9 ∨ (en ≤ t ∧ en ≤ psum (pg F i m h pu pv) P9))))) := by
  refine j_entry [(0, .ref (g 42)), (1, .int (nI pu)), (2, .int (nI pv)), (3, .int (nI en))] (by decide) (Nat.le_of_ble_eq_true rfl) rfl ?_
  intro X C E HI
  refine j_iconst C (nI 0) (by decide) dX4_farness_0 ?_
  refine j_istore C [(4, .int (nI 0)), (0, .ref (g 42)), (1, .int (nI pu)), (2, .int (nI pv)), (3, .int (nI en))] (by decide) rfl dX4_farness_1 ?_
  refine j_iconst C (nI 0) (by decide) dX4_farness_3 ?_
  refine j_istore C [(5, .int (nI 0)), (4, .int (nI 0)), (0, .ref (g 42)), (1, .int (nI pu)), (2, .int (nI pv)), (3, .int (nI en))] (by decide) rfl dX4_farness_4 ?_
  have L6 : ∀ (n6 : Nat) (n : Nat) (t : Nat) (i6_0 : n ≤ P9) (i6_1 : t ≤ 40 * n) (ht : t = psum (pg F i m h pu pv) n) (hm6 : P9 - n < n6), J X 0 0 (cX g kk σ) [(5, .int (nI n)), (4, .int (nI t)), (0, .ref (g 42)), (1, .int (nI pu)), (2, .int (nI pv)), (3, .int (nI en))] 6 [] := by
    intro n6
    induction n6 with
    | zero => intro n t i6_0 i6_1 ht hm; exact absurd hm (Nat.not_lt_zero _)
    | succ n6 ih6 =>
      intro n t i6_0 i6_1 ht hm6
      refine j_iload C 0 rfl dX4_farness_6 ?_
      refine j_aload_n C 2 rfl dX4_farness_8 ?_
      refine gX_42_14 C tb_330 (nI P9) hP9 dX4_farness_9 ?_
      refine j_icmp_geN C 61 (by decide) (by omega) (by omega) dX4_farness_12 (fun c1 => ?_) (fun c1 => ?_)
      · refine j_iload C 1 rfl dX4_farness_61 ?_
        exact j_iret C E (σ) ⟨_, rfl, ⟨rfl, ⟨t, rfl, by omega, Or.inl (by rw [ht, show n = P9 by omega])⟩⟩⟩ rfl dX4_farness_63
      · refine j_iload C 1 rfl dX4_farness_15 ?_
        refine j_iload_n C 5 rfl dX4_farness_17 ?_
        refine j_icmp_geN C 61 (by decide) (by omega) (by omega) dX4_farness_18 (fun c2 => ?_) (fun c2 => ?_)
        · refine j_iload C 1 rfl dX4_farness_61 ?_
          exact j_iret C E (σ) ⟨_, rfl, ⟨rfl, ⟨t, rfl, by omega, Or.inr ⟨by omega, Nat.le_trans (show en ≤ t by omega) (by rw [ht]; exact psum_mono (by omega))⟩⟩⟩⟩ rfl dX4_farness_63
        · refine j_iload C 1 rfl dX4_farness_21 ?_
          refine j_aload_n C 2 rfl dX4_farness_23 ?_
          refine gX_42_13 C tb_329 dX4_farness_24 ?_
          refine j_iload C 0 rfl dX4_farness_27 ?_
          refine rX_49 C n rfl (by omega) (nI (min 42 (F (i + n / h) (m + n % h)))) (hG n (by omega)).2.2 dX4_farness_29 ?_
          refine j_iload_n C 3 rfl dX4_farness_30 ?_
          refine j_iload_n C 4 rfl dX4_farness_31 ?_
          refine j_aload_n C 2 rfl dX4_farness_32 ?_
          refine gX_42_11 C tb_327 dX4_farness_33 ?_
          refine j_iload C 0 rfl dX4_farness_36 ?_
          refine rX_47 C n rfl (by omega) (nI (i + n / h)) (hG n (by omega)).1 dX4_farness_38 ?_
          refine j_aload_n C 2 rfl dX4_farness_39 ?_
          refine gX_42_12 C tb_328 dX4_farness_40 ?_
          refine j_iload C 0 rfl dX4_farness_43 ?_
          refine rX_48 C n rfl (by omega) (nI (m + n % h)) (hG n (by omega)).2.1 dX4_farness_45 ?_
          refine j_SN01 C (c_far (nI pu) (nI pv) (nI (i + n / h)) (nI (m + n % h))) kyX10_far (fun _ h => h.2.2.2.2.2.1) tb_587 rfl (Nat.le_of_ble_eq_true rfl) ⟨by decide, by decide⟩ ⟨by decide, by decide⟩ dX4_farness_46 rfl ?_
          have hb9 := hB n (by omega)
          have hfr := frN_le hpu0 hpv0 hb9.1 hb9.2
          rw [far_n hpu0 hpv0 hb9.1 hb9.2]
          refine j_mmin C tb_726 tb_727 tb_15 tb_728 (by decide) (Nat.le_of_ble_eq_true rfl) (by decide) (by decide) dX4_farness_49 ?_
          rw [mn2 (by omega) (by omega)]
          refine j_iaddN C dX4_farness_52 ?_
          refine j_istore C [(4, .int (nI (t + (min (min 42 (F (i + n / h) (m + n % h))) (frN pu pv (i + n / h) (m + n % h)))))), (5, .int (nI n)), (0, .ref (g 42)), (1, .int (nI pu)), (2, .int (nI pv)), (3, .int (nI en))] (by decide) rfl dX4_farness_53 ?_
          refine j_iinc C (nI (n + 1)) [(5, .int (nI (n + 1))), (4, .int (nI (t + (min (min 42 (F (i + n / h) (m + n % h))) (frN pu pv (i + n / h) (m + n % h)))))), (0, .ref (g 42)), (1, .int (nI pu)), (2, .int (nI pv)), (3, .int (nI en))] 1 rfl (by rw [show Int32.ofInt 1 = nI 1 from by decide, nI_add]) (by decide) rfl dX4_farness_55 ?_
          refine j_goto C 6 (by decide) dX4_farness_58 ?_
          exact ih6 (n + 1) (t + (min (min 42 (F (i + n / h) (m + n % h))) (frN pu pv (i + n / h) (m + n % h)))) (by omega) (by omega) (pg_s hfr ht) (by omega)
  exact L6 _ 0 0 (by omega) (by omega) rfl (Nat.lt_succ_self _)
set_option maxRecDepth 100000 in
set_option maxHeartbeats 4000000 in
theorem e_bestNew (g kk : Nat → Nat) (σ : St) (k : Nat) (hk : σ.1 16 = nI k) (hk6 : k ≤ 6) (hI : iX σ) (P9 : Nat) (hP9 : σ.1 686 = nI P9) (hP9b : P9 ≤ 441) (F : Nat → Nat → Nat) (i m h : Nat) (hG : GN F i m h (σ.2.1 47) (σ.2.1 48) (σ.2.1 49) P9) (hB : ∀ q, q < P9 → i + q / h ≤ 20 ∧ m + q % h ≤ 20)  : jM (S := St) yX4_bestNew cX4_bestNew 6 (some .int) { frames := 3, cells := 0, slots := 0, locals := 69 } kk (cX g kk σ) [.ref (g 42)] (cX g kk) (rI (fun (r : Int32) (u : St) => u = σ ∧ (r = nI (bm (sg F i m h P9) 441).1))) := by
  refine j_entry [(0, .ref (g 42))] (by decide) (Nat.le_of_ble_eq_true rfl) rfl ?_
  intro X C E HI
  refine j_iconst C (nI 0) (by decide) dX4_bestNew_0 ?_
  refine j_istore_n C [(1, .int (nI 0)), (0, .ref (g 42))] rfl (by decide) rfl dX4_bestNew_1 ?_
  refine j_sipush C (nI 18522) (by decide) dX4_bestNew_2 ?_
  refine j_istore_n C [(2, .int (nI 18522)), (1, .int (nI 0)), (0, .ref (g 42))] rfl (by decide) rfl dX4_bestNew_5 ?_
  refine j_iconst C (nI 0) (by decide) dX4_bestNew_6 ?_
  refine j_istore_n C [(3, .int (nI 0)), (2, .int (nI 18522)), (1, .int (nI 0)), (0, .ref (g 42))] rfl (by decide) rfl dX4_bestNew_7 ?_
  have L8 : ∀ (n8 : Nat) (x : Nat) (s : Nat) (b : Nat) (i8_0 : x ≤ 21) (i8_1 : s ≤ 18522) (i8_2 : b ≤ 2020) (hm : (b, s) = bm (sg F i m h P9) (21 * x)) (hm8 : 21 - x < n8), J X 0 0 (cX g kk σ) [(3, .int (nI x)), (2, .int (nI s)), (1, .int (nI b)), (0, .ref (g 42))] 8 [] := by
    intro n8
    induction n8 with
    | zero => intro x s b i8_0 i8_1 i8_2 hm hm; exact absurd hm (Nat.not_lt_zero _)
    | succ n8 ih8 =>
      intro x s b i8_0 i8_1 i8_2 hm hm8
      refine j_iload_n C 0 rfl dX4_bestNew_8 ?_
      refine j_bipush C (nI 21) (by decide) dX4_bestNew_9 ?_
      refine j_icmp_geN C 63 (by decide) (by omega) (by omega) dX4_bestNew_11 (fun c1 => ?_) (fun c1 => ?_)
      · refine j_iload_n C 2 rfl dX4_bestNew_63 ?_
        exact j_iret C E (σ) ⟨_, rfl, ⟨rfl, (by rw [← (show (b, s) = bm (sg F i m h P9) 441 from by rw [hm, show 21 * x = 441 by omega])])⟩⟩ rfl dX4_bestNew_64
      · refine j_iconst C (nI 0) (by decide) dX4_bestNew_14 ?_
        refine j_istore C [(4, .int (nI 0)), (3, .int (nI x)), (2, .int (nI s)), (1, .int (nI b)), (0, .ref (g 42))] (by decide) rfl dX4_bestNew_15 ?_
        have L17 : ∀ (n17 : Nat) (y : Nat) (s2 : Nat) (b2 : Nat) (i17_0 : y ≤ 21) (i17_1 : s2 ≤ 18522) (i17_2 : b2 ≤ 2020) (hm2 : (b2, s2) = bm (sg F i m h P9) (21 * x + y)) (hm17 : 21 - y < n17), J X 0 0 (cX g kk σ) [(4, .int (nI y)), (3, .int (nI x)), (2, .int (nI s2)), (1, .int (nI b2)), (0, .ref (g 42))] 17 [] := by
          intro n17
          induction n17 with
          | zero => intro y s2 b2 i17_0 i17_1 i17_2 hm2 hm; exact absurd hm (Nat.not_lt_zero _)
          | succ n17 ih17 =>
            intro y s2 b2 i17_0 i17_1 i17_2 hm2 hm17
            refine j_iload C 0 rfl dX4_bestNew_17 ?_
            refine j_bipush C (nI 21) (by decide) dX4_bestNew_19 ?_
            refine j_icmp_geN C 57 (by decide) (by omega) (by omega) dX4_bestNew_21 (fun c2 => ?_) (fun c2 => ?_)
            · refine j_iinc C (nI (x + 1)) [(3, .int (nI (x + 1))), (4, .int (nI y)), (2, .int (nI s2)), (1, .int (nI b2)), (0, .ref (g 42))] 1 rfl (by rw [show Int32.ofInt 1 = nI 1 from by decide, nI_add]) (by decide) rfl dX4_bestNew_57 ?_
              refine j_goto C 8 (by decide) dX4_bestNew_60 ?_
              refine j_sub (lv' := [(3, .int (nI (x + 1))), (2, .int (nI s2)), (1, .int (nI b2)), (0, .ref (g 42))]) [0, 2, 3, 4] rfl ?_
              exact ih8 (x + 1) s2 b2 (by omega) (by omega) (by omega) (by rw [hm2, show 21 * x + y = 21 * (x + 1) by omega]) (by omega)
            · refine j_aload_n C 4 rfl dX4_bestNew_24 ?_
              refine j_iload_n C 1 rfl dX4_bestNew_25 ?_
              refine j_iload C 0 rfl dX4_bestNew_26 ?_
              refine j_iload_n C 2 rfl dX4_bestNew_28 ?_
              refine j_V1 C (e_farness g kk σ k hk hk6 hI P9 hP9 (by omega) F i m h hG hB x (by first | assumption | omega) y (by first | assumption | omega) s2 (by first | assumption | omega)) kyX4_farness tb_770 tb_772 sp_19 42 rfl (eX_42 g kk _) rfl (Nat.le_of_ble_eq_true rfl) ⟨by decide, by decide⟩ dX4_bestNew_29 rfl (fun vr ur hp => ?_)
              obtain ⟨r4, rfl, hu, g3⟩ := hp
              replace hu := hu.symm
              subst hu
              obtain ⟨t9, et9, ht9, ht2⟩ := g3
              subst et9
              refine j_istore C [(5, .int (nI t9)), (4, .int (nI y)), (3, .int (nI x)), (2, .int (nI s2)), (1, .int (nI b2)), (0, .ref (g 42))] (by decide) rfl dX4_bestNew_32 ?_
              refine j_iload C 0 rfl dX4_bestNew_34 ?_
              refine j_iload_n C 3 rfl dX4_bestNew_36 ?_
              refine j_icmp_geN C 51 (by decide) (by omega) (by omega) dX4_bestNew_37 (fun c5 => ?_) (fun c5 => ?_)
              · refine j_iinc C (nI (y + 1)) [(4, .int (nI (y + 1))), (5, .int (nI t9)), (3, .int (nI x)), (2, .int (nI s2)), (1, .int (nI b2)), (0, .ref (g 42))] 1 rfl (by rw [show Int32.ofInt 1 = nI 1 from by decide, nI_add]) (by decide) rfl dX4_bestNew_51 ?_
                refine j_goto C 17 (by decide) dX4_bestNew_54 ?_
                refine j_sub (lv' := [(4, .int (nI (y + 1))), (3, .int (nI x)), (2, .int (nI s2)), (1, .int (nI b2)), (0, .ref (g 42))]) [0, 2, 3, 4, 5] rfl ?_
                exact ih17 (y + 1) s2 b2 (by omega) (by omega) (by omega) (bstep_f (by omega) hm2 ht2 (by omega)) (by omega)
              · refine j_iload C 0 rfl dX4_bestNew_40 ?_
                refine j_istore_n C [(2, .int (nI t9)), (5, .int (nI t9)), (4, .int (nI y)), (3, .int (nI x)), (1, .int (nI b2)), (0, .ref (g 42))] rfl (by decide) rfl dX4_bestNew_42 ?_
                refine j_bipush C (nI 100) (by decide) dX4_bestNew_43 ?_
                refine j_iload_n C 3 rfl dX4_bestNew_45 ?_
                refine j_imulN C dX4_bestNew_46 ?_
                refine j_iload C 2 rfl dX4_bestNew_47 ?_
                refine j_iaddN C dX4_bestNew_49 ?_
                refine j_istore_n C [(1, .int (nI ((100 * x) + y))), (2, .int (nI t9)), (5, .int (nI t9)), (4, .int (nI y)), (3, .int (nI x)), (0, .ref (g 42))] rfl (by decide) rfl dX4_bestNew_50 ?_
                refine j_iinc C (nI (y + 1)) [(4, .int (nI (y + 1))), (1, .int (nI ((100 * x) + y))), (2, .int (nI t9)), (5, .int (nI t9)), (3, .int (nI x)), (0, .ref (g 42))] 3 rfl (by rw [show Int32.ofInt 1 = nI 1 from by decide, nI_add]) (by decide) rfl dX4_bestNew_51 ?_
                refine j_goto C 17 (by decide) dX4_bestNew_54 ?_
                refine j_sub (lv' := [(4, .int (nI (y + 1))), (3, .int (nI x)), (2, .int (nI t9)), (1, .int (nI ((100 * x) + y))), (0, .ref (g 42))]) [0, 4, 2, 1, 5] rfl ?_
                exact ih17 (y + 1) t9 ((100 * x) + y) (by omega) (by omega) (by omega) (bstep_t (by omega) hm2 ht2 (by omega)) (by omega)
        exact L17 _ 0 s b (by omega) (by omega) (by omega) hm (Nat.lt_succ_self _)
  exact L8 _ 0 18522 0 (by omega) (by omega) (by omega) rfl (Nat.lt_succ_self _)
def plF (G : GD) (k : Nat) (a b c d : Int32) : Int32 := if ldB a b c d = false then -2 else nI (bm (sg (fun x y => nrV (zX G) (zY G) x y k) a.toNatClampNeg c.toNatClampNeg (d.toNatClampNeg + 1 - c.toNatClampNeg) ((b.toNatClampNeg + 1 - a.toNatClampNeg) * (d.toNatClampNeg + 1 - c.toNatClampNeg))) 441).1
theorem plF_2 {G : GD} {k : Nat} {a b c d : Int32} (h : ldB a b c d = false) : -2 = plF G k a b c d := by unfold plF; rw [if_pos h]
theorem plF_x {G : GD} {k i j m l : Nat} {r : Int32} (h : ldB (nI i) (nI j) (nI m) (nI l) = true) (hi : i ≤ 20) (hj : j ≤ 20) (hm : m ≤ 20) (hl : l ≤ 20) (hr : r = nI (bm (sg (fun x y => nrV (zX G) (zY G) x y k) i m (l + 1 - m) ((j + 1 - i) * (l + 1 - m))) 441).1) : r = plF G k (nI i) (nI j) (nI m) (nI l) := by
  unfold plF
  rw [if_neg (by rw [h]; decide), nI_clamp (by omega), nI_clamp (by omega), nI_clamp (by omega), nI_clamp (by omega), hr]
theorem pg_r {F : Nat → Nat → Nat} {i k h u v x y t d : Nat} (hx : i ≤ x) (hy : k ≤ y) (hb : y - k < h) (ht : t = psum (pg F i k h u v) ((x - i) * h + (y - k))) (hd : d = min (F x y) (frN u v x y)) : t + d = psum (pg F i k h u v) ((x - i) * h + (y + 1 - k)) := by
  rw [show y + 1 - k = (y - k) + 1 by omega, ← Nat.add_assoc]
  show _ = psum _ _ + pg F i k h u v ((x - i) * h + (y - k))
  rw [pg_at hx hy hb, ← ht, hd]
set_option maxRecDepth 100000 in
set_option maxHeartbeats 4000000 in
theorem e_place (g kk : Nat → Nat) (σ : St) (k : Nat) (hk : σ.1 16 = nI k) (hk6 : k ≤ 6) (hI : iX σ) (G : GD) (hX : HX G k σ) (a : Int32) (b : Int32) (c : Int32) (d : Int32) : jM (S := St) yX10_place cX10_place 5 (some .int) { frames := 4, cells := 0, slots := 0, locals := 94 } kk (cX g kk σ) [.ref (g 0), .int a, .int b, .int c, .int d] (cX g kk) (rI (fun (r : Int32) (u : St) => ∃ (pF47 : Nat → Int32) (pF48 : Nat → Int32) (pF49 : Nat → Int32) (pI686 : Int32), u = sI (sF (sF (sF σ 47 pF47) 48 pF48) 49 pF49) 686 pI686 ∧ (r = plF G k a b c d))) := by
  refine j_entry [(0, .ref (g 0)), (1, .int a), (2, .int b), (3, .int c), (4, .int d)] (by decide) (Nat.le_of_ble_eq_true rfl) rfl ?_
  intro X C E HI
  refine j_iload_n C 1 rfl dX10_place_0 ?_
  refine j_iload_n C 2 rfl dX10_place_1 ?_
  refine j_iload_n C 3 rfl dX10_place_2 ?_
  refine j_iload C 4 rfl dX10_place_3 ?_
  refine j_S01 C (c_isLand a b c d) kyX10_isLand tb_733 tb_734 rfl (Nat.le_of_ble_eq_true rfl) ⟨by decide, by decide⟩ ⟨by decide, by decide⟩ dX10_place_5 rfl ?_
  refine j_if_ne C 14 (by decide) dX10_place_8 (fun c1 => ?_) (fun c1 => ?_)
  · replace c1 := bI_t c1
    obtain ⟨an, bn, cn, dn, hl1, hl2, hl3, hl4, rfl, rfl, rfl, rfl⟩ := ldB_nat c1
    refine j_aload_n C 0 rfl dX10_place_14 ?_
    refine gX_0_5 C tb_433 dX10_place_15 ?_
    refine j_iload_n C 1 rfl dX10_place_18 ?_
    refine j_iload_n C 2 rfl dX10_place_19 ?_
    refine j_iload_n C 3 rfl dX10_place_20 ?_
    refine j_iload C 4 rfl dX10_place_21 ?_
    refine j_V1 C (e_gatherNearest g kk σ k hk hk6 hI G hX an bn (by first | assumption | omega) (by first | assumption | omega) cn dn (by first | assumption | omega) (by first | assumption | omega)) kyX4_gatherNearest tb_758 tb_759 tb_760 42 rfl (eX_42 g kk _) rfl (Nat.le_of_ble_eq_true rfl) ⟨by decide, by decide⟩ dX10_place_23 rfl (fun vr ur hp => ?_)
    obtain ⟨rfl, w2, w3, w4, w5, hu, g6⟩ := hp
    replace hu := hu.symm
    subst hu
    have hP441 : w5 ≤ 441 := by rw [g6.1]; exact rect_b (by omega) (by omega)
    refine j_aload_n C 0 rfl dX10_place_26 ?_
    refine gX_0_5 C tb_433 dX10_place_27 ?_
    refine j_V1 C (e_bestNew g kk (sI (sF (sF (sF σ 47 w2) 48 w3) 49 w4) 686 (nI w5)) k hk hk6 hI w5 rfl (by omega) (fun x y => nrV (zX G) (zY G) x y k) an cn (dn + 1 - cn) g6.2 (fun q hq => ⟨px_le (j := bn) (by omega) (by rw [← g6.1]; exact hq), py_le (by omega) (by omega)⟩) ) kyX4_bestNew tb_766 tb_767 tb_768 42 rfl (eX_42 g kk _) rfl (Nat.le_of_ble_eq_true rfl) ⟨by decide, by decide⟩ dX10_place_30 rfl (fun vr ur hp => ?_)
    obtain ⟨r8, rfl, hu, g7⟩ := hp
    replace hu := hu.symm
    subst hu
    exact j_iret C E (sI (sF (sF (sF σ 47 w2) 48 w3) 49 w4) 686 (nI w5)) ⟨_, rfl, ⟨w2, w3, w4, (nI w5), rfl, (plF_x c1 (by omega) (by omega) (by omega) (by omega) (by rw [g7, g6.1]))⟩⟩ rfl dX10_place_33
  · replace c1 := bI_f c1
    refine j_bipush C ((-2)) (by decide) dX10_place_11 ?_
    refine j_w (cX g kk (sF σ 47 (σ.2.1 47))) (congrArg (cX g kk) (wrFi (S := σ) (c := 47) (v := σ.2.1 47) rfl)) ?_
    refine j_w (cX g kk (sF (sF σ 47 (σ.2.1 47)) 48 (σ.2.1 48))) (congrArg (cX g kk) (wrFi (S := (sF σ 47 (σ.2.1 47))) (c := 48) (v := σ.2.1 48) (gtFF (by decide) rfl))) ?_
    refine j_w (cX g kk (sF (sF (sF σ 47 (σ.2.1 47)) 48 (σ.2.1 48)) 49 (σ.2.1 49))) (congrArg (cX g kk) (wrFi (S := (sF (sF σ 47 (σ.2.1 47)) 48 (σ.2.1 48))) (c := 49) (v := σ.2.1 49) (gtFF (by decide) (gtFF (by decide) rfl)))) ?_
    refine j_w (cX g kk (sI (sF (sF (sF σ 47 (σ.2.1 47)) 48 (σ.2.1 48)) 49 (σ.2.1 49)) 686 (σ.1 686))) (congrArg (cX g kk) (wrIi (S := (sF (sF (sF σ 47 (σ.2.1 47)) 48 (σ.2.1 48)) 49 (σ.2.1 49))) (c := 686) (v := σ.1 686) (gtIF (gtIF (gtIF rfl))))) ?_
    exact j_iret C E (sI (sF (sF (sF σ 47 (σ.2.1 47)) 48 (σ.2.1 48)) 49 (σ.2.1 49)) 686 (σ.1 686)) ⟨_, rfl, ⟨(σ.2.1 47), (σ.2.1 48), (σ.2.1 49), (σ.1 686), rfl, (plF_2 c1)⟩⟩ rfl dX10_place_13
set_option maxRecDepth 100000 in
set_option maxHeartbeats 4000000 in
theorem o_nearest (g kk : Nat → Nat) (σ : St) (k : Nat) (hk : σ.1 3 = nI k) (hk6 : k ≤ 6) (hI : iM σ) (nf : Nat) (hnf : σ.1 9 = nI nf) (hnfb : nf ≤ 20) (G : GD) (hM : HM G k nf σ) (x : Nat) (hx0 : x ≤ 20) (y : Nat) (hy0 : y ≤ 20) : jM (S := St) yX11_nearest cX11_nearest 6 (some .int) { frames := 1, cells := 0, slots := 0, locals := 21 } kk (cM g kk σ) [.ref (g 0), .int (nI x), .int (nI y)] (cM g kk) (rI (fun (r : Int32) (u : St) => u = σ ∧ (r = nI (nrV (zX G) (zY G) x y k)))) := by
  refine j_entry [(0, .ref (g 0)), (1, .int (nI x)), (2, .int (nI y))] (by decide) (Nat.le_of_ble_eq_true rfl) rfl ?_
  intro X C E HI
  refine j_bipush C (nI 99) (by decide) dX11_nearest_0 ?_
  refine j_istore_n C [(3, .int (nI 99)), (0, .ref (g 0)), (1, .int (nI x)), (2, .int (nI y))] rfl (by decide) rfl dX11_nearest_2 ?_
  refine j_iconst C (nI 0) (by decide) dX11_nearest_3 ?_
  refine j_istore C [(4, .int (nI 0)), (3, .int (nI 99)), (0, .ref (g 0)), (1, .int (nI x)), (2, .int (nI y))] (by decide) rfl dX11_nearest_4 ?_
  have L6 : ∀ (n6 : Nat) (c : Nat) (n9 : Nat) (i6_0 : c ≤ k) (i6_1 : n9 ≤ 99) (hn9 : n9 = nrV (zX G) (zY G) x y c) (hm6 : k - c < n6), J X 0 0 (cM g kk σ) [(4, .int (nI c)), (3, .int (nI n9)), (0, .ref (g 0)), (1, .int (nI x)), (2, .int (nI y))] 6 [] := by
    intro n6
    induction n6 with
    | zero => intro c n9 i6_0 i6_1 hn9 hm; exact absurd hm (Nat.not_lt_zero _)
    | succ n6 ih6 =>
      intro c n9 i6_0 i6_1 hn9 hm6
      refine j_iload C 0 rfl dX11_nearest_6 ?_
      refine j_aload_n C 2 rfl dX11_nearest_8 ?_
      refine gM_0_3 C tb_876 (nI k) hk dX11_nearest_9 ?_
      refine j_icmp_geN C 59 (by decide) (by omega) (by omega) dX11_nearest_12 (fun c1 => ?_) (fun c1 => ?_)
      · refine j_iload_n C 1 rfl dX11_nearest_59 ?_
        exact j_iret C E (σ) ⟨_, rfl, ⟨rfl, (by rw [hn9, show c = k by omega])⟩⟩ rfl dX11_nearest_60
      · refine j_aload_n C 2 rfl dX11_nearest_15 ?_
        refine gM_0_0 C tb_873 dX11_nearest_16 ?_
        refine j_iload C 0 rfl dX11_nearest_19 ?_
        refine rM_1 C c rfl (by omega) (nI (zX G c)) (hM.P (by omega)).1 dX11_nearest_21 ?_
        refine j_iload_n C 3 rfl dX11_nearest_22 ?_
        refine j_S01 C (m_off (nI (zX G c)) (nI x)) kyX11_off tb_1155 tb_1156 rfl (Nat.le_of_ble_eq_true rfl) ⟨by decide, by decide⟩ ⟨by decide, by decide⟩ dX11_nearest_23 rfl ?_
        have hXY := hM.W.XY (show c < k by omega)
        rw [off_n hXY.1 hx0]
        refine j_aload_n C 2 rfl dX11_nearest_26 ?_
        refine gM_0_1 C tb_874 dX11_nearest_27 ?_
        refine j_iload C 0 rfl dX11_nearest_30 ?_
        refine rM_2 C c rfl (by omega) (nI (zY G c)) (hM.P (by omega)).2 dX11_nearest_32 ?_
        refine j_iload_n C 4 rfl dX11_nearest_33 ?_
        refine j_S01 C (m_off (nI (zY G c)) (nI y)) kyX11_off tb_1155 tb_1156 rfl (Nat.le_of_ble_eq_true rfl) ⟨by decide, by decide⟩ ⟨by decide, by decide⟩ dX11_nearest_34 rfl ?_
        rw [off_n hXY.2 hy0]
        refine j_iaddN C dX11_nearest_37 ?_
        refine j_istore C [(5, .int (nI (((zX G c - x) + (x - zX G c)) + ((zY G c - y) + (y - zY G c))))), (4, .int (nI c)), (3, .int (nI n9)), (0, .ref (g 0)), (1, .int (nI x)), (2, .int (nI y))] (by decide) rfl dX11_nearest_38 ?_
        refine j_iload C 0 rfl dX11_nearest_40 ?_
        refine j_iload_n C 2 rfl dX11_nearest_42 ?_
        refine j_icmp_geN C 51 (by decide) (by omega) (by omega) dX11_nearest_43 (fun c2 => ?_) (fun c2 => ?_)
        · refine j_iload_n C 2 rfl dX11_nearest_51 ?_
          refine j_istore_n C [(3, .int (nI n9)), (5, .int (nI (((zX G c - x) + (x - zX G c)) + ((zY G c - y) + (y - zY G c))))), (4, .int (nI c)), (0, .ref (g 0)), (1, .int (nI x)), (2, .int (nI y))] rfl (by decide) rfl dX11_nearest_52 ?_
          refine j_iinc C (nI (c + 1)) [(4, .int (nI (c + 1))), (3, .int (nI n9)), (5, .int (nI (((zX G c - x) + (x - zX G c)) + ((zY G c - y) + (y - zY G c))))), (0, .ref (g 0)), (1, .int (nI x)), (2, .int (nI y))] 2 rfl (by rw [show Int32.ofInt 1 = nI 1 from by decide, nI_add]) (by decide) rfl dX11_nearest_53 ?_
          refine j_goto C 6 (by decide) dX11_nearest_56 ?_
          refine j_sub (lv' := [(4, .int (nI (c + 1))), (3, .int (nI n9)), (0, .ref (g 0)), (1, .int (nI x)), (2, .int (nI y))]) [0, 1, 3, 4, 5] rfl ?_
          exact ih6 (c + 1) n9 (by omega) (by omega) (by show _ = min (nrV (zX G) (zY G) x y c) (frN x y (zX G c) (zY G c)); unfold frN; omega) (by omega)
        · refine j_iload C 0 rfl dX11_nearest_46 ?_
          refine j_goto C 52 (by decide) dX11_nearest_48 ?_
          refine j_istore_n C [(3, .int (nI (((zX G c - x) + (x - zX G c)) + ((zY G c - y) + (y - zY G c))))), (5, .int (nI (((zX G c - x) + (x - zX G c)) + ((zY G c - y) + (y - zY G c))))), (4, .int (nI c)), (0, .ref (g 0)), (1, .int (nI x)), (2, .int (nI y))] rfl (by decide) rfl dX11_nearest_52 ?_
          refine j_iinc C (nI (c + 1)) [(4, .int (nI (c + 1))), (3, .int (nI (((zX G c - x) + (x - zX G c)) + ((zY G c - y) + (y - zY G c))))), (5, .int (nI (((zX G c - x) + (x - zX G c)) + ((zY G c - y) + (y - zY G c))))), (0, .ref (g 0)), (1, .int (nI x)), (2, .int (nI y))] 2 rfl (by rw [show Int32.ofInt 1 = nI 1 from by decide, nI_add]) (by decide) rfl dX11_nearest_53 ?_
          refine j_goto C 6 (by decide) dX11_nearest_56 ?_
          refine j_sub (lv' := [(4, .int (nI (c + 1))), (3, .int (nI (((zX G c - x) + (x - zX G c)) + ((zY G c - y) + (y - zY G c))))), (0, .ref (g 0)), (1, .int (nI x)), (2, .int (nI y))]) [0, 1, 3, 4, 5] rfl ?_
          exact ih6 (c + 1) (((zX G c - x) + (x - zX G c)) + ((zY G c - y) + (y - zY G c))) (by omega) (by omega) (by show _ = min (nrV (zX G) (zY G) x y c) (frN x y (zX G c) (zY G c)); unfold frN; omega) (by omega)
  exact L6 _ 0 99 (by omega) (by omega) rfl (Nat.lt_succ_self _)
set_option maxRecDepth 100000 in
set_option maxHeartbeats 4000000 in
theorem o_place (g kk : Nat → Nat) (σ : St) (k : Nat) (hk : σ.1 3 = nI k) (hk6 : k ≤ 6) (hI : iM σ) (nf : Nat) (hnf : σ.1 9 = nI nf) (hnfb : nf ≤ 20) (G : GD) (hM : HM G k nf σ) (a : Int32) (b : Int32) (c : Int32) (d : Int32) : jM (S := St) yX11_place cX11_place 14 (some .int) { frames := 2, cells := 0, slots := 0, locals := 48 } kk (cM g kk σ) [.ref (g 0), .int a, .int b, .int c, .int d] (cM g kk) (rI (fun (r : Int32) (u : St) => u = σ ∧ (r = plF G k a b c d))) := by
  refine j_entry [(0, .ref (g 0)), (1, .int a), (2, .int b), (3, .int c), (4, .int d)] (by decide) (Nat.le_of_ble_eq_true rfl) rfl ?_
  intro X C E HI
  refine j_iload_n C 1 rfl dX11_place_0 ?_
  refine j_iload_n C 2 rfl dX11_place_1 ?_
  refine j_iload_n C 3 rfl dX11_place_2 ?_
  refine j_iload C 4 rfl dX11_place_3 ?_
  refine j_S01 C (m_isLand a b c d) kyX11_isLand tb_1249 tb_1250 rfl (Nat.le_of_ble_eq_true rfl) ⟨by decide, by decide⟩ ⟨by decide, by decide⟩ dX11_place_5 rfl ?_
  refine j_if_ne C 14 (by decide) dX11_place_8 (fun c1 => ?_) (fun c1 => ?_)
  · replace c1 := bI_t c1
    obtain ⟨an, bn, cn, dn, hl1, hl2, hl3, hl4, rfl, rfl, rfl, rfl⟩ := ldB_nat c1
    refine j_bipush C ((-6)) (by decide) dX11_place_14 ?_
    refine j_istore C [(5, .int (-6)), (0, .ref (g 0)), (1, .int (nI an)), (2, .int (nI bn)), (3, .int (nI cn)), (4, .int (nI dn))] (by decide) rfl dX11_place_16 ?_
    refine j_iconst C (nI 0) (by decide) dX11_place_18 ?_
    refine j_istore C [(6, .int (nI 0)), (5, .int (-6)), (0, .ref (g 0)), (1, .int (nI an)), (2, .int (nI bn)), (3, .int (nI cn)), (4, .int (nI dn))] (by decide) rfl dX11_place_19 ?_
    refine j_iconst C (nI 0) (by decide) dX11_place_21 ?_
    refine j_istore C [(7, .int (nI 0)), (6, .int (nI 0)), (5, .int (-6)), (0, .ref (g 0)), (1, .int (nI an)), (2, .int (nI bn)), (3, .int (nI cn)), (4, .int (nI dn))] (by decide) rfl dX11_place_22 ?_
    have L24 : ∀ (n24 : Nat) (pu : Nat) (y24_6 : Int32) (y24_5 : Int32) (i24_0 : pu ≤ 21) (hB1 : bi (sg (fun x y => nrV (zX G) (zY G) x y k) an cn (dn + 1 - cn) ((bn + 1 - an) * (dn + 1 - cn))) (21 * pu) y24_5 y24_6) (hm24 : 21 - pu < n24), J X 0 0 (cM g kk σ) [(7, .int (nI pu)), (6, .int y24_6), (5, .int y24_5), (0, .ref (g 0)), (1, .int (nI an)), (2, .int (nI bn)), (3, .int (nI cn)), (4, .int (nI dn))] 24 [] := by
      intro n24
      induction n24 with
      | zero => intro pu y24_6 y24_5 i24_0 hB1 hm; exact absurd hm (Nat.not_lt_zero _)
      | succ n24 ih24 =>
        intro pu y24_6 y24_5 i24_0 hB1 hm24
        refine j_iload C 0 rfl dX11_place_24 ?_
        refine j_bipush C (nI 20) (by decide) dX11_place_26 ?_
        refine j_icmp_gtN C 159 (by decide) (by omega) (by omega) dX11_place_28 (fun c2 => ?_) (fun c2 => ?_)
        · refine j_iload C 2 rfl dX11_place_159 ?_
          exact j_iret C E (σ) ⟨_, rfl, ⟨rfl, (plF_x c1 (by omega) (by omega) (by omega) (by omega) (bi_end hB1 (by omega)))⟩⟩ rfl dX11_place_161
        · refine j_iconst C (nI 0) (by decide) dX11_place_31 ?_
          refine j_istore C [(8, .int (nI 0)), (7, .int (nI pu)), (6, .int y24_6), (5, .int y24_5), (0, .ref (g 0)), (1, .int (nI an)), (2, .int (nI bn)), (3, .int (nI cn)), (4, .int (nI dn))] (by decide) rfl dX11_place_32 ?_
          have L34 : ∀ (n34 : Nat) (pv : Nat) (y34_6 : Int32) (y34_5 : Int32) (i34_0 : pv ≤ 21) (hB2 : bi (sg (fun x y => nrV (zX G) (zY G) x y k) an cn (dn + 1 - cn) ((bn + 1 - an) * (dn + 1 - cn))) (21 * pu + pv) y34_5 y34_6) (hm34 : 21 - pv < n34), J X 0 0 (cM g kk σ) [(8, .int (nI pv)), (7, .int (nI pu)), (6, .int y34_6), (5, .int y34_5), (0, .ref (g 0)), (1, .int (nI an)), (2, .int (nI bn)), (3, .int (nI cn)), (4, .int (nI dn))] 34 [] := by
            intro n34
            induction n34 with
            | zero => intro pv y34_6 y34_5 i34_0 hB2 hm; exact absurd hm (Nat.not_lt_zero _)
            | succ n34 ih34 =>
              intro pv y34_6 y34_5 i34_0 hB2 hm34
              refine j_iload C 0 rfl dX11_place_34 ?_
              refine j_bipush C (nI 20) (by decide) dX11_place_36 ?_
              refine j_icmp_gtN C 153 (by decide) (by omega) (by omega) dX11_place_38 (fun c3 => ?_) (fun c3 => ?_)
              · refine j_iinc C (nI (pu + 1)) [(7, .int (nI (pu + 1))), (8, .int (nI pv)), (6, .int y34_6), (5, .int y34_5), (0, .ref (g 0)), (1, .int (nI an)), (2, .int (nI bn)), (3, .int (nI cn)), (4, .int (nI dn))] 1 rfl (by rw [show Int32.ofInt 1 = nI 1 from by decide, nI_add]) (by decide) rfl dX11_place_153 ?_
                refine j_goto C 24 (by decide) dX11_place_156 ?_
                refine j_sub (lv' := [(7, .int (nI (pu + 1))), (6, .int y34_6), (5, .int y34_5), (0, .ref (g 0)), (1, .int (nI an)), (2, .int (nI bn)), (3, .int (nI cn)), (4, .int (nI dn))]) [0, 2, 3, 4, 5, 6, 7, 8] rfl ?_
                exact ih24 (pu + 1) y34_6 y34_5 (by omega) (by have z := hB2; rw [show 21 * pu + pv = 21 * (pu + 1) by omega] at z; exact z) (by omega)
              · refine j_iconst C (nI 0) (by decide) dX11_place_41 ?_
                refine j_istore C [(9, .int (nI 0)), (8, .int (nI pv)), (7, .int (nI pu)), (6, .int y34_6), (5, .int y34_5), (0, .ref (g 0)), (1, .int (nI an)), (2, .int (nI bn)), (3, .int (nI cn)), (4, .int (nI dn))] (by decide) rfl dX11_place_42 ?_
                refine j_iload_n C 6 rfl dX11_place_44 ?_
                refine j_istore C [(10, .int (nI an)), (9, .int (nI 0)), (8, .int (nI pv)), (7, .int (nI pu)), (6, .int y34_6), (5, .int y34_5), (0, .ref (g 0)), (1, .int (nI an)), (2, .int (nI bn)), (3, .int (nI cn)), (4, .int (nI dn))] (by decide) rfl dX11_place_45 ?_
                have L47 : ∀ (n47 : Nat) (x : Nat) (t : Nat) (i47_0 : an ≤ x) (i47_1 : x ≤ bn + 1) (i47_2 : t ≤ 1000 * (x - an)) (ht1 : t = psum (pg (fun x y => nrV (zX G) (zY G) x y k) an cn (dn + 1 - cn) pu pv) ((x - an) * (dn + 1 - cn))) (hm47 : bn + 1 - x < n47), J X 0 0 (cM g kk σ) [(10, .int (nI x)), (9, .int (nI t)), (8, .int (nI pv)), (7, .int (nI pu)), (6, .int y34_6), (5, .int y34_5), (0, .ref (g 0)), (1, .int (nI an)), (2, .int (nI bn)), (3, .int (nI cn)), (4, .int (nI dn))] 47 [] := by
                  intro n47
                  induction n47 with
                  | zero => intro x t i47_0 i47_1 i47_2 ht1 hm; exact absurd hm (Nat.not_lt_zero _)
                  | succ n47 ih47 =>
                    intro x t i47_0 i47_1 i47_2 ht1 hm47
                    refine j_iload C 0 rfl dX11_place_47 ?_
                    refine j_iload_n C 8 rfl dX11_place_49 ?_
                    refine j_icmp_gtN C 121 (by decide) (by omega) (by omega) dX11_place_50 (fun c4 => ?_) (fun c4 => ?_)
                    · have hT9 : t = psum (pg (fun x y => nrV (zX G) (zY G) x y k) an cn (dn + 1 - cn) pu pv) ((bn + 1 - an) * (dn + 1 - cn)) := by have z := ht1; rw [show x = bn + 1 by omega] at z; exact z
                      have htt : t ≤ 17640 := by have q1 := psum_le (f := (pg (fun x y => nrV (zX G) (zY G) x y k) an cn (dn + 1 - cn) pu pv)) (P := ((bn + 1 - an) * (dn + 1 - cn))) (fun q hq => pg_le (by omega) (by omega) (by omega) (by omega) (by omega) hq) ((bn + 1 - an) * (dn + 1 - cn)) (Nat.le_refl _); have q2 := rect_b (i := an) (j := bn) (k := cn) (l := dn) (by omega) (by omega); rw [← hT9] at q1; omega
                      refine j_iload C 5 rfl dX11_place_121 ?_
                      refine j_if_lt C 133 (by decide) dX11_place_123 (fun c5 => ?_) (fun c5 => ?_)
                      · refine j_bipush C (nI 100) (by decide) dX11_place_133 ?_
                        refine j_iload C 3 rfl dX11_place_135 ?_
                        refine j_imulN C dX11_place_137 ?_
                        refine j_iload C 2 rfl dX11_place_138 ?_
                        refine j_iaddN C dX11_place_140 ?_
                        refine j_istore C [(5, .int (nI ((100 * pu) + pv))), (10, .int (nI x)), (9, .int (nI t)), (8, .int (nI pv)), (7, .int (nI pu)), (6, .int y34_6), (0, .ref (g 0)), (1, .int (nI an)), (2, .int (nI bn)), (3, .int (nI cn)), (4, .int (nI dn))] (by decide) rfl dX11_place_141 ?_
                        refine j_iload C 2 rfl dX11_place_143 ?_
                        refine j_istore C [(6, .int (nI t)), (5, .int (nI ((100 * pu) + pv))), (10, .int (nI x)), (9, .int (nI t)), (8, .int (nI pv)), (7, .int (nI pu)), (0, .ref (g 0)), (1, .int (nI an)), (2, .int (nI bn)), (3, .int (nI cn)), (4, .int (nI dn))] (by decide) rfl dX11_place_145 ?_
                        refine j_iinc C (nI (pv + 1)) [(8, .int (nI (pv + 1))), (6, .int (nI t)), (5, .int (nI ((100 * pu) + pv))), (10, .int (nI x)), (9, .int (nI t)), (7, .int (nI pu)), (0, .ref (g 0)), (1, .int (nI an)), (2, .int (nI bn)), (3, .int (nI cn)), (4, .int (nI dn))] 4 rfl (by rw [show Int32.ofInt 1 = nI 1 from by decide, nI_add]) (by decide) rfl dX11_place_147 ?_
                        refine j_goto C 34 (by decide) dX11_place_150 ?_
                        refine j_sub (lv' := [(8, .int (nI (pv + 1))), (7, .int (nI pu)), (6, .int (nI t)), (5, .int (nI ((100 * pu) + pv))), (0, .ref (g 0)), (1, .int (nI an)), (2, .int (nI bn)), (3, .int (nI cn)), (4, .int (nI dn))]) [0, 5, 1, 2, 6, 7, 8, 9, 10] rfl ?_
                        exact ih34 (pv + 1) (nI t) (nI ((100 * pu) + pv)) (by omega) (bi_A (by omega) (by omega) hB2 hT9 htt c5) (by omega)
                      · refine j_iload C 1 rfl dX11_place_126 ?_
                        refine j_iload C 4 rfl dX11_place_128 ?_
                        refine j_icmp_ge C 147 (by decide) dX11_place_130 (fun c6 => ?_) (fun c6 => ?_)
                        · refine j_iinc C (nI (pv + 1)) [(8, .int (nI (pv + 1))), (10, .int (nI x)), (9, .int (nI t)), (7, .int (nI pu)), (6, .int y34_6), (5, .int y34_5), (0, .ref (g 0)), (1, .int (nI an)), (2, .int (nI bn)), (3, .int (nI cn)), (4, .int (nI dn))] 2 rfl (by rw [show Int32.ofInt 1 = nI 1 from by decide, nI_add]) (by decide) rfl dX11_place_147 ?_
                          refine j_goto C 34 (by decide) dX11_place_150 ?_
                          refine j_sub (lv' := [(8, .int (nI (pv + 1))), (7, .int (nI pu)), (6, .int y34_6), (5, .int y34_5), (0, .ref (g 0)), (1, .int (nI an)), (2, .int (nI bn)), (3, .int (nI cn)), (4, .int (nI dn))]) [0, 3, 4, 5, 6, 7, 8, 9, 10] rfl ?_
                          exact ih34 (pv + 1) y34_6 y34_5 (by omega) (bi_C (by omega) (by omega) hB2 hT9 htt c5 c6) (by omega)
                        · refine j_bipush C (nI 100) (by decide) dX11_place_133 ?_
                          refine j_iload C 3 rfl dX11_place_135 ?_
                          refine j_imulN C dX11_place_137 ?_
                          refine j_iload C 2 rfl dX11_place_138 ?_
                          refine j_iaddN C dX11_place_140 ?_
                          refine j_istore C [(5, .int (nI ((100 * pu) + pv))), (10, .int (nI x)), (9, .int (nI t)), (8, .int (nI pv)), (7, .int (nI pu)), (6, .int y34_6), (0, .ref (g 0)), (1, .int (nI an)), (2, .int (nI bn)), (3, .int (nI cn)), (4, .int (nI dn))] (by decide) rfl dX11_place_141 ?_
                          refine j_iload C 2 rfl dX11_place_143 ?_
                          refine j_istore C [(6, .int (nI t)), (5, .int (nI ((100 * pu) + pv))), (10, .int (nI x)), (9, .int (nI t)), (8, .int (nI pv)), (7, .int (nI pu)), (0, .ref (g 0)), (1, .int (nI an)), (2, .int (nI bn)), (3, .int (nI cn)), (4, .int (nI dn))] (by decide) rfl dX11_place_145 ?_
                          refine j_iinc C (nI (pv + 1)) [(8, .int (nI (pv + 1))), (6, .int (nI t)), (5, .int (nI ((100 * pu) + pv))), (10, .int (nI x)), (9, .int (nI t)), (7, .int (nI pu)), (0, .ref (g 0)), (1, .int (nI an)), (2, .int (nI bn)), (3, .int (nI cn)), (4, .int (nI dn))] 4 rfl (by rw [show Int32.ofInt 1 = nI 1 from by decide, nI_add]) (by decide) rfl dX11_place_147 ?_
                          refine j_goto C 34 (by decide) dX11_place_150 ?_
                          refine j_sub (lv' := [(8, .int (nI (pv + 1))), (7, .int (nI pu)), (6, .int (nI t)), (5, .int (nI ((100 * pu) + pv))), (0, .ref (g 0)), (1, .int (nI an)), (2, .int (nI bn)), (3, .int (nI cn)), (4, .int (nI dn))]) [0, 5, 1, 2, 6, 7, 8, 9, 10] rfl ?_
                          exact ih34 (pv + 1) (nI t) (nI ((100 * pu) + pv)) (by omega) (bi_B (by omega) (by omega) hB2 hT9 htt c5 c6) (by omega)
                    · refine j_iload_n C 9 rfl dX11_place_53 ?_
                      refine j_istore C [(11, .int (nI cn)), (10, .int (nI x)), (9, .int (nI t)), (8, .int (nI pv)), (7, .int (nI pu)), (6, .int y34_6), (5, .int y34_5), (0, .ref (g 0)), (1, .int (nI an)), (2, .int (nI bn)), (3, .int (nI cn)), (4, .int (nI dn))] (by decide) rfl dX11_place_54 ?_
                      have L56 : ∀ (n56 : Nat) (y : Nat) (t2 : Nat) (i56_0 : cn ≤ y) (i56_1 : y ≤ dn + 1) (i56_2 : t2 ≤ 1000 * (x - an) + 40 * (y - cn)) (ht2 : t2 = psum (pg (fun x y => nrV (zX G) (zY G) x y k) an cn (dn + 1 - cn) pu pv) ((x - an) * (dn + 1 - cn) + (y - cn))) (hm56 : dn + 1 - y < n56), J X 0 0 (cM g kk σ) [(11, .int (nI y)), (10, .int (nI x)), (9, .int (nI t2)), (8, .int (nI pv)), (7, .int (nI pu)), (6, .int y34_6), (5, .int y34_5), (0, .ref (g 0)), (1, .int (nI an)), (2, .int (nI bn)), (3, .int (nI cn)), (4, .int (nI dn))] 56 [] := by
                        intro n56
                        induction n56 with
                        | zero => intro y t2 i56_0 i56_1 i56_2 ht2 hm; exact absurd hm (Nat.not_lt_zero _)
                        | succ n56 ih56 =>
                          intro y t2 i56_0 i56_1 i56_2 ht2 hm56
                          refine j_iload C 0 rfl dX11_place_56 ?_
                          refine j_iload C 11 rfl dX11_place_58 ?_
                          refine j_icmp_gtN C 115 (by decide) (by omega) (by omega) dX11_place_60 (fun c7 => ?_) (fun c7 => ?_)
                          · refine j_iinc C (nI (x + 1)) [(10, .int (nI (x + 1))), (11, .int (nI y)), (9, .int (nI t2)), (8, .int (nI pv)), (7, .int (nI pu)), (6, .int y34_6), (5, .int y34_5), (0, .ref (g 0)), (1, .int (nI an)), (2, .int (nI bn)), (3, .int (nI cn)), (4, .int (nI dn))] 1 rfl (by rw [show Int32.ofInt 1 = nI 1 from by decide, nI_add]) (by decide) rfl dX11_place_115 ?_
                            refine j_goto C 47 (by decide) dX11_place_118 ?_
                            refine j_sub (lv' := [(10, .int (nI (x + 1))), (9, .int (nI t2)), (8, .int (nI pv)), (7, .int (nI pu)), (6, .int y34_6), (5, .int y34_5), (0, .ref (g 0)), (1, .int (nI an)), (2, .int (nI bn)), (3, .int (nI cn)), (4, .int (nI dn))]) [0, 2, 3, 4, 5, 6, 7, 8, 9, 10, 11] rfl ?_
                            exact ih47 (x + 1) t2 (by omega) (by omega) (by omega) (by have z := ht2; rw [show y - cn = dn + 1 - cn by omega, rect_s (by omega) rfl] at z; exact z) (by omega)
                          · refine j_iload C 4 rfl dX11_place_63 ?_
                            refine j_iload C 1 rfl dX11_place_65 ?_
                            refine j_S01 C (m_off (nI pu) (nI x)) kyX11_off tb_1155 tb_1156 rfl (Nat.le_of_ble_eq_true rfl) ⟨by decide, by decide⟩ ⟨by decide, by decide⟩ dX11_place_67 rfl ?_
                            rw [off_n (by omega) (by omega)]
                            refine j_iload C 3 rfl dX11_place_70 ?_
                            refine j_iload C 0 rfl dX11_place_72 ?_
                            refine j_S01 C (m_off (nI pv) (nI y)) kyX11_off tb_1155 tb_1156 rfl (Nat.le_of_ble_eq_true rfl) ⟨by decide, by decide⟩ ⟨by decide, by decide⟩ dX11_place_74 rfl ?_
                            rw [off_n (by omega) (by omega)]
                            refine j_iaddN C dX11_place_77 ?_
                            refine j_istore C [(12, .int (nI (((pu - x) + (x - pu)) + ((pv - y) + (y - pv))))), (11, .int (nI y)), (10, .int (nI x)), (9, .int (nI t2)), (8, .int (nI pv)), (7, .int (nI pu)), (6, .int y34_6), (5, .int y34_5), (0, .ref (g 0)), (1, .int (nI an)), (2, .int (nI bn)), (3, .int (nI cn)), (4, .int (nI dn))] (by decide) rfl dX11_place_78 ?_
                            refine j_aload_n C 8 rfl dX11_place_80 ?_
                            refine j_iload C 2 rfl dX11_place_81 ?_
                            refine j_iload C 1 rfl dX11_place_83 ?_
                            refine j_V1 C (o_nearest g kk σ k hk hk6 hI nf hnf (by omega) G hM x (by first | assumption | omega) y (by first | assumption | omega)) kyX11_nearest tb_1270 tb_1272 sp_42 0 rfl (eM_0 g kk _) rfl (Nat.le_of_ble_eq_true rfl) ⟨by decide, by decide⟩ dX11_place_85 rfl (fun vr ur hp => ?_)
                            obtain ⟨r9, rfl, hu, g8⟩ := hp
                            replace hu := hu.symm
                            subst hu
                            subst g8
                            have hnr := nr_le (X := zX G) (Y := zY G) (x := x) (y := y) k
                            refine j_istore C [(13, .int (nI (nrV (zX G) (zY G) x y k))), (12, .int (nI (((pu - x) + (x - pu)) + ((pv - y) + (y - pv))))), (11, .int (nI y)), (10, .int (nI x)), (9, .int (nI t2)), (8, .int (nI pv)), (7, .int (nI pu)), (6, .int y34_6), (5, .int y34_5), (0, .ref (g 0)), (1, .int (nI an)), (2, .int (nI bn)), (3, .int (nI cn)), (4, .int (nI dn))] (by decide) rfl dX11_place_88 ?_
                            refine j_iload C 4 rfl dX11_place_90 ?_
                            refine j_iload C 1 rfl dX11_place_92 ?_
                            refine j_iload C 0 rfl dX11_place_94 ?_
                            refine j_icmp_geN C 104 (by decide) (by omega) (by omega) dX11_place_96 (fun c10 => ?_) (fun c10 => ?_)
                            · refine j_iload C 0 rfl dX11_place_104 ?_
                              refine j_iaddN C dX11_place_106 ?_
                              refine j_istore C [(9, .int (nI (t2 + (nrV (zX G) (zY G) x y k)))), (13, .int (nI (nrV (zX G) (zY G) x y k))), (12, .int (nI (((pu - x) + (x - pu)) + ((pv - y) + (y - pv))))), (11, .int (nI y)), (10, .int (nI x)), (8, .int (nI pv)), (7, .int (nI pu)), (6, .int y34_6), (5, .int y34_5), (0, .ref (g 0)), (1, .int (nI an)), (2, .int (nI bn)), (3, .int (nI cn)), (4, .int (nI dn))] (by decide) rfl dX11_place_107 ?_
                              refine j_iinc C (nI (y + 1)) [(11, .int (nI (y + 1))), (9, .int (nI (t2 + (nrV (zX G) (zY G) x y k)))), (13, .int (nI (nrV (zX G) (zY G) x y k))), (12, .int (nI (((pu - x) + (x - pu)) + ((pv - y) + (y - pv))))), (10, .int (nI x)), (8, .int (nI pv)), (7, .int (nI pu)), (6, .int y34_6), (5, .int y34_5), (0, .ref (g 0)), (1, .int (nI an)), (2, .int (nI bn)), (3, .int (nI cn)), (4, .int (nI dn))] 3 rfl (by rw [show Int32.ofInt 1 = nI 1 from by decide, nI_add]) (by decide) rfl dX11_place_109 ?_
                              refine j_goto C 56 (by decide) dX11_place_112 ?_
                              refine j_sub (lv' := [(11, .int (nI (y + 1))), (10, .int (nI x)), (9, .int (nI (t2 + (nrV (zX G) (zY G) x y k)))), (8, .int (nI pv)), (7, .int (nI pu)), (6, .int y34_6), (5, .int y34_5), (0, .ref (g 0)), (1, .int (nI an)), (2, .int (nI bn)), (3, .int (nI cn)), (4, .int (nI dn))]) [0, 4, 1, 5, 6, 7, 8, 9, 10, 11, 12, 13] rfl ?_
                              exact ih56 (y + 1) (t2 + (nrV (zX G) (zY G) x y k)) (by omega) (by omega) (by omega) (pg_r (F := fun x y => nrV (zX G) (zY G) x y k) (by omega) (by omega) (by omega) ht2 (by show _ = min (nrV (zX G) (zY G) x y k) (frN pu pv x y); unfold frN; omega)) (by omega)
                            · refine j_iload C 1 rfl dX11_place_99 ?_
                              refine j_goto C 106 (by decide) dX11_place_101 ?_
                              refine j_iaddN C dX11_place_106 ?_
                              refine j_istore C [(9, .int (nI (t2 + (((pu - x) + (x - pu)) + ((pv - y) + (y - pv)))))), (13, .int (nI (nrV (zX G) (zY G) x y k))), (12, .int (nI (((pu - x) + (x - pu)) + ((pv - y) + (y - pv))))), (11, .int (nI y)), (10, .int (nI x)), (8, .int (nI pv)), (7, .int (nI pu)), (6, .int y34_6), (5, .int y34_5), (0, .ref (g 0)), (1, .int (nI an)), (2, .int (nI bn)), (3, .int (nI cn)), (4, .int (nI dn))] (by decide) rfl dX11_place_107 ?_
                              refine j_iinc C (nI (y + 1)) [(11, .int (nI (y + 1))), (9, .int (nI (t2 + (((pu - x) + (x - pu)) + ((pv - y) + (y - pv)))))), (13, .int (nI (nrV (zX G) (zY G) x y k))), (12, .int (nI (((pu - x) + (x - pu)) + ((pv - y) + (y - pv))))), (10, .int (nI x)), (8, .int (nI pv)), (7, .int (nI pu)), (6, .int y34_6), (5, .int y34_5), (0, .ref (g 0)), (1, .int (nI an)), (2, .int (nI bn)), (3, .int (nI cn)), (4, .int (nI dn))] 3 rfl (by rw [show Int32.ofInt 1 = nI 1 from by decide, nI_add]) (by decide) rfl dX11_place_109 ?_
                              refine j_goto C 56 (by decide) dX11_place_112 ?_
                              refine j_sub (lv' := [(11, .int (nI (y + 1))), (10, .int (nI x)), (9, .int (nI (t2 + (((pu - x) + (x - pu)) + ((pv - y) + (y - pv)))))), (8, .int (nI pv)), (7, .int (nI pu)), (6, .int y34_6), (5, .int y34_5), (0, .ref (g 0)), (1, .int (nI an)), (2, .int (nI bn)), (3, .int (nI cn)), (4, .int (nI dn))]) [0, 4, 1, 5, 6, 7, 8, 9, 10, 11, 12, 13] rfl ?_
                              exact ih56 (y + 1) (t2 + (((pu - x) + (x - pu)) + ((pv - y) + (y - pv)))) (by omega) (by omega) (by omega) (pg_r (F := fun x y => nrV (zX G) (zY G) x y k) (by omega) (by omega) (by omega) ht2 (by show _ = min (nrV (zX G) (zY G) x y k) (frN pu pv x y); unfold frN; omega)) (by omega)
                      exact L56 _ cn t (by omega) (by omega) (by omega) (by rw [Nat.sub_self, Nat.add_zero]; exact ht1) (Nat.lt_succ_self _)
                exact L47 _ an 0 (by omega) (by omega) (by omega) (by rw [Nat.sub_self, Nat.zero_mul]; rfl) (Nat.lt_succ_self _)
          exact L34 _ 0 y24_6 y24_5 (by omega) hB1 (Nat.lt_succ_self _)
    exact L24 _ 0 (nI 0) (-6) (by omega) (Or.inl ⟨rfl, rfl, rfl⟩) (Nat.lt_succ_self _)
  · replace c1 := bI_f c1
    refine j_bipush C ((-2)) (by decide) dX11_place_11 ?_
    exact j_iret C E (σ) ⟨_, rfl, ⟨rfl, (plF_2 c1)⟩⟩ rfl dX11_place_13
