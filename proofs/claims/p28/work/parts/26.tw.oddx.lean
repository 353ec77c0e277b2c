def od_stp (p : Int64) : List Int64 → List Int64
  | [] => []
  | x :: t => (4 * x + p) :: od_stp x t
def od_row : Nat → List Int64
  | 0 => 1 :: List.replicate 27 0
  | n + 1 => od_stp 0 (od_row n)
def od_wy (n k : Nat) : Int64 := (od_row n).getD k 0
theorem od_stp_len : ∀ (l : List Int64) (p : Int64), (od_stp p l).length = l.length
  | [], _ => rfl
  | _ :: t, _ => congrArg (· + 1) (od_stp_len t _)
theorem od_stp_at : ∀ (l : List Int64) (p : Int64) (k : Nat), k < l.length → (od_stp p l).getD k 0 = 4 * l.getD k 0 + (if k = 0 then p else l.getD (k - 1) 0)
  | [], _, _, h => absurd h (Nat.not_lt_zero _)
  | _ :: _, _, 0, _ => rfl
  | x :: t, p, k + 1, h => by
    show (od_stp x t).getD k 0 = 4 * t.getD k 0 + (if k + 1 = 0 then p else (x :: t).getD k 0)
    rw [od_stp_at t x k (Nat.lt_of_succ_lt_succ h), if_neg (Nat.succ_ne_zero k)]
    cases k with
    | zero => rw [if_pos rfl]; rfl
    | succ k => rw [if_neg (Nat.succ_ne_zero k)]; rfl
theorem od_row_len : ∀ n, (od_row n).length = 28
  | 0 => rfl
  | n + 1 => (od_stp_len _ _).trans (od_row_len n)
theorem od_wy_s {n k : Nat} (h : k < 28) : od_wy (n + 1) k = 4 * od_wy n k + (if k = 0 then 0 else od_wy n (k - 1)) := od_stp_at (od_row n) 0 k (by rw [od_row_len]; exact h)
theorem od_wy_i : ∀ k : Fin 28, od_wy 0 k.val = if k.val = 0 then 1 else 0 := by decide +kernel
theorem od_wy_0 : ∀ n k : Nat, n < k → k < 28 → od_wy n k = 0
  | 0, k, h, h2 => (od_wy_i ⟨k, h2⟩).trans (if_neg (Nat.ne_of_gt h))
  | n + 1, k, h, h2 => by
    rw [od_wy_s h2, od_wy_0 n k (by omega) h2, if_neg (by omega), od_wy_0 n (k - 1) (by omega) (by omega)]
    decide
def od_su (f : Nat → Int64) (b : Nat) : Nat → Int64
  | 0 => 0
  | n + 1 => od_su f b n + f (b + n)
def od_wx (a : Nat) : Nat → Int64 × Int64 × Int64
  | 0 => (0, 1, 1)
  | o + 1 => ((od_wx a o).1 + (od_wx a o).2.1 * (od_wx a o).2.2, (od_wx a o).2.1 * (nI (a - o)).toInt64 / (nI (o + 1)).toInt64, (od_wx a o).2.2 * 4)
def od_rd : Nat → Int64 → Int64 → Int64 × Int64
  | 0, x, y => (x, y)
  | m + 1, x, y => if x - x / 5 * 5 = 0 then od_rd m (x / 5) (y / 5) else (x, y)
def od_gt : Nat → Int64 → Int64 → Option Int64
  | 0, x, y => if y = 0 then some x else none
  | m + 1, x, y => if y = 0 then some x else od_gt m y (x - x / y * y)
def od_p (a b : Nat) : Int64 × Int64 := od_rd a (od_wx a (a - b + 1)).1 (p5 a)
def od_s (a b : Nat) : Int64 := od_su (od_wy a) b (a + 1 - b)
def od_ok (a b : Nat) : Bool := match od_gt 99 (od_s a b) (p5 a) with
  | none => false
  | some g => decide (¬ g = 0) && (decide (od_s a b / g = (od_p a b).1) && decide (p5 a / g = (od_p a b).2))
set_option maxRecDepth 100000 in
theorem od_all : ∀ a : Fin 27, ∀ b : Fin 27, b.val ≤ a.val → od_ok a.val b.val = true := by decide +kernel
def od_g (a b : Nat) : Int64 := (od_gt 99 (od_s a b) (p5 a)).getD 0
theorem od_fin {a b : Nat} (ha : a ≤ 26) (hb : b ≤ a) : od_gt 99 (od_s a b) (p5 a) = some (od_g a b) ∧ ¬ od_g a b = 0 ∧ od_s a b / od_g a b = (od_p a b).1 ∧ p5 a / od_g a b = (od_p a b).2 := by
  have z := od_all ⟨a, by omega⟩ ⟨b, by omega⟩ hb
  unfold od_g
  cases e : od_gt 99 (od_s a b) (p5 a) with
  | none =>
    have z : (match od_gt 99 (od_s a b) (p5 a) with | none => false | some g => decide (¬ g = 0) && (decide (od_s a b / g = (od_p a b).1) && decide (p5 a / g = (od_p a b).2))) = true := z
    rw [e] at z
    have z : false = true := z
    exact absurd z (by decide)
  | some g =>
    have z : (match od_gt 99 (od_s a b) (p5 a) with | none => false | some g => decide (¬ g = 0) && (decide (od_s a b / g = (od_p a b).1) && decide (p5 a / g = (od_p a b).2))) = true := z
    rw [e] at z
    have z : (decide (¬ g = 0) && (decide (od_s a b / g = (od_p a b).1) && decide (p5 a / g = (od_p a b).2))) = true := z
    have z1 := andL z
    have z2 := andL (andR z)
    have z3 := andR (andR z)
    exact ⟨rfl, of_decide_eq_true z1, of_decide_eq_true z2, of_decide_eq_true z3⟩
/-! the class's loops -/
theorem od_wx_s {a o : Nat} {up w f : Int64} (hw : (up, w, f) = od_wx a o) : (up + w * f, w * (nI (a - o)).toInt64 / (nI (o + 1)).toInt64, f * 4) = od_wx a (o + 1) := by
  show _ = ((od_wx a o).1 + (od_wx a o).2.1 * (od_wx a o).2.2, (od_wx a o).2.1 * (nI (a - o)).toInt64 / (nI (o + 1)).toInt64, (od_wx a o).2.2 * 4)
  rw [← hw]
theorem od_in {a b o n : Nat} {up w f lo : Int64} (hw : (up, w, f) = od_wx a o) (ho : o = a - b + 1) (hl : lo = p5 n) (hn : n = a) : od_rd (a - 0) up lo = od_p a b := by
  unfold od_p
  rw [← ho, ← hw, hl, hn]
  rfl
theorem od_rd_s {a m : Nat} {x y : Int64} {z : Int64 × Int64} (hr : od_rd (a - m) x y = z) (hm : m < a) (h5 : x - x / 5 * 5 = 0) : od_rd (a - (m + 1)) (x / 5) (y / 5) = z := by
  rw [show a - m = (a - (m + 1)) + 1 by omega] at hr
  rw [← hr]
  show _ = (if x - x / 5 * 5 = 0 then od_rd (a - (m + 1)) (x / 5) (y / 5) else (x, y))
  rw [if_pos h5]
theorem od_rd_n {a m : Nat} {x y : Int64} {z : Int64 × Int64} (hr : od_rd (a - m) x y = z) (hm : m < a) (h5 : ¬ x - x / 5 * 5 = 0) : (x, y) = z := by
  rw [show a - m = (a - (m + 1)) + 1 by omega] at hr
  rw [← hr]
  show _ = (if x - x / 5 * 5 = 0 then od_rd (a - (m + 1)) (x / 5) (y / 5) else (x, y))
  rw [if_neg h5]
theorem od_rd_e {a m : Nat} {x y : Int64} {z : Int64 × Int64} (hr : od_rd (a - m) x y = z) (hm : a ≤ m) : (x, y) = z := by
  rw [show a - m = 0 by omega] at hr
  exact hr
/-! the reference's loops -/
theorem od_i1 {gw : Nat → Int64} {i : Nat} (hi : i = 0) : ∀ j, j < i + 1 → vp_updL gw i 1 j = if j = 0 then 1 else 0 := fun j hj => by
  have e : j = i := by omega
  rw [e, if_pos hi]
  exact if_pos rfl
theorem od_i0 {gw : Nat → Int64} {i : Nat} (h : ∀ j, j < i → gw j = if j = 0 then 1 else 0) (hi : ¬ i = 0) : ∀ j, j < i + 1 → vp_updL gw i 0 j = if j = 0 then 1 else 0 := fun j hj => by
  by_cases e : j = i
  · rw [e, if_neg hi]
    exact if_pos rfl
  · rw [← h j (by omega)]
    exact if_neg e
theorem od_g0 {gw : Nat → Int64} {i : Nat} (h : ∀ j, j < i → gw j = if j = 0 then 1 else 0) (hi : 28 ≤ i) : ∀ j, j < 28 → gw j = od_wy 0 j := fun j hj => (h j (by omega)).trans (od_wy_i ⟨j, hj⟩).symm
theorem od_g1 {gv : Nat → Int64} {n : Nat} (h : ∀ j, j < 28 → gv j = od_wy n j) (hn : n < 27) : ∀ j, j < 28 → gv j = if ms (nI (n + 1)) ≤ j then od_wy (n + 1) j else od_wy n j := fun j hj => by
  rw [ms_nI (by omega), h j hj]
  by_cases e : n + 1 + 1 ≤ j
  · rw [if_pos e, od_wy_0 n j (by omega) hj, od_wy_0 (n + 1) j (by omega) hj]
  · rw [if_neg e]
theorem od_gs {gx : Nat → Int64} {n m : Nat} {x : Int64} (h : ∀ j, j < 28 → gx j = if ms (nI m) ≤ j then od_wy (n + 1) j else od_wy n j) (hm : m < 28) (hx : x = od_wy (n + 1) m) : ∀ j, j < 28 → vp_updL gx m x j = if ms (nI m + (-1)) ≤ j then od_wy (n + 1) j else od_wy n j := fun j hj => by
  rw [ms_d (by omega)]
  by_cases e : j = m
  · rw [e, if_pos (Nat.le_refl m), ← hx]
    exact if_pos rfl
  · have z : vp_updL gx m x j = gx j := if_neg e
    rw [z, h j hj, ms_nI (by omega)]
    by_cases q : m + 1 ≤ j
    · rw [if_pos q, if_pos (by omega)]
    · rw [if_neg q, if_neg (by omega)]
theorem od_gs1 {gx : Nat → Int64} {n m : Nat} (h : ∀ j, j < 28 → gx j = if ms (nI m) ≤ j then od_wy (n + 1) j else od_wy n j) (hm : m < 28) (h0 : 0 < m) : ∀ j, j < 28 → vp_updL gx m (4 * gx m + gx (m - 1)) j = if ms (nI m + (-1)) ≤ j then od_wy (n + 1) j else od_wy n j := by
  refine od_gs h hm ?_
  rw [h m hm, h (m - 1) (by omega), ms_nI (by omega), if_neg (by omega), if_neg (by omega), od_wy_s hm, if_neg (by omega)]
theorem od_gs0 {gx : Nat → Int64} {n m : Nat} (h : ∀ j, j < 28 → gx j = if ms (nI m) ≤ j then od_wy (n + 1) j else od_wy n j) (hm : m < 28) (h0 : m = 0) : ∀ j, j < 28 → vp_updL gx m (4 * gx m + 0) j = if ms (nI m + (-1)) ≤ j then od_wy (n + 1) j else od_wy n j := by
  refine od_gs h hm ?_
  rw [h m hm, ms_nI (by omega), if_neg (by omega), od_wy_s hm, if_pos h0]
theorem od_ge {gx : Nat → Int64} {b n : Nat} {y : Int32} (hy : lm_ b y) (hb : b < 2 ^ 31) (hl : y < 0) (h : ∀ j, j < 28 → gx j = if ms y ≤ j then od_wy (n + 1) j else od_wy n j) : ∀ j, j < 28 → gx j = od_wy (n + 1) j := fun j hj => by
  rcases hy with q | ⟨q, q1, q2⟩
  · rw [h j hj, q, if_pos (Nat.le_trans (show ms (-1) ≤ 0 by decide) (Nat.zero_le j))]
  · rw [q2] at hl
    exact absurd hl (nI_pos (by omega))
theorem od_su_s {gv : Nat → Int64} {a b n j : Nat} {s : Int64} (hs : s = od_su (od_wy a) b (j - b)) (hg : ∀ j, j < 28 → gv j = od_wy n j) (hn : n = a) (hj : b ≤ j) (hj2 : j < 28) : s + gv j = od_su (od_wy a) b (j + 1 - b) := by
  rw [show j + 1 - b = (j - b) + 1 by omega, hs, hg j hj2, hn]
  show _ = od_su (od_wy a) b (j - b) + od_wy a (b + (j - b))
  rw [show b + (j - b) = j by omega]
theorem od_gi {a b n j : Nat} {s p : Int64} (hs : s = od_su (od_wy a) b (j - b)) (hj : j = a + 1) (hp : p = p5 n) (hn : n = a) (ha : a ≤ 26) (hb : b ≤ a) : od_gt 99 s p = some (od_g a b) := by
  subst hj hn hp hs
  exact (od_fin ha hb).1
theorem od_gt_p {m : Nat} {x y z : Int64} (h : od_gt m x y = some z) (hy : ¬ y = 0) : 0 < m := by
  cases m with
  | zero =>
    have h : (if y = 0 then some x else none) = some z := h
    rw [if_neg hy] at h
    exact absurd h (by simp)
  | succ m => exact Nat.succ_pos m
theorem od_gt_s {m : Nat} {x y z : Int64} (h : od_gt m x y = some z) (hy : ¬ y = 0) : od_gt (m - 1) y (x - x / y * y) = some z := by
  have hp := od_gt_p h hy
  obtain ⟨q, rfl⟩ : ∃ q, m = q + 1 := ⟨m - 1, by omega⟩
  have h : (if y = 0 then some x else od_gt q y (x - x / y * y)) = some z := h
  rw [if_neg hy] at h
  exact h
theorem od_gt_e {m : Nat} {x y z : Int64} (h : od_gt m x y = some z) (hy : y = 0) : x = z := by
  cases m with
  | zero =>
    have h : (if y = 0 then some x else none) = some z := h
    rw [if_pos hy] at h
    exact Option.some.inj h
  | succ m =>
    have h : (if y = 0 then some x else od_gt m y (x - x / y * y)) = some z := h
    rw [if_pos hy] at h
    exact Option.some.inj h
theorem od_gne {a b : Nat} {x : Int64} (hx : x = od_g a b) (ha : a ≤ 26) (hb : b ≤ a) : ¬ x = 0 := by
  rw [hx]
  exact (od_fin ha hb).2.1
theorem od_r1 {a b j : Nat} {s x : Int64} (hs : s = od_su (od_wy a) b (j - b)) (hj : j = a + 1) (hx : x = od_g a b) (ha : a ≤ 26) (hb : b ≤ a) : s / x = (od_p a b).1 := by
  subst hj hs hx
  exact (od_fin ha hb).2.2.1
theorem od_r2 {a b n : Nat} {p x : Int64} (hp : p = p5 n) (hn : n = a) (hx : x = od_g a b) (ha : a ≤ 26) (hb : b ≤ a) : p / x = (od_p a b).2 := by
  subst hn hp hx
  exact (od_fin ha hb).2.2.2
def odF (k : Nat) (f : Nat → Int32) (x y : Int32) : Int64 := if cB x (nI k) = false then -1000000000000000001 else if wB y (nI 0) (nI 1) = false then -1000000000000000002 else if y = nI 0 then (od_p (fv f (28 * x.toNatClampNeg) 28).1 (fv f (28 * x.toNatClampNeg) 28).2).1 else (od_p (fv f (28 * x.toNatClampNeg) 28).1 (fv f (28 * x.toNatClampNeg) 28).2).2
theorem odF_1 {k : Nat} {f : Nat → Int32} {x y : Int32} (h : cB x (nI k) = false) : -1000000000000000001 = odF k f x y := by unfold odF; rw [if_pos h]
theorem odF_2 {k : Nat} {f : Nat → Int32} {x y : Int32} (h : cB x (nI k) = true) (h2 : wB y (nI 0) (nI 1) = false) : -1000000000000000002 = odF k f x y := by unfold odF; rw [if_neg (by rw [h]; decide), if_pos h2]
theorem odF_3 {k c p q y b : Nat} {f : Nat → Int32} {r : Int64} (h : cB (nI c) (nI k) = true) (h2 : wB (nI y) (nI 0) (nI 1) = true) (hc : c < 2 ^ 31) (hy : y = 0) (hb : b = 28 * c) (he : (p, q) = fv f b 28) (hr : r = (od_p p q).1) : r = odF k f (nI c) (nI y) := by
  unfold odF
  rw [if_neg (by rw [h]; decide), if_neg (by rw [h2]; decide), if_pos (by rw [hy]), nI_clamp hc, ← hb, ← he]
  exact hr
theorem odF_4 {k c p q y b : Nat} {f : Nat → Int32} {r : Int64} (h : cB (nI c) (nI k) = true) (h2 : wB (nI y) (nI 0) (nI 1) = true) (hc : c < 2 ^ 31) (hy1 : y < 2 ^ 31) (hy : ¬ y = 0) (hb : b = 28 * c) (he : (p, q) = fv f b 28) (hr : r = (od_p p q).2) : r = odF k f (nI c) (nI y) := by
  unfold odF
  rw [if_neg (by rw [h]; decide), if_neg (by rw [h2]; decide), if_neg (fun z => hy ((nI_eq hy1 (by decide)).mp z)), nI_clamp hc, ← hb, ← he]
  exact hr

set_option maxRecDepth 100000 in
set_option maxHeartbeats 4000000 in
theorem e_weigh (g kk : Nat → Nat) (σ : St) (k : Nat) (hk : σ.1 16 = nI k) (hk6 : k ≤ 6) (hI : iX σ) (a : Nat) (ha : σ.1 850 = nI a) (hab : a ≤ 26) (b : Nat) (hb : σ.1 851 = nI b) (hbb : b ≤ a)   : jM (S := St) yX3_weighFives cX3_weighFives 6 none { frames := 0, cells := 0, slots := 0, locals := 0 } kk (cX g kk σ) [.ref (g 53)] (cX g kk) (rV (fun u : St => ∃ (pL852 : Int64) (pL853 : Int64), u = sL (sL σ 852 pL852) 853 pL853 ∧ ((pL852, pL853) = od_p a b))) := by
  refine j_entry [(0, .ref (g 53))] (by decide) (Nat.le_of_ble_eq_true rfl) rfl ?_
  intro X C E HI
  refine j_aload_n C 0 rfl dX3_weighFives_0 ?_
  refine j_lconst C 0 (by decide) dX3_weighFives_1 ?_
  refine pX_53_4 C tb_402 dX3_weighFives_2 ?_
  refine j_aload_n C 0 rfl dX3_weighFives_5 ?_
  refine j_lconst C 1 (by decide) dX3_weighFives_6 ?_
  refine pX_53_5 C tb_404 dX3_weighFives_7 ?_
  refine j_lconst C 1 (by decide) dX3_weighFives_10 ?_
  refine j_lstore_n C [(1, .long 1), (0, .ref (g 53))] rfl (by decide) rfl dX3_weighFives_11 ?_
  refine j_lconst C 1 (by decide) dX3_weighFives_12 ?_
  refine j_lstore_n C [(3, .long 1), (1, .long 1), (0, .ref (g 53))] rfl (by decide) rfl dX3_weighFives_13 ?_
  refine j_iconst C (nI 0) (by decide) dX3_weighFives_14 ?_
  refine j_istore C [(5, .int (nI 0)), (3, .long 1), (1, .long 1), (0, .ref (g 53))] (by decide) rfl dX3_weighFives_15 ?_
  have L17 : ∀ (n17 : Nat) (o : Nat) (y17_3 : Int64) (y17_1 : Int64) (up : Int64) (i17_0 : o ≤ 27) (i17_1 : o ≤ a + 1 - b) (hw : (up, y17_1, y17_3) = od_wx a o) (hm17 : 27 - o < n17), J X 0 0 (cX g kk (sL (sL σ 852 up) 853 1)) [(5, .int (nI o)), (3, .long y17_3), (1, .long y17_1), (0, .ref (g 53))] 17 [] := by
    intro n17
    induction n17 with
    | zero => intro o y17_3 y17_1 up i17_0 i17_1 hw hm; exact absurd hm (Nat.not_lt_zero _)
    | succ n17 ih17 =>
      intro o y17_3 y17_1 up i17_0 i17_1 hw hm17
      refine j_iload C 0 rfl dX3_weighFives_17 ?_
      refine j_aload_n C 3 rfl dX3_weighFives_19 ?_
      refine gX_53_2 C tb_398 (nI a) ha dX3_weighFives_20 ?_
      refine j_aload_n C 3 rfl dX3_weighFives_23 ?_
      refine gX_53_3 C tb_400 (nI b) hb dX3_weighFives_24 ?_
      refine j_isubN C (by omega) dX3_weighFives_27 ?_
      refine j_icmp_gtN C 72 (by decide) (by omega) (by omega) dX3_weighFives_28 (fun c1 => ?_) (fun c1 => ?_)
      · refine j_iconst C (nI 0) (by decide) dX3_weighFives_72 ?_
        refine j_istore C [(5, .int (nI 0)), (3, .long y17_3), (1, .long y17_1), (0, .ref (g 53))] (by decide) rfl dX3_weighFives_73 ?_
        have L75 : ∀ (n75 : Nat) (n : Nat) (lo : Int64) (i75_0 : n ≤ a) (hl : lo = p5 n) (hm75 : a - n < n75), J X 0 0 (cX g kk (sL (sL σ 852 up) 853 lo)) [(5, .int (nI n)), (3, .long y17_3), (1, .long y17_1), (0, .ref (g 53))] 75 [] := by
          intro n75
          induction n75 with
          | zero => intro n lo i75_0 hl hm; exact absurd hm (Nat.not_lt_zero _)
          | succ n75 ih75 =>
            intro n lo i75_0 hl hm75
            refine j_iload C 0 rfl dX3_weighFives_75 ?_
            refine j_aload_n C 3 rfl dX3_weighFives_77 ?_
            refine gX_53_2 C tb_398 (nI a) ha dX3_weighFives_78 ?_
            refine j_icmp_geN C 102 (by decide) (by omega) (by omega) dX3_weighFives_81 (fun c2 => ?_) (fun c2 => ?_)
            · refine j_iconst C (nI 0) (by decide) dX3_weighFives_102 ?_
              refine j_istore C [(5, .int (nI 0)), (3, .long y17_3), (1, .long y17_1), (0, .ref (g 53))] (by decide) rfl dX3_weighFives_103 ?_
              have L105 : ∀ (n105 : Nat) (m : Nat) (up2 : Int64) (lo2 : Int64) (i105_0 : m ≤ a) (hr : od_rd (a - m) up2 lo2 = od_p a b) (hm105 : a - m < n105), J X 0 0 (cX g kk (sL (sL σ 852 up2) 853 lo2)) [(5, .int (nI m)), (3, .long y17_3), (1, .long y17_1), (0, .ref (g 53))] 105 [] := by
                intro n105
                induction n105 with
                | zero => intro m up2 lo2 i105_0 hr hm; exact absurd hm (Nat.not_lt_zero _)
                | succ n105 ih105 =>
                  intro m up2 lo2 i105_0 hr hm105
                  refine j_iload C 0 rfl dX3_weighFives_105 ?_
                  refine j_aload_n C 3 rfl dX3_weighFives_107 ?_
                  refine gX_53_2 C tb_398 (nI a) ha dX3_weighFives_108 ?_
                  refine j_icmp_geN C 157 (by decide) (by omega) (by omega) dX3_weighFives_111 (fun c3 => ?_) (fun c3 => ?_)
                  · exact j_vret C E (sL (sL σ 852 up2) 853 lo2) ⟨rfl, ⟨up2, lo2, rfl, (od_rd_e hr (by omega))⟩⟩ rfl dX3_weighFives_157
                  · refine j_aload_n C 3 rfl dX3_weighFives_114 ?_
                    refine gX_53_4 C tb_402 (up2) rfl dX3_weighFives_115 ?_
                    refine j_ldc2 C tb_831 dX3_weighFives_118 ?_
                    refine j_lrem C (by first | decide | assumption | exact nI_ne0 (by omega) (by omega) | exact i64ne (by assumption) | exact i64ne (nI_ne0 (by omega) (by omega))) dX3_weighFives_121 ?_
                    refine j_lconst C 0 (by decide) dX3_weighFives_122 ?_
                    refine j_lcmp C dX3_weighFives_123 ?_
                    refine j_if_ne C 157 (by decide) dX3_weighFives_124 (fun c4 => ?_) (fun c4 => ?_)
                    · exact j_vret C E (sL (sL σ 852 up2) 853 lo2) ⟨rfl, ⟨up2, lo2, rfl, (od_rd_n hr (by omega) (fun q => c4 ((lg_cmp_eq _ _).mpr q)))⟩⟩ rfl dX3_weighFives_157
                    · refine j_aload_n C 3 rfl dX3_weighFives_127 ?_
                      refine j_aload_n C 3 rfl dX3_weighFives_128 ?_
                      refine gX_53_4 C tb_402 (up2) rfl dX3_weighFives_129 ?_
                      refine j_ldc2 C tb_831 dX3_weighFives_132 ?_
                      refine j_ldiv C (by first | decide | assumption | exact nI_ne0 (by omega) (by omega) | exact i64ne (by assumption) | exact i64ne (nI_ne0 (by omega) (by omega))) dX3_weighFives_135 ?_
                      refine pX_53_4 C tb_402 dX3_weighFives_136 ?_
                      refine j_aload_n C 3 rfl dX3_weighFives_139 ?_
                      refine j_aload_n C 3 rfl dX3_weighFives_140 ?_
                      refine gX_53_5 C tb_404 (lo2) rfl dX3_weighFives_141 ?_
                      refine j_ldc2 C tb_831 dX3_weighFives_144 ?_
                      refine j_ldiv C (by first | decide | assumption | exact nI_ne0 (by omega) (by omega) | exact i64ne (by assumption) | exact i64ne (nI_ne0 (by omega) (by omega))) dX3_weighFives_147 ?_
                      refine pX_53_5 C tb_404 dX3_weighFives_148 ?_
                      refine j_iinc C (nI (m + 1)) [(5, .int (nI (m + 1))), (3, .long y17_3), (1, .long y17_1), (0, .ref (g 53))] 0 rfl (by rw [show Int32.ofInt 1 = nI 1 from by decide, nI_add]) (by decide) rfl dX3_weighFives_151 ?_
                      refine j_goto C 105 (by decide) dX3_weighFives_154 ?_
                      refine j_w (cX g kk (sL (sL σ 852 (up2 / (5))) 853 (lo2 / (5)))) (congrArg (cX g kk) (show sL (sL (sL (sL σ 852 up2) 853 lo2) 852 (up2 / (5))) 853 (lo2 / (5)) = sL (sL σ 852 (up2 / (5))) 853 (lo2 / (5)) from (Eq.trans (wrL (Eq.trans (wrLc (by decide)) (wrL wrLs))) wrLs))) ?_
                      exact ih105 (m + 1) (up2 / (5)) (lo2 / (5)) (by omega) (od_rd_s hr (by omega) ((lg_cmp_eq _ _).mp c4)) (by omega)
              exact L105 _ 0 up lo (by omega) (od_in hw (by omega) hl (by omega)) (Nat.lt_succ_self _)
            · refine j_aload_n C 3 rfl dX3_weighFives_84 ?_
              refine j_aload_n C 3 rfl dX3_weighFives_85 ?_
              refine gX_53_5 C tb_404 (lo) rfl dX3_weighFives_86 ?_
              refine j_ldc2 C tb_831 dX3_weighFives_89 ?_
              refine j_lmul C dX3_weighFives_92 ?_
              refine pX_53_5 C tb_404 dX3_weighFives_93 ?_
              refine j_iinc C (nI (n + 1)) [(5, .int (nI (n + 1))), (3, .long y17_3), (1, .long y17_1), (0, .ref (g 53))] 0 rfl (by rw [show Int32.ofInt 1 = nI 1 from by decide, nI_add]) (by decide) rfl dX3_weighFives_96 ?_
              refine j_goto C 75 (by decide) dX3_weighFives_99 ?_
              refine j_w (cX g kk (sL (sL σ 852 up) 853 (lo * (5)))) (congrArg (cX g kk) (show sL (sL (sL σ 852 up) 853 lo) 853 (lo * (5)) = sL (sL σ 852 up) 853 (lo * (5)) from wrLs)) ?_
              exact ih75 (n + 1) (lo * (5)) (by omega) (by rw [hl]; rfl) (by omega)
        exact L75 _ 0 1 (by omega) rfl (Nat.lt_succ_self _)
      · refine j_aload_n C 3 rfl dX3_weighFives_31 ?_
        refine j_dup C rfl dX3_weighFives_32 ?_
        refine gX_53_4 C tb_402 (up) rfl dX3_weighFives_33 ?_
        refine j_lload_n C 2 rfl dX3_weighFives_36 ?_
        refine j_lload_n C 1 rfl dX3_weighFives_37 ?_
        refine j_lmul C dX3_weighFives_38 ?_
        refine j_ladd C dX3_weighFives_39 ?_
        refine pX_53_4 C tb_402 dX3_weighFives_40 ?_
        refine j_lload_n C 2 rfl dX3_weighFives_43 ?_
        refine j_aload_n C 3 rfl dX3_weighFives_44 ?_
        refine gX_53_2 C tb_398 (nI a) ha dX3_weighFives_45 ?_
        refine j_iload C 0 rfl dX3_weighFives_48 ?_
        refine j_isubN C (by omega) dX3_weighFives_50 ?_
        refine j_i2l C dX3_weighFives_51 ?_
        refine j_lmul C dX3_weighFives_52 ?_
        refine j_iload C 0 rfl dX3_weighFives_53 ?_
        refine j_iconst C (nI 1) (by decide) dX3_weighFives_55 ?_
        refine j_iaddN C dX3_weighFives_56 ?_
        refine j_i2l C dX3_weighFives_57 ?_
        refine j_ldiv C (by first | decide | assumption | exact nI_ne0 (by omega) (by omega) | exact i64ne (by assumption) | exact i64ne (nI_ne0 (by omega) (by omega))) dX3_weighFives_58 ?_
        refine j_lstore_n C [(1, .long ((y17_1 * ((nI (a - o)).toInt64)) / ((nI (o + 1)).toInt64))), (5, .int (nI o)), (3, .long y17_3), (0, .ref (g 53))] rfl (by decide) rfl dX3_weighFives_59 ?_
        refine j_lload_n C 2 rfl dX3_weighFives_60 ?_
        refine j_ldc2 C tb_830 dX3_weighFives_61 ?_
        refine j_lmul C dX3_weighFives_64 ?_
        refine j_lstore_n C [(3, .long (y17_3 * (4))), (1, .long ((y17_1 * ((nI (a - o)).toInt64)) / ((nI (o + 1)).toInt64))), (5, .int (nI o)), (0, .ref (g 53))] rfl (by decide) rfl dX3_weighFives_65 ?_
        refine j_iinc C (nI (o + 1)) [(5, .int (nI (o + 1))), (3, .long (y17_3 * (4))), (1, .long ((y17_1 * ((nI (a - o)).toInt64)) / ((nI (o + 1)).toInt64))), (0, .ref (g 53))] 2 rfl (by rw [show Int32.ofInt 1 = nI 1 from by decide, nI_add]) (by decide) rfl dX3_weighFives_66 ?_
        refine j_goto C 17 (by decide) dX3_weighFives_69 ?_
        refine j_w (cX g kk (sL (sL σ 852 (up + (y17_1 * y17_3))) 853 1)) (congrArg (cX g kk) (show sL (sL (sL σ 852 up) 853 1) 852 (up + (y17_1 * y17_3)) = sL (sL σ 852 (up + (y17_1 * y17_3))) 853 1 from (Eq.trans (wrLc (by decide)) (wrL wrLs)))) ?_
        exact ih17 (o + 1) (y17_3 * (4)) ((y17_1 * ((nI (a - o)).toInt64)) / ((nI (o + 1)).toInt64)) (up + (y17_1 * y17_3)) (by omega) (by omega) (od_wx_s hw) (by omega)
  exact L17 _ 0 1 1 0 (by omega) (by omega) rfl (Nat.lt_succ_self _)
set_option maxRecDepth 100000 in
set_option maxHeartbeats 4000000 in
theorem e_odds (g kk : Nat → Nat) (σ : St) (k : Nat) (hk : σ.1 16 = nI k) (hk6 : k ≤ 6) (hI : iX σ)  (x : Int32) (y : Int32) : jM (S := St) yX10_odds cX10_odds 3 (some .long) { frames := 1, cells := 0, slots := 0, locals := 25 } kk (cX g kk σ) [.ref (g 0), .int x, .int y] (cX g kk) (rL (fun (r : Int64) (u : St) => ∃ (pI850 : Int32) (pI851 : Int32) (pL852 : Int64) (pL853 : Int64), u = sL (sL (sI (sI σ 850 pI850) 851 pI851) 852 pL852) 853 pL853 ∧ (r = odF k (σ.2.1 6) x y))) := by
  refine j_entry [(0, .ref (g 0)), (1, .int x), (2, .int y)] (by decide) (Nat.le_of_ble_eq_true rfl) rfl ?_
  intro X C E HI
  refine j_aload_n C 0 rfl dX10_odds_0 ?_
  refine j_iload_n C 1 rfl dX10_odds_1 ?_
  refine j_V1 C (c_isCan g kk σ k hk hk6 x) kyX10_isCan tb_478 tb_480 sp_0 0 rfl (eX_0 g kk _) rfl (Nat.le_of_ble_eq_true rfl) ⟨by decide, by decide⟩ dX10_odds_2 rfl (fun vr ur hp => ?_)
  obtain ⟨r, rfl, rfl, hu⟩ := hp
  replace hu := hu.symm
  subst hu
  refine j_if_ne C 12 (by decide) dX10_odds_5 (fun c1 => ?_) (fun c1 => ?_)
  · replace c1 := bI_t c1
    obtain ⟨xn, xn1, rfl⟩ := cB_nat (by omega) c1
    refine j_iload_n C 2 rfl dX10_odds_12 ?_
    refine j_iconst C (nI 0) (by decide) dX10_odds_13 ?_
    refine j_iconst C (nI 1) (by decide) dX10_odds_14 ?_
    refine j_S01 C (c_isWithin y (nI 0) (nI 1)) kyX10_isWithin tb_467 tb_468 rfl (Nat.le_of_ble_eq_true rfl) ⟨by decide, by decide⟩ ⟨by decide, by decide⟩ dX10_odds_15 rfl ?_
    refine j_if_ne C 25 (by decide) dX10_odds_18 (fun c2 => ?_) (fun c2 => ?_)
    · replace c2 := bI_t c2
      obtain ⟨yn, yn1, yn2, rfl⟩ := wB_nat (by decide) (by decide) c2
      refine j_aload_n C 0 rfl dX10_odds_25 ?_
      refine gX_0_7 C tb_435 dX10_odds_26 ?_
      refine j_iload_n C 1 rfl dX10_odds_29 ?_
      refine j_V1 C (e_countFives g kk σ k hk hk6 hI  xn (by first | assumption | omega)) kyX3_countFives tb_816 tb_817 tb_818 53 rfl (eX_53 g kk _) rfl (Nat.le_of_ble_eq_true rfl) ⟨by decide, by decide⟩ dX10_odds_30 rfl (fun vr ur hp => ?_)
      obtain ⟨rfl, w3, w4, hu, g5, g6⟩ := hp
      replace hu := hu.symm
      subst hu
      refine j_aload_n C 0 rfl dX10_odds_33 ?_
      refine gX_0_7 C tb_435 dX10_odds_34 ?_
      refine j_V1 C (e_weigh g kk (sI (sI σ 850 (nI w3)) 851 (nI w4)) k hk hk6 hI w3 rfl (by omega) w4 rfl (by omega)  ) kyX3_weighFives tb_826 tb_827 tb_828 53 rfl (eX_53 g kk _) rfl (Nat.le_of_ble_eq_true rfl) ⟨by decide, by decide⟩ dX10_odds_37 rfl (fun vr ur hp => ?_)
      obtain ⟨rfl, w7, w8, hu, g9⟩ := hp
      replace hu := hu.symm
      subst hu
      refine j_iload_n C 2 rfl dX10_odds_40 ?_
      refine j_if_neN C 54 (by decide) (by omega) dX10_odds_41 (fun c10 => ?_) (fun c10 => ?_)
      · refine j_aload_n C 0 rfl dX10_odds_54 ?_
        refine gX_0_7 C tb_435 dX10_odds_55 ?_
        refine gX_53_5 C tb_405 (w8) rfl dX10_odds_58 ?_
        exact j_lret C E (sL (sL (sI (sI σ 850 (nI w3)) 851 (nI w4)) 852 w7) 853 w8) ⟨_, rfl, ⟨(nI w3), (nI w4), w7, w8, rfl, (by first | exact odF_3 c1 c2 (by omega) (by assumption) (by omega) g5 (congrArg Prod.fst g9) | exact odF_4 c1 c2 (by omega) (by omega) (by assumption) (by omega) g5 (congrArg Prod.snd g9))⟩⟩ rfl dX10_odds_61
      · refine j_aload_n C 0 rfl dX10_odds_44 ?_
        refine gX_0_7 C tb_435 dX10_odds_45 ?_
        refine gX_53_4 C tb_403 (w7) rfl dX10_odds_48 ?_
        refine j_goto C 61 (by decide) dX10_odds_51 ?_
        exact j_lret C E (sL (sL (sI (sI σ 850 (nI w3)) 851 (nI w4)) 852 w7) 853 w8) ⟨_, rfl, ⟨(nI w3), (nI w4), w7, w8, rfl, (by first | exact odF_3 c1 c2 (by omega) (by assumption) (by omega) g5 (congrArg Prod.fst g9) | exact odF_4 c1 c2 (by omega) (by omega) (by assumption) (by omega) g5 (congrArg Prod.snd g9))⟩⟩ rfl dX10_odds_61
    · replace c2 := bI_f c2
      refine j_ldc2 C tb_825 dX10_odds_21 ?_
      refine j_w (cX g kk (sI σ 850 (σ.1 850))) (congrArg (cX g kk) (wrIi (S := σ) (c := 850) (v := σ.1 850) rfl)) ?_
      refine j_w (cX g kk (sI (sI σ 850 (σ.1 850)) 851 (σ.1 851))) (congrArg (cX g kk) (wrIi (S := (sI σ 850 (σ.1 850))) (c := 851) (v := σ.1 851) (gtII (by decide) rfl))) ?_
      refine j_w (cX g kk (sL (sI (sI σ 850 (σ.1 850)) 851 (σ.1 851)) 852 (σ.2.2.1 852))) (congrArg (cX g kk) (wrLi (S := (sI (sI σ 850 (σ.1 850)) 851 (σ.1 851))) (c := 852) (v := σ.2.2.1 852) (gtLI (gtLI rfl)))) ?_
      refine j_w (cX g kk (sL (sL (sI (sI σ 850 (σ.1 850)) 851 (σ.1 851)) 852 (σ.2.2.1 852)) 853 (σ.2.2.1 853))) (congrArg (cX g kk) (wrLi (S := (sL (sI (sI σ 850 (σ.1 850)) 851 (σ.1 851)) 852 (σ.2.2.1 852))) (c := 853) (v := σ.2.2.1 853) (gtLL (by decide) (gtLI (gtLI rfl))))) ?_
      exact j_lret C E (sL (sL (sI (sI σ 850 (σ.1 850)) 851 (σ.1 851)) 852 (σ.2.2.1 852)) 853 (σ.2.2.1 853)) ⟨_, rfl, ⟨(σ.1 850), (σ.1 851), (σ.2.2.1 852), (σ.2.2.1 853), rfl, (odF_2 c1 c2)⟩⟩ rfl dX10_odds_24
  · replace c1 := bI_f c1
    refine j_ldc2 C tb_824 dX10_odds_8 ?_
    refine j_w (cX g kk (sI σ 850 (σ.1 850))) (congrArg (cX g kk) (wrIi (S := σ) (c := 850) (v := σ.1 850) rfl)) ?_
    refine j_w (cX g kk (sI (sI σ 850 (σ.1 850)) 851 (σ.1 851))) (congrArg (cX g kk) (wrIi (S := (sI σ 850 (σ.1 850))) (c := 851) (v := σ.1 851) (gtII (by decide) rfl))) ?_
    refine j_w (cX g kk (sL (sI (sI σ 850 (σ.1 850)) 851 (σ.1 851)) 852 (σ.2.2.1 852))) (congrArg (cX g kk) (wrLi (S := (sI (sI σ 850 (σ.1 850)) 851 (σ.1 851))) (c := 852) (v := σ.2.2.1 852) (gtLI (gtLI rfl)))) ?_
    refine j_w (cX g kk (sL (sL (sI (sI σ 850 (σ.1 850)) 851 (σ.1 851)) 852 (σ.2.2.1 852)) 853 (σ.2.2.1 853))) (congrArg (cX g kk) (wrLi (S := (sL (sI (sI σ 850 (σ.1 850)) 851 (σ.1 851)) 852 (σ.2.2.1 852))) (c := 853) (v := σ.2.2.1 853) (gtLL (by decide) (gtLI (gtLI rfl))))) ?_
    exact j_lret C E (sL (sL (sI (sI σ 850 (σ.1 850)) 851 (σ.1 851)) 852 (σ.2.2.1 852)) 853 (σ.2.2.1 853)) ⟨_, rfl, ⟨(σ.1 850), (σ.1 851), (σ.2.2.1 852), (σ.2.2.1 853), rfl, (odF_1 c1)⟩⟩ rfl dX10_odds_11
set_option maxRecDepth 100000 in
set_option maxHeartbeats 4000000 in
theorem o_odds (g kk : Nat → Nat) (σ : St) (k : Nat) (hk : σ.1 3 = nI k) (hk6 : k ≤ 6) (hI : iM σ)  (x : Int32) (y : Int32) : jM (S := St) yX11_odds cX11_odds 13 (some .long) { frames := 2, cells := 0, slots := 0, locals := 46 } kk (cM g kk σ) [.ref (g 0), .int x, .int y] (cM g kk) (rL (fun (r : Int64) (u : St) => ∃ (pG31 : Nat → Int64) (pI51 : Int32) (pI52 : Int32), u = sI (sI (sG σ 31 pG31) 51 pI51) 52 pI52 ∧ (r = odF k (σ.2.1 5) x y))) := by
  refine j_entry [(0, .ref (g 0)), (1, .int x), (2, .int y)] (by decide) (Nat.le_of_ble_eq_true rfl) rfl ?_
  intro X C E HI
  refine j_aload_n C 0 rfl dX11_odds_0 ?_
  refine j_iload_n C 1 rfl dX11_odds_1 ?_
  refine j_V1 C (m_isCan g kk σ k hk hk6 x) kyX11_isCan tb_1067 tb_1069 sp_21 0 rfl (eM_0 g kk _) rfl (Nat.le_of_ble_eq_true rfl) ⟨by decide, by decide⟩ dX11_odds_2 rfl (fun vr ur hp => ?_)
  obtain ⟨r, rfl, rfl, hu⟩ := hp
  replace hu := hu.symm
  subst hu
  refine j_if_ne C 12 (by decide) dX11_odds_5 (fun c1 => ?_) (fun c1 => ?_)
  · replace c1 := bI_t c1
    obtain ⟨xn, xn1, rfl⟩ := cB_nat (by omega) c1
    refine j_iload_n C 2 rfl dX11_odds_12 ?_
    refine j_S01 C (m_isEnd y) kyX11_isEnd tb_1234 tb_1235 rfl (Nat.le_of_ble_eq_true rfl) ⟨by decide, by decide⟩ ⟨by decide, by decide⟩ dX11_odds_13 rfl ?_
    refine j_if_ne C 23 (by decide) dX11_odds_16 (fun c2 => ?_) (fun c2 => ?_)
    · replace c2 := bI_t c2
      obtain ⟨yn, yn1, yn2, rfl⟩ := wB_nat (by decide) (by decide) c2
      refine j_aload_n C 0 rfl dX11_odds_23 ?_
      refine j_iload_n C 1 rfl dX11_odds_24 ?_
      refine j_V1 C (o_findFives g kk σ k hk hk6 hI  xn (by first | assumption | omega)) kyX11_findFives tb_1302 tb_1304 sp_45 0 rfl (eM_0 g kk _) rfl (Nat.le_of_ble_eq_true rfl) ⟨by decide, by decide⟩ dX11_odds_25 rfl (fun vr ur hp => ?_)
      obtain ⟨rfl, w3, w4, hu, g5, g6⟩ := hp
      replace hu := hu.symm
      subst hu
      refine j_iconst C (nI 0) (by decide) dX11_odds_28 ?_
      refine j_istore_n C [(3, .int (nI 0)), (0, .ref (g 0)), (1, .int (nI xn)), (2, .int (nI yn))] rfl (by decide) rfl dX11_odds_29 ?_
      have L30 : ∀ (n30 : Nat) (i : Nat) (gw : Nat → Int64) (i30_0 : i ≤ 28) (hg0 : ∀ j, j < i → gw j = if j = 0 then 1 else 0) (hm30 : 28 - i < n30), J X 0 0 (cM g kk (sI (sI (sG σ 31 gw) 51 (nI w3)) 52 (nI w4))) [(3, .int (nI i)), (0, .ref (g 0)), (1, .int (nI xn)), (2, .int (nI yn))] 30 [] := by
        intro n30
        induction n30 with
        | zero => intro i gw i30_0 hg0 hm; exact absurd hm (Nat.not_lt_zero _)
        | succ n30 ih30 =>
          intro i gw i30_0 hg0 hm30
          refine j_iload_n C 0 rfl dX11_odds_30 ?_
          refine j_bipush C (nI 28) (by decide) dX11_odds_31 ?_
          refine j_icmp_geN C 57 (by decide) (by omega) (by omega) dX11_odds_33 (fun c7 => ?_) (fun c7 => ?_)
          · refine j_lconst C 1 (by decide) dX11_odds_57 ?_
            refine j_lstore_n C [(3, .long 1), (0, .ref (g 0)), (1, .int (nI xn)), (2, .int (nI yn))] rfl (by decide) rfl dX11_odds_58 ?_
            refine j_iconst C (nI 0) (by decide) dX11_odds_59 ?_
            refine j_istore C [(5, .int (nI 0)), (3, .long 1), (0, .ref (g 0)), (1, .int (nI xn)), (2, .int (nI yn))] (by decide) rfl dX11_odds_60 ?_
            have L62 : ∀ (n62 : Nat) (n : Nat) (y62_3 : Int64) (gv : Nat → Int64) (i62_0 : n ≤ w4) (ha : y62_3 = p5 n) (hg : ∀ j, j < 28 → gv j = od_wy n j) (hm62 : 26 - n < n62), J X 0 0 (cM g kk (sI (sI (sG σ 31 gv) 51 (nI w3)) 52 (nI w4))) [(5, .int (nI n)), (3, .long y62_3), (0, .ref (g 0)), (1, .int (nI xn)), (2, .int (nI yn))] 62 [] := by
              intro n62
              induction n62 with
              | zero => intro n y62_3 gv i62_0 ha hg hm; exact absurd hm (Nat.not_lt_zero _)
              | succ n62 ih62 =>
                intro n y62_3 gv i62_0 ha hg hm62
                refine j_iload C 0 rfl dX11_odds_62 ?_
                refine j_aload_n C 2 rfl dX11_odds_64 ?_
                refine gM_0_52 C tb_925 (nI w4) rfl dX11_odds_65 ?_
                refine j_icmp_geN C 137 (by decide) (by omega) (by omega) dX11_odds_68 (fun c8 => ?_) (fun c8 => ?_)
                · refine j_lconst C 0 (by decide) dX11_odds_137 ?_
                  refine j_lstore C [(5, .long 0), (3, .long y62_3), (0, .ref (g 0)), (1, .int (nI xn)), (2, .int (nI yn))] (by decide) rfl dX11_odds_138 ?_
                  refine j_aload_n C 2 rfl dX11_odds_140 ?_
                  refine gM_0_51 C tb_924 (nI w3) rfl dX11_odds_141 ?_
                  refine j_istore C [(7, .int (nI w3)), (5, .long 0), (3, .long y62_3), (0, .ref (g 0)), (1, .int (nI xn)), (2, .int (nI yn))] (by decide) rfl dX11_odds_144 ?_
                  have L146 : ∀ (n146 : Nat) (j : Nat) (y146_5 : Int64) (i146_0 : j ≤ 27) (i146_1 : j ≤ w4 + 1) (i146_2 : w3 ≤ j) (hs : y146_5 = od_su (od_wy w4) w3 (j - w3)) (hm146 : 27 - j < n146), J X 0 0 (cM g kk (sI (sI (sG σ 31 gv) 51 (nI w3)) 52 (nI w4))) [(7, .int (nI j)), (5, .long y146_5), (3, .long y62_3), (0, .ref (g 0)), (1, .int (nI xn)), (2, .int (nI yn))] 146 [] := by
                    intro n146
                    induction n146 with
                    | zero => intro j y146_5 i146_0 i146_1 i146_2 hs hm; exact absurd hm (Nat.not_lt_zero _)
                    | succ n146 ih146 =>
                      intro j y146_5 i146_0 i146_1 i146_2 hs hm146
                      refine j_iload C 0 rfl dX11_odds_146 ?_
                      refine j_aload_n C 3 rfl dX11_odds_148 ?_
                      refine gM_0_52 C tb_925 (nI w4) rfl dX11_odds_149 ?_
                      refine j_icmp_gtN C 173 (by decide) (by omega) (by omega) dX11_odds_152 (fun c9 => ?_) (fun c9 => ?_)
                      · refine j_lload C 1 rfl dX11_odds_173 ?_
                        refine j_lstore C [(7, .long y146_5), (5, .long y146_5), (3, .long y62_3), (0, .ref (g 0)), (1, .int (nI xn)), (2, .int (nI yn))] (by decide) rfl dX11_odds_175 ?_
                        refine j_lload_n C 2 rfl dX11_odds_177 ?_
                        refine j_lstore C [(9, .long y62_3), (7, .long y146_5), (5, .long y146_5), (3, .long y62_3), (0, .ref (g 0)), (1, .int (nI xn)), (2, .int (nI yn))] (by decide) rfl dX11_odds_178 ?_
                        have L180 : ∀ (n180 : Nat) (y180_9 : Int64) (y180_7 : Int64) (gf : Nat) (hgt : od_gt gf y180_7 y180_9 = some (od_g w4 w3)) (hm180 : gf < n180), J X 0 0 (cM g kk (sI (sI (sG σ 31 gv) 51 (nI w3)) 52 (nI w4))) [(9, .long y180_9), (7, .long y180_7), (5, .long y146_5), (3, .long y62_3), (0, .ref (g 0)), (1, .int (nI xn)), (2, .int (nI yn))] 180 [] := by
                          intro n180
                          induction n180 with
                          | zero => intro y180_9 y180_7 gf hgt hm; exact absurd hm (Nat.not_lt_zero _)
                          | succ n180 ih180 =>
                            intro y180_9 y180_7 gf hgt hm180
                            refine j_lload C 0 rfl dX11_odds_180 ?_
                            refine j_lconst C 0 (by decide) dX11_odds_182 ?_
                            refine j_lcmp C dX11_odds_183 ?_
                            refine j_if_eq C 205 (by decide) dX11_odds_184 (fun c10 => ?_) (fun c10 => ?_)
                            · replace c10 := (lg_cmp_eq _ _).mp c10
                              have hxg := od_gt_e hgt c10
                              have hx0 := od_gne hxg g6.2 g6.1
                              refine j_iload_n C 6 rfl dX11_odds_205 ?_
                              refine j_if_neN C 217 (by decide) (by omega) dX11_odds_206 (fun c11 => ?_) (fun c11 => ?_)
                              · refine j_lload_n C 3 rfl dX11_odds_217 ?_
                                refine j_lload C 1 rfl dX11_odds_218 ?_
                                refine j_ldiv C (by first | decide | assumption | exact nI_ne0 (by omega) (by omega) | exact i64ne (by assumption) | exact i64ne (nI_ne0 (by omega) (by omega))) dX11_odds_220 ?_
                                exact j_lret C E (sI (sI (sG σ 31 gv) 51 (nI w3)) 52 (nI w4)) ⟨_, rfl, ⟨gv, (nI w3), (nI w4), rfl, (by first | exact odF_3 c1 c2 (by omega) (by assumption) rfl g5 (od_r1 hs (by omega) hxg g6.2 g6.1) | exact odF_4 c1 c2 (by omega) (by omega) (by assumption) rfl g5 (od_r2 ha (by omega) hxg g6.2 g6.1))⟩⟩ rfl dX11_odds_221
                              · refine j_lload C 2 rfl dX11_odds_209 ?_
                                refine j_lload C 1 rfl dX11_odds_211 ?_
                                refine j_ldiv C (by first | decide | assumption | exact nI_ne0 (by omega) (by omega) | exact i64ne (by assumption) | exact i64ne (nI_ne0 (by omega) (by omega))) dX11_odds_213 ?_
                                refine j_goto C 221 (by decide) dX11_odds_214 ?_
                                exact j_lret C E (sI (sI (sG σ 31 gv) 51 (nI w3)) 52 (nI w4)) ⟨_, rfl, ⟨gv, (nI w3), (nI w4), rfl, (by first | exact odF_3 c1 c2 (by omega) (by assumption) rfl g5 (od_r1 hs (by omega) hxg g6.2 g6.1) | exact odF_4 c1 c2 (by omega) (by omega) (by assumption) rfl g5 (od_r2 ha (by omega) hxg g6.2 g6.1))⟩⟩ rfl dX11_odds_221
                            · replace c10 := fun q => c10 ((lg_cmp_eq _ _).mpr q)
                              refine j_lload C 1 rfl dX11_odds_187 ?_
                              refine j_lload C 0 rfl dX11_odds_189 ?_
                              refine j_lrem C (by first | decide | assumption | exact nI_ne0 (by omega) (by omega) | exact i64ne (by assumption) | exact i64ne (nI_ne0 (by omega) (by omega))) dX11_odds_191 ?_
                              refine j_lstore C [(11, .long (y180_7 - y180_7 / y180_9 * y180_9)), (9, .long y180_9), (7, .long y180_7), (5, .long y146_5), (3, .long y62_3), (0, .ref (g 0)), (1, .int (nI xn)), (2, .int (nI yn))] (by decide) rfl dX11_odds_192 ?_
                              refine j_lload C 1 rfl dX11_odds_194 ?_
                              refine j_lstore C [(7, .long y180_9), (11, .long (y180_7 - y180_7 / y180_9 * y180_9)), (9, .long y180_9), (5, .long y146_5), (3, .long y62_3), (0, .ref (g 0)), (1, .int (nI xn)), (2, .int (nI yn))] (by decide) rfl dX11_odds_196 ?_
                              refine j_lload C 1 rfl dX11_odds_198 ?_
                              refine j_lstore C [(9, .long (y180_7 - y180_7 / y180_9 * y180_9)), (7, .long y180_9), (11, .long (y180_7 - y180_7 / y180_9 * y180_9)), (5, .long y146_5), (3, .long y62_3), (0, .ref (g 0)), (1, .int (nI xn)), (2, .int (nI yn))] (by decide) rfl dX11_odds_200 ?_
                              refine j_goto C 180 (by decide) dX11_odds_202 ?_
                              refine j_sub (lv' := [(9, .long (y180_7 - y180_7 / y180_9 * y180_9)), (7, .long y180_9), (5, .long y146_5), (3, .long y62_3), (0, .ref (g 0)), (1, .int (nI xn)), (2, .int (nI yn))]) [0, 1, 3, 4, 5, 6, 7] rfl ?_
                              exact ih180 (y180_7 - y180_7 / y180_9 * y180_9) y180_9 (gf - 1) (od_gt_s hgt c10) (by have z := od_gt_p hgt (by assumption); omega)
                        exact L180 _ y62_3 y146_5 99 (od_gi hs (by omega) ha (by omega) g6.2 g6.1) (Nat.lt_succ_self _)
                      · refine j_lload C 1 rfl dX11_odds_155 ?_
                        refine j_aload_n C 3 rfl dX11_odds_157 ?_
                        refine gM_0_53 C tb_926 dX11_odds_158 ?_
                        refine j_iload C 0 rfl dX11_odds_161 ?_
                        refine rM_31 C j rfl (by omega) (gv j) rfl dX11_odds_163 ?_
                        refine j_ladd C dX11_odds_164 ?_
                        refine j_lstore C [(5, .long (y146_5 + (gv j))), (7, .int (nI j)), (3, .long y62_3), (0, .ref (g 0)), (1, .int (nI xn)), (2, .int (nI yn))] (by decide) rfl dX11_odds_165 ?_
                        refine j_iinc C (nI (j + 1)) [(7, .int (nI (j + 1))), (5, .long (y146_5 + (gv j))), (3, .long y62_3), (0, .ref (g 0)), (1, .int (nI xn)), (2, .int (nI yn))] 1 rfl (by rw [show Int32.ofInt 1 = nI 1 from by decide, nI_add]) (by decide) rfl dX11_odds_167 ?_
                        refine j_goto C 146 (by decide) dX11_odds_170 ?_
                        exact ih146 (j + 1) (y146_5 + (gv j)) (by omega) (by omega) (by omega) (od_su_s hs hg (by omega) (by omega) (by omega)) (by omega)
                  exact L146 _ w3 0 (by omega) (by omega) (by omega) (by rw [Nat.sub_self]; rfl) (Nat.lt_succ_self _)
                · refine j_iload C 0 rfl dX11_odds_71 ?_
                  refine j_iconst C (nI 1) (by decide) dX11_odds_73 ?_
                  refine j_iaddN C dX11_odds_74 ?_
                  refine j_istore C [(6, .int (nI (n + 1))), (5, .int (nI n)), (3, .long y62_3), (0, .ref (g 0)), (1, .int (nI xn)), (2, .int (nI yn))] (by decide) rfl dX11_odds_75 ?_
                  have L77 : ∀ (n77 : Nat) (y77_6 : Int32) (gx : Nat → Int64) (hy : lm_ (n + 1) y77_6) (hx7 : ∀ j, j < 28 → gx j = if ms y77_6 ≤ j then od_wy (n + 1) j else od_wy n j) (hm77 : ms y77_6 < n77), J X 0 0 (cM g kk (sI (sI (sG σ 31 gx) 51 (nI w3)) 52 (nI w4))) [(6, .int y77_6), (5, .int (nI n)), (3, .long y62_3), (0, .ref (g 0)), (1, .int (nI xn)), (2, .int (nI yn))] 77 [] := by
                    intro n77
                    induction n77 with
                    | zero => intro y77_6 gx hy hx7 hm; exact absurd hm (Nat.not_lt_zero _)
                    | succ n77 ih77 =>
                      intro y77_6 gx hy hx7 hm77
                      refine j_iload C 0 rfl dX11_odds_77 ?_
                      refine j_if_lt C 125 (by decide) dX11_odds_79 (fun c12 => ?_) (fun c12 => ?_)
                      · refine j_lload_n C 2 rfl dX11_odds_125 ?_
                        refine j_ldc2 C tb_1313 dX11_odds_126 ?_
                        refine j_lmul C dX11_odds_129 ?_
                        refine j_lstore_n C [(3, .long (y62_3 * (5))), (6, .int y77_6), (5, .int (nI n)), (0, .ref (g 0)), (1, .int (nI xn)), (2, .int (nI yn))] rfl (by decide) rfl dX11_odds_130 ?_
                        refine j_iinc C (nI (n + 1)) [(5, .int (nI (n + 1))), (3, .long (y62_3 * (5))), (6, .int y77_6), (0, .ref (g 0)), (1, .int (nI xn)), (2, .int (nI yn))] 2 rfl (by rw [show Int32.ofInt 1 = nI 1 from by decide, nI_add]) (by decide) rfl dX11_odds_131 ?_
                        refine j_goto C 62 (by decide) dX11_odds_134 ?_
                        refine j_sub (lv' := [(5, .int (nI (n + 1))), (3, .long (y62_3 * (5))), (0, .ref (g 0)), (1, .int (nI xn)), (2, .int (nI yn))]) [0, 1, 3, 4, 5] rfl ?_
                        exact ih62 (n + 1) (y62_3 * (5)) gx (by omega) (by rw [ha]; rfl) (od_ge hy (by omega) c12 hx7) (by omega)
                      · obtain ⟨y77_6n, y77_6n1, rfl⟩ := nI_of c12
                        have hyb := lm_nat hy (by omega) (by omega)
                        refine j_aload_n C 3 rfl dX11_odds_82 ?_
                        refine gM_0_53 C tb_926 dX11_odds_83 ?_
                        refine j_iload C 0 rfl dX11_odds_86 ?_
                        refine j_ldc2 C tb_1312 dX11_odds_88 ?_
                        refine j_aload_n C 3 rfl dX11_odds_91 ?_
                        refine gM_0_53 C tb_926 dX11_odds_92 ?_
                        refine j_iload C 0 rfl dX11_odds_95 ?_
                        refine rM_31 C y77_6n rfl (by omega) (gx y77_6n) rfl dX11_odds_97 ?_
                        refine j_lmul C dX11_odds_98 ?_
                        refine j_iload C 0 rfl dX11_odds_99 ?_
                        refine j_if_leN C 116 (by decide) (by omega) dX11_odds_101 (fun c13 => ?_) (fun c13 => ?_)
                        · refine j_lconst C 0 (by decide) dX11_odds_116 ?_
                          refine j_ladd C dX11_odds_117 ?_
                          refine tM_31 C y77_6n rfl (by omega) dX11_odds_118 ?_
                          refine j_iinc C ((nI y77_6n) + (-1)) [(6, .int ((nI y77_6n) + (-1))), (5, .int (nI n)), (3, .long y62_3), (0, .ref (g 0)), (1, .int (nI xn)), (2, .int (nI yn))] 0 rfl (by rw [show Int32.ofInt (-1) = (-1) from by decide]) (by decide) rfl dX11_odds_119 ?_
                          refine j_goto C 77 (by decide) dX11_odds_122 ?_
                          refine j_w (cM g kk (sI (sI (sG σ 31 (vp_updL gx y77_6n (((4) * (gx y77_6n)) + 0))) 51 (nI w3)) 52 (nI w4))) (congrArg (cM g kk) (show sG (sI (sI (sG σ 31 gx) 51 (nI w3)) 52 (nI w4)) 31 (vp_updL gx y77_6n (((4) * (gx y77_6n)) + 0)) = sI (sI (sG σ 31 (vp_updL gx y77_6n (((4) * (gx y77_6n)) + 0))) 51 (nI w3)) 52 (nI w4) from (Eq.trans wrGI (wrI (Eq.trans wrGI (wrI wrGs)))))) ?_
                          exact ih77 ((nI y77_6n) + (-1)) (vp_updL gx y77_6n (((4) * (gx y77_6n)) + 0)) (lm_dec hyb) (od_gs0 hx7 (by omega) (by omega)) (by rw [ms_d (by omega)]; rw [ms_nI (by omega)] at hm77; omega)
                        · refine j_aload_n C 3 rfl dX11_odds_104 ?_
                          refine gM_0_53 C tb_926 dX11_odds_105 ?_
                          refine j_iload C 0 rfl dX11_odds_108 ?_
                          refine j_iconst C (nI 1) (by decide) dX11_odds_110 ?_
                          refine j_isubN C (by omega) dX11_odds_111 ?_
                          refine rM_31 C (y77_6n - 1) rfl (by omega) (gx (y77_6n - 1)) rfl dX11_odds_112 ?_
                          refine j_goto C 117 (by decide) dX11_odds_113 ?_
                          refine j_ladd C dX11_odds_117 ?_
                          refine tM_31 C y77_6n rfl (by omega) dX11_odds_118 ?_
                          refine j_iinc C ((nI y77_6n) + (-1)) [(6, .int ((nI y77_6n) + (-1))), (5, .int (nI n)), (3, .long y62_3), (0, .ref (g 0)), (1, .int (nI xn)), (2, .int (nI yn))] 0 rfl (by rw [show Int32.ofInt (-1) = (-1) from by decide]) (by decide) rfl dX11_odds_119 ?_
                          refine j_goto C 77 (by decide) dX11_odds_122 ?_
                          refine j_w (cM g kk (sI (sI (sG σ 31 (vp_updL gx y77_6n (((4) * (gx y77_6n)) + (gx (y77_6n - 1))))) 51 (nI w3)) 52 (nI w4))) (congrArg (cM g kk) (show sG (sI (sI (sG σ 31 gx) 51 (nI w3)) 52 (nI w4)) 31 (vp_updL gx y77_6n (((4) * (gx y77_6n)) + (gx (y77_6n - 1)))) = sI (sI (sG σ 31 (vp_updL gx y77_6n (((4) * (gx y77_6n)) + (gx (y77_6n - 1))))) 51 (nI w3)) 52 (nI w4) from (Eq.trans wrGI (wrI (Eq.trans wrGI (wrI wrGs)))))) ?_
                          exact ih77 ((nI y77_6n) + (-1)) (vp_updL gx y77_6n (((4) * (gx y77_6n)) + (gx (y77_6n - 1)))) (lm_dec hyb) (od_gs1 hx7 (by omega) (by omega)) (by rw [ms_d (by omega)]; rw [ms_nI (by omega)] at hm77; omega)
                  exact L77 _ (nI (n + 1)) gv (Or.inr ⟨_, by omega, rfl⟩) (od_g1 hg (by omega)) (Nat.lt_succ_self _)
            exact L62 _ 0 1 gw (by omega) rfl (od_g0 hg0 (by omega)) (Nat.lt_succ_self _)
          · refine j_aload_n C 1 rfl dX11_odds_36 ?_
            refine gM_0_53 C tb_926 dX11_odds_37 ?_
            refine j_iload_n C 0 rfl dX11_odds_40 ?_
            refine j_iload_n C 0 rfl dX11_odds_41 ?_
            refine j_if_neN C 49 (by decide) (by omega) dX11_odds_42 (fun c14 => ?_) (fun c14 => ?_)
            · refine j_lconst C 0 (by decide) dX11_odds_49 ?_
              refine tM_31 C i rfl (by omega) dX11_odds_50 ?_
              refine j_iinc C (nI (i + 1)) [(3, .int (nI (i + 1))), (0, .ref (g 0)), (1, .int (nI xn)), (2, .int (nI yn))] 0 rfl (by rw [show Int32.ofInt 1 = nI 1 from by decide, nI_add]) (by decide) rfl dX11_odds_51 ?_
              refine j_goto C 30 (by decide) dX11_odds_54 ?_
              refine j_w (cM g kk (sI (sI (sG σ 31 (vp_updL gw i 0)) 51 (nI w3)) 52 (nI w4))) (congrArg (cM g kk) (show sG (sI (sI (sG σ 31 gw) 51 (nI w3)) 52 (nI w4)) 31 (vp_updL gw i 0) = sI (sI (sG σ 31 (vp_updL gw i 0)) 51 (nI w3)) 52 (nI w4) from (Eq.trans wrGI (wrI (Eq.trans wrGI (wrI wrGs)))))) ?_
              exact ih30 (i + 1) (vp_updL gw i 0) (by omega) (od_i0 hg0 c14) (by omega)
            · refine j_lconst C 1 (by decide) dX11_odds_45 ?_
              refine j_goto C 50 (by decide) dX11_odds_46 ?_
              refine tM_31 C i rfl (by omega) dX11_odds_50 ?_
              refine j_iinc C (nI (i + 1)) [(3, .int (nI (i + 1))), (0, .ref (g 0)), (1, .int (nI xn)), (2, .int (nI yn))] 0 rfl (by rw [show Int32.ofInt 1 = nI 1 from by decide, nI_add]) (by decide) rfl dX11_odds_51 ?_
              refine j_goto C 30 (by decide) dX11_odds_54 ?_
              refine j_w (cM g kk (sI (sI (sG σ 31 (vp_updL gw i 1)) 51 (nI w3)) 52 (nI w4))) (congrArg (cM g kk) (show sG (sI (sI (sG σ 31 gw) 51 (nI w3)) 52 (nI w4)) 31 (vp_updL gw i 1) = sI (sI (sG σ 31 (vp_updL gw i 1)) 51 (nI w3)) 52 (nI w4) from (Eq.trans wrGI (wrI (Eq.trans wrGI (wrI wrGs)))))) ?_
              exact ih30 (i + 1) (vp_updL gw i 1) (by omega) (od_i1 c14) (by omega)
      refine j_w (cM g kk (sG (sI (sI σ 51 (nI w3)) 52 (nI w4)) 31 (σ.2.2.2 31))) (congrArg (cM g kk) (wrGi (S := (sI (sI σ 51 (nI w3)) 52 (nI w4))) (c := 31) (v := σ.2.2.2 31) (gtGI (gtGI rfl)))) ?_
      refine j_w (cM g kk (sI (sI (sG σ 31 (σ.2.2.2 31)) 51 (nI w3)) 52 (nI w4))) (congrArg (cM g kk) (show sG (sI (sI σ 51 (nI w3)) 52 (nI w4)) 31 (σ.2.2.2 31) = sI (sI (sG σ 31 (σ.2.2.2 31)) 51 (nI w3)) 52 (nI w4) from (Eq.trans wrGI (wrI wrGI)))) ?_
      exact L30 _ 0 (σ.2.2.2 31) (by omega) (fun j hj => absurd hj (by omega)) (Nat.lt_succ_self _)
    · replace c2 := bI_f c2
      refine j_ldc2 C tb_1311 dX11_odds_19 ?_
      refine j_w (cM g kk (sG σ 31 (σ.2.2.2 31))) (congrArg (cM g kk) (wrGi (S := σ) (c := 31) (v := σ.2.2.2 31) rfl)) ?_
      refine j_w (cM g kk (sI (sG σ 31 (σ.2.2.2 31)) 51 (σ.1 51))) (congrArg (cM g kk) (wrIi (S := (sG σ 31 (σ.2.2.2 31))) (c := 51) (v := σ.1 51) (gtIG rfl))) ?_
      refine j_w (cM g kk (sI (sI (sG σ 31 (σ.2.2.2 31)) 51 (σ.1 51)) 52 (σ.1 52))) (congrArg (cM g kk) (wrIi (S := (sI (sG σ 31 (σ.2.2.2 31)) 51 (σ.1 51))) (c := 52) (v := σ.1 52) (gtII (by decide) (gtIG rfl)))) ?_
      exact j_lret C E (sI (sI (sG σ 31 (σ.2.2.2 31)) 51 (σ.1 51)) 52 (σ.1 52)) ⟨_, rfl, ⟨(σ.2.2.2 31), (σ.1 51), (σ.1 52), rfl, (odF_2 c1 c2)⟩⟩ rfl dX11_odds_22
  · replace c1 := bI_f c1
    refine j_ldc2 C tb_1310 dX11_odds_8 ?_
    refine j_w (cM g kk (sG σ 31 (σ.2.2.2 31))) (congrArg (cM g kk) (wrGi (S := σ) (c := 31) (v := σ.2.2.2 31) rfl)) ?_
    refine j_w (cM g kk (sI (sG σ 31 (σ.2.2.2 31)) 51 (σ.1 51))) (congrArg (cM g kk) (wrIi (S := (sG σ 31 (σ.2.2.2 31))) (c := 51) (v := σ.1 51) (gtIG rfl))) ?_
    refine j_w (cM g kk (sI (sI (sG σ 31 (σ.2.2.2 31)) 51 (σ.1 51)) 52 (σ.1 52))) (congrArg (cM g kk) (wrIi (S := (sI (sG σ 31 (σ.2.2.2 31)) 51 (σ.1 51))) (c := 52) (v := σ.1 52) (gtII (by decide) (gtIG rfl)))) ?_
    exact j_lret C E (sI (sI (sG σ 31 (σ.2.2.2 31)) 51 (σ.1 51)) 52 (σ.1 52)) ⟨_, rfl, ⟨(σ.2.2.2 31), (σ.1 51), (σ.1 52), rfl, (odF_1 c1)⟩⟩ rfl dX11_odds_11
theorem odF_eq {k n r : Nat} {σ μ : St} (h : RB k n r σ μ) (x y : Int32) : odF k (σ.2.1 6) x y = odF k (μ.2.1 5) x y := by
  unfold odF
  by_cases hc : cB x (nI k) = false
  · rw [if_pos hc, if_pos hc]
  · rw [if_neg hc, if_neg hc]
    obtain ⟨c, c1, c2⟩ := cB_nat (by have := h.k.1; omega) (show cB x (nI k) = true from by cases e : cB x (nI k) with | false => exact absurd e hc | true => rfl)
    have hk := h.k.1
    have e : fv (σ.2.1 6) (28 * x.toNatClampNeg) 28 = fv (μ.2.1 5) (28 * x.toNatClampNeg) 28 := by
      rw [c2, nI_clamp (by omega)]
      refine fv_congr (fun d hd => ?_) 28 (by omega)
      obtain ⟨q1, q2, q3⟩ := h.1.2.2.2.2.1 (28 * c + d) (by omega)
      have q : tr (σ.2.1 6 (28 * c + d)) = μ.2.1 5 (28 * c + d) := q1 (by omega)
      rw [← q]
      rcases q3 with z | ⟨m, z1, z2⟩
      · have z : σ.2.1 6 (28 * c + d) = -1 := z
        rw [z]
        exact ⟨⟨fun _ => by decide, fun _ => by decide⟩, fun w => absurd (by decide) w⟩
      · have z2 : σ.2.1 6 (28 * c + d) = nI m := z2
        rw [z2, tr_ge (nI_pos' (by omega))]
        exact ⟨Iff.rfl, fun _ => rfl⟩
    rw [e]
