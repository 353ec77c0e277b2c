def cnX (la ra va : Nat → Int32) (j : Nat) : Int32 := if la j = -1 then ra j else va (la j).toNatClampNeg
/-- what the class's garden holds -/
def gdX (σ : St) : GD := (fun c d => cnX (σ.2.1 15) (σ.2.1 6) (σ.2.1 13) (c * 28 + d), fun c d => (σ.2.1 7 (c * 28 + d)).toNatClampNeg, fun c d => (σ.2.1 8 (c * 28 + d)).toNatClampNeg, fun c d => (σ.2.1 9 (c * 28 + d)).toNatClampNeg, fun c d => (σ.2.1 4 (c * 3 + (σ.2.1 5 d).toNatClampNeg)).toNatClampNeg, fun c => (σ.2.1 2 c).toNatClampNeg, fun c => (σ.2.1 3 c).toNatClampNeg, fun j => (σ.2.1 10 j).toNatClampNeg)
theorem le_cl {b : Nat} {v : Int32} (hb : b < 2 ^ 31) (h : le_ b v) : v = nI v.toNatClampNeg ∧ v.toNatClampNeg ≤ b := by
  obtain ⟨m, m1, rfl⟩ := h
  rw [nI_clamp (by omega)]
  exact ⟨rfl, m1⟩
theorem lst_c (f : Nat → Int32) (c : Int32) : ∀ n : Nat, lst f n c = -1 ∨ ∃ m : Nat, m < n ∧ lst f n c = nI m ∧ f m = c
  | 0 => Or.inl rfl
  | n + 1 => by
    show (if f n = c then nI n else lst f n c) = -1 ∨ ∃ m : Nat, m < n + 1 ∧ (if f n = c then nI n else lst f n c) = nI m ∧ f m = c
    by_cases e : f n = c
    · rw [if_pos e]; exact Or.inr ⟨n, by omega, rfl, e⟩
    · rw [if_neg e]
      rcases lst_c f c n with h | ⟨m, h1, h2, h3⟩
      · exact Or.inl h
      · exact Or.inr ⟨m, by omega, h2, h3⟩
theorem RB.fx {k n r : Nat} {σ μ : St} (h : RB k n r σ μ) : n ≤ 20 ∧ (∀ j : Nat, j < 20 → ∃ c d : Nat, c < 6 ∧ d < 28 ∧ σ.2.1 12 j = nI (28 * c + d) ∧ μ.2.1 6 j = nI c ∧ μ.2.1 7 j = nI d ∧ tr (σ.2.1 13 j) = μ.2.1 8 j ∧ lm_ 999 (σ.2.1 13 j)) ∧ ∀ q : Nat, q < 168 → σ.2.1 15 q = lst (σ.2.1 12) n (nI q) := ⟨h.1.2.2.2.2.2.2.2.1.1, h.1.2.2.2.2.2.2.2.1.2.2.2.1, h.1.2.2.2.2.2.2.2.1.2.2.2.2.2.1⟩
theorem RB.rw {k n r : Nat} {σ μ : St} (h : RB k n r σ μ) : ∀ j : Nat, j < 168 → (j < 28 * k → tr (σ.2.1 6 j) = μ.2.1 5 j) ∧ (28 * k ≤ j → σ.2.1 6 j = -1) ∧ lm_ 999 (σ.2.1 6 j) := h.1.2.2.2.2.1
theorem RB.mi {k n r : Nat} {σ μ : St} (h : RB k n r σ μ) : ∀ j : Nat, j < 18 → (j < 3 * k → σ.2.1 4 j = μ.2.1 3 j) ∧ (3 * k ≤ j → σ.2.1 4 j = 0) ∧ le_ 9 (σ.2.1 4 j) ∧ le_ 9 (μ.2.1 3 j) := h.1.2.2.1
theorem RB.wi {k n r : Nat} {σ μ : St} (h : RB k n r σ μ) : ∀ j : Nat, j < 28 → σ.2.1 5 j = μ.2.1 4 j ∧ le_ 2 (σ.2.1 5 j) := h.1.2.2.2.1
theorem RB.xy {k n r : Nat} {σ μ : St} (h : RB k n r σ μ) : ∀ j : Nat, j < 6 → (σ.2.1 2 j = μ.2.1 1 j ∧ le_ 20 (σ.2.1 2 j)) ∧ (σ.2.1 3 j = μ.2.1 2 j ∧ le_ 20 (σ.2.1 3 j)) := h.1.2.1
theorem RB.st {k n r : Nat} {σ μ : St} (h : RB k n r σ μ) : ∀ j : Nat, j < 4 → σ.2.1 10 j = s4 (mv μ) j ∧ ∃ v : Nat, σ.2.1 10 j = nI v ∧ stB j v := h.1.2.2.2.2.2.2.1
theorem RB.no {k n r : Nat} {σ μ : St} (h : RB k n r σ μ) : ∀ c : Nat, c < k → ∀ d : Nat, d < 28 → σ.2.1 7 (c * 28 + d) = μ.2.1 10 (28 * c + d) ∧ le_ 3 (σ.2.1 7 (c * 28 + d)) ∧ (¬ σ.2.1 7 (c * 28 + d) = 0 → (σ.2.1 8 (c * 28 + d) = μ.2.1 11 (28 * c + d) ∧ σ.2.1 9 (c * 28 + d) = μ.2.1 12 (28 * c + d)) ∧ ∃ fi la : Nat, fi ≤ d ∧ d ≤ la ∧ la ≤ 27 ∧ ∀ j : Nat, fi ≤ j → j ≤ la → σ.2.1 7 (c * 28 + j) = σ.2.1 7 (c * 28 + d) ∧ σ.2.1 8 (c * 28 + j) = nI fi ∧ σ.2.1 9 (c * 28 + j) = nI la) := fun c hc d hd => by
  have hk := h.k.1
  obtain ⟨z, w⟩ := (h.1.2.2.2.2.2.1.2 c (by omega)).1 hc
  have e1 : σ.2.1 7 (28 * c + d) = μ.2.1 10 (28 * c + d) := z.1 d hd
  have e2 : ¬ σ.2.1 7 (28 * c + d) = 0 → σ.2.1 8 (28 * c + d) = μ.2.1 11 (28 * c + d) ∧ σ.2.1 9 (28 * c + d) = μ.2.1 12 (28 * c + d) := z.2.1 d hd
  obtain ⟨w1, w2⟩ := w d hd
  rw [Nat.mul_comm c 28]
  exact ⟨e1, w1, fun nz => ⟨e2 nz, w2 nz⟩⟩
theorem cnX_lm {k n r : Nat} {σ μ : St} (h : RB k n r σ μ) {j : Nat} (hj : j < 168) : lm_ 999 (cnX (σ.2.1 15) (σ.2.1 6) (σ.2.1 13) j) := by
  obtain ⟨f1, f2, f3⟩ := h.fx
  unfold cnX
  rw [f3 j hj]
  rcases lst_c (σ.2.1 12) (nI j) n with q | ⟨m, q1, q2, q3⟩
  · rw [if_pos q]; exact (h.rw j hj).2.2
  · rw [q2, if_neg (nI_nm1 (by omega)), nI_clamp (by omega)]
    obtain ⟨_, _, _, _, _, _, _, _, q⟩ := f2 m (by omega)
    exact q
theorem WG_of {k n r : Nat} {σ μ : St} (h : RB k n r σ μ) : WG (gdX σ) k := by
  have hk := h.k.1
  refine ⟨fun c d hc hd => ⟨cnX_lm h (by omega), ?_, ?_, fun q => ?_⟩, fun c hc => ?_, ?_⟩
  · exact (le_cl (by decide) (h.no c hc d hd).2.1).2
  · obtain ⟨w, w1, w2⟩ := (h.wi d hd).2
    show (σ.2.1 4 (c * 3 + (σ.2.1 5 d).toNatClampNeg)).toNatClampNeg ≤ 9
    rw [w2, nI_clamp (by omega)]
    exact (le_cl (by decide) (h.mi (c * 3 + w) (by omega)).2.2.1).2
  · have q : (σ.2.1 7 (c * 28 + d)).toNatClampNeg = 3 := q
    obtain ⟨-, z2, z3⟩ := h.no c hc d hd
    have e7 := (le_cl (by decide) z2).1
    rw [q] at e7
    obtain ⟨-, fi, la, r1, r2, r3, r4⟩ := z3 (by rw [e7]; decide)
    have hF : ∀ j, fi ≤ j → j ≤ la → zK (gdX σ) c j = 3 ∧ zF (gdX σ) c j = fi ∧ zL (gdX σ) c j = la := fun j j1 j2 => by
      obtain ⟨s1, s2, s3⟩ := r4 j j1 j2
      show (σ.2.1 7 (c * 28 + j)).toNatClampNeg = 3 ∧ (σ.2.1 8 (c * 28 + j)).toNatClampNeg = fi ∧ (σ.2.1 9 (c * 28 + j)).toNatClampNeg = la
      rw [s1, s2, s3, nI_clamp (by omega), nI_clamp (by omega)]
      exact ⟨q, rfl, rfl⟩
    obtain ⟨-, t2, t3⟩ := hF d r1 r2
    rw [t2, t3]
    exact ⟨r1, r2, r3, fun e e1 e2 => hF e e1 e2⟩
  · have hx := h.xy c (by omega)
    exact ⟨(le_cl (by decide) hx.1.2).2, (le_cl (by decide) hx.2.2).2⟩
  · obtain ⟨-, v0, e0, b0⟩ := h.st 0 (by decide)
    obtain ⟨-, v1, e1, b1⟩ := h.st 1 (by decide)
    obtain ⟨-, v2, e2, b2⟩ := h.st 2 (by decide)
    obtain ⟨-, v3, e3, b3⟩ := h.st 3 (by decide)
    have c0 := b0.1 rfl
    have c1 := b1.2.1 rfl
    have c2 := b2.2.2.1 rfl
    have c3 := b3.2.2.2 rfl
    show 1 ≤ (σ.2.1 10 0).toNatClampNeg ∧ (σ.2.1 10 0).toNatClampNeg ≤ 40 ∧ (σ.2.1 10 1).toNatClampNeg ≤ 999 ∧ (σ.2.1 10 2).toNatClampNeg ≤ 99 ∧ (σ.2.1 10 3).toNatClampNeg ≤ 9
    rw [e0, e1, e2, e3, nI_clamp (by omega), nI_clamp (by omega), nI_clamp (by omega), nI_clamp (by omega)]
    exact ⟨c0.1, c0.2, c1, c2, c3⟩
theorem HX_of {k n r : Nat} {σ μ : St} (h : RB k n r σ μ) : HX (gdX σ) k σ := by
  have hk := h.k.1
  obtain ⟨f1, f2, f3⟩ := h.fx
  refine ⟨WG_of h, fun c d hc hd => ⟨?_, ?_, fun q => ?_, ?_⟩, fun c hc => ?_, fun j hj => ?_⟩
  · show (_ ∧ _ = cnX (σ.2.1 15) (σ.2.1 6) (σ.2.1 13) (c * 28 + d)) ∨ ∃ m : Nat, m < 20 ∧ _ ∧ _ = cnX (σ.2.1 15) (σ.2.1 6) (σ.2.1 13) (c * 28 + d)
    unfold cnX
    rw [f3 (c * 28 + d) (by omega)]
    rcases lst_c (σ.2.1 12) (nI (c * 28 + d)) n with q | ⟨m, q1, q2, q3⟩
    · rw [if_pos q]; exact Or.inl ⟨q, rfl⟩
    · rw [q2, if_neg (nI_nm1 (by omega)), nI_clamp (by omega)]; exact Or.inr ⟨m, by omega, rfl, rfl⟩
  · exact (le_cl (by decide) (h.no c hc d hd).2.1).1
  · have q : (σ.2.1 7 (c * 28 + d)).toNatClampNeg = 3 := q
    obtain ⟨-, z2, z3⟩ := h.no c hc d hd
    have e7 := (le_cl (by decide) z2).1
    rw [q] at e7
    obtain ⟨-, fi, la, r1, r2, r3, r4⟩ := z3 (by rw [e7]; decide)
    obtain ⟨s1, s2, s3⟩ := r4 d r1 r2
    show σ.2.1 8 (c * 28 + d) = nI (σ.2.1 8 (c * 28 + d)).toNatClampNeg ∧ σ.2.1 9 (c * 28 + d) = nI (σ.2.1 9 (c * 28 + d)).toNatClampNeg
    rw [s2, s3, nI_clamp (by omega), nI_clamp (by omega)]
    exact ⟨rfl, rfl⟩
  · obtain ⟨w, w1, w2⟩ := (h.wi d hd).2
    refine ⟨w, w1, w2, ?_⟩
    show σ.2.1 4 (c * 3 + w) = nI (σ.2.1 4 (c * 3 + (σ.2.1 5 d).toNatClampNeg)).toNatClampNeg
    rw [w2, nI_clamp (by omega)]
    exact (le_cl (by decide) (h.mi (c * 3 + w) (by omega)).2.2.1).1
  · have hx := h.xy c (by omega)
    exact ⟨(le_cl (by decide) hx.1.2).1, (le_cl (by decide) hx.2.2).1⟩
  · obtain ⟨-, v, e, b⟩ := h.st j hj
    show σ.2.1 10 j = nI (σ.2.1 10 j).toNatClampNeg
    have hv : v ≤ 999 := by
      rcases (show j = 0 ∨ j = 1 ∨ j = 2 ∨ j = 3 by omega) with rfl | rfl | rfl | rfl
      · have := b.1 rfl; omega
      · have := b.2.1 rfl; omega
      · have := b.2.2.1 rfl; omega
      · have := b.2.2.2 rfl; omega
    rw [e, nI_clamp (by omega)]
theorem fxR_eq {k n r : Nat} {σ μ : St} (h : RB k n r σ μ) {c d : Nat} (hc : c < k) (hd : d < 28) : ∀ m : Nat, m ≤ n → fxR (μ.2.1 6) (μ.2.1 7) (μ.2.1 8) c d (μ.2.1 5 (28 * c + d)) m = tr (if lst (σ.2.1 12) m (nI (c * 28 + d)) = -1 then σ.2.1 6 (c * 28 + d) else σ.2.1 13 (lst (σ.2.1 12) m (nI (c * 28 + d))).toNatClampNeg)
  | 0, _ => by
    have hk := h.k.1
    show μ.2.1 5 (28 * c + d) = tr (if (-1 : Int32) = -1 then σ.2.1 6 (c * 28 + d) else _)
    rw [if_pos rfl, Nat.mul_comm c 28]
    exact ((h.rw (28 * c + d) (by omega)).1 (by omega)).symm
  | m + 1, hm => by
    have hk := h.k.1
    obtain ⟨f1, f2, -⟩ := h.fx
    obtain ⟨c', d', c1, c2, q1, q2, q3, q4, -⟩ := f2 m (by omega)
    show (if μ.2.1 6 m = nI c ∧ μ.2.1 7 m = nI d then μ.2.1 8 m else fxR (μ.2.1 6) (μ.2.1 7) (μ.2.1 8) c d (μ.2.1 5 (28 * c + d)) m) = tr (if (if σ.2.1 12 m = nI (c * 28 + d) then nI m else lst (σ.2.1 12) m (nI (c * 28 + d))) = -1 then σ.2.1 6 (c * 28 + d) else σ.2.1 13 (if σ.2.1 12 m = nI (c * 28 + d) then nI m else lst (σ.2.1 12) m (nI (c * 28 + d))).toNatClampNeg)
    by_cases e : c' = c ∧ d' = d
    · rw [if_pos (show μ.2.1 6 m = nI c ∧ μ.2.1 7 m = nI d from ⟨by rw [q2, e.1], by rw [q3, e.2]⟩), if_pos (show σ.2.1 12 m = nI (c * 28 + d) from by rw [q1, e.1, e.2, Nat.mul_comm]), if_neg (nI_nm1 (by omega)), nI_clamp (by omega), q4]
    · rw [if_neg (show ¬ (μ.2.1 6 m = nI c ∧ μ.2.1 7 m = nI d) from fun w => e ⟨nI_inj (by omega) (by omega) q2 w.1, nI_inj (by omega) (by omega) q3 w.2⟩), if_neg (show ¬ σ.2.1 12 m = nI (c * 28 + d) from fun w => e (by have := nI_inj (by omega) (by omega) q1 w; omega))]
      exact fxR_eq h hc hd m (by omega)
theorem HM_of {k n r : Nat} {σ μ : St} (h : RB k n r σ μ) : HM (gdX σ) k n μ := by
  have hk := h.k.1
  obtain ⟨f1, f2, f3⟩ := h.fx
  have hX := HX_of h
  refine ⟨WG_of h, fun c d hc hd => ⟨?_, ?_, fun q => ?_, ?_⟩, fun c hc => ?_, ?_⟩
  · rw [fxR_eq h hc hd n (Nat.le_refl _)]
    show _ = tr (cnX (σ.2.1 15) (σ.2.1 6) (σ.2.1 13) (c * 28 + d))
    unfold cnX
    rw [f3 (c * 28 + d) (by omega)]
  · rw [← (h.no c hc d hd).1]; exact hX.K hc hd
  · have q' : (σ.2.1 7 (c * 28 + d)).toNatClampNeg = 3 := q
    obtain ⟨-, z2, z3⟩ := h.no c hc d hd
    have e7 := (le_cl (by decide) z2).1
    rw [q'] at e7
    obtain ⟨⟨t1, t2⟩, -⟩ := z3 (by rw [e7]; decide)
    rw [← t1, ← t2]
    exact ⟨hX.F hc hd q, hX.L hc hd q⟩
  · obtain ⟨w, w1, w2, w3⟩ := hX.M hc hd
    refine ⟨w, w1, by rw [← (h.wi d hd).1]; exact w2, ?_⟩
    rw [Nat.mul_comm 3 c, ← (h.mi (c * 3 + w) (by omega)).1 (by omega)]
    exact w3
  · have hx := h.xy c (by omega)
    rw [← hx.1.1, ← hx.2.1]
    exact hX.P hc
  · have a0 : σ.2.1 10 0 = μ.1 10 := (h.st 0 (by decide)).1
    have a1 : σ.2.1 10 1 = μ.1 11 := (h.st 1 (by decide)).1
    have a2 : σ.2.1 10 2 = μ.1 12 := (h.st 2 (by decide)).1
    have a3 : σ.2.1 10 3 = μ.1 13 := (h.st 3 (by decide)).1
    rw [← a0, ← a1, ← a2, ← a3]
    exact ⟨hX.S (by decide), hX.S (by decide), hX.S (by decide), hX.S (by decide)⟩
/-- what is held ready holds, if it isn't stale -/
def SC (σ : St) : Prop := ∀ k : Nat, k ≤ 6 → σ.1 16 = nI k → σ.1 437 = 0 → CXf (gdX σ) k (σ.2.1 28) (σ.2.1 29) (σ.2.1 30) (σ.2.1 31)
def slV (raw : Nat → Nat → Int32) (G : GD) (k c d w : Nat) : Int32 := if w = 0 then raw c d else if w = 1 then zC G c d else if w = 2 then rdV G c d else if w = 3 then plV G c d else if w = 4 then exV G k c d else vaV G k c d
def ofF (raw : Nat → Nat → Int32) (G : GD) (k : Nat) (x y z : Int32) : Int32 := if cB x (nI k) = false ∨ wB y (nI 0) (nI 27) = false then -1 else if wB z (nI 0) (nI 5) = false then -2 else tr (slV raw G k x.toNatClampNeg y.toNatClampNeg z.toNatClampNeg)
theorem ofF_1 {raw : Nat → Nat → Int32} {G : GD} {k : Nat} {x y z : Int32} (h : cB x (nI k) = false ∨ wB y (nI 0) (nI 27) = false) : -1 = ofF raw G k x y z := by unfold ofF; rw [if_pos h]
theorem ofF_2 {raw : Nat → Nat → Int32} {G : GD} {k : Nat} {x y z : Int32} (h1 : cB x (nI k) = true) (h2 : wB y (nI 0) (nI 27) = true) (h : wB z (nI 0) (nI 5) = false) : -2 = ofF raw G k x y z := by unfold ofF; rw [if_neg (by rw [h1, h2]; decide), if_pos h]
theorem ofF_3 {raw : Nat → Nat → Int32} {G : GD} {k c d w : Nat} (h1 : cB (nI c) (nI k) = true) (h2 : wB (nI d) (nI 0) (nI 27) = true) (h : wB (nI w) (nI 0) (nI 5) = true) (hc : c < 2 ^ 31) (hd : d < 2 ^ 31) (hw : w < 2 ^ 31) : tr (slV raw G k c d w) = ofF raw G k (nI c) (nI d) (nI w) := by unfold ofF; rw [if_neg (by rw [h1, h2]; decide), if_neg (by rw [h]; decide), nI_clamp hc, nI_clamp hd, nI_clamp hw]
set_option maxRecDepth 100000 in
set_option maxHeartbeats 4000000 in
theorem e_lookUp (g kk : Nat → Nat) (σ : St) (k : Nat) (hk : σ.1 16 = nI k) (hk6 : k ≤ 6) (hI : iX σ) (G : GD) (hX : HX G k σ) (hC : CXf G k (σ.2.1 28) (σ.2.1 29) (σ.2.1 30) (σ.2.1 31)) (c d : Nat) (hc : c < k) (hd : d < 28) (q : Nat) (hq0 : q = c * 28 + d) (w : Nat) (hw0 : w ≤ 5) : jM (S := St) yX7_lookUp cX7_lookUp 3 (some .int) { frames := 1, cells := 0, slots := 0, locals := 22 } kk (cX g kk σ) [.ref (g 27), .int (nI q), .int (nI w)] (cX g kk) (rI (fun (r : Int32) (u : St) => u = σ ∧ (r = slV (fun c d => σ.2.1 6 (c * 28 + d)) G k c d w))) := by
  refine j_entry [(0, .ref (g 27)), (1, .int (nI q)), (2, .int (nI w))] (by decide) (Nat.le_of_ble_eq_true rfl) rfl ?_
  intro X C E HI
  refine j_iload_n C 2 rfl dX7_lookUp_0 ?_
  by_cases q1 : w = 0
  · rw [q1]
    refine j_tabIn C 36 (by decide) (by decide) rfl (by decide) dX7_lookUp_1 ?_
    refine j_aload_n C 0 rfl dX7_lookUp_36 ?_
    refine gX_27_0 C tb_198 dX7_lookUp_37 ?_
    refine gX_1_5 C tb_118 dX7_lookUp_40 ?_
    refine j_iload_n C 1 rfl dX7_lookUp_43 ?_
    refine rX_6 C q rfl (by omega) (σ.2.1 6 (c * 28 + d)) (by rw [hq0]) dX7_lookUp_44 ?_
    exact j_iret C E (σ) ⟨_, rfl, ⟨rfl, (by rw [q1]; rfl)⟩⟩ rfl dX7_lookUp_45
  · by_cases q2 : w = 1
    · rw [q2]
      refine j_tabIn C 46 (by decide) (by decide) rfl (by decide) dX7_lookUp_1 ?_
      refine j_aload_n C 0 rfl dX7_lookUp_46 ?_
      refine gX_27_0 C tb_198 dX7_lookUp_47 ?_
      refine j_iload_n C 1 rfl dX7_lookUp_50 ?_
      refine j_V1 C (e_counted g kk σ k hk hk6 hI G hX c d hc hd q (by first | assumption | omega)) kyX2_counted tb_570 tb_571 tb_572 1 rfl (eX_1 g kk _) rfl (Nat.le_of_ble_eq_true rfl) ⟨by decide, by decide⟩ dX7_lookUp_51 rfl (fun vr ur hp => ?_)
      obtain ⟨r4, rfl, hu, g3⟩ := hp
      replace hu := hu.symm
      subst hu
      subst g3
      exact j_iret C E (σ) ⟨_, rfl, ⟨rfl, (by rw [q2]; rfl)⟩⟩ rfl dX7_lookUp_54
    · by_cases q5 : w = 2
      · rw [q5]
        refine j_tabIn C 55 (by decide) (by decide) rfl (by decide) dX7_lookUp_1 ?_
        refine j_aload_n C 0 rfl dX7_lookUp_55 ?_
        refine gX_27_1 C tb_202 dX7_lookUp_56 ?_
        refine j_iload_n C 1 rfl dX7_lookUp_59 ?_
        refine rX_28 C q rfl (by omega) (rdV G c d) (by rw [hq0]; exact (hC c d hc hd).1) dX7_lookUp_60 ?_
        exact j_iret C E (σ) ⟨_, rfl, ⟨rfl, (by rw [q5]; rfl)⟩⟩ rfl dX7_lookUp_61
      · by_cases q6 : w = 3
        · rw [q6]
          refine j_tabIn C 62 (by decide) (by decide) rfl (by decide) dX7_lookUp_1 ?_
          refine j_aload_n C 0 rfl dX7_lookUp_62 ?_
          refine gX_27_2 C tb_203 dX7_lookUp_63 ?_
          refine j_iload_n C 1 rfl dX7_lookUp_66 ?_
          refine rX_29 C q rfl (by omega) (plV G c d) (by rw [hq0]; exact (hC c d hc hd).2.1) dX7_lookUp_67 ?_
          exact j_iret C E (σ) ⟨_, rfl, ⟨rfl, (by rw [q6]; rfl)⟩⟩ rfl dX7_lookUp_68
        · by_cases q7 : w = 4
          · rw [q7]
            refine j_tabIn C 69 (by decide) (by decide) rfl (by decide) dX7_lookUp_1 ?_
            refine j_aload_n C 0 rfl dX7_lookUp_69 ?_
            refine gX_27_3 C tb_204 dX7_lookUp_70 ?_
            refine j_iload_n C 1 rfl dX7_lookUp_73 ?_
            refine rX_30 C q rfl (by omega) (exV G k c d) (by rw [hq0]; exact (hC c d hc hd).2.2.1) dX7_lookUp_74 ?_
            exact j_iret C E (σ) ⟨_, rfl, ⟨rfl, (by rw [q7]; rfl)⟩⟩ rfl dX7_lookUp_75
          · refine j_tabOut C 76 (swOutN 4 (by omega) (by omega)) (by decide) dX7_lookUp_1 ?_
            refine j_aload_n C 0 rfl dX7_lookUp_76 ?_
            refine gX_27_4 C tb_207 dX7_lookUp_77 ?_
            refine j_iload_n C 1 rfl dX7_lookUp_80 ?_
            refine rX_31 C q rfl (by omega) (vaV G k c d) (by rw [hq0]; exact (hC c d hc hd).2.2.2) dX7_lookUp_81 ?_
            exact j_iret C E (σ) ⟨_, rfl, ⟨rfl, (by rw [show w = 5 by omega]; rfl)⟩⟩ rfl dX7_lookUp_82
set_option maxRecDepth 100000 in
set_option maxHeartbeats 4000000 in
theorem e_of (g kk : Nat → Nat) (σ : St) (k : Nat) (hk : σ.1 16 = nI k) (hk6 : k ≤ 6) (hI : iX σ) (G : GD) (hX : HX G k σ) (hst : σ.1 437 = 0 → CXf G k (σ.2.1 28) (σ.2.1 29) (σ.2.1 30) (σ.2.1 31)) (x : Int32) (y : Int32) (z : Int32) : jM (S := St) yX10_of cX10_of 4 (some .int) { frames := 5, cells := 0, slots := 0, locals := 115 } kk (cX g kk σ) [.ref (g 0), .int x, .int y, .int z] (cX g kk) (rI (fun (r : Int32) (u : St) => ∃ (pF28 : Nat → Int32) (pF29 : Nat → Int32) (pF30 : Nat → Int32) (pF31 : Nat → Int32) (pI437 : Int32), u = sI (sF (sF (sF (sF σ 28 pF28) 29 pF29) 30 pF30) 31 pF31) 437 pI437 ∧ (r = ofF (fun c d => σ.2.1 6 (c * 28 + d)) G k x y z) ∧ ((pI437 = nI 0 ∧ CXf G k pF28 pF29 pF30 pF31) ∨ (pI437 = σ.1 437 ∧ pF28 = σ.2.1 28 ∧ pF29 = σ.2.1 29 ∧ pF30 = σ.2.1 30 ∧ pF31 = σ.2.1 31)))) := by
  refine j_entry [(0, .ref (g 0)), (1, .int x), (2, .int y), (3, .int z)] (by decide) (Nat.le_of_ble_eq_true rfl) rfl ?_
  intro X C E HI
  refine j_aload_n C 0 rfl dX10_of_0 ?_
  refine j_iload_n C 1 rfl dX10_of_1 ?_
  refine j_V1 C (c_isCan g kk σ k hk hk6 x) kyX10_isCan tb_478 tb_480 sp_0 0 rfl (eX_0 g kk _) rfl (Nat.le_of_ble_eq_true rfl) ⟨by decide, by decide⟩ dX10_of_2 rfl (fun vr ur hp => ?_)
  obtain ⟨r, rfl, rfl, hu⟩ := hp
  replace hu := hu.symm
  subst hu
  refine j_if_eq C 15 (by decide) dX10_of_5 (fun c1 => ?_) (fun c1 => ?_)
  · replace c1 := bI_f c1
    refine j_iconst C ((-1)) (by decide) dX10_of_15 ?_
    refine j_w (cX g kk (sF σ 28 (σ.2.1 28))) (congrArg (cX g kk) (wrFi (S := σ) (c := 28) (v := σ.2.1 28) rfl)) ?_
    refine j_w (cX g kk (sF (sF σ 28 (σ.2.1 28)) 29 (σ.2.1 29))) (congrArg (cX g kk) (wrFi (S := (sF σ 28 (σ.2.1 28))) (c := 29) (v := σ.2.1 29) (gtFF (by decide) rfl))) ?_
    refine j_w (cX g kk (sF (sF (sF σ 28 (σ.2.1 28)) 29 (σ.2.1 29)) 30 (σ.2.1 30))) (congrArg (cX g kk) (wrFi (S := (sF (sF σ 28 (σ.2.1 28)) 29 (σ.2.1 29))) (c := 30) (v := σ.2.1 30) (gtFF (by decide) (gtFF (by decide) rfl)))) ?_
    refine j_w (cX g kk (sF (sF (sF (sF σ 28 (σ.2.1 28)) 29 (σ.2.1 29)) 30 (σ.2.1 30)) 31 (σ.2.1 31))) (congrArg (cX g kk) (wrFi (S := (sF (sF (sF σ 28 (σ.2.1 28)) 29 (σ.2.1 29)) 30 (σ.2.1 30))) (c := 31) (v := σ.2.1 31) (gtFF (by decide) (gtFF (by decide) (gtFF (by decide) rfl))))) ?_
    refine j_w (cX g kk (sI (sF (sF (sF (sF σ 28 (σ.2.1 28)) 29 (σ.2.1 29)) 30 (σ.2.1 30)) 31 (σ.2.1 31)) 437 (σ.1 437))) (congrArg (cX g kk) (wrIi (S := (sF (sF (sF (sF σ 28 (σ.2.1 28)) 29 (σ.2.1 29)) 30 (σ.2.1 30)) 31 (σ.2.1 31))) (c := 437) (v := σ.1 437) (gtIF (gtIF (gtIF (gtIF rfl)))))) ?_
    exact j_iret C E (sI (sF (sF (sF (sF σ 28 (σ.2.1 28)) 29 (σ.2.1 29)) 30 (σ.2.1 30)) 31 (σ.2.1 31)) 437 (σ.1 437)) ⟨_, rfl, ⟨(σ.2.1 28), (σ.2.1 29), (σ.2.1 30), (σ.2.1 31), (σ.1 437), rfl, (ofF_1 (Or.inl c1)), (Or.inr ⟨rfl, rfl, rfl, rfl, rfl⟩)⟩⟩ rfl dX10_of_16
  · replace c1 := bI_t c1
    obtain ⟨xn, xn1, rfl⟩ := cB_nat (by omega) c1
    refine j_iload_n C 2 rfl dX10_of_8 ?_
    refine j_S01 C (c_isDay y) kyX10_isDay tb_486 tb_487 rfl (Nat.le_of_ble_eq_true rfl) ⟨by decide, by decide⟩ ⟨by decide, by decide⟩ dX10_of_9 rfl ?_
    refine j_if_ne C 17 (by decide) dX10_of_12 (fun c2 => ?_) (fun c2 => ?_)
    · replace c2 := bI_t c2
      obtain ⟨yn, yn1, yn2, rfl⟩ := wB_nat (by decide) (by decide) c2
      refine j_iload_n C 3 rfl dX10_of_17 ?_
      refine j_iconst C (nI 0) (by decide) dX10_of_18 ?_
      refine j_iconst C (nI 5) (by decide) dX10_of_19 ?_
      refine j_S01 C (c_isWithin z (nI 0) (nI 5)) kyX10_isWithin tb_467 tb_468 rfl (Nat.le_of_ble_eq_true rfl) ⟨by decide, by decide⟩ ⟨by decide, by decide⟩ dX10_of_20 rfl ?_
      refine j_if_ne C 29 (by decide) dX10_of_23 (fun c3 => ?_) (fun c3 => ?_)
      · replace c3 := bI_t c3
        obtain ⟨zn, zn1, zn2, rfl⟩ := wB_nat (by decide) (by decide) c3
        refine j_aload_n C 0 rfl dX10_of_29 ?_
        refine gX_0_2 C tb_430 dX10_of_30 ?_
        refine j_V1 C (e_refresh g kk σ k hk hk6 hI G hX hst ) kyX7_refresh tb_562 tb_563 tb_564 27 rfl (eX_27 g kk _) rfl (Nat.le_of_ble_eq_true rfl) ⟨by decide, by decide⟩ dX10_of_33 rfl (fun vr ur hp => ?_)
        obtain ⟨rfl, w4, w5, w6, w7, w8, hu, g9, g10⟩ := hp
        replace hu := hu.symm
        subst hu
        refine j_aload_n C 0 rfl dX10_of_36 ?_
        refine gX_0_2 C tb_430 dX10_of_37 ?_
        refine j_iload_n C 1 rfl dX10_of_40 ?_
        refine j_bipush C (nI 28) (by decide) dX10_of_41 ?_
        refine j_imulN C dX10_of_43 ?_
        refine j_iload_n C 2 rfl dX10_of_44 ?_
        refine j_iaddN C dX10_of_45 ?_
        refine j_iload_n C 3 rfl dX10_of_46 ?_
        refine j_V1 C (e_lookUp g kk (sI (sF (sF (sF (sF σ 28 w4) 29 w5) 30 w6) 31 w7) 437 w8) k hk hk6 hI G hX g10 xn yn (by omega) (by omega) ((xn * 28) + yn) (by first | assumption | omega) zn (by first | assumption | omega)) kyX7_lookUp tb_602 tb_603 tb_604 27 rfl (eX_27 g kk _) rfl (Nat.le_of_ble_eq_true rfl) ⟨by decide, by decide⟩ dX10_of_47 rfl (fun vr ur hp => ?_)
        obtain ⟨r12, rfl, hu, g11⟩ := hp
        replace hu := hu.symm
        subst hu
        have er12 := g11
        subst er12
        refine j_S01 C (c_orNone (slV (fun c d => σ.2.1 6 (c * 28 + d)) G k xn yn zn)) kyX10_orNone tb_493 tb_494 rfl (Nat.le_of_ble_eq_true rfl) ⟨by decide, by decide⟩ ⟨by decide, by decide⟩ dX10_of_50 rfl ?_
        exact j_iret C E (sI (sF (sF (sF (sF σ 28 w4) 29 w5) 30 w6) 31 w7) 437 w8) ⟨_, rfl, ⟨w4, w5, w6, w7, w8, rfl, (ofF_3 c1 c2 c3 (by omega) (by omega) (by omega)), (Or.inl ⟨g9, g10⟩)⟩⟩ rfl dX10_of_53
      · replace c3 := bI_f c3
        refine j_bipush C ((-2)) (by decide) dX10_of_26 ?_
        refine j_w (cX g kk (sF σ 28 (σ.2.1 28))) (congrArg (cX g kk) (wrFi (S := σ) (c := 28) (v := σ.2.1 28) rfl)) ?_
        refine j_w (cX g kk (sF (sF σ 28 (σ.2.1 28)) 29 (σ.2.1 29))) (congrArg (cX g kk) (wrFi (S := (sF σ 28 (σ.2.1 28))) (c := 29) (v := σ.2.1 29) (gtFF (by decide) rfl))) ?_
        refine j_w (cX g kk (sF (sF (sF σ 28 (σ.2.1 28)) 29 (σ.2.1 29)) 30 (σ.2.1 30))) (congrArg (cX g kk) (wrFi (S := (sF (sF σ 28 (σ.2.1 28)) 29 (σ.2.1 29))) (c := 30) (v := σ.2.1 30) (gtFF (by decide) (gtFF (by decide) rfl)))) ?_
        refine j_w (cX g kk (sF (sF (sF (sF σ 28 (σ.2.1 28)) 29 (σ.2.1 29)) 30 (σ.2.1 30)) 31 (σ.2.1 31))) (congrArg (cX g kk) (wrFi (S := (sF (sF (sF σ 28 (σ.2.1 28)) 29 (σ.2.1 29)) 30 (σ.2.1 30))) (c := 31) (v := σ.2.1 31) (gtFF (by decide) (gtFF (by decide) (gtFF (by decide) rfl))))) ?_
        refine j_w (cX g kk (sI (sF (sF (sF (sF σ 28 (σ.2.1 28)) 29 (σ.2.1 29)) 30 (σ.2.1 30)) 31 (σ.2.1 31)) 437 (σ.1 437))) (congrArg (cX g kk) (wrIi (S := (sF (sF (sF (sF σ 28 (σ.2.1 28)) 29 (σ.2.1 29)) 30 (σ.2.1 30)) 31 (σ.2.1 31))) (c := 437) (v := σ.1 437) (gtIF (gtIF (gtIF (gtIF rfl)))))) ?_
        exact j_iret C E (sI (sF (sF (sF (sF σ 28 (σ.2.1 28)) 29 (σ.2.1 29)) 30 (σ.2.1 30)) 31 (σ.2.1 31)) 437 (σ.1 437)) ⟨_, rfl, ⟨(σ.2.1 28), (σ.2.1 29), (σ.2.1 30), (σ.2.1 31), (σ.1 437), rfl, (ofF_2 c1 c2 c3), (Or.inr ⟨rfl, rfl, rfl, rfl, rfl⟩)⟩⟩ rfl dX10_of_28
    · replace c2 := bI_f c2
      refine j_iconst C ((-1)) (by decide) dX10_of_15 ?_
      refine j_w (cX g kk (sF σ 28 (σ.2.1 28))) (congrArg (cX g kk) (wrFi (S := σ) (c := 28) (v := σ.2.1 28) rfl)) ?_
      refine j_w (cX g kk (sF (sF σ 28 (σ.2.1 28)) 29 (σ.2.1 29))) (congrArg (cX g kk) (wrFi (S := (sF σ 28 (σ.2.1 28))) (c := 29) (v := σ.2.1 29) (gtFF (by decide) rfl))) ?_
      refine j_w (cX g kk (sF (sF (sF σ 28 (σ.2.1 28)) 29 (σ.2.1 29)) 30 (σ.2.1 30))) (congrArg (cX g kk) (wrFi (S := (sF (sF σ 28 (σ.2.1 28)) 29 (σ.2.1 29))) (c := 30) (v := σ.2.1 30) (gtFF (by decide) (gtFF (by decide) rfl)))) ?_
      refine j_w (cX g kk (sF (sF (sF (sF σ 28 (σ.2.1 28)) 29 (σ.2.1 29)) 30 (σ.2.1 30)) 31 (σ.2.1 31))) (congrArg (cX g kk) (wrFi (S := (sF (sF (sF σ 28 (σ.2.1 28)) 29 (σ.2.1 29)) 30 (σ.2.1 30))) (c := 31) (v := σ.2.1 31) (gtFF (by decide) (gtFF (by decide) (gtFF (by decide) rfl))))) ?_
      refine j_w (cX g kk (sI (sF (sF (sF (sF σ 28 (σ.2.1 28)) 29 (σ.2.1 29)) 30 (σ.2.1 30)) 31 (σ.2.1 31)) 437 (σ.1 437))) (congrArg (cX g kk) (wrIi (S := (sF (sF (sF (sF σ 28 (σ.2.1 28)) 29 (σ.2.1 29)) 30 (σ.2.1 30)) 31 (σ.2.1 31))) (c := 437) (v := σ.1 437) (gtIF (gtIF (gtIF (gtIF rfl)))))) ?_
      exact j_iret C E (sI (sF (sF (sF (sF σ 28 (σ.2.1 28)) 29 (σ.2.1 29)) 30 (σ.2.1 30)) 31 (σ.2.1 31)) 437 (σ.1 437)) ⟨_, rfl, ⟨(σ.2.1 28), (σ.2.1 29), (σ.2.1 30), (σ.2.1 31), (σ.1 437), rfl, (ofF_1 (Or.inr c2)), (Or.inr ⟨rfl, rfl, rfl, rfl, rfl⟩)⟩⟩ rfl dX10_of_16
theorem z6 (z : Int32) : z = nI 0 ∨ z = nI 1 ∨ z = nI 2 ∨ z = nI 3 ∨ z = nI 4 ∨ z = nI 5 ∨ (wB z (nI 0) (nI 5) = false ∧ ¬ z = nI 0 ∧ ¬ z = nI 1 ∧ ¬ z = nI 2 ∧ ¬ z = nI 3 ∧ ¬ z = nI 4 ∧ ¬ z = nI 5) := by
  cases e : wB z (nI 0) (nI 5) with
  | true =>
    obtain ⟨m, -, h2, h3⟩ := wB_nat (by decide) (by decide) e
    subst h3
    rcases (show m = 0 ∨ m = 1 ∨ m = 2 ∨ m = 3 ∨ m = 4 ∨ m = 5 by omega) with rfl | rfl | rfl | rfl | rfl | rfl
    · exact Or.inl rfl
    · exact Or.inr (Or.inl rfl)
    · exact Or.inr (Or.inr (Or.inl rfl))
    · exact Or.inr (Or.inr (Or.inr (Or.inl rfl)))
    · exact Or.inr (Or.inr (Or.inr (Or.inr (Or.inl rfl))))
    · exact Or.inr (Or.inr (Or.inr (Or.inr (Or.inr (Or.inl rfl)))))
  | false =>
    have hn : ∀ j : Nat, j ≤ 5 → ¬ z = nI j := fun j hj q => by
      rw [q, wB_of (by decide) (Nat.zero_le _) hj] at e
      cases e
    exact Or.inr (Or.inr (Or.inr (Or.inr (Or.inr (Or.inr ⟨rfl, hn 0 (by decide), hn 1 (by decide), hn 2 (by decide), hn 3 (by decide), hn 4 (by decide), hn 5 (by decide)⟩)))))
set_option maxRecDepth 100000 in
set_option maxHeartbeats 4000000 in
theorem o_of (g kk : Nat → Nat) (σ : St) (k : Nat) (hk : σ.1 3 = nI k) (hk6 : k ≤ 6) (hI : iM σ) (nf : Nat) (hnf : σ.1 9 = nI nf) (hnfb : nf ≤ 20) (G : GD) (hM : HM G k nf σ) (ρ : Nat → Int32) (hρ : ∀ c d : Nat, c < k → d < 28 → σ.2.1 5 (28 * c + d) = tr (ρ (c * 28 + d))) (x : Int32) (y : Int32) (z : Int32) : jM (S := St) yX11_of cX11_of 4 (some .int) { frames := 6, cells := 0, slots := 0, locals := 141 } kk (cM g kk σ) [.ref (g 0), .int x, .int y, .int z] (cM g kk) (rI (fun (r : Int32) (u : St) => ∃ (pF16 : Nat → Int32) (pF17 : Nat → Int32) (pF18 : Nat → Int32), u = sF (sF (sF σ 16 pF16) 17 pF17) 18 pF18 ∧ (r = ofF (fun c d => ρ (c * 28 + d)) G k x y z))) := by
  refine j_entry [(0, .ref (g 0)), (1, .int x), (2, .int y), (3, .int z)] (by decide) (Nat.le_of_ble_eq_true rfl) rfl ?_
  intro X C E HI
  refine j_aload_n C 0 rfl dX11_of_0 ?_
  refine j_iload_n C 1 rfl dX11_of_1 ?_
  refine j_V1 C (m_isCan g kk σ k hk hk6 x) kyX11_isCan tb_1067 tb_1069 sp_21 0 rfl (eM_0 g kk _) rfl (Nat.le_of_ble_eq_true rfl) ⟨by decide, by decide⟩ dX11_of_2 rfl (fun vr ur hp => ?_)
  obtain ⟨r, rfl, rfl, hu⟩ := hp
  replace hu := hu.symm
  subst hu
  refine j_if_eq C 15 (by decide) dX11_of_5 (fun c1 => ?_) (fun c1 => ?_)
  · replace c1 := bI_f c1
    refine j_iconst C ((-1)) (by decide) dX11_of_15 ?_
    refine j_w (cM g kk (sF σ 16 (σ.2.1 16))) (congrArg (cM g kk) (wrFi (S := σ) (c := 16) (v := σ.2.1 16) rfl)) ?_
    refine j_w (cM g kk (sF (sF σ 16 (σ.2.1 16)) 17 (σ.2.1 17))) (congrArg (cM g kk) (wrFi (S := (sF σ 16 (σ.2.1 16))) (c := 17) (v := σ.2.1 17) (gtFF (by decide) rfl))) ?_
    refine j_w (cM g kk (sF (sF (sF σ 16 (σ.2.1 16)) 17 (σ.2.1 17)) 18 (σ.2.1 18))) (congrArg (cM g kk) (wrFi (S := (sF (sF σ 16 (σ.2.1 16)) 17 (σ.2.1 17))) (c := 18) (v := σ.2.1 18) (gtFF (by decide) (gtFF (by decide) rfl)))) ?_
    exact j_iret C E (sF (sF (sF σ 16 (σ.2.1 16)) 17 (σ.2.1 17)) 18 (σ.2.1 18)) ⟨_, rfl, ⟨(σ.2.1 16), (σ.2.1 17), (σ.2.1 18), rfl, (ofF_1 (Or.inl c1))⟩⟩ rfl dX11_of_16
  · replace c1 := bI_t c1
    obtain ⟨xn, xn1, rfl⟩ := cB_nat (by omega) c1
    refine j_iload_n C 2 rfl dX11_of_8 ?_
    refine j_S01 C (m_isDay y) kyX11_isDay tb_1077 tb_1078 rfl (Nat.le_of_ble_eq_true rfl) ⟨by decide, by decide⟩ ⟨by decide, by decide⟩ dX11_of_9 rfl ?_
    refine j_if_ne C 17 (by decide) dX11_of_12 (fun c2 => ?_) (fun c2 => ?_)
    · replace c2 := bI_t c2
      obtain ⟨yn, yn1, yn2, rfl⟩ := wB_nat (by decide) (by decide) c2
      refine j_aload_n C 0 rfl dX11_of_17 ?_
      refine j_V1 C (o_findAll g kk σ k hk hk6 hI nf hnf (by omega) G hM ) kyX11_findAll tb_1131 tb_1133 sp_24 0 rfl (eM_0 g kk _) rfl (Nat.le_of_ble_eq_true rfl) ⟨by decide, by decide⟩ dX11_of_18 rfl (fun vr ur hp => ?_)
      obtain ⟨rfl, w3, w4, w5, hu, g6⟩ := hp
      replace hu := hu.symm
      subst hu
      refine j_iload_n C 3 rfl dX11_of_21 ?_
      by_cases q7 : z = nI 0
      · rw [q7]
        refine j_tabIn C 60 (by decide) (by decide) rfl (by decide) dX11_of_22 ?_
        refine j_aload_n C 0 rfl dX11_of_60 ?_
        refine gM_0_5 C tb_878 dX11_of_61 ?_
        refine j_iload_n C 1 rfl dX11_of_64 ?_
        refine j_iload_n C 2 rfl dX11_of_65 ?_
        refine j_S01 C (m_at xn yn) kyX11_at tb_1060 tb_1061 rfl (Nat.le_of_ble_eq_true rfl) ⟨by decide, by decide⟩ ⟨by decide, by decide⟩ dX11_of_66 rfl ?_
        refine rM_5 C (28 * xn + yn) rfl (by omega) (tr (ρ (xn * 28 + yn))) (hρ xn yn (by omega) (by omega)) dX11_of_69 ?_
        exact j_iret C E (sF (sF (sF σ 16 w3) 17 w4) 18 w5) ⟨_, rfl, ⟨w3, w4, w5, rfl, (by rw [q7]; exact ofF_3 (raw := (fun c d => ρ (c * 28 + d))) (G := G) (w := 0) c1 c2 (by decide) (by omega) (by omega) (by decide))⟩⟩ rfl dX11_of_70
      · by_cases q8 : z = nI 1
        · rw [q8]
          refine j_tabIn C 71 (by decide) (by decide) rfl (by decide) dX11_of_22 ?_
          refine j_aload_n C 0 rfl dX11_of_71 ?_
          refine j_iload_n C 1 rfl dX11_of_72 ?_
          refine j_iload_n C 2 rfl dX11_of_73 ?_
          refine j_V1 C (o_fixed g kk (sF (sF (sF σ 16 w3) 17 w4) 18 w5) k hk hk6 hI nf hnf (by omega) G hM xn (by first | assumption | omega) yn (by first | assumption | omega)) kyX11_fixed tb_1143 tb_1145 sp_27 0 rfl (eM_0 g kk _) rfl (Nat.le_of_ble_eq_true rfl) ⟨by decide, by decide⟩ dX11_of_74 rfl (fun vr ur hp => ?_)
          obtain ⟨r10, rfl, hu, g9⟩ := hp
          replace hu := hu.symm
          subst hu
          subst g9
          exact j_iret C E (sF (sF (sF σ 16 w3) 17 w4) 18 w5) ⟨_, rfl, ⟨w3, w4, w5, rfl, (by rw [q8]; exact ofF_3 (raw := (fun c d => ρ (c * 28 + d))) (G := G) (w := 1) c1 c2 (by decide) (by omega) (by omega) (by decide))⟩⟩ rfl dX11_of_77
        · by_cases q11 : z = nI 2
          · rw [q11]
            refine j_tabIn C 78 (by decide) (by decide) rfl (by decide) dX11_of_22 ?_
            refine j_aload_n C 0 rfl dX11_of_78 ?_
            refine j_iload_n C 1 rfl dX11_of_79 ?_
            refine j_iload_n C 2 rfl dX11_of_80 ?_
            refine j_V1 C (o_readOf g kk (sF (sF (sF σ 16 w3) 17 w4) 18 w5) k hk hk6 hI nf hnf (by omega) G hM xn (by first | assumption | omega) yn (by first | assumption | omega)) kyX11_readOf tb_1139 tb_1141 sp_26 0 rfl (eM_0 g kk _) rfl (Nat.le_of_ble_eq_true rfl) ⟨by decide, by decide⟩ dX11_of_81 rfl (fun vr ur hp => ?_)
            obtain ⟨r13, rfl, hu, g12⟩ := hp
            replace hu := hu.symm
            subst hu
            subst g12
            exact j_iret C E (sF (sF (sF σ 16 w3) 17 w4) 18 w5) ⟨_, rfl, ⟨w3, w4, w5, rfl, (by rw [q11]; exact ofF_3 (raw := (fun c d => ρ (c * 28 + d))) (G := G) (w := 2) c1 c2 (by decide) (by omega) (by omega) (by decide))⟩⟩ rfl dX11_of_84
          · by_cases q14 : z = nI 3
            · rw [q14]
              refine j_tabIn C 85 (by decide) (by decide) rfl (by decide) dX11_of_22 ?_
              refine j_aload_n C 0 rfl dX11_of_85 ?_
              refine gM_0_22 C tb_895 dX11_of_86 ?_
              refine j_iload_n C 1 rfl dX11_of_89 ?_
              refine j_iload_n C 2 rfl dX11_of_90 ?_
              refine j_S01 C (m_at xn yn) kyX11_at tb_1060 tb_1061 rfl (Nat.le_of_ble_eq_true rfl) ⟨by decide, by decide⟩ ⟨by decide, by decide⟩ dX11_of_91 rfl ?_
              refine rM_16 C (28 * xn + yn) rfl (by omega) (tr (plV G xn yn)) (g6 xn yn (by omega) (by omega)).1 dX11_of_94 ?_
              exact j_iret C E (sF (sF (sF σ 16 w3) 17 w4) 18 w5) ⟨_, rfl, ⟨w3, w4, w5, rfl, (by rw [q14]; exact ofF_3 (raw := (fun c d => ρ (c * 28 + d))) (G := G) (w := 3) c1 c2 (by decide) (by omega) (by omega) (by decide))⟩⟩ rfl dX11_of_95
            · by_cases q15 : z = nI 4
              · rw [q15]
                refine j_tabIn C 96 (by decide) (by decide) rfl (by decide) dX11_of_22 ?_
                refine j_aload_n C 0 rfl dX11_of_96 ?_
                refine gM_0_23 C tb_896 dX11_of_97 ?_
                refine j_iload_n C 1 rfl dX11_of_100 ?_
                refine j_iload_n C 2 rfl dX11_of_101 ?_
                refine j_S01 C (m_at xn yn) kyX11_at tb_1060 tb_1061 rfl (Nat.le_of_ble_eq_true rfl) ⟨by decide, by decide⟩ ⟨by decide, by decide⟩ dX11_of_102 rfl ?_
                refine rM_17 C (28 * xn + yn) rfl (by omega) (tr (exV G k xn yn)) (g6 xn yn (by omega) (by omega)).2.1 dX11_of_105 ?_
                exact j_iret C E (sF (sF (sF σ 16 w3) 17 w4) 18 w5) ⟨_, rfl, ⟨w3, w4, w5, rfl, (by rw [q15]; exact ofF_3 (raw := (fun c d => ρ (c * 28 + d))) (G := G) (w := 4) c1 c2 (by decide) (by omega) (by omega) (by decide))⟩⟩ rfl dX11_of_106
              · by_cases q16 : z = nI 5
                · rw [q16]
                  refine j_tabIn C 107 (by decide) (by decide) rfl (by decide) dX11_of_22 ?_
                  refine j_aload_n C 0 rfl dX11_of_107 ?_
                  refine gM_0_24 C tb_897 dX11_of_108 ?_
                  refine j_iload_n C 1 rfl dX11_of_111 ?_
                  refine j_iload_n C 2 rfl dX11_of_112 ?_
                  refine j_S01 C (m_at xn yn) kyX11_at tb_1060 tb_1061 rfl (Nat.le_of_ble_eq_true rfl) ⟨by decide, by decide⟩ ⟨by decide, by decide⟩ dX11_of_113 rfl ?_
                  refine rM_18 C (28 * xn + yn) rfl (by omega) (tr (vaV G k xn yn)) (g6 xn yn (by omega) (by omega)).2.2 dX11_of_116 ?_
                  exact j_iret C E (sF (sF (sF σ 16 w3) 17 w4) 18 w5) ⟨_, rfl, ⟨w3, w4, w5, rfl, (by rw [q16]; exact ofF_3 (raw := (fun c d => ρ (c * 28 + d))) (G := G) (w := 5) c1 c2 (by decide) (by omega) (by omega) (by decide))⟩⟩ rfl dX11_of_117
                · refine j_tabOut C 118 (swOut 5 (by decide) (fun j hj => by rcases (show j = 0 ∨ j = 1 ∨ j = 2 ∨ j = 3 ∨ j = 4 ∨ j = 5 by omega) with rfl | rfl | rfl | rfl | rfl | rfl <;> assumption)) (by decide) dX11_of_22 ?_
                  refine j_bipush C ((-2)) (by decide) dX11_of_118 ?_
                  exact j_iret C E (sF (sF (sF σ 16 w3) 17 w4) 18 w5) ⟨_, rfl, ⟨w3, w4, w5, rfl, (ofF_2 c1 c2 (by rcases z6 z with hz9 | hz9 | hz9 | hz9 | hz9 | hz9 | ⟨hz9, -⟩ <;> first | exact hz9 | exact absurd hz9 (by assumption)))⟩⟩ rfl dX11_of_120
    · replace c2 := bI_f c2
      refine j_iconst C ((-1)) (by decide) dX11_of_15 ?_
      refine j_w (cM g kk (sF σ 16 (σ.2.1 16))) (congrArg (cM g kk) (wrFi (S := σ) (c := 16) (v := σ.2.1 16) rfl)) ?_
      refine j_w (cM g kk (sF (sF σ 16 (σ.2.1 16)) 17 (σ.2.1 17))) (congrArg (cM g kk) (wrFi (S := (sF σ 16 (σ.2.1 16))) (c := 17) (v := σ.2.1 17) (gtFF (by decide) rfl))) ?_
      refine j_w (cM g kk (sF (sF (sF σ 16 (σ.2.1 16)) 17 (σ.2.1 17)) 18 (σ.2.1 18))) (congrArg (cM g kk) (wrFi (S := (sF (sF σ 16 (σ.2.1 16)) 17 (σ.2.1 17))) (c := 18) (v := σ.2.1 18) (gtFF (by decide) (gtFF (by decide) rfl)))) ?_
      exact j_iret C E (sF (sF (sF σ 16 (σ.2.1 16)) 17 (σ.2.1 17)) 18 (σ.2.1 18)) ⟨_, rfl, ⟨(σ.2.1 16), (σ.2.1 17), (σ.2.1 18), rfl, (ofF_1 (Or.inr c2))⟩⟩ rfl dX11_of_16
theorem of_raw {k n r : Nat} {σ μ : St} (h : RB k n r σ μ) : ∀ c d : Nat, c < k → d < 28 → μ.2.1 5 (28 * c + d) = tr (σ.2.1 6 (c * 28 + d)) := fun c d hc hd => by
  have hk := h.k.1
  rw [Nat.mul_comm c 28]
  exact ((h.rw (28 * c + d) (by omega)).1 (by omega)).symm
