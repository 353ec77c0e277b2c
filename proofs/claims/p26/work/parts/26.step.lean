theorem wB_le {x : Int32} {b : Nat} (hb : b < 2 ^ 31) (h : wB x (nI 0) (nI b) = true) : le_ b x := by
  obtain ⟨m, -, h2, h3⟩ := wB_nat (by decide) hb h
  exact ⟨m, h2, h3⟩
theorem wB_lm {z : Int32} (h : wB z (-1) (nI 999) = true) : lm_ 999 z := by
  obtain ⟨h1, h2⟩ := of_decide_eq_true h
  by_cases e : z = -1
  · exact Or.inl e
  · right
    rw [Int32.le_iff_toInt_le] at h1 h2
    rw [nI_toInt (by decide)] at h2
    have z1 : (-1 : Int32).toInt = -1 := by decide
    rw [z1] at h1
    have ne : ¬ z.toInt = -1 := fun q => e (Int32.toInt_inj.mp (by rw [q, z1]))
    refine ⟨z.toInt.toNat, by omega, Int32.toInt_inj.mp ?_⟩
    rw [nI_toInt (by omega)]
    omega
theorem tr_ge {z : Int32} (h : 0 ≤ z) : tr z = z := by
  unfold tr
  rw [if_neg (fun q => by rw [q] at h; exact absurd h (by decide))]
theorem tr_lt {z : Int32} (hz : lm_ 999 z) (h : ¬ 0 ≤ z) : tr z = -6 := by
  rcases hz with q | ⟨m, h1, h2⟩
  · unfold tr; rw [if_pos q]
  · exact absurd (by rw [h2]; exact nI_pos' (by omega)) h
theorem fR_in {f : Nat → Int32} {a n j : Nat} {v : Int32} (h : a ≤ j ∧ j < a + n) : fillR f a n v j = v := if_pos h
theorem fR_out {f : Nat → Int32} {a n j : Nat} {v : Int32} (h : ¬ (a ≤ j ∧ j < a + n)) : fillR f a n v j = f j := if_neg h
theorem ok_can {k n r : Nat} {σ μ : St} {x y : Int32} (h : RB k n r σ μ) (hk : k < 6) (hx : wB x (nI 0) (nI 20) = true) (hy : wB y (nI 0) (nI 20) = true) : RB (k + 1) n r (sI (sF (sF (sI σ 437 (nI 1)) 2 (upd (σ.2.1 2) k x)) 3 (upd (σ.2.1 3) k y)) 16 (nI (k + 1))) (sI (sF (sF (sF (sF (sF μ 1 (upd (μ.2.1 1) k x)) 2 (upd (μ.2.1 2) k y)) 3 (fillR (μ.2.1 3) (3 * k) 3 (nI 0))) 5 (fillR (μ.2.1 5) (28 * k) 28 (-6))) 10 (fillR (μ.2.1 10) (28 * k) 28 (nI 0))) 3 (nI (k + 1))) := by
  obtain ⟨⟨h1, h2, h3⟩, hXY, hM, hW, hR, hN, hS, hF, hD⟩ := h.1
  refine RB_g h ⟨⟨by omega, rfl, rfl⟩, fun j hj => ?_, fun j hj => ?_, hW, fun j hj => ?_, gNo_can hk hN rfl rfl rfl rfl rfl rfl, hS, hF, hD⟩ (ag.I (by decide) (ag.F (by decide) (ag.F (by decide) (ag.I (by decide) ag.rf)))) rfl rfl rfl rfl rfl
  · show (upd (σ.2.1 2) k x j = upd (μ.2.1 1) k x j ∧ le_ 20 (upd (σ.2.1 2) k x j)) ∧ (upd (σ.2.1 3) k y j = upd (μ.2.1 2) k y j ∧ le_ 20 (upd (σ.2.1 3) k y j))
    by_cases e : j = k
    · rw [e, pk_us, pk_us, pk_us, pk_us]; exact ⟨⟨rfl, wB_le (by decide) hx⟩, ⟨rfl, wB_le (by decide) hy⟩⟩
    · rw [pk_un e, pk_un e, pk_un e, pk_un e]; exact hXY j hj
  · show (j < 3 * (k + 1) → σ.2.1 4 j = fillR (μ.2.1 3) (3 * k) 3 (nI 0) j) ∧ (3 * (k + 1) ≤ j → σ.2.1 4 j = 0) ∧ le_ 9 (σ.2.1 4 j) ∧ le_ 9 (fillR (μ.2.1 3) (3 * k) 3 (nI 0) j)
    obtain ⟨q1, q2, q3, q4⟩ := hM j hj
    by_cases e : 3 * k ≤ j ∧ j < 3 * k + 3
    · rw [fR_in e]; exact ⟨fun _ => (q2 e.1).trans nI_0.symm, fun z => absurd e.2 (by omega), q3, ⟨0, by omega, rfl⟩⟩
    · rw [fR_out e]; exact ⟨fun z => q1 (by omega), fun z => q2 (by omega), q3, q4⟩
  · show (j < 28 * (k + 1) → tr (σ.2.1 6 j) = fillR (μ.2.1 5) (28 * k) 28 (-6) j) ∧ (28 * (k + 1) ≤ j → σ.2.1 6 j = -1) ∧ lm_ 999 (σ.2.1 6 j)
    obtain ⟨q1, q2, q3⟩ := hR j hj
    by_cases e : 28 * k ≤ j ∧ j < 28 * k + 28
    · rw [fR_in e]; exact ⟨fun _ => by rw [show σ.2.1 6 j = -1 from q2 e.1]; rfl, fun z => absurd e.2 (by omega), q3⟩
    · rw [fR_out e]; exact ⟨fun z => q1 (by omega), fun z => q2 (by omega), q3⟩
theorem ok_miss {k n r c m : Nat} {σ μ : St} {z : Int32} (h : RB k n r σ μ) (hc : c < k) (hm : m ≤ 2) (hz : wB z (nI 0) (nI 9) = true) : RB k n r (sI (sF σ 4 (upd (σ.2.1 4) (c * 3 + m) z)) 437 (nI 1)) (sF μ 3 (upd (μ.2.1 3) (3 * c + m) z)) ∧ σ.2.1 4 (c * 3 + m) = μ.2.1 3 (3 * c + m) := by
  obtain ⟨⟨h1, h2, h3⟩, hXY, hM, hW, hR, hN, hS, hF, hD⟩ := h.1
  rw [show c * 3 + m = 3 * c + m by omega]
  refine ⟨RB_g h ⟨⟨h1, h2, h3⟩, hXY, fun j hj => ?_, hW, hR, hN, hS, hF, hD⟩ (ag.I (by decide) (ag.F (by decide) ag.rf)) rfl rfl rfl rfl rfl, (hM (3 * c + m) (by omega)).1 (by omega)⟩
  show (j < 3 * k → upd (σ.2.1 4) (3 * c + m) z j = upd (μ.2.1 3) (3 * c + m) z j) ∧ (3 * k ≤ j → upd (σ.2.1 4) (3 * c + m) z j = 0) ∧ le_ 9 (upd (σ.2.1 4) (3 * c + m) z j) ∧ le_ 9 (upd (μ.2.1 3) (3 * c + m) z j)
  by_cases e : j = 3 * c + m
  · rw [e, pk_us, pk_us]; exact ⟨fun _ => rfl, fun q => absurd q (by omega), wB_le (by decide) hz, wB_le (by decide) hz⟩
  · rw [pk_un e, pk_un e]; exact hM j hj
theorem ok_wind {k n r c : Nat} {σ μ : St} {z : Int32} (h : RB k n r σ μ) (hc : c ≤ 27) (hz : wB z (nI 0) (nI 2) = true) : RB k n r (sI (sF σ 5 (upd (σ.2.1 5) c z)) 437 (nI 1)) (sF μ 4 (upd (μ.2.1 4) c z)) ∧ σ.2.1 5 c = μ.2.1 4 c := by
  obtain ⟨⟨h1, h2, h3⟩, hXY, hM, hW, hR, hN, hS, hF, hD⟩ := h.1
  refine ⟨RB_g h ⟨⟨h1, h2, h3⟩, hXY, hM, fun j hj => ?_, hR, hN, hS, hF, hD⟩ (ag.I (by decide) (ag.F (by decide) ag.rf)) rfl rfl rfl rfl rfl, (hW c (by omega)).1⟩
  show upd (σ.2.1 5) c z j = upd (μ.2.1 4) c z j ∧ le_ 2 (upd (σ.2.1 5) c z j)
  by_cases e : j = c
  · rw [e, pk_us, pk_us]; exact ⟨rfl, wB_le (by decide) hz⟩
  · rw [pk_un e, pk_un e]; exact hW j hj
theorem ok_raw {k n r c m : Nat} {σ μ : St} {z y : Int32} (h : RB k n r σ μ) (hc : c < k) (hm : m ≤ 27) (hz : lm_ 999 z) (hy : tr z = y) : RB k n r (sI (sF σ 6 (upd (σ.2.1 6) (c * 28 + m) z)) 437 (nI 1)) (sF μ 5 (upd (μ.2.1 5) (28 * c + m) y)) ∧ (if σ.2.1 6 (c * 28 + m) = -1 then -6 else σ.2.1 6 (c * 28 + m)) = μ.2.1 5 (28 * c + m) := by
  obtain ⟨⟨h1, h2, h3⟩, hXY, hM, hW, hR, hN, hS, hF, hD⟩ := h.1
  rw [show c * 28 + m = 28 * c + m by omega]
  refine ⟨RB_g h ⟨⟨h1, h2, h3⟩, hXY, hM, hW, fun j hj => ?_, hN, hS, hF, hD⟩ (ag.I (by decide) (ag.F (by decide) ag.rf)) rfl rfl rfl rfl rfl, (hR (28 * c + m) (by omega)).1 (by omega)⟩
  show (j < 28 * k → tr (upd (σ.2.1 6) (28 * c + m) z j) = upd (μ.2.1 5) (28 * c + m) y j) ∧ (28 * k ≤ j → upd (σ.2.1 6) (28 * c + m) z j = -1) ∧ lm_ 999 (upd (σ.2.1 6) (28 * c + m) z j)
  by_cases e : j = 28 * c + m
  · rw [e, pk_us, pk_us]; exact ⟨fun _ => hy, fun q => absurd q (by omega), hz⟩
  · rw [pk_un e, pk_un e]; exact hR j hj
theorem ok_fix {k n r c m : Nat} {σ μ : St} {z y : Int32} (h : RB k n r σ μ) (hn : n < 20) (hc : c < k) (hm : m ≤ 27) (hz : lm_ 999 z) (hy : tr z = y) : RB k (n + 1) r (sI (sI (sF (sF (sF (sF σ 12 (upd (σ.2.1 12) n (nI (c * 28 + m)))) 13 (upd (σ.2.1 13) n z)) 14 (upd (σ.2.1 14) n (σ.2.1 15 (c * 28 + m)))) 15 (upd (σ.2.1 15) (c * 28 + m) (nI n))) 176 (nI (n + 1))) 437 (nI 1)) (sI (sF (sF (sF μ 6 (upd (μ.2.1 6) n (nI c))) 7 (upd (μ.2.1 7) n (nI m))) 8 (upd (μ.2.1 8) n y)) 9 (nI (n + 1))) := by
  obtain ⟨⟨h1, h2, h3⟩, hXY, hM, hW, hR, hN, hS, hF, hD⟩ := h.1
  obtain ⟨f1, f2, f3, f4, f5, f6, f7⟩ := hF
  rw [show c * 28 + m = 28 * c + m by omega]
  have eL : ∀ (q : Nat) (w : Int32), q ≤ n → lst (upd (σ.2.1 12) n (nI (28 * c + m))) q w = lst (σ.2.1 12) q w := fun q w hq => lst_congr w q (fun j hj => pk_un (by omega))
  have e15 : σ.2.1 15 (28 * c + m) = lst (σ.2.1 12) n (nI (28 * c + m)) := f6 (28 * c + m) (by omega)
  refine RB_g h ⟨⟨h1, h2, h3⟩, hXY, hM, hW, hR, hN, hS, ⟨by omega, rfl, rfl, fun j hj => ?_, fun j hj => ?_, fun q hq => ?_, fun j hj => ?_⟩, hD⟩ (ag.I (by decide) (ag.I (by decide) (ag.F (by decide) (ag.F (by decide) (ag.F (by decide) (ag.F (by decide) ag.rf)))))) rfl rfl rfl rfl rfl
  · show ∃ c' d : Nat, c' < 6 ∧ d < 28 ∧ upd (σ.2.1 12) n (nI (28 * c + m)) j = nI (28 * c' + d) ∧ upd (μ.2.1 6) n (nI c) j = nI c' ∧ upd (μ.2.1 7) n (nI m) j = nI d ∧ tr (upd (σ.2.1 13) n z j) = upd (μ.2.1 8) n y j ∧ lm_ 999 (upd (σ.2.1 13) n z j)
    by_cases e : j = n
    · rw [e, pk_us, pk_us, pk_us, pk_us, pk_us]; exact ⟨c, m, by omega, by omega, rfl, rfl, rfl, hy, hz⟩
    · rw [pk_un e, pk_un e, pk_un e, pk_un e, pk_un e]; exact f4 j hj
  · show lm_ 19 (upd (σ.2.1 14) n (σ.2.1 15 (28 * c + m)) j)
    by_cases e : j = n
    · rw [e, pk_us, e15]; exact lst_lm _ _ n f1
    · rw [pk_un e]; exact f5 j hj
  · show upd (σ.2.1 15) (28 * c + m) (nI n) q = (if upd (σ.2.1 12) n (nI (28 * c + m)) n = nI q then nI n else lst (upd (σ.2.1 12) n (nI (28 * c + m))) n (nI q))
    rw [pk_us, eL n _ (Nat.le_refl n)]
    by_cases e : q = 28 * c + m
    · rw [e, pk_us, if_pos rfl]
    · rw [pk_un e, if_neg (fun z => e ((nI_eq (by omega) (by omega)).mp z).symm)]; exact f6 q hq
  · show upd (σ.2.1 14) n (σ.2.1 15 (28 * c + m)) j = lst (upd (σ.2.1 12) n (nI (28 * c + m))) j (upd (σ.2.1 12) n (nI (28 * c + m)) j)
    rw [eL j _ (by omega)]
    by_cases e : j = n
    · rw [e, pk_us, pk_us]; exact e15
    · rw [pk_un e, pk_un e]; exact f7 j (by omega)
theorem ok_undo {k f r q : Nat} {σ μ : St} (h : RB k (f + 1) r σ μ) (hq : q < 168) (eq : σ.2.1 12 f = nI q) : RB k f r (sI (sF (sI σ 176 (nI (f + 1 - 1))) 15 (upd (σ.2.1 15) q (σ.2.1 14 (f + 1 - 1)))) 437 (nI 1)) (sI μ 9 (nI (f + 1 - 1))) := by
  obtain ⟨⟨h1, h2, h3⟩, hXY, hM, hW, hR, hN, hS, hF, hD⟩ := h.1
  obtain ⟨f1, f2, f3, f4, f5, f6, f7⟩ := hF
  rw [Nat.add_sub_cancel]
  have e7 : σ.2.1 14 f = lst (σ.2.1 12) f (σ.2.1 12 f) := f7 f (Nat.lt_succ_self f)
  refine RB_g h ⟨⟨h1, h2, h3⟩, hXY, hM, hW, hR, hN, hS, ⟨by omega, rfl, rfl, f4, f5, fun z hz => ?_, fun j hj => f7 j (by omega)⟩, hD⟩ (ag.I (by decide) (ag.F (by decide) (ag.I (by decide) ag.rf))) rfl rfl rfl rfl rfl
  show upd (σ.2.1 15) q (σ.2.1 14 f) z = lst (σ.2.1 12) f (nI z)
  by_cases e : z = q
  · rw [e, pk_us, e7, eq]
  · rw [pk_un e]
    have g : σ.2.1 15 z = (if σ.2.1 12 f = nI z then nI f else lst (σ.2.1 12) f (nI z)) := f6 z hz
    rw [g, if_neg (fun w => e ((nI_eq (by omega) (by omega)).mp (w.symm.trans eq)))]
theorem ok_radar {k n r : Nat} {σ μ : St} {a b c d e : Int32} (h : RB k n r σ μ) (hr : r < 6) (ha : wB a (nI 0) (nI 27) = true) (hb : wB b (nI 0) (nI 20) = true) (hc : wB c (nI 0) (nI 20) = true) (hd : wB d (nI 0) (nI 999) = true) (he : wB e (nI 0) (nI 999) = true) : RB k n (r + 1) (sI (sF (sF (sF (sF (sF σ 17 (upd (σ.2.1 17) r a)) 18 (upd (σ.2.1 18) r b)) 19 (upd (σ.2.1 19) r c)) 20 (upd (σ.2.1 20) r d)) 21 (upd (σ.2.1 21) r e)) 256 (nI (r + 1))) (sI (sF (sF (sF (sF (sF μ 26 (upd (μ.2.1 26) r a)) 27 (upd (μ.2.1 27) r b)) 28 (upd (μ.2.1 28) r c)) 29 (upd (μ.2.1 29) r d)) 30 (upd (μ.2.1 30) r e)) 46 (nI (r + 1))) := by
  obtain ⟨⟨h1, h2, h3⟩, hXY, hM, hW, hR, hN, hS, hF, hD⟩ := h.1
  obtain ⟨d1, d2, d3, d4⟩ := hD
  refine RB_g h ⟨⟨h1, h2, h3⟩, hXY, hM, hW, hR, hN, hS, hF, ⟨by omega, rfl, rfl, fun j hj => ?_⟩⟩ (ag.I (by decide) (ag.F (by decide) (ag.F (by decide) (ag.F (by decide) (ag.F (by decide) (ag.F (by decide) ag.rf)))))) rfl rfl rfl rfl rfl
  show (upd (σ.2.1 17) r a j = upd (μ.2.1 26) r a j ∧ upd (σ.2.1 18) r b j = upd (μ.2.1 27) r b j ∧ upd (σ.2.1 19) r c j = upd (μ.2.1 28) r c j ∧ upd (σ.2.1 20) r d j = upd (μ.2.1 29) r d j ∧ upd (σ.2.1 21) r e j = upd (μ.2.1 30) r e j) ∧ (le_ 27 (upd (σ.2.1 17) r a j) ∧ le_ 20 (upd (σ.2.1 18) r b j) ∧ le_ 20 (upd (σ.2.1 19) r c j) ∧ le_ 999 (upd (σ.2.1 20) r d j) ∧ le_ 999 (upd (σ.2.1 21) r e j))
  by_cases q : j = r
  · rw [q, pk_us, pk_us, pk_us, pk_us, pk_us, pk_us, pk_us, pk_us, pk_us, pk_us]
    exact ⟨⟨rfl, rfl, rfl, rfl, rfl⟩, wB_le (by decide) ha, wB_le (by decide) hb, wB_le (by decide) hc, wB_le (by decide) hd, wB_le (by decide) he⟩
  · rw [pk_un q, pk_un q, pk_un q, pk_un q, pk_un q, pk_un q, pk_un q, pk_un q, pk_un q, pk_un q]; exact d4 j hj
theorem ok_blind {k n r : Nat} {σ μ : St} (h : RB k n r σ μ) : RB k n 0 (sI σ 256 (nI 0)) (sI μ 46 (nI 0)) := by
  obtain ⟨⟨h1, h2, h3⟩, hXY, hM, hW, hR, hN, hS, hF, hD⟩ := h.1
  obtain ⟨d1, d2, d3, d4⟩ := hD
  exact RB_g h ⟨⟨h1, h2, h3⟩, hXY, hM, hW, hR, hN, hS, hF, ⟨by omega, rfl, rfl, d4⟩⟩ (ag.I (by decide) ag.rf) rfl rfl rfl rfl rfl
theorem ok_set0 {k n r : Nat} {σ μ : St} {y : Int32} (h : RB k n r σ μ) (hy : wB y (nI 1) (nI 40) = true) : RB k n r (sI (sF σ 10 (upd (σ.2.1 10) 0 y)) 437 (nI 1)) (sI μ 10 y) ∧ σ.2.1 10 0 = numF μ 0 := by
  obtain ⟨⟨h1, h2, h3⟩, hXY, hM, hW, hR, hN, hS, hF, hD⟩ := h.1
  refine ⟨RB_g h ⟨⟨h1, h2, h3⟩, hXY, hM, hW, hR, hN, fun j hj => ?_, hF, hD⟩ (ag.I (by decide) (ag.F (by decide) ag.rf)) rfl rfl rfl rfl rfl, (hS 0 (by decide)).1⟩
  obtain ⟨v, v1, v2, v3⟩ := wB_nat (by decide) (by decide) hy
  rcases (show j = 0 ∨ j = 1 ∨ j = 2 ∨ j = 3 by omega) with rfl | rfl | rfl | rfl
  · exact ⟨rfl, v, v3, fun _ => ⟨v1, v2⟩, fun w => absurd w (by decide), fun w => absurd w (by decide), fun w => absurd w (by decide)⟩
  · exact hS 1 hj
  · exact hS 2 hj
  · exact hS 3 hj
theorem ok_set1 {k n r : Nat} {σ μ : St} {y : Int32} (h : RB k n r σ μ) (hy : wB y (nI 0) (nI 999) = true) : RB k n r (sI (sF σ 10 (upd (σ.2.1 10) 1 y)) 437 (nI 1)) (sI μ 11 y) ∧ σ.2.1 10 1 = numF μ 1 := by
  obtain ⟨⟨h1, h2, h3⟩, hXY, hM, hW, hR, hN, hS, hF, hD⟩ := h.1
  refine ⟨RB_g h ⟨⟨h1, h2, h3⟩, hXY, hM, hW, hR, hN, fun j hj => ?_, hF, hD⟩ (ag.I (by decide) (ag.F (by decide) ag.rf)) rfl rfl rfl rfl rfl, (hS 1 (by decide)).1⟩
  obtain ⟨v, v1, v2, v3⟩ := wB_nat (by decide) (by decide) hy
  rcases (show j = 0 ∨ j = 1 ∨ j = 2 ∨ j = 3 by omega) with rfl | rfl | rfl | rfl
  · exact hS 0 hj
  · exact ⟨rfl, v, v3, fun w => absurd w (by decide), fun _ => v2, fun w => absurd w (by decide), fun w => absurd w (by decide)⟩
  · exact hS 2 hj
  · exact hS 3 hj
theorem ok_set2 {k n r : Nat} {σ μ : St} {y : Int32} (h : RB k n r σ μ) (hy : wB y (nI 0) (nI 99) = true) : RB k n r (sI (sF σ 10 (upd (σ.2.1 10) 2 y)) 437 (nI 1)) (sI μ 12 y) ∧ σ.2.1 10 2 = numF μ 2 := by
  obtain ⟨⟨h1, h2, h3⟩, hXY, hM, hW, hR, hN, hS, hF, hD⟩ := h.1
  refine ⟨RB_g h ⟨⟨h1, h2, h3⟩, hXY, hM, hW, hR, hN, fun j hj => ?_, hF, hD⟩ (ag.I (by decide) (ag.F (by decide) ag.rf)) rfl rfl rfl rfl rfl, (hS 2 (by decide)).1⟩
  obtain ⟨v, v1, v2, v3⟩ := wB_nat (by decide) (by decide) hy
  rcases (show j = 0 ∨ j = 1 ∨ j = 2 ∨ j = 3 by omega) with rfl | rfl | rfl | rfl
  · exact hS 0 hj
  · exact hS 1 hj
  · exact ⟨rfl, v, v3, fun w => absurd w (by decide), fun w => absurd w (by decide), fun _ => v2, fun w => absurd w (by decide)⟩
  · exact hS 3 hj
theorem ok_set3 {k n r : Nat} {σ μ : St} {y : Int32} (h : RB k n r σ μ) (hy : wB y (nI 0) (nI 9) = true) : RB k n r (sI (sF σ 10 (upd (σ.2.1 10) 3 y)) 437 (nI 1)) (sI μ 13 y) ∧ σ.2.1 10 3 = numF μ 3 := by
  obtain ⟨⟨h1, h2, h3⟩, hXY, hM, hW, hR, hN, hS, hF, hD⟩ := h.1
  refine ⟨RB_g h ⟨⟨h1, h2, h3⟩, hXY, hM, hW, hR, hN, fun j hj => ?_, hF, hD⟩ (ag.I (by decide) (ag.F (by decide) ag.rf)) rfl rfl rfl rfl rfl, (hS 3 (by decide)).1⟩
  obtain ⟨v, v1, v2, v3⟩ := wB_nat (by decide) (by decide) hy
  rcases (show j = 0 ∨ j = 1 ∨ j = 2 ∨ j = 3 by omega) with rfl | rfl | rfl | rfl
  · exact hS 0 hj
  · exact hS 1 hj
  · exact hS 2 hj
  · exact ⟨rfl, v, v3, fun w => absurd w (by decide), fun w => absurd w (by decide), fun w => absurd w (by decide), fun _ => v2⟩
def gc_56_1 (σ : St) : St := sF (sF (sF (sF (sF (sI (sF (sF (sF (sF (sI (sF (sF (sF (sF (sF (sF (sF (sF (sF (sI σ 896 (σ.1 16)) 57 (va_cpy (σ.2.1 2) (σ.2.1 57) 0 0 6)) 58 (va_cpy (σ.2.1 3) (σ.2.1 58) 0 0 6)) 59 (va_cpy (σ.2.1 4) (σ.2.1 59) 0 0 18)) 60 (va_cpy (σ.2.1 5) (σ.2.1 60) 0 0 28)) 61 (va_cpy (σ.2.1 6) (σ.2.1 61) 0 0 168)) 62 (va_cpy (σ.2.1 7) (σ.2.1 62) 0 0 168)) 63 (va_cpy (σ.2.1 8) (σ.2.1 63) 0 0 168)) 64 (va_cpy (σ.2.1 9) (σ.2.1 64) 0 0 168)) 65 (va_cpy (σ.2.1 10) (σ.2.1 65) 0 0 4)) 1056 (σ.1 176)) 67 (va_cpy (σ.2.1 12) (σ.2.1 67) 0 0 20)) 68 (va_cpy (σ.2.1 13) (σ.2.1 68) 0 0 20)) 69 (va_cpy (σ.2.1 14) (σ.2.1 69) 0 0 20)) 70 (va_cpy (σ.2.1 15) (σ.2.1 70) 0 0 168)) 1136 (σ.1 256)) 72 (va_cpy (σ.2.1 17) (σ.2.1 72) 0 0 6)) 73 (va_cpy (σ.2.1 18) (σ.2.1 73) 0 0 6)) 74 (va_cpy (σ.2.1 19) (σ.2.1 74) 0 0 6)) 75 (va_cpy (σ.2.1 20) (σ.2.1 75) 0 0 6)) 76 (va_cpy (σ.2.1 21) (σ.2.1 76) 0 0 6)
set_option maxRecDepth 100000 in
theorem gc_v_56_1 (σ : St) : ∀ f j : Nat, j < sgx f → gv 56 (gc_56_1 σ) f j = gv 1 σ f j := fun f j hj => by
  have := sgx_20 hj
  rcases (show f = 0 ∨ f = 1 ∨ f = 2 ∨ f = 3 ∨ f = 4 ∨ f = 5 ∨ f = 6 ∨ f = 7 ∨ f = 8 ∨ f = 9 ∨ f = 10 ∨ f = 11 ∨ f = 12 ∨ f = 13 ∨ f = 14 ∨ f = 15 ∨ f = 16 ∨ f = 17 ∨ f = 18 ∨ f = 19 ∨ f = 20 by omega) with rfl | rfl | rfl | rfl | rfl | rfl | rfl | rfl | rfl | rfl | rfl | rfl | rfl | rfl | rfl | rfl | rfl | rfl | rfl | rfl | rfl
  · rfl
  · exact (pk_cpy_in (Nat.zero_le _) (by rw [Nat.zero_add]; exact hj)).trans (by rw [Nat.zero_add, Nat.sub_zero]; rfl)
  · exact (pk_cpy_in (Nat.zero_le _) (by rw [Nat.zero_add]; exact hj)).trans (by rw [Nat.zero_add, Nat.sub_zero]; rfl)
  · exact (pk_cpy_in (Nat.zero_le _) (by rw [Nat.zero_add]; exact hj)).trans (by rw [Nat.zero_add, Nat.sub_zero]; rfl)
  · exact (pk_cpy_in (Nat.zero_le _) (by rw [Nat.zero_add]; exact hj)).trans (by rw [Nat.zero_add, Nat.sub_zero]; rfl)
  · exact (pk_cpy_in (Nat.zero_le _) (by rw [Nat.zero_add]; exact hj)).trans (by rw [Nat.zero_add, Nat.sub_zero]; rfl)
  · exact (pk_cpy_in (Nat.zero_le _) (by rw [Nat.zero_add]; exact hj)).trans (by rw [Nat.zero_add, Nat.sub_zero]; rfl)
  · exact (pk_cpy_in (Nat.zero_le _) (by rw [Nat.zero_add]; exact hj)).trans (by rw [Nat.zero_add, Nat.sub_zero]; rfl)
  · exact (pk_cpy_in (Nat.zero_le _) (by rw [Nat.zero_add]; exact hj)).trans (by rw [Nat.zero_add, Nat.sub_zero]; rfl)
  · exact (pk_cpy_in (Nat.zero_le _) (by rw [Nat.zero_add]; exact hj)).trans (by rw [Nat.zero_add, Nat.sub_zero]; rfl)
  · rfl
  · exact (pk_cpy_in (Nat.zero_le _) (by rw [Nat.zero_add]; exact hj)).trans (by rw [Nat.zero_add, Nat.sub_zero]; rfl)
  · exact (pk_cpy_in (Nat.zero_le _) (by rw [Nat.zero_add]; exact hj)).trans (by rw [Nat.zero_add, Nat.sub_zero]; rfl)
  · exact (pk_cpy_in (Nat.zero_le _) (by rw [Nat.zero_add]; exact hj)).trans (by rw [Nat.zero_add, Nat.sub_zero]; rfl)
  · exact (pk_cpy_in (Nat.zero_le _) (by rw [Nat.zero_add]; exact hj)).trans (by rw [Nat.zero_add, Nat.sub_zero]; rfl)
  · rfl
  · exact (pk_cpy_in (Nat.zero_le _) (by rw [Nat.zero_add]; exact hj)).trans (by rw [Nat.zero_add, Nat.sub_zero]; rfl)
  · exact (pk_cpy_in (Nat.zero_le _) (by rw [Nat.zero_add]; exact hj)).trans (by rw [Nat.zero_add, Nat.sub_zero]; rfl)
  · exact (pk_cpy_in (Nat.zero_le _) (by rw [Nat.zero_add]; exact hj)).trans (by rw [Nat.zero_add, Nat.sub_zero]; rfl)
  · exact (pk_cpy_in (Nat.zero_le _) (by rw [Nat.zero_add]; exact hj)).trans (by rw [Nat.zero_add, Nat.sub_zero]; rfl)
  · exact (pk_cpy_in (Nat.zero_le _) (by rw [Nat.zero_add]; exact hj)).trans (by rw [Nat.zero_add, Nat.sub_zero]; rfl)
def gc_77_1 (σ : St) : St := sF (sF (sF (sF (sF (sI (sF (sF (sF (sF (sI (sF (sF (sF (sF (sF (sF (sF (sF (sF (sI σ 1232 (σ.1 16)) 78 (va_cpy (σ.2.1 2) (σ.2.1 78) 0 0 6)) 79 (va_cpy (σ.2.1 3) (σ.2.1 79) 0 0 6)) 80 (va_cpy (σ.2.1 4) (σ.2.1 80) 0 0 18)) 81 (va_cpy (σ.2.1 5) (σ.2.1 81) 0 0 28)) 82 (va_cpy (σ.2.1 6) (σ.2.1 82) 0 0 168)) 83 (va_cpy (σ.2.1 7) (σ.2.1 83) 0 0 168)) 84 (va_cpy (σ.2.1 8) (σ.2.1 84) 0 0 168)) 85 (va_cpy (σ.2.1 9) (σ.2.1 85) 0 0 168)) 86 (va_cpy (σ.2.1 10) (σ.2.1 86) 0 0 4)) 1392 (σ.1 176)) 88 (va_cpy (σ.2.1 12) (σ.2.1 88) 0 0 20)) 89 (va_cpy (σ.2.1 13) (σ.2.1 89) 0 0 20)) 90 (va_cpy (σ.2.1 14) (σ.2.1 90) 0 0 20)) 91 (va_cpy (σ.2.1 15) (σ.2.1 91) 0 0 168)) 1472 (σ.1 256)) 93 (va_cpy (σ.2.1 17) (σ.2.1 93) 0 0 6)) 94 (va_cpy (σ.2.1 18) (σ.2.1 94) 0 0 6)) 95 (va_cpy (σ.2.1 19) (σ.2.1 95) 0 0 6)) 96 (va_cpy (σ.2.1 20) (σ.2.1 96) 0 0 6)) 97 (va_cpy (σ.2.1 21) (σ.2.1 97) 0 0 6)
set_option maxRecDepth 100000 in
theorem gc_v_77_1 (σ : St) : ∀ f j : Nat, j < sgx f → gv 77 (gc_77_1 σ) f j = gv 1 σ f j := fun f j hj => by
  have := sgx_20 hj
  rcases (show f = 0 ∨ f = 1 ∨ f = 2 ∨ f = 3 ∨ f = 4 ∨ f = 5 ∨ f = 6 ∨ f = 7 ∨ f = 8 ∨ f = 9 ∨ f = 10 ∨ f = 11 ∨ f = 12 ∨ f = 13 ∨ f = 14 ∨ f = 15 ∨ f = 16 ∨ f = 17 ∨ f = 18 ∨ f = 19 ∨ f = 20 by omega) with rfl | rfl | rfl | rfl | rfl | rfl | rfl | rfl | rfl | rfl | rfl | rfl | rfl | rfl | rfl | rfl | rfl | rfl | rfl | rfl | rfl
  · rfl
  · exact (pk_cpy_in (Nat.zero_le _) (by rw [Nat.zero_add]; exact hj)).trans (by rw [Nat.zero_add, Nat.sub_zero]; rfl)
  · exact (pk_cpy_in (Nat.zero_le _) (by rw [Nat.zero_add]; exact hj)).trans (by rw [Nat.zero_add, Nat.sub_zero]; rfl)
  · exact (pk_cpy_in (Nat.zero_le _) (by rw [Nat.zero_add]; exact hj)).trans (by rw [Nat.zero_add, Nat.sub_zero]; rfl)
  · exact (pk_cpy_in (Nat.zero_le _) (by rw [Nat.zero_add]; exact hj)).trans (by rw [Nat.zero_add, Nat.sub_zero]; rfl)
  · exact (pk_cpy_in (Nat.zero_le _) (by rw [Nat.zero_add]; exact hj)).trans (by rw [Nat.zero_add, Nat.sub_zero]; rfl)
  · exact (pk_cpy_in (Nat.zero_le _) (by rw [Nat.zero_add]; exact hj)).trans (by rw [Nat.zero_add, Nat.sub_zero]; rfl)
  · exact (pk_cpy_in (Nat.zero_le _) (by rw [Nat.zero_add]; exact hj)).trans (by rw [Nat.zero_add, Nat.sub_zero]; rfl)
  · exact (pk_cpy_in (Nat.zero_le _) (by rw [Nat.zero_add]; exact hj)).trans (by rw [Nat.zero_add, Nat.sub_zero]; rfl)
  · exact (pk_cpy_in (Nat.zero_le _) (by rw [Nat.zero_add]; exact hj)).trans (by rw [Nat.zero_add, Nat.sub_zero]; rfl)
  · rfl
  · exact (pk_cpy_in (Nat.zero_le _) (by rw [Nat.zero_add]; exact hj)).trans (by rw [Nat.zero_add, Nat.sub_zero]; rfl)
  · exact (pk_cpy_in (Nat.zero_le _) (by rw [Nat.zero_add]; exact hj)).trans (by rw [Nat.zero_add, Nat.sub_zero]; rfl)
  · exact (pk_cpy_in (Nat.zero_le _) (by rw [Nat.zero_add]; exact hj)).trans (by rw [Nat.zero_add, Nat.sub_zero]; rfl)
  · exact (pk_cpy_in (Nat.zero_le _) (by rw [Nat.zero_add]; exact hj)).trans (by rw [Nat.zero_add, Nat.sub_zero]; rfl)
  · rfl
  · exact (pk_cpy_in (Nat.zero_le _) (by rw [Nat.zero_add]; exact hj)).trans (by rw [Nat.zero_add, Nat.sub_zero]; rfl)
  · exact (pk_cpy_in (Nat.zero_le _) (by rw [Nat.zero_add]; exact hj)).trans (by rw [Nat.zero_add, Nat.sub_zero]; rfl)
  · exact (pk_cpy_in (Nat.zero_le _) (by rw [Nat.zero_add]; exact hj)).trans (by rw [Nat.zero_add, Nat.sub_zero]; rfl)
  · exact (pk_cpy_in (Nat.zero_le _) (by rw [Nat.zero_add]; exact hj)).trans (by rw [Nat.zero_add, Nat.sub_zero]; rfl)
  · exact (pk_cpy_in (Nat.zero_le _) (by rw [Nat.zero_add]; exact hj)).trans (by rw [Nat.zero_add, Nat.sub_zero]; rfl)
def gc_1_56 (σ : St) : St := sF (sF (sF (sF (sF (sI (sF (sF (sF (sF (sI (sF (sF (sF (sF (sF (sF (sF (sF (sF (sI σ 16 (σ.1 896)) 2 (va_cpy (σ.2.1 57) (σ.2.1 2) 0 0 6)) 3 (va_cpy (σ.2.1 58) (σ.2.1 3) 0 0 6)) 4 (va_cpy (σ.2.1 59) (σ.2.1 4) 0 0 18)) 5 (va_cpy (σ.2.1 60) (σ.2.1 5) 0 0 28)) 6 (va_cpy (σ.2.1 61) (σ.2.1 6) 0 0 168)) 7 (va_cpy (σ.2.1 62) (σ.2.1 7) 0 0 168)) 8 (va_cpy (σ.2.1 63) (σ.2.1 8) 0 0 168)) 9 (va_cpy (σ.2.1 64) (σ.2.1 9) 0 0 168)) 10 (va_cpy (σ.2.1 65) (σ.2.1 10) 0 0 4)) 176 (σ.1 1056)) 12 (va_cpy (σ.2.1 67) (σ.2.1 12) 0 0 20)) 13 (va_cpy (σ.2.1 68) (σ.2.1 13) 0 0 20)) 14 (va_cpy (σ.2.1 69) (σ.2.1 14) 0 0 20)) 15 (va_cpy (σ.2.1 70) (σ.2.1 15) 0 0 168)) 256 (σ.1 1136)) 17 (va_cpy (σ.2.1 72) (σ.2.1 17) 0 0 6)) 18 (va_cpy (σ.2.1 73) (σ.2.1 18) 0 0 6)) 19 (va_cpy (σ.2.1 74) (σ.2.1 19) 0 0 6)) 20 (va_cpy (σ.2.1 75) (σ.2.1 20) 0 0 6)) 21 (va_cpy (σ.2.1 76) (σ.2.1 21) 0 0 6)
set_option maxRecDepth 100000 in
theorem gc_v_1_56 (σ : St) : ∀ f j : Nat, j < sgx f → gv 1 (gc_1_56 σ) f j = gv 56 σ f j := fun f j hj => by
  have := sgx_20 hj
  rcases (show f = 0 ∨ f = 1 ∨ f = 2 ∨ f = 3 ∨ f = 4 ∨ f = 5 ∨ f = 6 ∨ f = 7 ∨ f = 8 ∨ f = 9 ∨ f = 10 ∨ f = 11 ∨ f = 12 ∨ f = 13 ∨ f = 14 ∨ f = 15 ∨ f = 16 ∨ f = 17 ∨ f = 18 ∨ f = 19 ∨ f = 20 by omega) with rfl | rfl | rfl | rfl | rfl | rfl | rfl | rfl | rfl | rfl | rfl | rfl | rfl | rfl | rfl | rfl | rfl | rfl | rfl | rfl | rfl
  · rfl
  · exact (pk_cpy_in (Nat.zero_le _) (by rw [Nat.zero_add]; exact hj)).trans (by rw [Nat.zero_add, Nat.sub_zero]; rfl)
  · exact (pk_cpy_in (Nat.zero_le _) (by rw [Nat.zero_add]; exact hj)).trans (by rw [Nat.zero_add, Nat.sub_zero]; rfl)
  · exact (pk_cpy_in (Nat.zero_le _) (by rw [Nat.zero_add]; exact hj)).trans (by rw [Nat.zero_add, Nat.sub_zero]; rfl)
  · exact (pk_cpy_in (Nat.zero_le _) (by rw [Nat.zero_add]; exact hj)).trans (by rw [Nat.zero_add, Nat.sub_zero]; rfl)
  · exact (pk_cpy_in (Nat.zero_le _) (by rw [Nat.zero_add]; exact hj)).trans (by rw [Nat.zero_add, Nat.sub_zero]; rfl)
  · exact (pk_cpy_in (Nat.zero_le _) (by rw [Nat.zero_add]; exact hj)).trans (by rw [Nat.zero_add, Nat.sub_zero]; rfl)
  · exact (pk_cpy_in (Nat.zero_le _) (by rw [Nat.zero_add]; exact hj)).trans (by rw [Nat.zero_add, Nat.sub_zero]; rfl)
  · exact (pk_cpy_in (Nat.zero_le _) (by rw [Nat.zero_add]; exact hj)).trans (by rw [Nat.zero_add, Nat.sub_zero]; rfl)
  · exact (pk_cpy_in (Nat.zero_le _) (by rw [Nat.zero_add]; exact hj)).trans (by rw [Nat.zero_add, Nat.sub_zero]; rfl)
  · rfl
  · exact (pk_cpy_in (Nat.zero_le _) (by rw [Nat.zero_add]; exact hj)).trans (by rw [Nat.zero_add, Nat.sub_zero]; rfl)
  · exact (pk_cpy_in (Nat.zero_le _) (by rw [Nat.zero_add]; exact hj)).trans (by rw [Nat.zero_add, Nat.sub_zero]; rfl)
  · exact (pk_cpy_in (Nat.zero_le _) (by rw [Nat.zero_add]; exact hj)).trans (by rw [Nat.zero_add, Nat.sub_zero]; rfl)
  · exact (pk_cpy_in (Nat.zero_le _) (by rw [Nat.zero_add]; exact hj)).trans (by rw [Nat.zero_add, Nat.sub_zero]; rfl)
  · rfl
  · exact (pk_cpy_in (Nat.zero_le _) (by rw [Nat.zero_add]; exact hj)).trans (by rw [Nat.zero_add, Nat.sub_zero]; rfl)
  · exact (pk_cpy_in (Nat.zero_le _) (by rw [Nat.zero_add]; exact hj)).trans (by rw [Nat.zero_add, Nat.sub_zero]; rfl)
  · exact (pk_cpy_in (Nat.zero_le _) (by rw [Nat.zero_add]; exact hj)).trans (by rw [Nat.zero_add, Nat.sub_zero]; rfl)
  · exact (pk_cpy_in (Nat.zero_le _) (by rw [Nat.zero_add]; exact hj)).trans (by rw [Nat.zero_add, Nat.sub_zero]; rfl)
  · exact (pk_cpy_in (Nat.zero_le _) (by rw [Nat.zero_add]; exact hj)).trans (by rw [Nat.zero_add, Nat.sub_zero]; rfl)
def gc_1_77 (σ : St) : St := sF (sF (sF (sF (sF (sI (sF (sF (sF (sF (sI (sF (sF (sF (sF (sF (sF (sF (sF (sF (sI σ 16 (σ.1 1232)) 2 (va_cpy (σ.2.1 78) (σ.2.1 2) 0 0 6)) 3 (va_cpy (σ.2.1 79) (σ.2.1 3) 0 0 6)) 4 (va_cpy (σ.2.1 80) (σ.2.1 4) 0 0 18)) 5 (va_cpy (σ.2.1 81) (σ.2.1 5) 0 0 28)) 6 (va_cpy (σ.2.1 82) (σ.2.1 6) 0 0 168)) 7 (va_cpy (σ.2.1 83) (σ.2.1 7) 0 0 168)) 8 (va_cpy (σ.2.1 84) (σ.2.1 8) 0 0 168)) 9 (va_cpy (σ.2.1 85) (σ.2.1 9) 0 0 168)) 10 (va_cpy (σ.2.1 86) (σ.2.1 10) 0 0 4)) 176 (σ.1 1392)) 12 (va_cpy (σ.2.1 88) (σ.2.1 12) 0 0 20)) 13 (va_cpy (σ.2.1 89) (σ.2.1 13) 0 0 20)) 14 (va_cpy (σ.2.1 90) (σ.2.1 14) 0 0 20)) 15 (va_cpy (σ.2.1 91) (σ.2.1 15) 0 0 168)) 256 (σ.1 1472)) 17 (va_cpy (σ.2.1 93) (σ.2.1 17) 0 0 6)) 18 (va_cpy (σ.2.1 94) (σ.2.1 18) 0 0 6)) 19 (va_cpy (σ.2.1 95) (σ.2.1 19) 0 0 6)) 20 (va_cpy (σ.2.1 96) (σ.2.1 20) 0 0 6)) 21 (va_cpy (σ.2.1 97) (σ.2.1 21) 0 0 6)
set_option maxRecDepth 100000 in
theorem gc_v_1_77 (σ : St) : ∀ f j : Nat, j < sgx f → gv 1 (gc_1_77 σ) f j = gv 77 σ f j := fun f j hj => by
  have := sgx_20 hj
  rcases (show f = 0 ∨ f = 1 ∨ f = 2 ∨ f = 3 ∨ f = 4 ∨ f = 5 ∨ f = 6 ∨ f = 7 ∨ f = 8 ∨ f = 9 ∨ f = 10 ∨ f = 11 ∨ f = 12 ∨ f = 13 ∨ f = 14 ∨ f = 15 ∨ f = 16 ∨ f = 17 ∨ f = 18 ∨ f = 19 ∨ f = 20 by omega) with rfl | rfl | rfl | rfl | rfl | rfl | rfl | rfl | rfl | rfl | rfl | rfl | rfl | rfl | rfl | rfl | rfl | rfl | rfl | rfl | rfl
  · rfl
  · exact (pk_cpy_in (Nat.zero_le _) (by rw [Nat.zero_add]; exact hj)).trans (by rw [Nat.zero_add, Nat.sub_zero]; rfl)
  · exact (pk_cpy_in (Nat.zero_le _) (by rw [Nat.zero_add]; exact hj)).trans (by rw [Nat.zero_add, Nat.sub_zero]; rfl)
  · exact (pk_cpy_in (Nat.zero_le _) (by rw [Nat.zero_add]; exact hj)).trans (by rw [Nat.zero_add, Nat.sub_zero]; rfl)
  · exact (pk_cpy_in (Nat.zero_le _) (by rw [Nat.zero_add]; exact hj)).trans (by rw [Nat.zero_add, Nat.sub_zero]; rfl)
  · exact (pk_cpy_in (Nat.zero_le _) (by rw [Nat.zero_add]; exact hj)).trans (by rw [Nat.zero_add, Nat.sub_zero]; rfl)
  · exact (pk_cpy_in (Nat.zero_le _) (by rw [Nat.zero_add]; exact hj)).trans (by rw [Nat.zero_add, Nat.sub_zero]; rfl)
  · exact (pk_cpy_in (Nat.zero_le _) (by rw [Nat.zero_add]; exact hj)).trans (by rw [Nat.zero_add, Nat.sub_zero]; rfl)
  · exact (pk_cpy_in (Nat.zero_le _) (by rw [Nat.zero_add]; exact hj)).trans (by rw [Nat.zero_add, Nat.sub_zero]; rfl)
  · exact (pk_cpy_in (Nat.zero_le _) (by rw [Nat.zero_add]; exact hj)).trans (by rw [Nat.zero_add, Nat.sub_zero]; rfl)
  · rfl
  · exact (pk_cpy_in (Nat.zero_le _) (by rw [Nat.zero_add]; exact hj)).trans (by rw [Nat.zero_add, Nat.sub_zero]; rfl)
  · exact (pk_cpy_in (Nat.zero_le _) (by rw [Nat.zero_add]; exact hj)).trans (by rw [Nat.zero_add, Nat.sub_zero]; rfl)
  · exact (pk_cpy_in (Nat.zero_le _) (by rw [Nat.zero_add]; exact hj)).trans (by rw [Nat.zero_add, Nat.sub_zero]; rfl)
  · exact (pk_cpy_in (Nat.zero_le _) (by rw [Nat.zero_add]; exact hj)).trans (by rw [Nat.zero_add, Nat.sub_zero]; rfl)
  · rfl
  · exact (pk_cpy_in (Nat.zero_le _) (by rw [Nat.zero_add]; exact hj)).trans (by rw [Nat.zero_add, Nat.sub_zero]; rfl)
  · exact (pk_cpy_in (Nat.zero_le _) (by rw [Nat.zero_add]; exact hj)).trans (by rw [Nat.zero_add, Nat.sub_zero]; rfl)
  · exact (pk_cpy_in (Nat.zero_le _) (by rw [Nat.zero_add]; exact hj)).trans (by rw [Nat.zero_add, Nat.sub_zero]; rfl)
  · exact (pk_cpy_in (Nat.zero_le _) (by rw [Nat.zero_add]; exact hj)).trans (by rw [Nat.zero_add, Nat.sub_zero]; rfl)
  · exact (pk_cpy_in (Nat.zero_le _) (by rw [Nat.zero_add]; exact hj)).trans (by rw [Nat.zero_add, Nat.sub_zero]; rfl)
theorem pos_lt {c j : Nat} (h : j < szp c) : pos c j < 827 := by
  rcases szp_c h with rfl | rfl | rfl | rfl | rfl | rfl | rfl | rfl | rfl | rfl | rfl | rfl | rfl | rfl | rfl | rfl | rfl
  · have h2 : j < 7 := h
    show j < 827
    omega
  · have h2 : j < 6 := h
    show 7 + 2 * j < 827
    omega
  · have h2 : j < 6 := h
    show 7 + 2 * j + 1 < 827
    omega
  · have h2 : j < 18 := h
    show 19 + j < 827
    omega
  · have h2 : j < 28 := h
    show 37 + j < 827
    omega
  · have h2 : j < 168 := h
    show 65 + 4 * j < 827
    omega
  · have h2 : j < 168 := h
    show 65 + 4 * j + 1 < 827
    omega
  · have h2 : j < 168 := h
    show 65 + 4 * j + 2 < 827
    omega
  · have h2 : j < 168 := h
    show 65 + 4 * j + 3 < 827
    omega
  · have h2 : j < 20 := h
    show 737 + 3 * j < 827
    omega
  · have h2 : j < 20 := h
    show 737 + 3 * j + 1 < 827
    omega
  · have h2 : j < 20 := h
    show 737 + 3 * j + 2 < 827
    omega
  · have h2 : j < 6 := h
    show 797 + 5 * j < 827
    omega
  · have h2 : j < 6 := h
    show 797 + 5 * j + 1 < 827
    omega
  · have h2 : j < 6 := h
    show 797 + 5 * j + 2 < 827
    omega
  · have h2 : j < 6 := h
    show 797 + 5 * j + 3 < 827
    omega
  · have h2 : j < 6 := h
    show 797 + 5 * j + 4 < 827
    omega
theorem isl_n {j : Nat} (h : j < 7) : isl j ≠ 56 ∧ isl j ≠ 57 ∧ ips (isl j) = j := by
  rcases (show j = 0 ∨ j = 1 ∨ j = 2 ∨ j = 3 ∨ j = 4 ∨ j = 5 ∨ j = 6 by omega) with rfl | rfl | rfl | rfl | rfl | rfl | rfl <;> exact ⟨by decide, by decide, rfl⟩
/-- what an image of the reference holds -/
theorem kv_pw {μ : St} {t : Nat} {v1 v2 : Int32} (c j : Nat) (h : j < szp c) : cut ((sI (sI μ 56 v1) 57 v2).2.1 32) t 827 (sv (sI (sI μ 56 v1) 57 v2)) (t + pos c j) = mv μ c j := by
  rw [cut_in (pos_lt h)]
  unfold sv mv
  rw [cO_pos h]
  show valF _ c j = valF _ c j
  unfold valF
  by_cases q : c = 0
  · rw [if_pos q, if_pos q]
    subst q
    have hj : j < 7 := h
    obtain ⟨h1, h2, -⟩ := isl_n hj
    show (if isl j = 57 then _ else if isl j = 56 then _ else μ.1 (isl j)) = _
    rw [if_neg h2, if_neg h1]
  · rw [if_neg q, if_neg q]; rfl
/-- what the reference is behind a restore -/
theorem mv_pr {μ : St} {t : Nat} {v1 v2 : Int32} (c j : Nat) (h : j < szp c) : mv (pr (sI (sI μ 56 v1) 57 v2) t 827) c j = kv t μ c j := by
  unfold mv valF kv
  by_cases q : c = 0
  · rw [if_pos q]
    subst q
    have hj : j < 7 := h
    obtain ⟨h1, h2, h3⟩ := isl_n hj
    show (if isl j = 56 then _ else if ips (isl j) < 827 then μ.2.1 32 (t + ips (isl j)) else _) = _
    rw [if_neg h1, h3, if_pos (by omega)]; rfl
  · rw [if_neg q]
    show (if j < szp c ∧ c ≠ 0 ∧ pos c j < 827 then μ.2.1 32 (t + pos c j) else _) = _
    rw [if_pos ⟨h, q, pos_lt h⟩]
set_option maxRecDepth 100000 in
theorem ok_image0 {k n r : Nat} {σ μ : St} (h : RB k n r σ μ) : RB k n r (sF (gc_56_1 σ) 98 (upd ((gc_56_1 σ).2.1 98) 0 (vp_nar .boolean (nI 1)))) (sF (pw (sI (sI μ 56 (nI (900 * 0))) 57 (nI 1)) (900 * 0) 827) 33 (upd ((pw (sI (sI μ 56 (nI (900 * 0))) 57 (nI 1)) (900 * 0) 827).2.1 33) 0 (vp_nar .boolean (nI 1)))) := by
  obtain ⟨hG, ⟨⟨a1, a2⟩, ⟨b1, b2⟩, c1, c2⟩, hP⟩ := h
  have h : RB k n r σ μ := ⟨hG, ⟨⟨a1, a2⟩, ⟨b1, b2⟩, c1, c2⟩, hP⟩
  have hn : GE (gv 56 (sF (gc_56_1 σ) 98 (upd ((gc_56_1 σ).2.1 98) 0 (vp_nar .boolean (nI 1))))) (kv 0 (sF (pw (sI (sI μ 56 (nI (900 * 0))) 57 (nI 1)) (900 * 0) 827) 33 (upd ((pw (sI (sI μ 56 (nI (900 * 0))) 57 (nI 1)) (900 * 0) 827).2.1 33) 0 (vp_nar .boolean (nI 1))))) := ⟨k, n, r, GR_congr (fun f j hj => (gv_ag56 (u := sF (gc_56_1 σ) 98 (upd ((gc_56_1 σ).2.1 98) 0 (vp_nar .boolean (nI 1)))) (σ := gc_56_1 σ) (ag.F (by decide) ag.rf) f j hj).trans (gc_v_56_1 σ f j hj)) (fun c j hj => kv_pw (μ := μ) (t := 0) c j hj) h.1⟩
  have hB : gB (σ.1 16) (σ.2.1 5) (σ.2.1 8) (σ.1 176) (σ.2.1 12) (σ.2.1 14) (σ.2.1 15) (σ.1 256) := gB_of hG
  have hc : gB ((gc_56_1 σ).1 896) ((gc_56_1 σ).2.1 60) ((gc_56_1 σ).2.1 63) ((gc_56_1 σ).1 1056) ((gc_56_1 σ).2.1 67) ((gc_56_1 σ).2.1 69) ((gc_56_1 σ).2.1 70) ((gc_56_1 σ).1 1136) := by
    obtain ⟨z, z2, z3, hg⟩ := hn
    exact gB_of hg
  refine ⟨GR_congr (gv_ag1 (u := sF (gc_56_1 σ) 98 (upd ((gc_56_1 σ).2.1 98) 0 (vp_nar .boolean (nI 1)))) (ag.F (by decide) (ag.F (by decide) (ag.F (by decide) (ag.F (by decide) (ag.F (by decide) (ag.F (by decide) (ag.I (by decide) (ag.F (by decide) (ag.F (by decide) (ag.F (by decide) (ag.F (by decide) (ag.I (by decide) (ag.F (by decide) (ag.F (by decide) (ag.F (by decide) (ag.F (by decide) (ag.F (by decide) (ag.F (by decide) (ag.F (by decide) (ag.F (by decide) (ag.F (by decide) (ag.I (by decide) ag.rf))))))))))))))))))))))) (mv_ag (w := sF (pw (sI (sI μ 56 (nI (900 * 0))) 57 (nI 1)) (900 * 0) 827) 33 (upd ((pw (sI (sI μ 56 (nI (900 * 0))) 57 (nI 1)) (900 * 0) 827).2.1 33) 0 (vp_nar .boolean (nI 1)))) (ag.F (by decide) (ag.I (by decide) (ag.F (by decide) (ag.I (by decide) (ag.I (by decide) ag.rf)))))) hG, ⟨⟨rfl, ?_⟩, ⟨fun _ => hn, fun z => ?_⟩, hc, c2⟩, hP⟩
  · exact a2
  · have g := b2 z
    exact (g.congr (gv_ag77 (u := sF (gc_56_1 σ) 98 (upd ((gc_56_1 σ).2.1 98) 0 (vp_nar .boolean (nI 1)))) (ag.F (by decide) (ag.F (by decide) (ag.F (by decide) (ag.F (by decide) (ag.F (by decide) (ag.F (by decide) (ag.I (by decide) (ag.F (by decide) (ag.F (by decide) (ag.F (by decide) (ag.F (by decide) (ag.I (by decide) (ag.F (by decide) (ag.F (by decide) (ag.F (by decide) (ag.F (by decide) (ag.F (by decide) (ag.F (by decide) (ag.F (by decide) (ag.F (by decide) (ag.F (by decide) (ag.I (by decide) ag.rf))))))))))))))))))))))) (fun c j hj => cut_out (by have := pos_lt hj; omega)))
set_option maxRecDepth 100000 in
theorem ok_restore0 {k n r : Nat} {σ μ : St} (h : RB k n r σ μ) (hf : ¬ μ.2.1 33 0 = 0) : ∃ k' n' r' : Nat, RB k' n' r' (sI (gc_1_56 σ) 437 (nI 1)) (pr (sI (sI μ 56 (nI (900 * 0))) 57 (nI 0)) (900 * 0) 827) := by
  obtain ⟨k', n', r', g⟩ := h.2.1.2.1.1 hf
  have e : ∀ c : Nat, szp c = 0 → (pr (sI (sI μ 56 (nI (900 * 0))) 57 (nI 0)) (900 * 0) 827).2.1 c = μ.2.1 c := fun c hc => funext fun j => by
    show (if j < szp c ∧ c ≠ 0 ∧ pos c j < 827 then _ else μ.2.1 c j) = μ.2.1 c j
    rw [if_neg (fun w => by have := w.1; omega)]
  refine ⟨k', n', r', GR_congr (fun f j hj => (gv_ag1 (u := sI (gc_1_56 σ) 437 (nI 1)) (σ := gc_1_56 σ) (ag.I (by decide) ag.rf) f j hj).trans (gc_v_1_56 σ f j hj)) (fun c j hj => mv_pr (μ := μ) (t := 900 * 0) c j hj) g, RI_ag (u := sI (gc_1_56 σ) 437 (nI 1)) (ag.I (by decide) (ag.F (by decide) (ag.F (by decide) (ag.F (by decide) (ag.F (by decide) (ag.F (by decide) (ag.I (by decide) (ag.F (by decide) (ag.F (by decide) (ag.F (by decide) (ag.F (by decide) (ag.I (by decide) (ag.F (by decide) (ag.F (by decide) (ag.F (by decide) (ag.F (by decide) (ag.F (by decide) (ag.F (by decide) (ag.F (by decide) (ag.F (by decide) (ag.F (by decide) (ag.I (by decide) ag.rf)))))))))))))))))))))) (e 32 rfl) (e 33 rfl) h.2.1, h.2.2⟩
set_option maxRecDepth 100000 in
theorem ok_image1 {k n r : Nat} {σ μ : St} (h : RB k n r σ μ) : RB k n r (sF (gc_77_1 σ) 98 (upd ((gc_77_1 σ).2.1 98) 1 (vp_nar .boolean (nI 1)))) (sF (pw (sI (sI μ 56 (nI (900 * 1))) 57 (nI 1)) (900 * 1) 827) 33 (upd ((pw (sI (sI μ 56 (nI (900 * 1))) 57 (nI 1)) (900 * 1) 827).2.1 33) 1 (vp_nar .boolean (nI 1)))) := by
  obtain ⟨hG, ⟨⟨a1, a2⟩, ⟨b1, b2⟩, c1, c2⟩, hP⟩ := h
  have h : RB k n r σ μ := ⟨hG, ⟨⟨a1, a2⟩, ⟨b1, b2⟩, c1, c2⟩, hP⟩
  have hn : GE (gv 77 (sF (gc_77_1 σ) 98 (upd ((gc_77_1 σ).2.1 98) 1 (vp_nar .boolean (nI 1))))) (kv 900 (sF (pw (sI (sI μ 56 (nI (900 * 1))) 57 (nI 1)) (900 * 1) 827) 33 (upd ((pw (sI (sI μ 56 (nI (900 * 1))) 57 (nI 1)) (900 * 1) 827).2.1 33) 1 (vp_nar .boolean (nI 1))))) := ⟨k, n, r, GR_congr (fun f j hj => (gv_ag77 (u := sF (gc_77_1 σ) 98 (upd ((gc_77_1 σ).2.1 98) 1 (vp_nar .boolean (nI 1)))) (σ := gc_77_1 σ) (ag.F (by decide) ag.rf) f j hj).trans (gc_v_77_1 σ f j hj)) (fun c j hj => kv_pw (μ := μ) (t := 900) c j hj) h.1⟩
  have hB : gB (σ.1 16) (σ.2.1 5) (σ.2.1 8) (σ.1 176) (σ.2.1 12) (σ.2.1 14) (σ.2.1 15) (σ.1 256) := gB_of hG
  have hc : gB ((gc_77_1 σ).1 1232) ((gc_77_1 σ).2.1 81) ((gc_77_1 σ).2.1 84) ((gc_77_1 σ).1 1392) ((gc_77_1 σ).2.1 88) ((gc_77_1 σ).2.1 90) ((gc_77_1 σ).2.1 91) ((gc_77_1 σ).1 1472) := by
    obtain ⟨z, z2, z3, hg⟩ := hn
    exact gB_of hg
  refine ⟨GR_congr (gv_ag1 (u := sF (gc_77_1 σ) 98 (upd ((gc_77_1 σ).2.1 98) 1 (vp_nar .boolean (nI 1)))) (ag.F (by decide) (ag.F (by decide) (ag.F (by decide) (ag.F (by decide) (ag.F (by decide) (ag.F (by decide) (ag.I (by decide) (ag.F (by decide) (ag.F (by decide) (ag.F (by decide) (ag.F (by decide) (ag.I (by decide) (ag.F (by decide) (ag.F (by decide) (ag.F (by decide) (ag.F (by decide) (ag.F (by decide) (ag.F (by decide) (ag.F (by decide) (ag.F (by decide) (ag.F (by decide) (ag.I (by decide) ag.rf))))))))))))))))))))))) (mv_ag (w := sF (pw (sI (sI μ 56 (nI (900 * 1))) 57 (nI 1)) (900 * 1) 827) 33 (upd ((pw (sI (sI μ 56 (nI (900 * 1))) 57 (nI 1)) (900 * 1) 827).2.1 33) 1 (vp_nar .boolean (nI 1)))) (ag.F (by decide) (ag.I (by decide) (ag.F (by decide) (ag.I (by decide) (ag.I (by decide) ag.rf)))))) hG, ⟨⟨?_, rfl⟩, ⟨fun z => ?_, fun _ => hn⟩, c1, hc⟩, hP⟩
  · exact a1
  · have g := b1 z
    exact (g.congr (gv_ag56 (u := sF (gc_77_1 σ) 98 (upd ((gc_77_1 σ).2.1 98) 1 (vp_nar .boolean (nI 1)))) (ag.F (by decide) (ag.F (by decide) (ag.F (by decide) (ag.F (by decide) (ag.F (by decide) (ag.F (by decide) (ag.I (by decide) (ag.F (by decide) (ag.F (by decide) (ag.F (by decide) (ag.F (by decide) (ag.I (by decide) (ag.F (by decide) (ag.F (by decide) (ag.F (by decide) (ag.F (by decide) (ag.F (by decide) (ag.F (by decide) (ag.F (by decide) (ag.F (by decide) (ag.F (by decide) (ag.I (by decide) ag.rf))))))))))))))))))))))) (fun c j hj => cut_out (by have := pos_lt hj; omega)))
set_option maxRecDepth 100000 in
theorem ok_restore1 {k n r : Nat} {σ μ : St} (h : RB k n r σ μ) (hf : ¬ μ.2.1 33 1 = 0) : ∃ k' n' r' : Nat, RB k' n' r' (sI (gc_1_77 σ) 437 (nI 1)) (pr (sI (sI μ 56 (nI (900 * 1))) 57 (nI 0)) (900 * 1) 827) := by
  obtain ⟨k', n', r', g⟩ := h.2.1.2.1.2 hf
  have e : ∀ c : Nat, szp c = 0 → (pr (sI (sI μ 56 (nI (900 * 1))) 57 (nI 0)) (900 * 1) 827).2.1 c = μ.2.1 c := fun c hc => funext fun j => by
    show (if j < szp c ∧ c ≠ 0 ∧ pos c j < 827 then _ else μ.2.1 c j) = μ.2.1 c j
    rw [if_neg (fun w => by have := w.1; omega)]
  refine ⟨k', n', r', GR_congr (fun f j hj => (gv_ag1 (u := sI (gc_1_77 σ) 437 (nI 1)) (σ := gc_1_77 σ) (ag.I (by decide) ag.rf) f j hj).trans (gc_v_1_77 σ f j hj)) (fun c j hj => mv_pr (μ := μ) (t := 900 * 1) c j hj) g, RI_ag (u := sI (gc_1_77 σ) 437 (nI 1)) (ag.I (by decide) (ag.F (by decide) (ag.F (by decide) (ag.F (by decide) (ag.F (by decide) (ag.F (by decide) (ag.I (by decide) (ag.F (by decide) (ag.F (by decide) (ag.F (by decide) (ag.F (by decide) (ag.I (by decide) (ag.F (by decide) (ag.F (by decide) (ag.F (by decide) (ag.F (by decide) (ag.F (by decide) (ag.F (by decide) (ag.F (by decide) (ag.F (by decide) (ag.F (by decide) (ag.I (by decide) ag.rf)))))))))))))))))))))) (e 32 rfl) (e 33 rfl) h.2.1, h.2.2⟩
