set_option maxRecDepth 100000 in
set_option maxHeartbeats 4000000 in
theorem e_fault (g kk : Nat → Nat) (σ : St) (k : Nat) (hk : σ.1 16 = nI k) (hk6 : k ≤ 6) (hI : iX σ) (n : Nat) (hn : σ.1 352 = nI n) (hnb : n ≤ 40)  : jM (S := St) yX10_fault cX10_fault 1 (some .int) { frames := 3, cells := 0, slots := 0, locals := 64 } kk (cX g kk σ) [.ref (g 0)] (cX g kk) (rI (fun (r : Int32) (u : St) => u = σ ∧ (r = tr (ftR (σ.2.1 23) n 0 0)))) := by
  refine j_entry [(0, .ref (g 0))] (by decide) (Nat.le_of_ble_eq_true rfl) rfl ?_
  intro X C E HI
  refine j_aload_n C 0 rfl dX10_fault_0 ?_
  refine gX_0_1 C tb_429 dX10_fault_1 ?_
  refine j_V1 C (e_faultPlace g kk σ k hk hk6 hI n hn (by omega) ) kyX5_faultPlace tb_528 tb_529 tb_530 22 rfl (eX_22 g kk _) rfl (Nat.le_of_ble_eq_true rfl) ⟨by decide, by decide⟩ dX10_fault_4 rfl (fun vr ur hp => ?_)
  obtain ⟨r2, rfl, hu, g1⟩ := hp
  replace hu := hu.symm
  subst hu
  subst g1
  refine j_S01 C (c_orNone (ftR (σ.2.1 23) n 0 0)) kyX10_orNone tb_493 tb_494 rfl (Nat.le_of_ble_eq_true rfl) ⟨by decide, by decide⟩ ⟨by decide, by decide⟩ dX10_fault_7 rfl ?_
  exact j_iret C E (σ) ⟨_, rfl, ⟨rfl, rfl⟩⟩ rfl dX10_fault_10
theorem upd_ag {f g : Nat → Int32} {p : Nat} {x : Int32} (h : ∀ j : Nat, j < p → f j = g j) : ∀ j : Nat, j < p + 1 → upd f p x j = upd g p x j := fun j hj => by
  by_cases q : j = p
  · rw [q, pk_us, pk_us]
  · rw [pk_un q, pk_un q]; exact h j (by omega)
theorem cB_of {c k : Nat} (h : c < k) (hk : k < 2 ^ 31) : cB (nI c) (nI k) = true := decide_eq_true ⟨nI_pos' (by omega), (nI_ltI (by omega) hk).mpr h⟩
theorem nI_00 : nI 0 = 0 := rfl
theorem z0_zr {f g a b c d : Nat → Int32} : ZR (fillF f (nI 0) 28, a, b, 0) (fillR g 0 28 (nI 0), c, d, 0) := by
  refine ⟨fun e he => ?_, fun e he nz => absurd ?_ nz, rfl⟩
  · show fillF f (nI 0) 28 e = fillR g 0 28 (nI 0) e
    rw [fR_in (by omega)]; exact if_pos he
  · show fillF f (nI 0) 28 e = 0
    exact if_pos he
theorem z0_wz {f a b : Nat → Int32} : WZ (fillF f (nI 0) 28, a, b, 0) := fun e he => by
  have q : fillF f (nI 0) 28 e = nI 0 := if_pos he
  refine ⟨⟨0, by omega, q⟩, fun nz => absurd q nz⟩
theorem TTX_r {f g : Nat → Int32} {p : Nat} {z w : RT} (h : ∀ j : Nat, j < p → f j = g j) (hz : ZR z w) : OR (TTX f p z) (TTX g p w) := by
  unfold TTX
  by_cases q : p = 0
  · rw [if_pos q, if_pos q]; exact Or.inr ⟨_, _, rfl, rfl, hz⟩
  · rw [if_neg q, if_neg q]; exact rdI_r p 0 0 (nI 0) 0 0 z w (fun j hj => h j (by omega)) hz
theorem TTX_w {f : Nat → Int32} {p : Nat} {z w : RT} (hz : WZ z) (h : TTX f p z = some w) : WZ w := by
  unfold TTX at h
  by_cases q : p = 0
  · rw [if_pos q] at h; cases h; exact hz
  · rw [if_neg q] at h; exact rdI_w p 0 0 (nI 0) 0 0 z w hz h
theorem NFX_r {f g : Nat → Int32} {p : Nat} (h : ∀ j : Nat, j < p → f j = g j) (n : NFX f p) : NFX g p := by
  unfold NFX at n ⊢
  rw [← ftR_congr (f := f) p 0 0 (fun j hj => h j (by omega))]; exact n
theorem note_ok {k n r p : Nat} {σ μ : St} {x r1 r2 : Int32} {p7 p8 p9 q10 q11 q12 : Nat → Int32} {pn qn : Int32} (hB : RB k n r σ μ) (hsg : ∀ j : Nat, j < p → σ.2.1 23 j = μ.2.1 9 j) (hx : NTF k p (σ.2.1 23) (σ.2.1 7) (σ.2.1 8) (σ.2.1 9) x r1 p7 p8 p9 pn (TTX (σ.2.1 23) p (fillF (σ.2.1 24) (nI 0) 28, σ.2.1 25, σ.2.1 26, 0))) (hm : NTF k p (μ.2.1 9) (μ.2.1 10) (μ.2.1 11) (μ.2.1 12) x r2 q10 q11 q12 qn (TTX (μ.2.1 9) p (fillR (μ.2.1 13) 0 28 (nI 0), μ.2.1 14, μ.2.1 15, 0))) (b8 : al_ 168 27 p8) (b11 : al_ 168 27 q11) : r1 = r2 ∧ ((pn = nI p ∧ qn = nI p) ∨ (pn = nI 0 ∧ qn = nI 0)) ∧ ∀ a m : Nat → Nat → Int32, a 6 = p7 → a 7 = p8 → a 8 = p9 → m 10 = q10 → m 11 = q11 → m 12 = q12 → gNo k a m := by
  have hk := hB.k.1
  have hN : gNo k (gv 1 σ) (mv μ) := hB.1.2.2.2.2.2.1
  have hT := TTX_r hsg (z0_zr (f := σ.2.1 24) (g := μ.2.1 13) (a := σ.2.1 25) (b := σ.2.1 26) (c := μ.2.1 14) (d := μ.2.1 15))
  have same : ∀ a m : Nat → Nat → Int32, a 6 = σ.2.1 7 → a 7 = σ.2.1 8 → a 8 = σ.2.1 9 → m 10 = μ.2.1 10 → m 11 = μ.2.1 11 → m 12 = μ.2.1 12 → gNo k a m := fun a m a6 a7 a8 m10 m11 m12 => by
    have ra : ∀ c : Nat, rwz a 6 c = rwz (gv 1 σ) 6 c := fun c => by unfold rwz; rw [a6, a7, a8]; rfl
    have rm : ∀ c : Nat, rwz m 10 c = rwz (mv μ) 10 c := fun c => by unfold rwz; rw [m10, m11, m12]; rfl
    refine ⟨fun j hj => by rw [a7, m11]; exact hN.1 j hj, fun c hc => ?_⟩
    rw [ra, rm, a6]
    exact hN.2 c hc
  rcases hx with ⟨x1, x2, x3, x4, x5, x6⟩ | ⟨x1, x2, xT, x3, x4, x5, x6⟩ | ⟨c, q, N, F, L, x1, x2, x3, xT, x4, x5, x6, x7, x8⟩
  · rcases hm with ⟨y1, y2, y3, y4, y5, y6⟩ | ⟨y1, y2, -⟩ | ⟨c', q', N', F', L', y1, y2, -⟩
    · exact ⟨x1.trans y1.symm, Or.inl ⟨x6, y6⟩, by rw [x3, x4, x5, y3, y4, y5]; exact same⟩
    · exact absurd (x2.symm.trans y2) (by decide)
    · rw [y2, cB_of y1 (by omega)] at x2; exact absurd x2 (by decide)
  · rcases hm with ⟨y1, y2, -⟩ | ⟨y1, y2, -, y3, y4, y5, y6⟩ | ⟨c', q', N', F', L', y1, y2, y3, yT, -⟩
    · exact absurd (x2.symm.trans y2) (by decide)
    · exact ⟨x1.trans y1.symm, Or.inl ⟨x6, y6⟩, by rw [x3, x4, x5, y3, y4, y5]; exact same⟩
    · exfalso
      rcases xT with w | w
      · exact w (NFX_r (fun j hj => (hsg j hj).symm) y3)
      · rw [w, yT] at hT
        rcases hT with ⟨-, e⟩ | ⟨_, _, e, -⟩ <;> cases e
  · rcases hm with ⟨y1, y2, -⟩ | ⟨y1, y2, yT, -⟩ | ⟨c', q', N', F', L', y1, y2, y3, yT, y4, y5, y6, y7, y8⟩
    · rw [x2, cB_of x1 (by omega)] at y2; exact absurd y2 (by decide)
    · exfalso
      rcases yT with w | w
      · exact w (NFX_r hsg x3)
      · rw [w, xT] at hT
        rcases hT with ⟨e, -⟩ | ⟨_, _, -, e, -⟩ <;> cases e
    · have ec : c' = c := nI_inj (by omega) (by omega) y2 x2
      subst ec
      have hw := TTX_w z0_wz xT
      rw [xT, yT] at hT
      rcases hT with ⟨e, -⟩ | ⟨z, w, e1, e2, hz⟩
      · cases e
      · cases e1
        cases e2
        have eq : q = q' := hz.2.2
        refine ⟨by rw [x4, y4, eq], Or.inr ⟨x8, y8⟩, fun a m a6 a7 a8 m10 m11 m12 => ?_⟩
        exact gNo_note (a := gv 1 σ) (m := mv μ) x1 hN (fun j hj => by rw [a7, m11]; exact ⟨b8 j hj, b11 j hj⟩) hz hw (by rw [a6, x5]; rfl) (by rw [a7, x6]; rfl) (by rw [a8, x7]; rfl) (by rw [m10, y5]; rfl) (by rw [m11, y6]; rfl) (by rw [m12, y7]; rfl)
theorem le40 {pn qn : Int32} {p : Nat} (hp : p ≤ 40) (h : (pn = nI p ∧ qn = nI p) ∨ (pn = nI 0 ∧ qn = nI 0)) : le_ 40 pn ∧ le_ 40 qn := by
  rcases h with ⟨a, b⟩ | ⟨a, b⟩
  · exact ⟨⟨p, hp, a⟩, ⟨p, hp, b⟩⟩
  · exact ⟨⟨0, by omega, a⟩, ⟨0, by omega, b⟩⟩
def SG (σ μ : St) : Prop := ∃ p : Nat, p ≤ 40 ∧ σ.1 352 = nI p ∧ μ.1 15 = nI p ∧ ∀ j : Nat, j < p → σ.2.1 23 j = μ.2.1 9 j
theorem num_eq {k n r : Nat} {σ μ : St} (hB : RB k n r σ μ) {j : Nat} (hj : j < 4) : σ.2.1 10 j = numF μ j := by
  have h := fun q hq => (hB.1.2.2.2.2.2.2.1 q hq).1
  rcases (show j = 0 ∨ j = 1 ∨ j = 2 ∨ j = 3 by omega) with rfl | rfl | rfl | rfl
  · exact h 0 (by decide)
  · exact h 1 (by decide)
  · exact h 2 (by decide)
  · exact h 3 (by decide)
