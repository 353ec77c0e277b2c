/-! THE CLAIM OUT OF ONE WALK OF THE LAW'S BODY. Your part is whole_start (and what it stands on); all else here is the same for every law, but numbers. -/
def R_law : String := "RainCansLaw"
def lw_P (b : Addr) (xs : List Int32) (args : Array Value) (s : State) : Prop := args = #[.ref b] ∧ s.IntsAt b xs ∧ xs.length ≤ 4096 ∧ (Jvm.Cond.and given_1 narrow_1).before args s = true
def lw_Q (_ : Array Value) (s : State) (o : Outcome) (t : State) : Prop := o = .returned (some (.int 1)) ∧ Framed s o t [] 600000 7302250
def lw_Z (below : List Frame) (a : Array Value) (s : State) : State → Prop := fun t => ∃ o, t.status = .running ∧ Ended t below o ∧ lw_Q a s o t
/-- the law's own end, with 1 on the stack, nothing written that was there before, its room as the claim has it -/
theorem lw_ret {p : Program} {l : Launch} {e : Env} {s : State} {m : MethodId} {below : List Frame} {meth : Method} {c : Code} {b : Nat} (hx : p.tables.exec = Jvm.exec) (hb : c.code = code) (hr : meth.sig.returnType = ret) (hlocks : meth.locks = false) {pc : Nat} {H : Heap} {ls : Array Slot} (hdg : decode code pc = .ok (.ireturn, 1)) : W p l e room_1 s m #[Value.ref b] below meth c H [] 600000 7302250 (lw_Z below #[Value.ref b] s) (F0 m pc ls [.int 1]) := by
  intro T hT X
  obtain ⟨fs, hret, hrun, hended, hW, hframe⟩ := X.leave (v := some (.int 1)) (hlocks := hlocks) (fun h => by rw [hr] at h; cases h)
  have hmeth' : T.vm.method? m = some meth := X.method'
  refine ⟨T.setFrames fs, ?_, .returned (some (.int 1)), hrun, hended, rfl, ⟨_, rfl⟩, hW, hframe⟩
  jvm_step X.here [X.here.top, hx, hb, hdg, hmeth', hr, ret, narrow_b1]
  (try refine ⟨rfl, ?_⟩); (try refine ⟨rfl, ?_⟩)
  first | (intro acts; rw [hret _ acts rfl rfl rfl]) | rw [hret _ _ rfl rfl rfl]
  exact Steps.refl _
/-- what holds at the law's entry: the machine, the code, the tables' words (any of lw_tbl by 'hts w (by decide +kernel)'), the script of L ints xs at the cell b, what the Statement gives of the start (any of its parts by flat_of_before) -/
def lw_At (p : Program) (s : State) (m : MethodId) (meth : Method) (c : Code) (b L : Nat) (xs : Nat → Int32) : Prop :=
  p.tables.exec = Jvm.exec ∧ c.code = code ∧ meth.sig.returnType = ret ∧ c.maxLocals = 4 ∧ s.vm.findClass R_law = some m.cls ∧ (∀ w ∈ lw_tbl, w.before #[Value.ref b] s = true) ∧ va_X b L xs s s.heap ∧ b < s.heap.size ∧ meth.locks = false ∧ (Jvm.Cond.and given_1 narrow_1).before #[Value.ref b] s = true

set_option maxRecDepth 100000 in
set_option maxHeartbeats 4000000 in
theorem law_ctx {s : State} {args : Array Value} (hts : ∀ w ∈ lw_tbl, w.before args s = true) (hgv : (Jvm.Cond.and given_1 narrow_1).before args s = true) : ∃ (D : va_G) (kk : Nat → Nat), va_K D vwCl (jT kk) s ∧ jN s ∧ jZ kk (fun q : Nat => s.heap.size ≤ q) s s.heap := by
  have hf := flat_of_before _ hgv
  have hA : ∀ a : Nat, a < s.heap.size → ¬ (fun q : Nat => s.heap.size ≤ q) a := fun a h => Nat.not_le.mpr h
  obtain ⟨c0, i0, n0⟩ := u_known (C := RX0) (T := TX0) (N := 9) (n := 9) hts inX0 (hts _ tb_273)
  obtain ⟨c1, i1, n1⟩ := u_known (C := RX1) (T := TX1) (N := 5) (n := 5) hts inX1 (hts _ tb_31)
  obtain ⟨c2, i2, n2⟩ := u_known (C := RX2) (T := TX2) (N := 12) (n := 12) hts inX2 (hts _ tb_25)
  obtain ⟨c3, i3, n3⟩ := u_known (C := RX3) (T := TX3) (N := 8) (n := 8) hts inX3 (hts _ tb_391)
  obtain ⟨c4, i4, n4⟩ := u_known (C := RX4) (T := TX4) (N := 15) (n := 15) hts inX4 (hts _ tb_307)
  obtain ⟨c5, i5, n5⟩ := u_known (C := RX5) (T := TX5) (N := 6) (n := 6) hts inX5 (hts _ tb_163)
  obtain ⟨c6, i6, n6⟩ := u_known (C := RX6) (T := TX6) (N := 6) (n := 6) hts inX6 (hts _ tb_60)
  obtain ⟨c7, i7, n7⟩ := u_known (C := RX7) (T := TX7) (N := 6) (n := 6) hts inX7 (hts _ tb_193)
  obtain ⟨c8, i8, n8⟩ := u_known (C := RX8) (T := TX8) (N := 6) (n := 6) hts inX8 (hts _ tb_363)
  obtain ⟨c9, i9, n9⟩ := u_known (C := RX9) (T := TX9) (N := 10) (n := 10) hts inX9 (hts _ tb_229)
  obtain ⟨c10, i10, n10⟩ := u_known (C := RX10) (T := TX10) (N := 10) (n := 10) hts inX10 (hts _ tb_17)
  obtain ⟨c11, i11, n11⟩ := u_known (C := RX11) (T := TX11) (N := 58) (n := 58) hts inX11 (hts _ tb_868)
  obtain ⟨kI, xI, mI, a1, a2, a3⟩ := Cond.arrayClass_spec (hts (.arrayClass .int) tb_58)
  obtain ⟨kZ, xZ, mZ, b1, b2, b3⟩ := Cond.arrayClass_spec (hts (.arrayClass .boolean) tb_459)
  obtain ⟨kJ, xJ, mJ, d1, d2, d3⟩ := Cond.arrayClass_spec (hts (.arrayClass .long) tb_1048)
  obtain ⟨mG, kG, xG, g1, g2, g3, g4, g5⟩ := Cond.arrayOver_spec (hts (.arrayOver (.object "RainCans$Garden")) (tb_ 475 (by decide +kernel)))
  obtain ⟨t0, e0, T0⟩ := va_Tof (tm := (Term.static "RainCans" "SETTING_FIRST" "[I")) (ty := .int) (N := 4) (f := fun j => .int (jS0 0 j)) (A := fun q : Nat => s.heap.size ≤ q) (by decide) (hf (.arrayOf (Term.static "RainCans" "SETTING_FIRST" "[I") .int) (by decide +kernel)) (va_eqt (z := 4) (hf (.eq (.length (Term.static "RainCans" "SETTING_FIRST" "[I")) (.int 4)) (by decide +kernel)))
    (fun j hj => by
      rcases (show j = 0 ∨ j = 1 ∨ j = 2 ∨ j = 3 by omega) with rfl | rfl | rfl | rfl
      · exact va_eqt (z := 10) (hf (.eq (.elem (Term.static "RainCans" "SETTING_FIRST" "[I") (.int 0)) (.int 10)) (by decide +kernel))
      · exact va_eqt (z := 50) (hf (.eq (.elem (Term.static "RainCans" "SETTING_FIRST" "[I") (.int 1)) (.int 50)) (by decide +kernel))
      · exact va_eqt (z := 5) (hf (.eq (.elem (Term.static "RainCans" "SETTING_FIRST" "[I") (.int 2)) (.int 5)) (by decide +kernel))
      · exact va_eqt (z := 1) (hf (.eq (.elem (Term.static "RainCans" "SETTING_FIRST" "[I") (.int 3)) (.int 1)) (by decide +kernel)))
    hA
  have Z0 := va_Zof (C := "RainCans") (n := "SETTING_FIRST") (d := "[I") (A := fun q : Nat => s.heap.size ≤ q) (hts (.laysStatic "RainCans" "SETTING_FIRST" "[I") (tb_ 141 (by decide +kernel))) (hts (.initialized "RainCans") tb_1) e0 hA
  obtain ⟨t1, e1, T1⟩ := va_Tof (tm := (Term.static "RainCans" "SETTING_LEAST" "[I")) (ty := .int) (N := 4) (f := fun j => .int (jS0 1 j)) (A := fun q : Nat => s.heap.size ≤ q) (by decide) (hf (.arrayOf (Term.static "RainCans" "SETTING_LEAST" "[I") .int) (by decide +kernel)) (va_eqt (z := 4) (hf (.eq (.length (Term.static "RainCans" "SETTING_LEAST" "[I")) (.int 4)) (by decide +kernel)))
    (fun j hj => by
      rcases (show j = 0 ∨ j = 1 ∨ j = 2 ∨ j = 3 by omega) with rfl | rfl | rfl | rfl
      · exact va_eqt (z := 1) (hf (.eq (.elem (Term.static "RainCans" "SETTING_LEAST" "[I") (.int 0)) (.int 1)) (by decide +kernel))
      · exact va_eqt (z := 0) (hf (.eq (.elem (Term.static "RainCans" "SETTING_LEAST" "[I") (.int 1)) (.int 0)) (by decide +kernel))
      · exact va_eqt (z := 0) (hf (.eq (.elem (Term.static "RainCans" "SETTING_LEAST" "[I") (.int 2)) (.int 0)) (by decide +kernel))
      · exact va_eqt (z := 0) (hf (.eq (.elem (Term.static "RainCans" "SETTING_LEAST" "[I") (.int 3)) (.int 0)) (by decide +kernel)))
    hA
  have Z1 := va_Zof (C := "RainCans") (n := "SETTING_LEAST") (d := "[I") (A := fun q : Nat => s.heap.size ≤ q) (hts (.laysStatic "RainCans" "SETTING_LEAST" "[I") (tb_ 659 (by decide +kernel))) (hts (.initialized "RainCans") tb_1) e1 hA
  obtain ⟨t2, e2, T2⟩ := va_Tof (tm := (Term.static "RainCans" "SETTING_MOST" "[I")) (ty := .int) (N := 4) (f := fun j => .int (jS0 2 j)) (A := fun q : Nat => s.heap.size ≤ q) (by decide) (hf (.arrayOf (Term.static "RainCans" "SETTING_MOST" "[I") .int) (by decide +kernel)) (va_eqt (z := 4) (hf (.eq (.length (Term.static "RainCans" "SETTING_MOST" "[I")) (.int 4)) (by decide +kernel)))
    (fun j hj => by
      rcases (show j = 0 ∨ j = 1 ∨ j = 2 ∨ j = 3 by omega) with rfl | rfl | rfl | rfl
      · exact va_eqt (z := 40) (hf (.eq (.elem (Term.static "RainCans" "SETTING_MOST" "[I") (.int 0)) (.int 40)) (by decide +kernel))
      · exact va_eqt (z := 999) (hf (.eq (.elem (Term.static "RainCans" "SETTING_MOST" "[I") (.int 1)) (.int 999)) (by decide +kernel))
      · exact va_eqt (z := 99) (hf (.eq (.elem (Term.static "RainCans" "SETTING_MOST" "[I") (.int 2)) (.int 99)) (by decide +kernel))
      · exact va_eqt (z := 9) (hf (.eq (.elem (Term.static "RainCans" "SETTING_MOST" "[I") (.int 3)) (.int 9)) (by decide +kernel)))
    hA
  have Z2 := va_Zof (C := "RainCans") (n := "SETTING_MOST") (d := "[I") (A := fun q : Nat => s.heap.size ≤ q) (hts (.laysStatic "RainCans" "SETTING_MOST" "[I") (tb_ 661 (by decide +kernel))) (hts (.initialized "RainCans") tb_1) e2 hA
  refine ⟨(fun k => if k = 0 then c0 else if k = 1 then c1 else if k = 2 then c2 else if k = 3 then c3 else if k = 4 then c4 else if k = 5 then c5 else if k = 6 then c6 else if k = 7 then c7 else if k = 8 then c8 else if k = 9 then c9 else if k = 10 then c10 else c11, fun k => if k = 0 then i0 else if k = 1 then i1 else if k = 2 then i2 else if k = 3 then i3 else if k = 4 then i4 else if k = 5 then i5 else if k = 6 then i6 else if k = 7 then i7 else if k = 8 then i8 else if k = 9 then i9 else if k = 10 then i10 else i11), fun k => if k = 0 then kI else if k = 1 then kZ else if k = 2 then kJ else if k = 3 then kG else if k = 4 then t0 else if k = 5 then t1 else t2, ⟨?_, ?_⟩, ⟨va_Nw.of rfl (hts (.methodLinkNest RX2 48 yX6_init "RainCans") (tb_ 109 (by decide +kernel))), va_Nw.of rfl (hts (.methodLinkNest RX10 18 yX5_init "RainCans") (tb_ 212 (by decide +kernel))), va_Nw.of rfl (hts (.methodLinkNest RX7 82 yX10_far "RainCans") (tb_ 634 (by decide +kernel))), va_Nw.of rfl (hts (.methodLinkNest RX7 92 yX10_part "RainCans") (tb_ 644 (by decide +kernel))), va_Nw.of rfl (hts (.methodLinkNest RX9 93 yX10_part "RainCans") (tb_ 685 (by decide +kernel))), va_Nw.of rfl (hts (.methodLinkNest RX4 93 yX10_far "RainCans") (tb_ 772 (by decide +kernel))), va_Nw.of rfl (hts (.fieldLinkNest RX2 59 "RainCans" "SETTING_FIRST" "[I" "RainCans") (tb_ 140 (by decide +kernel))), va_AO.of (hts (.arrayOver (.object "RainCans$Garden")) (tb_ 475 (by decide +kernel)))⟩, ⟨Z0, Z1, Z2⟩, T0, T1, T2⟩
  · intro k q hq
    match k, hq with
    | 0, hq => cases hq; exact n0
    | 1, hq => cases hq; exact n1
    | 2, hq => cases hq; exact n2
    | 3, hq => cases hq; exact n3
    | 4, hq => cases hq; exact n4
    | 5, hq => cases hq; exact n5
    | 6, hq => cases hq; exact n6
    | 7, hq => cases hq; exact n7
    | 8, hq => cases hq; exact n8
    | 9, hq => cases hq; exact n9
    | 10, hq => cases hq; exact n10
    | 11, hq => cases hq; exact n11
    | k + 12, hq => exact absurd hq (by simp [vwCl])
  · intro k q hq
    match k, hq with
    | 0, hq => cases hq; exact ⟨fun n z => ⟨(fun k h => by cases h), xI, a2, mI, a3⟩, a1⟩
    | 1, hq => cases hq; exact ⟨fun n z => ⟨(fun k h => by cases h), xZ, b2, mZ, b3⟩, b1⟩
    | 2, hq => cases hq; exact ⟨fun n z => ⟨(fun k h => by cases h), xJ, d2, mJ, d3⟩, d1⟩
    | 3, hq => cases hq; exact ⟨fun n z => ⟨(fun k h => by cases h), xG, g3, mG, g4⟩, xG, mG, g3, g4, g1, g5⟩
    | k + 4, hq => exact absurd hq (by simp [jT])
def jX : jC → Nat → Nat → (Nat → Int32) → Prop
  | (_, _, _, R, s, _, args, below, meth, _, Q, _, _, A, _), b, L, xs => va_X b L xs s s.heap ∧ b < s.heap.size ∧ ¬ A b ∧ (∀ q, A q → s.heap.size ≤ q) ∧ meth.sig.returnType = ret ∧ args = #[Value.ref b] ∧ Q = lw_Z below #[Value.ref b] s ∧ R = room_1
theorem j_sld {X : jC} {cc : ByteArray} {own : String} {R : Room} {kk : Nat → Nat} {nL : Nat} (C : jF X cc own R kk nL) {ce sl : Nat} {w : va_W} {lv : List (Nat × Value)} {pc : Nat} {st : List Value} {b L : Nat} {xs : Nat → Int32} (hX : jX X b L xs) {i : Int32} (n : Nat) (e : i = nI n) (h : n < L) (hL : L < 2 ^ 31) (d : decode cc pc = .ok (.iaload, 1)) (k : J X ce sl w lv (pc + 1) (.int (xs n) :: st)) : J X ce sl w lv pc (.int i :: .ref b :: st) := by
  obtain ⟨p, l, ev, R, s, m, args, below, meth, c, Q, D, kkx, A, nLx⟩ := X
  obtain ⟨hx, hb, hml, hown, hts, hK, hA, hN, hZ, hR, hkk, hnL, hlk⟩ := C
  subst hR hkk hnL
  obtain ⟨x1, x2, x3, -⟩ := hX
  intro H locs ls hP hD hS hl
  refine va_sld hx hb x1 x2 x3 hS (vp_inN e h hL) d ?_
  rw [clN e (by omega)]
  exact k H locs ls hP hD hS hl
theorem j_slen {X : jC} {cc : ByteArray} {own : String} {R : Room} {kk : Nat → Nat} {nL : Nat} (C : jF X cc own R kk nL) {ce sl : Nat} {w : va_W} {lv : List (Nat × Value)} {pc : Nat} {st : List Value} {b L : Nat} {xs : Nat → Int32} (hX : jX X b L xs) (d : decode cc pc = .ok (.arraylength, 1)) (k : J X ce sl w lv (pc + 1) (.int (nI L) :: st)) : J X ce sl w lv pc (.ref b :: st) := by
  obtain ⟨p, l, e, R, s, m, args, below, meth, c, Q, D, kkx, A, nLx⟩ := X
  obtain ⟨hx, hb, hml, hown, hts, hK, hA, hN, hZ, hR, hkk, hnL, hlk⟩ := C
  subst hR hkk hnL
  obtain ⟨x1, x2, x3, -⟩ := hX
  exact fun H locs ls hP hD hS hl => va_slen hx hb x1 x2 x3 hS d (k H locs ls hP hD hS hl)
theorem j_lend {X : jC} {own : String} {R : Room} {kk : Nat → Nat} {nL : Nat} (C : jF X code own R kk nL) {ce sl : Nat} {w : va_W} {lv : List (Nat × Value)} {pc : Nat} {b L : Nat} {xs : Nat → Int32} (hX : jX X b L xs) (h1 : ce ≤ 600000) (h2 : sl ≤ 7302250) (d : decode code pc = .ok (.ireturn, 1)) : J X ce sl w lv pc [.int (nI 1)] := by
  obtain ⟨p, l, e, R, s, m, args, below, meth, c, Q, D, kkx, A, nLx⟩ := X
  obtain ⟨hx, hb, hml, hown, hts, hK, hA, hN, hZ, hR, hkk, hnL, hlk⟩ := C
  subst hR hkk hnL
  obtain ⟨x1, x2, x3, x4, x5, x6, x7, x8⟩ := hX
  subst x6 x7 x8
  exact fun H locs ls hP hD hS hl => va_forget (fun q hq => x4 _ (hS.2.2 q hq)) (W.widen h1 h2 (lw_ret hx hb x5 hlk d))
