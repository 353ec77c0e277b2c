/-! ===== the J layer: one judgement over W that hides heap, frame and locals' array; the world is a list of cells ===== -/
def Tg : List Cond := lw_tbl.filter goodWord
theorem Tg_of {w : Cond} (h : w ∈ lw_tbl) (hg : goodWord w = true) : w ∈ Tg := List.mem_filter.mpr ⟨h, hg⟩
abbrev Tw (y : MethodName) (cc : ByteArray) (n : Nat) (ret : Option FieldType) : List Cond := Cond.code y cc n ret :: Tg
theorem Tw_good {y : MethodName} {cc : ByteArray} {n : Nat} {ret : Option FieldType} (h : Cond.code y cc n ret ∈ lw_tbl) : GoodIn Tg (Tw y cc n ret) := by
  intro w hw
  rcases List.mem_cons.mp hw with rfl | hw
  · exact ⟨Tg_of h rfl, Or.inl rfl⟩
  · exact ⟨hw, good_of_word (List.mem_filter.mp hw).2⟩
abbrev jT (kk : Nat → Nat) : List (ClassId × FieldType) := [(kk 0, .int), (kk 1, .boolean), (kk 2, .long), (kk 3, .object "RainCans$Garden")]
def jN (U : State) : Prop := va_Nw (.methodLinkNest RX2 48 yX6_init "RainCans") U ∧ va_Nw (.methodLinkNest RX10 18 yX5_init "RainCans") U ∧ va_Nw (.methodLinkNest RX7 82 yX10_far "RainCans") U ∧ va_Nw (.methodLinkNest RX7 92 yX10_part "RainCans") U ∧ va_Nw (.methodLinkNest RX9 93 yX10_part "RainCans") U ∧ va_Nw (.methodLinkNest RX4 93 yX10_far "RainCans") U ∧ va_Nw (.fieldLinkNest RX2 59 "RainCans" "SETTING_FIRST" "[I" "RainCans") U ∧ va_AO "RainCans$Garden" U
theorem jN.warm {s U : State} (hW : s.WarmedH U.vm) (h : jN s) : jN U := ⟨h.1.warmM hW, h.2.1.warmM hW, h.2.2.1.warmM hW, h.2.2.2.1.warmM hW, h.2.2.2.2.1.warmM hW, h.2.2.2.2.2.1.warmM hW, h.2.2.2.2.2.2.1.warmF hW, h.2.2.2.2.2.2.2.moved hW.alike⟩
theorem jN.same {s U : State} (e : s.vm = U.vm) (h : jN s) : jN U := ⟨h.1.same rfl e, h.2.1.same rfl e, h.2.2.1.same rfl e, h.2.2.2.1.same rfl e, h.2.2.2.2.1.same rfl e, h.2.2.2.2.2.1.same rfl e, h.2.2.2.2.2.2.1.same rfl e, h.2.2.2.2.2.2.2.moved (by rw [e]; exact Vm.Alike.refl _)⟩
def jS0 (i j : Nat) : Int32 := match i, j with
  | 0, 0 => 10
  | 0, 1 => 50
  | 0, 2 => 5
  | 0, _ => 1
  | 1, 0 => 1
  | 1, _ => 0
  | _, 0 => 40
  | _, 1 => 999
  | _, 2 => 99
  | _, _ => 9
def jZ (kk : Nat → Nat) (A : Nat → Prop) (U : State) (H : Heap) : Prop := (va_Z "RainCans" "SETTING_FIRST" "[I" (.ref (kk 4)) A U H ∧ va_Z "RainCans" "SETTING_LEAST" "[I" (.ref (kk 5)) A U H ∧ va_Z "RainCans" "SETTING_MOST" "[I" (.ref (kk 6)) A U H) ∧ va_T .int (kk 4) 4 (fun j => .int (jS0 0 j)) A U H ∧ va_T .int (kk 5) 4 (fun j => .int (jS0 1 j)) A U H ∧ va_T .int (kk 6) 4 (fun j => .int (jS0 2 j)) A U H
theorem jZ.moved {kk : Nat → Nat} {A : Nat → Prop} {u U : State} {H : Heap} (hvm : u.vm.Alike U.vm) (h : jZ kk A u H) : jZ kk A U H := ⟨⟨h.1.1.moved hvm, h.1.2.1.moved hvm, h.1.2.2.moved hvm⟩, h.2.1.moved hvm, h.2.2.1.moved hvm, h.2.2.2.moved hvm⟩
theorem jZ.kept {kk : Nat → Nat} {A : Nat → Prop} {U : State} {H H1 : Heap} (h : jZ kk A U H) (hq : ∀ a : Nat, a < H.size → ¬ A a → H1[a]? = H[a]?) : jZ kk A U H1 := ⟨⟨h.1.1.kept hq, h.1.2.1.kept hq, h.1.2.2.kept hq⟩, h.2.1.kept hq, h.2.2.1.kept hq, h.2.2.2.kept hq⟩
theorem jZ.narrow {kk : Nat → Nat} {A B : Nat → Prop} {U : State} {H : Heap} (h : jZ kk A U H) (hAB : ∀ q, B q → A q) : jZ kk B U H := ⟨⟨h.1.1.narrow hAB, h.1.2.1.narrow hAB, h.1.2.2.narrow hAB⟩, h.2.1.narrow hAB, h.2.2.1.narrow hAB, h.2.2.2.narrow hAB⟩
def jPc (args : List Value) (D : va_G) (kk : Nat → Nat) (w : va_W) (sz : Nat) : Array Value → State → Prop := va_Pc args (fun U => U.heap.size = sz ∧ va_P D vwCl w U.heap ∧ va_K D vwCl (jT kk) U ∧ va_D (fun _ => True) w ∧ jN U ∧ jZ kk (va_A w sz) U U.heap)
theorem jPc_blind {args : List Value} {D : va_G} {kk : Nat → Nat} {w : va_W} {sz : Nat} : FrameBlind (jPc args D kk w sz) := fun a U g mk q => by
  obtain ⟨q0, q1, qP, qK, qD, qN, qZ⟩ := q
  exact ⟨q0, q1, qP, va_K.moved (u := U) (U := U.calling g mk a) (Vm.Alike.refl U.vm) qK, qD, jN.same (s := U) (U := U.calling g mk a) rfl qN, jZ.moved (u := U) (U := U.calling g mk a) (Vm.Alike.refl U.vm) qZ⟩
def jQ {S : Type} (D : va_G) (post : Option Value → S → Prop) (cells : S → va_W) (A : Nat → Prop) : Array Value → State → Outcome → State → Prop := fun _ st oc t => (∃ (v : Option Value) (u : S), oc = .returned v ∧ post v u ∧ va_P D vwCl (cells u) t.heap ∧ va_D A (cells u)) ∧ va_F A st t
/-- a method's contract: any launch, any heap -/
def jM {S : Type} (y : MethodName) (cc : ByteArray) (maxL : Nat) (ret : Option FieldType) (rm : Room) (kk : Nat → Nat) (w : va_W) (args : List Value) (cells : S → va_W) (post : Option Value → S → Prop) : Prop := ∀ (l : Launch) (D : va_G) (sz : Nat), Met l y (Tw y cc maxL ret) rm (jPc args D kk w sz) (jQ D post cells (va_A w sz)) rm.cells rm.slots (va_A w sz)
def rI {S : Type} (P : Int32 → S → Prop) : Option Value → S → Prop := fun v u => ∃ r : Int32, v = some (.int r) ∧ P r u
def rL {S : Type} (P : Int64 → S → Prop) : Option Value → S → Prop := fun v u => ∃ r : Int64, v = some (.long r) ∧ P r u
def rV {S : Type} (P : S → Prop) : Option Value → S → Prop := fun v u => v = none ∧ P u
/-- a method without a world: it answers f -/
def jMp (y : MethodName) (cc : ByteArray) (maxL : Nat) (ret : Option FieldType) (rm : Room) (args : List Value) (v : Option Value) : Prop := ∀ kk : Nat → Nat, jM (S := Unit) y cc maxL ret rm kk [] args (fun _ => []) (fun o _ => o = v)
abbrev jC : Type := Program × Launch × Env × Room × State × MethodId × Array Value × List Frame × Method × Code × (State → Prop) × va_G × (Nat → Nat) × (Nat → Prop) × Nat
def J : jC → Nat → Nat → va_W → List (Nat × Value) → Nat → List Value → Prop
  | (p, l, e, R, s, m, args, below, meth, c, Q, D, _, A, nL), ce, sl, w, lv, pc, st => ∀ (H : Heap) (locs : List Loc) (ls : Array Slot), va_P D vwCl w H → va_D A w → va_S A s.heap H locs → lv_has ls nL lv → W p l e R s m args below meth c H locs ce sl Q (F0 m pc ls st)
def jF : jC → ByteArray → String → Room → (Nat → Nat) → Nat → Prop
  | (p, _, _, R, s, m, args, _, meth, c, _, D, kk, A, nL), cc, own, R0, kk0, nL0 => p.tables.exec = Jvm.exec ∧ c.code = cc ∧ c.maxLocals = nL ∧ s.vm.findClass own = some m.cls ∧ (∀ w ∈ Tg, w.before args s = true) ∧ va_K D vwCl (jT kk) s ∧ (∀ q, s.heap.size ≤ q → A q) ∧ jN s ∧ jZ kk A s s.heap ∧ R = R0 ∧ kk = kk0 ∧ nL = nL0 ∧ meth.locks = false
def jE {S : Type} : jC → Option FieldType → (Option Value → S → Prop) → (S → va_W) → Nat → Nat → Prop
  | (_, _, _, _, s, _, args, below, meth, _, Q, D, _, A, _), ret, post, cells, mc, ms => meth.sig.returnType = ret ∧ Q = MQ below (jQ D post cells A) args s mc ms A
def jI : jC → Prop
  | (_, _, _, _, _, _, _, _, meth, _, _, _, _, _, _) => meth.name = "<init>"
theorem j_entry {S : Type} {y : MethodName} {cc : ByteArray} {maxL : Nat} {ret : Option FieldType} {rm : Room} {kk : Nat → Nat} {w : va_W} {args : List Value} {cells : S → va_W} {post : Option Value → S → Prop} (lv : List (Nat × Value)) (hy : plainName y.cls = true) (hlen : (lg_sl args).length ≤ maxL) (hlv : lv_args 0 args = lv)
    (body : ∀ X : jC, jF X cc y.cls rm kk maxL → jE X ret post cells rm.cells rm.slots → (y.name = "<init>" → jI X) → J X 0 0 w lv 0 []) : jM y cc maxL ret rm kk w args cells post := by
  intro l D sz
  refine Met.ofW (cc := cc) (maxL := maxL) (ret := ret) hy rfl ?_
  intro p e s m av below meth c s₁ B hml hv
  obtain ⟨rfl, hsz, hP, hK, hD0, hN, hZ⟩ := hv
  have hts := atoms_spec (ws := Tw y cc maxL ret) B.pre
  have hown : s.vm.findClass y.cls = some m.cls := findClass_of_methodNamed B.named
  subst hsz
  have hD := hD0.self (sz := s.heap.size)
  have hl := lv_entry args (n := maxL) hlen
  rw [lg_entry_eq]
  rw [hlv] at hl
  exact body (p, l, e, rm, s, m, args.toArray, below, meth, c, _, D, kk, va_A w s.heap.size, maxL) ⟨B.exec, B.bytes, hml, hown, fun w h => hts w (List.mem_cons_of_mem _ h), hK, fun q h => Or.inr h, hN, hZ, rfl, rfl, rfl, B.notSynchronized⟩ ⟨B.returns, rfl⟩ (fun _ => by rename_i h; exact (name_of_methodNamed B.named B.method).1.trans h) s.heap [] _ hP hD va_S.rf hl
theorem va_callJ {p : Program} {l : Launch} {e : Env} {R : Room} {s : State} {m : MethodId} {args : Array Value} {below : List Frame} {meth : Method} {c : Code} {H : Heap} {locs : List Loc} {cells slots : Nat} {Q : State → Prop} {pc : Nat} {ls : Array Slot} {rest st0 : List Value} {a : Array Value} {A0 A1 : Nat → Prop} {H0 : Heap} {mc ms : Nat} {free : Addr → Prop} {S : Type} {D : va_G} {post : Option Value → S → Prop} {B : S → va_W} (hr : va_Run p l e R s m args below meth c H locs cells slots mc ms (F0 m pc ls st0) rest (jQ D post B A1 a) free) (hS : va_S A0 H0 H locs) (hA : ∀ q, q < H.size → A1 q → A0 q) (hf : ∀ q, free q → A0 q)
    (kk : ∀ (v : Option Value) (u : S) (H1 : Heap) (locs1 : List Loc), post v u → va_P D vwCl (B u) H1 → va_D A1 (B u) → (∀ q : Nat, q < H.size → ¬ A1 q → H1[q]? = H[q]?) → va_S A0 H0 H1 locs1 → W p l e R s m args below meth c H1 locs1 (cells + mc) (slots + ms) Q (F0 m (pc + 3) ls (v.toList ++ rest))) : W p l e R s m args below meth c H locs cells slots Q (F0 m pc ls st0) := by
  intro T hT X
  obtain ⟨v, st₀, t, T', L, h0, X', hL, e1, e2, ⟨⟨r, u, hv, hp, hb, hd⟩, hz, hk⟩, st⟩ := hr T hT X
  cases hv
  rw [h0] at hz hk
  obtain ⟨t2, a1, b1⟩ := kk v u T'.heap (locs ++ L) hp (by rw [e1]; exact hb) hd (fun q h1 h2 => by rw [e1]; exact hk q h1 h2)
    ⟨Nat.le_trans hS.1 (by rw [e1]; exact hz), fun q h1 h2 => by rw [e1, hk q (Nat.lt_of_lt_of_le h1 hS.1) (fun z => h2 (hA q (Nat.lt_of_lt_of_le h1 hS.1) z))]; exact hS.2.1 q h1 h2, fun q hq => by
      rcases List.mem_append.mp hq with h | h
      · exact hS.2.2 q h
      · exact hf _ (hL q h)⟩ T' rfl X'
  exact ⟨t2, st t2 a1, b1⟩
/-- behind a call on the right part of a world -/
theorem va_joinR {A0 : Nat → Prop} {D : va_G} {cl : List vw_C} {wr wc w1 : va_W} {H H1 : Heap} (hP : va_P D cl (wr ++ wc) H) (hD : va_D A0 (wr ++ wc)) (hk : ∀ q : Nat, q < H.size → ¬ va_A wc H.size q → H1[q]? = H[q]?) (hF : ∀ q, va_A wc H.size q → A0 q) (hP1 : va_P D cl w1 H1) (hD1 : va_D (va_A wc H.size) w1) : va_P D cl (wr ++ w1) H1 ∧ va_D A0 (wr ++ w1) := by
  have hl : ∀ {i : Nat} {x : Nat × va_E}, wr[i]? = some x → (wr ++ wc)[i]? = some x := fun {i x} h => by
    rw [List.getElem?_append_left (List.getElem?_eq_some_iff.mp h).1]; exact h
  have hr : ∀ {i : Nat} {x : Nat × va_E}, wc[i]? = some x → (wr ++ wc)[wr.length + i]? = some x := fun {i x} h => by
    rw [List.getElem?_append_right (by omega)]; rw [Nat.add_sub_cancel_left]; exact h
  have apart : ∀ (k : Nat) (q : Nat × va_E), wr[k]? = some q → q.1 < H.size ∧ ¬ va_A wc H.size q.1 := by
    intro k q hq
    have hlt := (hP k q (hl hq)).lt
    refine ⟨hlt, fun h => ?_⟩
    rcases h with ⟨k2, e, h⟩ | h
    · have hij := hD.1 k (wr.length + k2) q (q.1, e) (hl hq) (hr h) rfl
      have := (List.getElem?_eq_some_iff.mp hq).1
      omega
    · omega
  refine ⟨va_P.app (fun k q hq => ?_) hP1, va_D.app ⟨fun i j x y hx hy hxy => hD.1 i j x y (hl hx) (hl hy) hxy, fun k q hq => hD.2 k q (hl hq)⟩ (hD1.weaken (fun k q _ h => hF q.1 h)) (fun i j x y hx hy hxy => ?_)⟩
  · obtain ⟨g1, g2⟩ := apart k q hq
    exact (hP k q (hl hq)).kept (hk q.1 g1 g2)
  · exact (apart i x hx).2 (by rw [hxy]; exact hD1.2 j y hy)
theorem va_P.right {D : va_G} {cl : List vw_C} {wr wc : va_W} {H : Heap} (hP : va_P D cl (wr ++ wc) H) : va_P D cl wc H := fun k q hq => hP (wr.length + k) q (by rw [List.getElem?_append_right (by omega), Nat.add_sub_cancel_left]; exact hq)
theorem va_D.right {A : Nat → Prop} {wr wc : va_W} (hD : va_D A (wr ++ wc)) : va_D A wc := ⟨fun i j x y hx hy hxy => by
    have h := hD.1 (wr.length + i) (wr.length + j) x y (by rw [List.getElem?_append_right (by omega), Nat.add_sub_cancel_left]; exact hx) (by rw [List.getElem?_append_right (by omega), Nat.add_sub_cancel_left]; exact hy) hxy
    omega, fun k q hq => hD.2 (wr.length + k) q (by rw [List.getElem?_append_right (by omega), Nat.add_sub_cancel_left]; exact hq)⟩
/-- a callee's card: its code, its class is made, its arguments' number -/
def jY (y : MethodName) (cc : ByteArray) (maxL : Nat) (ret : Option FieldType) (n : Nat) : Prop := Cond.code y cc maxL ret ∈ lw_tbl ∧ Cond.initialized y.cls ∈ lw_tbl ∧ y.cls ≠ "java/lang/invoke/MethodHandle" ∧ y.cls ≠ "java/lang/invoke/VarHandle" ∧ (parseMethodDescriptor y.desc).map (fun d => d.parameters.length) = some n
theorem j_V {X : jC} {cc : ByteArray} {own : String} {R : Room} {kk : Nat → Nat} {nL : Nat} (C : jF X cc own R kk nL) {ce sl : Nat} {lv : List (Nat × Value)} {pc : Nat} {As rest st0 : List Value} {b : Nat} {S : Type} {y : MethodName} {bytes : ByteArray} {maxL n index : Nat} {ret : Option FieldType} {rm : Room} {cells : S → va_W} {post : Option Value → S → Prop} (wr : va_W) {wc : va_W} (hM : jM y bytes maxL ret rm kk wc (.ref b :: As) cells post) (Y : jY y bytes maxL ret n) (hl : Cond.methodLink own index y ∈ lw_tbl) (hi : Cond.instanceMethod y ∈ lw_tbl) (hs : Cond.selects y.cls y y ∈ lw_tbl) (q0 : Nat) {ci : Nat} {fs : List Value} {T : u_T} {N : Nat} (hc : vwCl[ci]? = some (y.cls, T, N)) (he : (wr ++ wc)[q0]? = some (b, .inr (ci, fs))) (hn : As.length = n) (hst : (rest.map fun v => v.category).sum ≤ 8) (hR1 : rm.frames + 1 ≤ R.frames ∧ 8 + (maxL + 11) + rm.locals ≤ R.locals) (hR2 : ce + rm.cells ≤ R.cells ∧ sl + rm.slots ≤ R.slots) (d : decode cc pc = .ok (.invokevirtual index, 3)) (hstk : st0 = (As.reverse ++ .ref b :: rest))
    (k : ∀ (v : Option Value) (u : S), post v u → J X (ce + rm.cells) (sl + rm.slots) (wr ++ cells u) lv (pc + 3) (v.toList ++ rest)) : J X ce sl (wr ++ wc) lv pc st0 := by
  obtain ⟨p, l, e, R, s, m, args, below, meth, c, Q, D, kkx, A, nLx⟩ := X
  obtain ⟨hx, hb, hml, hown, hts, hK, hA, hN, hZ, hR, hkk, hnL, hlk⟩ := C
  subst hR hkk hnL
  subst hstk
  intro H locs ls hP hD hS hl'
  obtain ⟨y1, y2, y3, y4, y5⟩ := Y
  have ht : ∀ w ∈ lw_tbl, goodWord w = true → w.before args s = true := fun w h hg => hts w (Tg_of h hg)
  have hPc : va_P D vwCl wc H := hP.right
  have hDc : va_D A wc := hD.right
  have hFc : ∀ q, va_A wc H.size q → A q := fun q h => by
    rcases h with ⟨k9, e9, h⟩ | h
    · exact hDc.2 k9 _ h
    · exact hA q (Nat.le_trans hS.1 h)
  have hpre : ∀ U : State, U.heap = H → s.WarmedH U.vm → jPc (.ref b :: As) D kkx wc H.size (.ref b :: As).toArray U := fun U hU hW => ⟨rfl, by rw [hU], by rw [hU]; exact hPc, va_K.moved hW.alike hK, hDc.weaken (fun _ _ _ _ => trivial), hN.warm hW, by rw [hU]; exact ((hZ.kept (fun a h1 h2 => hS.2.1 a h1 h2)).narrow hFc).moved hW.alike⟩
  refine va_callJ (va_runV (As := As) (rest := rest) ⟨hx, hb, hml, hown, hts⟩ (hM l D H.size) ⟨callB_of n hts (Tw_good y1) rfl rfl rfl (ht _ y2 rfl) (ht _ hl rfl) ⟨y3, y4, y5⟩ hR1, ht _ hi rfl, ht _ hs rfl⟩ ⟨jPc_blind, va_recv hK hP hc he, hpre⟩ rfl hn hl'.1 rfl (lv_room hst) d hR2) hS (fun q _ h => hFc q h) hFc (fun v1 u H1 locs1 hp hP1 hD1 hk1 hS1 => ?_)
  obtain ⟨hP2, hD2⟩ := va_joinR hP hD hk1 hFc hP1 hD1
  exact k v1 u hp H1 locs1 ls hP2 hD2 hS1 hl'
theorem j_I {X : jC} {cc : ByteArray} {own : String} {R : Room} {kk : Nat → Nat} {nL : Nat} (C : jF X cc own R kk nL) {ce sl : Nat} {lv : List (Nat × Value)} {pc : Nat} {As rest st0 : List Value} {b : Nat} {S : Type} {y : MethodName} {bytes : ByteArray} {maxL n index : Nat} {rm : Room} {cells : S → va_W} {post : Option Value → S → Prop} (wr : va_W) {wc : va_W} (hM : jM y bytes maxL none rm kk wc (.ref b :: As) cells post) (Y : jY y bytes maxL none n) (hl : Cond.methodLink own index y ∈ lw_tbl) (hi : Cond.instanceMethod y ∈ lw_tbl) (hnm : y.name = "<init>") (hn : As.length = n) (hst : (rest.map fun v => v.category).sum ≤ 8) (hR1 : rm.frames + 1 ≤ R.frames ∧ 8 + (maxL + 11) + rm.locals ≤ R.locals) (hR2 : ce + rm.cells ≤ R.cells ∧ sl + rm.slots ≤ R.slots) (d : decode cc pc = .ok (.invokespecial index, 3)) (hstk : st0 = (As.reverse ++ .ref b :: rest))
    (k : ∀ (v : Option Value) (u : S), post v u → J X (ce + rm.cells) (sl + rm.slots) (wr ++ cells u) lv (pc + 3) (v.toList ++ rest)) : J X ce sl (wr ++ wc) lv pc st0 := by
  obtain ⟨p, l, e, R, s, m, args, below, meth, c, Q, D, kkx, A, nLx⟩ := X
  obtain ⟨hx, hb, hml, hown, hts, hK, hA, hN, hZ, hR, hkk, hnL, hlk⟩ := C
  subst hR hkk hnL
  subst hstk
  intro H locs ls hP hD hS hl'
  obtain ⟨y1, y2, y3, y4, y5⟩ := Y
  have ht : ∀ w ∈ lw_tbl, goodWord w = true → w.before args s = true := fun w h hg => hts w (Tg_of h hg)
  have hPc : va_P D vwCl wc H := hP.right
  have hDc : va_D A wc := hD.right
  have hFc : ∀ q, va_A wc H.size q → A q := fun q h => by
    rcases h with ⟨k9, e9, h⟩ | h
    · exact hDc.2 k9 _ h
    · exact hA q (Nat.le_trans hS.1 h)
  have hpre : ∀ U : State, U.heap = H → s.WarmedH U.vm → jPc (.ref b :: As) D kkx wc H.size (.ref b :: As).toArray U := fun U hU hW => ⟨rfl, by rw [hU], by rw [hU]; exact hPc, va_K.moved hW.alike hK, hDc.weaken (fun _ _ _ _ => trivial), hN.warm hW, by rw [hU]; exact ((hZ.kept (fun a h1 h2 => hS.2.1 a h1 h2)).narrow hFc).moved hW.alike⟩
  refine va_callJ (va_runI (As := As) (rest := rest) ⟨hx, hb, hml, hown, hts⟩ (hM l D H.size) ⟨callB_of n hts (Tw_good y1) rfl rfl rfl (ht _ y2 rfl) (ht _ hl rfl) ⟨y3, y4, y5⟩ hR1, hnm, ht _ hi rfl⟩ ⟨jPc_blind, hpre⟩ rfl hn hl'.1 rfl (lv_room hst) d hR2) hS (fun q _ h => hFc q h) hFc (fun v1 u H1 locs1 hp hP1 hD1 hk1 hS1 => ?_)
  obtain ⟨hP2, hD2⟩ := va_joinR hP hD hk1 hFc hP1 hD1
  exact k v1 u hp H1 locs1 ls hP2 hD2 hS1 hl'
theorem j_IN {X : jC} {cc : ByteArray} {own : String} {R : Room} {kk : Nat → Nat} {nL : Nat} (C : jF X cc own R kk nL) {ce sl : Nat} {lv : List (Nat × Value)} {pc : Nat} {As rest st0 : List Value} {b : Nat} {S : Type} {y : MethodName} {bytes : ByteArray} {maxL n index : Nat} {rm : Room} {cells : S → va_W} {post : Option Value → S → Prop} (wr : va_W) {wc : va_W} (hM : jM y bytes maxL none rm kk wc (.ref b :: As) cells post) (Y : jY y bytes maxL none n) (hl : ∀ U : State, jN U → va_Nw (.methodLinkNest own index y "RainCans") U) (hi : Cond.instanceMethod y ∈ lw_tbl) (hnm : y.name = "<init>") (hn : As.length = n) (hst : (rest.map fun v => v.category).sum ≤ 8) (hR1 : rm.frames + 1 ≤ R.frames ∧ 8 + (maxL + 11) + rm.locals ≤ R.locals) (hR2 : ce + rm.cells ≤ R.cells ∧ sl + rm.slots ≤ R.slots) (d : decode cc pc = .ok (.invokespecial index, 3)) (hstk : st0 = (As.reverse ++ .ref b :: rest))
    (k : ∀ (v : Option Value) (u : S), post v u → J X (ce + rm.cells) (sl + rm.slots) (wr ++ cells u) lv (pc + 3) (v.toList ++ rest)) : J X ce sl (wr ++ wc) lv pc st0 := by
  obtain ⟨p, l, e, R, s, m, args, below, meth, c, Q, D, kkx, A, nLx⟩ := X
  obtain ⟨hx, hb, hml, hown, hts, hK, hA, hN, hZ, hR, hkk, hnL, hlk⟩ := C
  subst hR hkk hnL
  subst hstk
  intro H locs ls hP hD hS hl'
  obtain ⟨y1, y2, y3, y4, y5⟩ := Y
  have ht : ∀ w ∈ lw_tbl, goodWord w = true → w.before args s = true := fun w h hg => hts w (Tg_of h hg)
  have hPc : va_P D vwCl wc H := hP.right
  have hDc : va_D A wc := hD.right
  have hFc : ∀ q, va_A wc H.size q → A q := fun q h => by
    rcases h with ⟨k9, e9, h⟩ | h
    · exact hDc.2 k9 _ h
    · exact hA q (Nat.le_trans hS.1 h)
  have hpre : ∀ U : State, U.heap = H → s.WarmedH U.vm → jPc (.ref b :: As) D kkx wc H.size (.ref b :: As).toArray U := fun U hU hW => ⟨rfl, by rw [hU], by rw [hU]; exact hPc, va_K.moved hW.alike hK, hDc.weaken (fun _ _ _ _ => trivial), hN.warm hW, by rw [hU]; exact ((hZ.kept (fun a h1 h2 => hS.2.1 a h1 h2)).narrow hFc).moved hW.alike⟩
  refine va_callJ (va_runIN (As := As) (rest := rest) ⟨hx, hb, hml, hown, hts⟩ (hM l D H.size) ⟨va_cnB n hts (Tw_good y1) rfl rfl rfl (hl s hN) (ht _ y2 rfl) ⟨y3, y4, y5⟩ hR1, hnm, ht _ hi rfl⟩ ⟨jPc_blind, hpre⟩ rfl hn hl'.1 rfl (lv_room hst) d hR2) hS (fun q _ h => hFc q h) hFc (fun v1 u H1 locs1 hp hP1 hD1 hk1 hS1 => ?_)
  obtain ⟨hP2, hD2⟩ := va_joinR hP hD hk1 hFc hP1 hD1
  exact k v1 u hp H1 locs1 ls hP2 hD2 hS1 hl'
theorem j_S {X : jC} {cc : ByteArray} {own : String} {R : Room} {kk : Nat → Nat} {nL : Nat} (C : jF X cc own R kk nL) {ce sl : Nat} {lv : List (Nat × Value)} {pc : Nat} {As rest st0 : List Value} {S : Type} {y : MethodName} {bytes : ByteArray} {maxL n index : Nat} {ret : Option FieldType} {rm : Room} {cells : S → va_W} {post : Option Value → S → Prop} (wr : va_W) {wc : va_W} (hM : jM y bytes maxL ret rm kk wc As cells post) (Y : jY y bytes maxL ret n) (hl : Cond.methodLink own index y ∈ lw_tbl) (hi : Cond.static y ∈ lw_tbl) (hn : As.length = n) (hst : (rest.map fun v => v.category).sum ≤ 8) (hR1 : rm.frames + 1 ≤ R.frames ∧ 8 + (maxL + 11) + rm.locals ≤ R.locals) (hR2 : ce + rm.cells ≤ R.cells ∧ sl + rm.slots ≤ R.slots) (d : decode cc pc = .ok (.invokestatic index, 3)) (hstk : st0 = (As.reverse ++ rest))
    (k : ∀ (v : Option Value) (u : S), post v u → J X (ce + rm.cells) (sl + rm.slots) (wr ++ cells u) lv (pc + 3) (v.toList ++ rest)) : J X ce sl (wr ++ wc) lv pc st0 := by
  obtain ⟨p, l, e, R, s, m, args, below, meth, c, Q, D, kkx, A, nLx⟩ := X
  obtain ⟨hx, hb, hml, hown, hts, hK, hA, hN, hZ, hR, hkk, hnL, hlk⟩ := C
  subst hR hkk hnL
  subst hstk
  intro H locs ls hP hD hS hl'
  obtain ⟨y1, y2, y3, y4, y5⟩ := Y
  have ht : ∀ w ∈ lw_tbl, goodWord w = true → w.before args s = true := fun w h hg => hts w (Tg_of h hg)
  have hPc : va_P D vwCl wc H := hP.right
  have hDc : va_D A wc := hD.right
  have hFc : ∀ q, va_A wc H.size q → A q := fun q h => by
    rcases h with ⟨k9, e9, h⟩ | h
    · exact hDc.2 k9 _ h
    · exact hA q (Nat.le_trans hS.1 h)
  have hpre : ∀ U : State, U.heap = H → s.WarmedH U.vm → jPc As D kkx wc H.size As.toArray U := fun U hU hW => ⟨rfl, by rw [hU], by rw [hU]; exact hPc, va_K.moved hW.alike hK, hDc.weaken (fun _ _ _ _ => trivial), hN.warm hW, by rw [hU]; exact ((hZ.kept (fun a h1 h2 => hS.2.1 a h1 h2)).narrow hFc).moved hW.alike⟩
  refine va_callJ (va_runS (As := As) (rest := rest) ⟨hx, hb, hml, hown, hts⟩ (hM l D H.size) ⟨callB_of n hts (Tw_good y1) rfl rfl rfl (ht _ y2 rfl) (ht _ hl rfl) ⟨y3, y4, y5⟩ hR1, ht _ hi rfl⟩ ⟨jPc_blind, hpre⟩ rfl hn hl'.1 rfl (lv_room hst) d hR2) hS (fun q _ h => hFc q h) hFc (fun v1 u H1 locs1 hp hP1 hD1 hk1 hS1 => ?_)
  obtain ⟨hP2, hD2⟩ := va_joinR hP hD hk1 hFc hP1 hD1
  exact k v1 u hp H1 locs1 ls hP2 hD2 hS1 hl'
theorem j_SN {X : jC} {cc : ByteArray} {own : String} {R : Room} {kk : Nat → Nat} {nL : Nat} (C : jF X cc own R kk nL) {ce sl : Nat} {lv : List (Nat × Value)} {pc : Nat} {As rest st0 : List Value} {S : Type} {y : MethodName} {bytes : ByteArray} {maxL n index : Nat} {ret : Option FieldType} {rm : Room} {cells : S → va_W} {post : Option Value → S → Prop} (wr : va_W) {wc : va_W} (hM : jM y bytes maxL ret rm kk wc As cells post) (Y : jY y bytes maxL ret n) (hl : ∀ U : State, jN U → va_Nw (.methodLinkNest own index y "RainCans") U) (hi : Cond.static y ∈ lw_tbl) (hn : As.length = n) (hst : (rest.map fun v => v.category).sum ≤ 8) (hR1 : rm.frames + 1 ≤ R.frames ∧ 8 + (maxL + 11) + rm.locals ≤ R.locals) (hR2 : ce + rm.cells ≤ R.cells ∧ sl + rm.slots ≤ R.slots) (d : decode cc pc = .ok (.invokestatic index, 3)) (hstk : st0 = (As.reverse ++ rest))
    (k : ∀ (v : Option Value) (u : S), post v u → J X (ce + rm.cells) (sl + rm.slots) (wr ++ cells u) lv (pc + 3) (v.toList ++ rest)) : J X ce sl (wr ++ wc) lv pc st0 := by
  obtain ⟨p, l, e, R, s, m, args, below, meth, c, Q, D, kkx, A, nLx⟩ := X
  obtain ⟨hx, hb, hml, hown, hts, hK, hA, hN, hZ, hR, hkk, hnL, hlk⟩ := C
  subst hR hkk hnL
  subst hstk
  intro H locs ls hP hD hS hl'
  obtain ⟨y1, y2, y3, y4, y5⟩ := Y
  have ht : ∀ w ∈ lw_tbl, goodWord w = true → w.before args s = true := fun w h hg => hts w (Tg_of h hg)
  have hPc : va_P D vwCl wc H := hP.right
  have hDc : va_D A wc := hD.right
  have hFc : ∀ q, va_A wc H.size q → A q := fun q h => by
    rcases h with ⟨k9, e9, h⟩ | h
    · exact hDc.2 k9 _ h
    · exact hA q (Nat.le_trans hS.1 h)
  have hpre : ∀ U : State, U.heap = H → s.WarmedH U.vm → jPc As D kkx wc H.size As.toArray U := fun U hU hW => ⟨rfl, by rw [hU], by rw [hU]; exact hPc, va_K.moved hW.alike hK, hDc.weaken (fun _ _ _ _ => trivial), hN.warm hW, by rw [hU]; exact ((hZ.kept (fun a h1 h2 => hS.2.1 a h1 h2)).narrow hFc).moved hW.alike⟩
  refine va_callJ (va_runSN (As := As) (rest := rest) ⟨hx, hb, hml, hown, hts⟩ (hM l D H.size) ⟨va_cnB n hts (Tw_good y1) rfl rfl rfl (hl s hN) (ht _ y2 rfl) ⟨y3, y4, y5⟩ hR1, ht _ hi rfl, trivial⟩ ⟨jPc_blind, hpre⟩ rfl hn hl'.1 rfl (lv_room hst) d hR2) hS (fun q _ h => hFc q h) hFc (fun v1 u H1 locs1 hp hP1 hD1 hk1 hS1 => ?_)
  obtain ⟨hP2, hD2⟩ := va_joinR hP hD hk1 hFc hP1 hD1
  exact k v1 u hp H1 locs1 ls hP2 hD2 hS1 hl'
theorem j_S0 {X : jC} {cc : ByteArray} {own : String} {R : Room} {kk : Nat → Nat} {nL : Nat} (C : jF X cc own R kk nL) {ce sl : Nat} {w : va_W} {lv : List (Nat × Value)} {pc : Nat} {As rest st0 : List Value} {y : MethodName} {bytes : ByteArray} {maxL n index : Nat} {ret : Option FieldType} {rm : Room} {v : Value} (hM : jMp y bytes maxL ret rm As (some v)) (Y : jY y bytes maxL ret n) (hl : Cond.methodLink own index y ∈ lw_tbl) (hi : Cond.static y ∈ lw_tbl) (hn : As.length = n) (hst : (rest.map fun v => v.category).sum ≤ 8) (hR1 : rm.frames + 1 ≤ R.frames ∧ 8 + (maxL + 11) + rm.locals ≤ R.locals) (hR2 : ce + rm.cells ≤ R.cells ∧ sl + rm.slots ≤ R.slots) (d : decode cc pc = .ok (.invokestatic index, 3)) (hstk : st0 = (As.reverse ++ rest))
    (k : J X (ce + rm.cells) (sl + rm.slots) w lv (pc + 3) (v :: rest)) : J X ce sl w lv pc st0 := by
  obtain ⟨p, l, e, R, s, m, args, below, meth, c, Q, D, kkx, A, nLx⟩ := X
  obtain ⟨hx, hb, hml, hown, hts, hK, hA, hN, hZ, hR, hkk, hnL, hlk⟩ := C
  subst hR hkk hnL
  subst hstk
  intro H locs ls hP hD hS hl'
  obtain ⟨y1, y2, y3, y4, y5⟩ := Y
  have ht : ∀ w ∈ lw_tbl, goodWord w = true → w.before args s = true := fun w h hg => hts w (Tg_of h hg)
  have hPc : va_P D vwCl ([] : va_W) H := fun k q h => by simp at h
  have hDc : va_D A ([] : va_W) := ⟨fun i j x y h => by simp at h, fun k q h => by simp at h⟩
  have hFc : ∀ q, va_A [] H.size q → A q := fun q h => by
    rcases h with ⟨k9, e9, h⟩ | h
    · exact hDc.2 k9 _ h
    · exact hA q (Nat.le_trans hS.1 h)
  have hpre : ∀ U : State, U.heap = H → s.WarmedH U.vm → jPc As D kkx [] H.size As.toArray U := fun U hU hW => ⟨rfl, by rw [hU], by rw [hU]; exact hPc, va_K.moved hW.alike hK, hDc.weaken (fun _ _ _ _ => trivial), hN.warm hW, by rw [hU]; exact ((hZ.kept (fun a h1 h2 => hS.2.1 a h1 h2)).narrow hFc).moved hW.alike⟩
  refine va_callJ (va_runS (As := As) (rest := rest) ⟨hx, hb, hml, hown, hts⟩ (hM kkx l D H.size) ⟨callB_of n hts (Tw_good y1) rfl rfl rfl (ht _ y2 rfl) (ht _ hl rfl) ⟨y3, y4, y5⟩ hR1, ht _ hi rfl⟩ ⟨jPc_blind, hpre⟩ rfl hn hl'.1 rfl (lv_room hst) d hR2) hS (fun q _ h => hFc q h) hFc (fun v1 u H1 locs1 hp hP1 hD1 hk1 hS1 => ?_)
  subst hp
  exact k H1 locs1 ls (hP.kept (fun k9 q hq => hk1 q.1 (hP k9 q hq).lt (fun h => by
    rcases h with ⟨k2, e2, h⟩ | h
    · simp at h
    · exact absurd (hP k9 q hq).lt (by omega)))) hD hS1 hl'
theorem j_SN0 {X : jC} {cc : ByteArray} {own : String} {R : Room} {kk : Nat → Nat} {nL : Nat} (C : jF X cc own R kk nL) {ce sl : Nat} {w : va_W} {lv : List (Nat × Value)} {pc : Nat} {As rest st0 : List Value} {y : MethodName} {bytes : ByteArray} {maxL n index : Nat} {ret : Option FieldType} {rm : Room} {v : Value} (hM : jMp y bytes maxL ret rm As (some v)) (Y : jY y bytes maxL ret n) (hl : ∀ U : State, jN U → va_Nw (.methodLinkNest own index y "RainCans") U) (hi : Cond.static y ∈ lw_tbl) (hn : As.length = n) (hst : (rest.map fun v => v.category).sum ≤ 8) (hR1 : rm.frames + 1 ≤ R.frames ∧ 8 + (maxL + 11) + rm.locals ≤ R.locals) (hR2 : ce + rm.cells ≤ R.cells ∧ sl + rm.slots ≤ R.slots) (d : decode cc pc = .ok (.invokestatic index, 3)) (hstk : st0 = (As.reverse ++ rest))
    (k : J X (ce + rm.cells) (sl + rm.slots) w lv (pc + 3) (v :: rest)) : J X ce sl w lv pc st0 := by
  obtain ⟨p, l, e, R, s, m, args, below, meth, c, Q, D, kkx, A, nLx⟩ := X
  obtain ⟨hx, hb, hml, hown, hts, hK, hA, hN, hZ, hR, hkk, hnL, hlk⟩ := C
  subst hR hkk hnL
  subst hstk
  intro H locs ls hP hD hS hl'
  obtain ⟨y1, y2, y3, y4, y5⟩ := Y
  have ht : ∀ w ∈ lw_tbl, goodWord w = true → w.before args s = true := fun w h hg => hts w (Tg_of h hg)
  have hPc : va_P D vwCl ([] : va_W) H := fun k q h => by simp at h
  have hDc : va_D A ([] : va_W) := ⟨fun i j x y h => by simp at h, fun k q h => by simp at h⟩
  have hFc : ∀ q, va_A [] H.size q → A q := fun q h => by
    rcases h with ⟨k9, e9, h⟩ | h
    · exact hDc.2 k9 _ h
    · exact hA q (Nat.le_trans hS.1 h)
  have hpre : ∀ U : State, U.heap = H → s.WarmedH U.vm → jPc As D kkx [] H.size As.toArray U := fun U hU hW => ⟨rfl, by rw [hU], by rw [hU]; exact hPc, va_K.moved hW.alike hK, hDc.weaken (fun _ _ _ _ => trivial), hN.warm hW, by rw [hU]; exact ((hZ.kept (fun a h1 h2 => hS.2.1 a h1 h2)).narrow hFc).moved hW.alike⟩
  refine va_callJ (va_runSN (As := As) (rest := rest) ⟨hx, hb, hml, hown, hts⟩ (hM kkx l D H.size) ⟨va_cnB n hts (Tw_good y1) rfl rfl rfl (hl s hN) (ht _ y2 rfl) ⟨y3, y4, y5⟩ hR1, ht _ hi rfl, trivial⟩ ⟨jPc_blind, hpre⟩ rfl hn hl'.1 rfl (lv_room hst) d hR2) hS (fun q _ h => hFc q h) hFc (fun v1 u H1 locs1 hp hP1 hD1 hk1 hS1 => ?_)
  subst hp
  exact k H1 locs1 ls (hP.kept (fun k9 q hq => hk1 q.1 (hP k9 q hq).lt (fun h => by
    rcases h with ⟨k2, e2, h⟩ | h
    · simp at h
    · exact absurd (hP k9 q hq).lt (by omega)))) hD hS1 hl'
theorem j_V0 {X : jC} {cc : ByteArray} {own : String} {R : Room} {kk : Nat → Nat} {nL : Nat} (C : jF X cc own R kk nL) {ce sl : Nat} {w : va_W} {lv : List (Nat × Value)} {pc : Nat} {As rest st0 : List Value} {b : Nat} {y : MethodName} {bytes : ByteArray} {maxL n index : Nat} {ret : Option FieldType} {rm : Room} {v : Value} (hM : jMp y bytes maxL ret rm (.ref b :: As) (some v)) (Y : jY y bytes maxL ret n) (hl : Cond.methodLink own index y ∈ lw_tbl) (hi : Cond.instanceMethod y ∈ lw_tbl) (hs : Cond.selects y.cls y y ∈ lw_tbl) (q0 : Nat) {ci : Nat} {fs : List Value} {T : u_T} {N : Nat} (hc : vwCl[ci]? = some (y.cls, T, N)) (he : w[q0]? = some (b, .inr (ci, fs))) (hn : As.length = n) (hst : (rest.map fun v => v.category).sum ≤ 8) (hR1 : rm.frames + 1 ≤ R.frames ∧ 8 + (maxL + 11) + rm.locals ≤ R.locals) (hR2 : ce + rm.cells ≤ R.cells ∧ sl + rm.slots ≤ R.slots) (d : decode cc pc = .ok (.invokevirtual index, 3)) (hstk : st0 = (As.reverse ++ .ref b :: rest))
    (k : J X (ce + rm.cells) (sl + rm.slots) w lv (pc + 3) (v :: rest)) : J X ce sl w lv pc st0 := by
  obtain ⟨p, l, e, R, s, m, args, below, meth, c, Q, D, kkx, A, nLx⟩ := X
  obtain ⟨hx, hb, hml, hown, hts, hK, hA, hN, hZ, hR, hkk, hnL, hlk⟩ := C
  subst hR hkk hnL
  subst hstk
  intro H locs ls hP hD hS hl'
  obtain ⟨y1, y2, y3, y4, y5⟩ := Y
  have ht : ∀ w ∈ lw_tbl, goodWord w = true → w.before args s = true := fun w h hg => hts w (Tg_of h hg)
  have hPc : va_P D vwCl ([] : va_W) H := fun k q h => by simp at h
  have hDc : va_D A ([] : va_W) := ⟨fun i j x y h => by simp at h, fun k q h => by simp at h⟩
  have hFc : ∀ q, va_A [] H.size q → A q := fun q h => by
    rcases h with ⟨k9, e9, h⟩ | h
    · exact hDc.2 k9 _ h
    · exact hA q (Nat.le_trans hS.1 h)
  have hpre : ∀ U : State, U.heap = H → s.WarmedH U.vm → jPc (.ref b :: As) D kkx [] H.size (.ref b :: As).toArray U := fun U hU hW => ⟨rfl, by rw [hU], by rw [hU]; exact hPc, va_K.moved hW.alike hK, hDc.weaken (fun _ _ _ _ => trivial), hN.warm hW, by rw [hU]; exact ((hZ.kept (fun a h1 h2 => hS.2.1 a h1 h2)).narrow hFc).moved hW.alike⟩
  refine va_callJ (va_runV (As := As) (rest := rest) ⟨hx, hb, hml, hown, hts⟩ (hM kkx l D H.size) ⟨callB_of n hts (Tw_good y1) rfl rfl rfl (ht _ y2 rfl) (ht _ hl rfl) ⟨y3, y4, y5⟩ hR1, ht _ hi rfl, ht _ hs rfl⟩ ⟨jPc_blind, va_recv hK hP hc he, hpre⟩ rfl hn hl'.1 rfl (lv_room hst) d hR2) hS (fun q _ h => hFc q h) hFc (fun v1 u H1 locs1 hp hP1 hD1 hk1 hS1 => ?_)
  subst hp
  exact k H1 locs1 ls (hP.kept (fun k9 q hq => hk1 q.1 (hP k9 q hq).lt (fun h => by
    rcases h with ⟨k2, e2, h⟩ | h
    · simp at h
    · exact absurd (hP k9 q hq).lt (by omega)))) hD hS1 hl'
theorem j_iconst {X : jC} {cc : ByteArray} {own : String} {R : Room} {kk : Nat → Nat} {nL : Nat} (C : jF X cc own R kk nL) {ce sl : Nat} {w : va_W} {lv : List (Nat × Value)} {pc : Nat} {st : List Value} {n : Int} (v : Int32) (hv : Int32.ofInt n = v) (d : decode cc pc = .ok (.iconst n, 1)) (k : J X ce sl w lv (pc + 1) (.int v :: st)) : J X ce sl w lv pc (st) := by
  obtain ⟨p, l, e, R, s, m, args, below, meth, c, Q, D, kkx, A, nLx⟩ := X
  obtain ⟨hx, hb, hml, hown, hts, hK, hA, hN, hZ, hR, hkk, hnL, hlk⟩ := C
  subst hR hkk hnL
  exact fun H locs ls hP hD hS hl => lv_iconst hx hb d hv (k H locs ls hP hD hS hl)
theorem j_bipush {X : jC} {cc : ByteArray} {own : String} {R : Room} {kk : Nat → Nat} {nL : Nat} (C : jF X cc own R kk nL) {ce sl : Nat} {w : va_W} {lv : List (Nat × Value)} {pc : Nat} {st : List Value} {n : Int} (v : Int32) (hv : (Int8.ofInt n).toInt32 = v) (d : decode cc pc = .ok (.bipush n, 2)) (k : J X ce sl w lv (pc + 2) (.int v :: st)) : J X ce sl w lv pc (st) := by
  obtain ⟨p, l, e, R, s, m, args, below, meth, c, Q, D, kkx, A, nLx⟩ := X
  obtain ⟨hx, hb, hml, hown, hts, hK, hA, hN, hZ, hR, hkk, hnL, hlk⟩ := C
  subst hR hkk hnL
  exact fun H locs ls hP hD hS hl => lv_bipush hx hb d hv (k H locs ls hP hD hS hl)
theorem j_sipush {X : jC} {cc : ByteArray} {own : String} {R : Room} {kk : Nat → Nat} {nL : Nat} (C : jF X cc own R kk nL) {ce sl : Nat} {w : va_W} {lv : List (Nat × Value)} {pc : Nat} {st : List Value} {n : Int} (v : Int32) (hv : (Int16.ofInt n).toInt32 = v) (d : decode cc pc = .ok (.sipush n, 3)) (k : J X ce sl w lv (pc + 3) (.int v :: st)) : J X ce sl w lv pc (st) := by
  obtain ⟨p, l, e, R, s, m, args, below, meth, c, Q, D, kkx, A, nLx⟩ := X
  obtain ⟨hx, hb, hml, hown, hts, hK, hA, hN, hZ, hR, hkk, hnL, hlk⟩ := C
  subst hR hkk hnL
  exact fun H locs ls hP hD hS hl => lv_sipush hx hb d hv (k H locs ls hP hD hS hl)
theorem j_lconst {X : jC} {cc : ByteArray} {own : String} {R : Room} {kk : Nat → Nat} {nL : Nat} (C : jF X cc own R kk nL) {ce sl : Nat} {w : va_W} {lv : List (Nat × Value)} {pc : Nat} {st : List Value} {n : Fin 2} (v : Int64) (hv : Int64.ofNat (n : Nat) = v) (d : decode cc pc = .ok (.lconst n, 1)) (k : J X ce sl w lv (pc + 1) (.long v :: st)) : J X ce sl w lv pc (st) := by
  obtain ⟨p, l, e, R, s, m, args, below, meth, c, Q, D, kkx, A, nLx⟩ := X
  obtain ⟨hx, hb, hml, hown, hts, hK, hA, hN, hZ, hR, hkk, hnL, hlk⟩ := C
  subst hR hkk hnL
  exact fun H locs ls hP hD hS hl => lv_lconst hx hb d hv (k H locs ls hP hD hS hl)
theorem j_ldc {X : jC} {cc : ByteArray} {own : String} {R : Room} {kk : Nat → Nat} {nL : Nat} (C : jF X cc own R kk nL) {ce sl : Nat} {w : va_W} {lv : List (Nat × Value)} {pc : Nat} {st : List Value} {index : Nat} {v : Int32} (hc : Cond.constant own index v ∈ lw_tbl) (d : decode cc pc = .ok (.ldc index, 2)) (k : J X ce sl w lv (pc + 2) (.int v :: st)) : J X ce sl w lv pc (st) := by
  obtain ⟨p, l, e, R, s, m, args, below, meth, c, Q, D, kkx, A, nLx⟩ := X
  obtain ⟨hx, hb, hml, hown, hts, hK, hA, hN, hZ, hR, hkk, hnL, hlk⟩ := C
  subst hR hkk hnL
  exact fun H locs ls hP hD hS hl => lv_ldc hx hb hown (hts _ (Tg_of hc rfl)) d (k H locs ls hP hD hS hl)
theorem j_ldcw {X : jC} {cc : ByteArray} {own : String} {R : Room} {kk : Nat → Nat} {nL : Nat} (C : jF X cc own R kk nL) {ce sl : Nat} {w : va_W} {lv : List (Nat × Value)} {pc : Nat} {st : List Value} {index : Nat} {v : Int32} (hc : Cond.constant own index v ∈ lw_tbl) (d : decode cc pc = .ok (.ldc_w index, 3)) (k : J X ce sl w lv (pc + 3) (.int v :: st)) : J X ce sl w lv pc (st) := by
  obtain ⟨p, l, e, R, s, m, args, below, meth, c, Q, D, kkx, A, nLx⟩ := X
  obtain ⟨hx, hb, hml, hown, hts, hK, hA, hN, hZ, hR, hkk, hnL, hlk⟩ := C
  subst hR hkk hnL
  exact fun H locs ls hP hD hS hl => lv_ldcw hx hb hown (hts _ (Tg_of hc rfl)) d (k H locs ls hP hD hS hl)
theorem j_ldc2 {X : jC} {cc : ByteArray} {own : String} {R : Room} {kk : Nat → Nat} {nL : Nat} (C : jF X cc own R kk nL) {ce sl : Nat} {w : va_W} {lv : List (Nat × Value)} {pc : Nat} {st : List Value} {index : Nat} {v : Int64} (hc : Cond.constantLong own index v ∈ lw_tbl) (d : decode cc pc = .ok (.ldc2_w index, 3)) (k : J X ce sl w lv (pc + 3) (.long v :: st)) : J X ce sl w lv pc (st) := by
  obtain ⟨p, l, e, R, s, m, args, below, meth, c, Q, D, kkx, A, nLx⟩ := X
  obtain ⟨hx, hb, hml, hown, hts, hK, hA, hN, hZ, hR, hkk, hnL, hlk⟩ := C
  subst hR hkk hnL
  exact fun H locs ls hP hD hS hl => lv_ldc2 hx hb hown (hts _ (Tg_of hc rfl)) d (k H locs ls hP hD hS hl)
theorem j_iload_n {X : jC} {cc : ByteArray} {own : String} {R : Room} {kk : Nat → Nat} {nL : Nat} (C : jF X cc own R kk nL) {ce sl : Nat} {w : va_W} {lv : List (Nat × Value)} {pc : Nat} {st : List Value} {q : Fin 4} {x : Int32} (kq : Nat) (hq : lv[kq]? = some ((q : Nat), .int x)) (d : decode cc pc = .ok (.iload_n q, 1)) (k : J X ce sl w lv (pc + 1) (.int x :: st)) : J X ce sl w lv pc (st) := by
  obtain ⟨p, l, e, R, s, m, args, below, meth, c, Q, D, kkx, A, nLx⟩ := X
  obtain ⟨hx, hb, hml, hown, hts, hK, hA, hN, hZ, hR, hkk, hnL, hlk⟩ := C
  subst hR hkk hnL
  exact fun H locs ls hP hD hS hl => lv_iload_n hx hb d rfl (lv_at hl kq hq) (k H locs ls hP hD hS hl)
theorem j_iload {X : jC} {cc : ByteArray} {own : String} {R : Room} {kk : Nat → Nat} {nL : Nat} (C : jF X cc own R kk nL) {ce sl : Nat} {w : va_W} {lv : List (Nat × Value)} {pc : Nat} {st : List Value} {i : Nat} {x : Int32} (kq : Nat) (hq : lv[kq]? = some (i, .int x)) (d : decode cc pc = .ok (.iload i, 2)) (k : J X ce sl w lv (pc + 2) (.int x :: st)) : J X ce sl w lv pc (st) := by
  obtain ⟨p, l, e, R, s, m, args, below, meth, c, Q, D, kkx, A, nLx⟩ := X
  obtain ⟨hx, hb, hml, hown, hts, hK, hA, hN, hZ, hR, hkk, hnL, hlk⟩ := C
  subst hR hkk hnL
  exact fun H locs ls hP hD hS hl => lv_iload hx hb d (lv_at hl kq hq) (k H locs ls hP hD hS hl)
theorem j_lload_n {X : jC} {cc : ByteArray} {own : String} {R : Room} {kk : Nat → Nat} {nL : Nat} (C : jF X cc own R kk nL) {ce sl : Nat} {w : va_W} {lv : List (Nat × Value)} {pc : Nat} {st : List Value} {q : Fin 4} {x : Int64} (kq : Nat) (hq : lv[kq]? = some ((q : Nat), .long x)) (d : decode cc pc = .ok (.lload_n q, 1)) (k : J X ce sl w lv (pc + 1) (.long x :: st)) : J X ce sl w lv pc (st) := by
  obtain ⟨p, l, e, R, s, m, args, below, meth, c, Q, D, kkx, A, nLx⟩ := X
  obtain ⟨hx, hb, hml, hown, hts, hK, hA, hN, hZ, hR, hkk, hnL, hlk⟩ := C
  subst hR hkk hnL
  exact fun H locs ls hP hD hS hl => lv_lload_n hx hb d rfl (lv_at hl kq hq) (k H locs ls hP hD hS hl)
theorem j_lload {X : jC} {cc : ByteArray} {own : String} {R : Room} {kk : Nat → Nat} {nL : Nat} (C : jF X cc own R kk nL) {ce sl : Nat} {w : va_W} {lv : List (Nat × Value)} {pc : Nat} {st : List Value} {i : Nat} {x : Int64} (kq : Nat) (hq : lv[kq]? = some (i, .long x)) (d : decode cc pc = .ok (.lload i, 2)) (k : J X ce sl w lv (pc + 2) (.long x :: st)) : J X ce sl w lv pc (st) := by
  obtain ⟨p, l, e, R, s, m, args, below, meth, c, Q, D, kkx, A, nLx⟩ := X
  obtain ⟨hx, hb, hml, hown, hts, hK, hA, hN, hZ, hR, hkk, hnL, hlk⟩ := C
  subst hR hkk hnL
  exact fun H locs ls hP hD hS hl => lv_lload hx hb d (lv_at hl kq hq) (k H locs ls hP hD hS hl)
theorem j_aload_n {X : jC} {cc : ByteArray} {own : String} {R : Room} {kk : Nat → Nat} {nL : Nat} (C : jF X cc own R kk nL) {ce sl : Nat} {w : va_W} {lv : List (Nat × Value)} {pc : Nat} {st : List Value} {q : Fin 4} {x : Nat} (kq : Nat) (hq : lv[kq]? = some ((q : Nat), .ref x)) (d : decode cc pc = .ok (.aload_n q, 1)) (k : J X ce sl w lv (pc + 1) (.ref x :: st)) : J X ce sl w lv pc (st) := by
  obtain ⟨p, l, e, R, s, m, args, below, meth, c, Q, D, kkx, A, nLx⟩ := X
  obtain ⟨hx, hb, hml, hown, hts, hK, hA, hN, hZ, hR, hkk, hnL, hlk⟩ := C
  subst hR hkk hnL
  exact fun H locs ls hP hD hS hl => lv_aload_n hx hb d rfl (lv_at hl kq hq) (k H locs ls hP hD hS hl)
theorem j_aload {X : jC} {cc : ByteArray} {own : String} {R : Room} {kk : Nat → Nat} {nL : Nat} (C : jF X cc own R kk nL) {ce sl : Nat} {w : va_W} {lv : List (Nat × Value)} {pc : Nat} {st : List Value} {i : Nat} {x : Nat} (kq : Nat) (hq : lv[kq]? = some (i, .ref x)) (d : decode cc pc = .ok (.aload i, 2)) (k : J X ce sl w lv (pc + 2) (.ref x :: st)) : J X ce sl w lv pc (st) := by
  obtain ⟨p, l, e, R, s, m, args, below, meth, c, Q, D, kkx, A, nLx⟩ := X
  obtain ⟨hx, hb, hml, hown, hts, hK, hA, hN, hZ, hR, hkk, hnL, hlk⟩ := C
  subst hR hkk hnL
  exact fun H locs ls hP hD hS hl => lv_aload hx hb d (lv_at hl kq hq) (k H locs ls hP hD hS hl)
theorem j_iadd {X : jC} {cc : ByteArray} {own : String} {R : Room} {kk : Nat → Nat} {nL : Nat} (C : jF X cc own R kk nL) {ce sl : Nat} {w : va_W} {lv : List (Nat × Value)} {pc : Nat} {st : List Value} {x y : Int32}  (d : decode cc pc = .ok (.iadd, 1)) (k : J X ce sl w lv (pc + 1) (.int (x + y) :: st)) : J X ce sl w lv pc (.int y :: .int x :: st) := by
  obtain ⟨p, l, e, R, s, m, args, below, meth, c, Q, D, kkx, A, nLx⟩ := X
  obtain ⟨hx, hb, hml, hown, hts, hK, hA, hN, hZ, hR, hkk, hnL, hlk⟩ := C
  subst hR hkk hnL
  exact fun H locs ls hP hD hS hl => lv_iadd hx hb d (k H locs ls hP hD hS hl)
theorem j_isub {X : jC} {cc : ByteArray} {own : String} {R : Room} {kk : Nat → Nat} {nL : Nat} (C : jF X cc own R kk nL) {ce sl : Nat} {w : va_W} {lv : List (Nat × Value)} {pc : Nat} {st : List Value} {x y : Int32}  (d : decode cc pc = .ok (.isub, 1)) (k : J X ce sl w lv (pc + 1) (.int (x - y) :: st)) : J X ce sl w lv pc (.int y :: .int x :: st) := by
  obtain ⟨p, l, e, R, s, m, args, below, meth, c, Q, D, kkx, A, nLx⟩ := X
  obtain ⟨hx, hb, hml, hown, hts, hK, hA, hN, hZ, hR, hkk, hnL, hlk⟩ := C
  subst hR hkk hnL
  exact fun H locs ls hP hD hS hl => lv_isub hx hb d (k H locs ls hP hD hS hl)
theorem j_imul {X : jC} {cc : ByteArray} {own : String} {R : Room} {kk : Nat → Nat} {nL : Nat} (C : jF X cc own R kk nL) {ce sl : Nat} {w : va_W} {lv : List (Nat × Value)} {pc : Nat} {st : List Value} {x y : Int32}  (d : decode cc pc = .ok (.imul, 1)) (k : J X ce sl w lv (pc + 1) (.int (x * y) :: st)) : J X ce sl w lv pc (.int y :: .int x :: st) := by
  obtain ⟨p, l, e, R, s, m, args, below, meth, c, Q, D, kkx, A, nLx⟩ := X
  obtain ⟨hx, hb, hml, hown, hts, hK, hA, hN, hZ, hR, hkk, hnL, hlk⟩ := C
  subst hR hkk hnL
  exact fun H locs ls hP hD hS hl => lv_imul hx hb d (k H locs ls hP hD hS hl)
theorem j_iand {X : jC} {cc : ByteArray} {own : String} {R : Room} {kk : Nat → Nat} {nL : Nat} (C : jF X cc own R kk nL) {ce sl : Nat} {w : va_W} {lv : List (Nat × Value)} {pc : Nat} {st : List Value} {x y : Int32}  (d : decode cc pc = .ok (.iand, 1)) (k : J X ce sl w lv (pc + 1) (.int (x &&& y) :: st)) : J X ce sl w lv pc (.int y :: .int x :: st) := by
  obtain ⟨p, l, e, R, s, m, args, below, meth, c, Q, D, kkx, A, nLx⟩ := X
  obtain ⟨hx, hb, hml, hown, hts, hK, hA, hN, hZ, hR, hkk, hnL, hlk⟩ := C
  subst hR hkk hnL
  exact fun H locs ls hP hD hS hl => lv_iand hx hb d (k H locs ls hP hD hS hl)
theorem j_idiv {X : jC} {cc : ByteArray} {own : String} {R : Room} {kk : Nat → Nat} {nL : Nat} (C : jF X cc own R kk nL) {ce sl : Nat} {w : va_W} {lv : List (Nat × Value)} {pc : Nat} {st : List Value} {x y : Int32} (hne : ¬ y = 0) (d : decode cc pc = .ok (.idiv, 1)) (k : J X ce sl w lv (pc + 1) (.int (x / y) :: st)) : J X ce sl w lv pc (.int y :: .int x :: st) := by
  obtain ⟨p, l, e, R, s, m, args, below, meth, c, Q, D, kkx, A, nLx⟩ := X
  obtain ⟨hx, hb, hml, hown, hts, hK, hA, hN, hZ, hR, hkk, hnL, hlk⟩ := C
  subst hR hkk hnL
  exact fun H locs ls hP hD hS hl => lv_idiv hx hb d hne (k H locs ls hP hD hS hl)
theorem j_irem {X : jC} {cc : ByteArray} {own : String} {R : Room} {kk : Nat → Nat} {nL : Nat} (C : jF X cc own R kk nL) {ce sl : Nat} {w : va_W} {lv : List (Nat × Value)} {pc : Nat} {st : List Value} {x y : Int32} (hne : ¬ y = 0) (d : decode cc pc = .ok (.irem, 1)) (k : J X ce sl w lv (pc + 1) (.int (x - x / y * y) :: st)) : J X ce sl w lv pc (.int y :: .int x :: st) := by
  obtain ⟨p, l, e, R, s, m, args, below, meth, c, Q, D, kkx, A, nLx⟩ := X
  obtain ⟨hx, hb, hml, hown, hts, hK, hA, hN, hZ, hR, hkk, hnL, hlk⟩ := C
  subst hR hkk hnL
  exact fun H locs ls hP hD hS hl => lv_irem hx hb d hne (k H locs ls hP hD hS hl)
theorem j_ineg {X : jC} {cc : ByteArray} {own : String} {R : Room} {kk : Nat → Nat} {nL : Nat} (C : jF X cc own R kk nL) {ce sl : Nat} {w : va_W} {lv : List (Nat × Value)} {pc : Nat} {st : List Value} {x : Int32}  (d : decode cc pc = .ok (.ineg, 1)) (k : J X ce sl w lv (pc + 1) (.int (-x) :: st)) : J X ce sl w lv pc (.int x :: st) := by
  obtain ⟨p, l, e, R, s, m, args, below, meth, c, Q, D, kkx, A, nLx⟩ := X
  obtain ⟨hx, hb, hml, hown, hts, hK, hA, hN, hZ, hR, hkk, hnL, hlk⟩ := C
  subst hR hkk hnL
  exact fun H locs ls hP hD hS hl => lv_ineg hx hb d (k H locs ls hP hD hS hl)
theorem j_ladd {X : jC} {cc : ByteArray} {own : String} {R : Room} {kk : Nat → Nat} {nL : Nat} (C : jF X cc own R kk nL) {ce sl : Nat} {w : va_W} {lv : List (Nat × Value)} {pc : Nat} {st : List Value} {x y : Int64}  (d : decode cc pc = .ok (.ladd, 1)) (k : J X ce sl w lv (pc + 1) (.long (x + y) :: st)) : J X ce sl w lv pc (.long y :: .long x :: st) := by
  obtain ⟨p, l, e, R, s, m, args, below, meth, c, Q, D, kkx, A, nLx⟩ := X
  obtain ⟨hx, hb, hml, hown, hts, hK, hA, hN, hZ, hR, hkk, hnL, hlk⟩ := C
  subst hR hkk hnL
  exact fun H locs ls hP hD hS hl => lv_ladd hx hb d (k H locs ls hP hD hS hl)
theorem j_lsub {X : jC} {cc : ByteArray} {own : String} {R : Room} {kk : Nat → Nat} {nL : Nat} (C : jF X cc own R kk nL) {ce sl : Nat} {w : va_W} {lv : List (Nat × Value)} {pc : Nat} {st : List Value} {x y : Int64}  (d : decode cc pc = .ok (.lsub, 1)) (k : J X ce sl w lv (pc + 1) (.long (x - y) :: st)) : J X ce sl w lv pc (.long y :: .long x :: st) := by
  obtain ⟨p, l, e, R, s, m, args, below, meth, c, Q, D, kkx, A, nLx⟩ := X
  obtain ⟨hx, hb, hml, hown, hts, hK, hA, hN, hZ, hR, hkk, hnL, hlk⟩ := C
  subst hR hkk hnL
  exact fun H locs ls hP hD hS hl => lv_lsub hx hb d (k H locs ls hP hD hS hl)
theorem j_lmul {X : jC} {cc : ByteArray} {own : String} {R : Room} {kk : Nat → Nat} {nL : Nat} (C : jF X cc own R kk nL) {ce sl : Nat} {w : va_W} {lv : List (Nat × Value)} {pc : Nat} {st : List Value} {x y : Int64}  (d : decode cc pc = .ok (.lmul, 1)) (k : J X ce sl w lv (pc + 1) (.long (x * y) :: st)) : J X ce sl w lv pc (.long y :: .long x :: st) := by
  obtain ⟨p, l, e, R, s, m, args, below, meth, c, Q, D, kkx, A, nLx⟩ := X
  obtain ⟨hx, hb, hml, hown, hts, hK, hA, hN, hZ, hR, hkk, hnL, hlk⟩ := C
  subst hR hkk hnL
  exact fun H locs ls hP hD hS hl => lv_lmul hx hb d (k H locs ls hP hD hS hl)
theorem j_ldiv {X : jC} {cc : ByteArray} {own : String} {R : Room} {kk : Nat → Nat} {nL : Nat} (C : jF X cc own R kk nL) {ce sl : Nat} {w : va_W} {lv : List (Nat × Value)} {pc : Nat} {st : List Value} {x y : Int64} (hne : ¬ y = 0) (d : decode cc pc = .ok (.ldiv, 1)) (k : J X ce sl w lv (pc + 1) (.long (x / y) :: st)) : J X ce sl w lv pc (.long y :: .long x :: st) := by
  obtain ⟨p, l, e, R, s, m, args, below, meth, c, Q, D, kkx, A, nLx⟩ := X
  obtain ⟨hx, hb, hml, hown, hts, hK, hA, hN, hZ, hR, hkk, hnL, hlk⟩ := C
  subst hR hkk hnL
  exact fun H locs ls hP hD hS hl => lv_ldiv hx hb d hne (k H locs ls hP hD hS hl)
theorem j_lrem {X : jC} {cc : ByteArray} {own : String} {R : Room} {kk : Nat → Nat} {nL : Nat} (C : jF X cc own R kk nL) {ce sl : Nat} {w : va_W} {lv : List (Nat × Value)} {pc : Nat} {st : List Value} {x y : Int64} (hne : ¬ y = 0) (d : decode cc pc = .ok (.lrem, 1)) (k : J X ce sl w lv (pc + 1) (.long (x - x / y * y) :: st)) : J X ce sl w lv pc (.long y :: .long x :: st) := by
  obtain ⟨p, l, e, R, s, m, args, below, meth, c, Q, D, kkx, A, nLx⟩ := X
  obtain ⟨hx, hb, hml, hown, hts, hK, hA, hN, hZ, hR, hkk, hnL, hlk⟩ := C
  subst hR hkk hnL
  exact fun H locs ls hP hD hS hl => lv_lrem hx hb d hne (k H locs ls hP hD hS hl)
theorem j_lneg {X : jC} {cc : ByteArray} {own : String} {R : Room} {kk : Nat → Nat} {nL : Nat} (C : jF X cc own R kk nL) {ce sl : Nat} {w : va_W} {lv : List (Nat × Value)} {pc : Nat} {st : List Value} {x : Int64}  (d : decode cc pc = .ok (.lneg, 1)) (k : J X ce sl w lv (pc + 1) (.long (-x) :: st)) : J X ce sl w lv pc (.long x :: st) := by
  obtain ⟨p, l, e, R, s, m, args, below, meth, c, Q, D, kkx, A, nLx⟩ := X
  obtain ⟨hx, hb, hml, hown, hts, hK, hA, hN, hZ, hR, hkk, hnL, hlk⟩ := C
  subst hR hkk hnL
  exact fun H locs ls hP hD hS hl => lv_lneg hx hb d (k H locs ls hP hD hS hl)
theorem j_i2l {X : jC} {cc : ByteArray} {own : String} {R : Room} {kk : Nat → Nat} {nL : Nat} (C : jF X cc own R kk nL) {ce sl : Nat} {w : va_W} {lv : List (Nat × Value)} {pc : Nat} {st : List Value} {x : Int32}  (d : decode cc pc = .ok (.i2l, 1)) (k : J X ce sl w lv (pc + 1) (.long x.toInt64 :: st)) : J X ce sl w lv pc (.int x :: st) := by
  obtain ⟨p, l, e, R, s, m, args, below, meth, c, Q, D, kkx, A, nLx⟩ := X
  obtain ⟨hx, hb, hml, hown, hts, hK, hA, hN, hZ, hR, hkk, hnL, hlk⟩ := C
  subst hR hkk hnL
  exact fun H locs ls hP hD hS hl => lv_i2l hx hb d rfl (k H locs ls hP hD hS hl)
theorem j_l2i {X : jC} {cc : ByteArray} {own : String} {R : Room} {kk : Nat → Nat} {nL : Nat} (C : jF X cc own R kk nL) {ce sl : Nat} {w : va_W} {lv : List (Nat × Value)} {pc : Nat} {st : List Value} {x : Int64}  (d : decode cc pc = .ok (.l2i, 1)) (k : J X ce sl w lv (pc + 1) (.int x.toInt32 :: st)) : J X ce sl w lv pc (.long x :: st) := by
  obtain ⟨p, l, e, R, s, m, args, below, meth, c, Q, D, kkx, A, nLx⟩ := X
  obtain ⟨hx, hb, hml, hown, hts, hK, hA, hN, hZ, hR, hkk, hnL, hlk⟩ := C
  subst hR hkk hnL
  exact fun H locs ls hP hD hS hl => lv_l2i hx hb d rfl (k H locs ls hP hD hS hl)
theorem j_lcmp {X : jC} {cc : ByteArray} {own : String} {R : Room} {kk : Nat → Nat} {nL : Nat} (C : jF X cc own R kk nL) {ce sl : Nat} {w : va_W} {lv : List (Nat × Value)} {pc : Nat} {st : List Value} {x y : Int64}  (d : decode cc pc = .ok (.lcmp, 1)) (k : J X ce sl w lv (pc + 1) (.int (lg_cmp x y) :: st)) : J X ce sl w lv pc (.long y :: .long x :: st) := by
  obtain ⟨p, l, e, R, s, m, args, below, meth, c, Q, D, kkx, A, nLx⟩ := X
  obtain ⟨hx, hb, hml, hown, hts, hK, hA, hN, hZ, hR, hkk, hnL, hlk⟩ := C
  subst hR hkk hnL
  exact fun H locs ls hP hD hS hl => W.lcmp hx hb d (k H locs ls hP hD hS hl)
theorem j_dup {X : jC} {cc : ByteArray} {own : String} {R : Room} {kk : Nat → Nat} {nL : Nat} (C : jF X cc own R kk nL) {ce sl : Nat} {w : va_W} {lv : List (Nat × Value)} {pc : Nat} {st : List Value} {v : Value} (hv : v.category = 1) (d : decode cc pc = .ok (.dup, 1)) (k : J X ce sl w lv (pc + 1) (v :: v :: st)) : J X ce sl w lv pc (v :: st) := by
  obtain ⟨p, l, e, R, s, m, args, below, meth, c, Q, D, kkx, A, nLx⟩ := X
  obtain ⟨hx, hb, hml, hown, hts, hK, hA, hN, hZ, hR, hkk, hnL, hlk⟩ := C
  subst hR hkk hnL
  exact fun H locs ls hP hD hS hl => lv_dup hx hb d hv (k H locs ls hP hD hS hl)
theorem j_dup2 {X : jC} {cc : ByteArray} {own : String} {R : Room} {kk : Nat → Nat} {nL : Nat} (C : jF X cc own R kk nL) {ce sl : Nat} {w : va_W} {lv : List (Nat × Value)} {pc : Nat} {st : List Value} {v u : Value} (hv : v.category = 1) (hu : u.category = 1) (d : decode cc pc = .ok (.dup2, 1)) (k : J X ce sl w lv (pc + 1) (v :: u :: v :: u :: st)) : J X ce sl w lv pc (v :: u :: st) := by
  obtain ⟨p, l, e, R, s, m, args, below, meth, c, Q, D, kkx, A, nLx⟩ := X
  obtain ⟨hx, hb, hml, hown, hts, hK, hA, hN, hZ, hR, hkk, hnL, hlk⟩ := C
  subst hR hkk hnL
  exact fun H locs ls hP hD hS hl => lv_dup2_11 hx hb d hv hu (k H locs ls hP hD hS hl)
theorem j_istore_n {X : jC} {cc : ByteArray} {own : String} {R : Room} {kk : Nat → Nat} {nL : Nat} (C : jF X cc own R kk nL) {ce sl : Nat} {w : va_W} {lv : List (Nat × Value)} {pc : Nat} {st : List Value} {q : Fin 4} {x : Int32} {i : Nat} (lv' : List (Nat × Value)) (hi : (q : Nat) = i) (hn : i < nL) (hl' : (i, Value.int x) :: lv.filter (fun q => !(q.1 == i) && !(q.1 + 1 == i && q.2.category == 2)) = lv') (d : decode cc pc = .ok (.istore_n q, 1)) (k : J X ce sl w lv' (pc + 1) st) : J X ce sl w lv pc (.int x :: st) := by
  obtain ⟨p, l, e, R, s, m, args, below, meth, c, Q, D, kkx, A, nLx⟩ := X
  obtain ⟨hx, hb, hml, hown, hts, hK, hA, hN, hZ, hR, hkk, hnL, hlk⟩ := C
  subst hR hkk hnL
  exact fun H locs ls hP hD hS hl => lv_istore_n hx hb d hi hl hn hl' (fun ls' h' => k H locs ls' hP hD hS h')
theorem j_istore {X : jC} {cc : ByteArray} {own : String} {R : Room} {kk : Nat → Nat} {nL : Nat} (C : jF X cc own R kk nL) {ce sl : Nat} {w : va_W} {lv : List (Nat × Value)} {pc : Nat} {st : List Value} {x : Int32} {i : Nat} (lv' : List (Nat × Value)) (hn : i < nL) (hl' : (i, Value.int x) :: lv.filter (fun q => !(q.1 == i) && !(q.1 + 1 == i && q.2.category == 2)) = lv') (d : decode cc pc = .ok (.istore i, 2)) (k : J X ce sl w lv' (pc + 2) st) : J X ce sl w lv pc (.int x :: st) := by
  obtain ⟨p, l, e, R, s, m, args, below, meth, c, Q, D, kkx, A, nLx⟩ := X
  obtain ⟨hx, hb, hml, hown, hts, hK, hA, hN, hZ, hR, hkk, hnL, hlk⟩ := C
  subst hR hkk hnL
  exact fun H locs ls hP hD hS hl => lv_istore hx hb d hl hn hl' (fun ls' h' => k H locs ls' hP hD hS h')
theorem j_astore_n {X : jC} {cc : ByteArray} {own : String} {R : Room} {kk : Nat → Nat} {nL : Nat} (C : jF X cc own R kk nL) {ce sl : Nat} {w : va_W} {lv : List (Nat × Value)} {pc : Nat} {st : List Value} {q : Fin 4} {x : Nat} {i : Nat} (lv' : List (Nat × Value)) (hi : (q : Nat) = i) (hn : i < nL) (hl' : (i, Value.ref x) :: lv.filter (fun q => !(q.1 == i) && !(q.1 + 1 == i && q.2.category == 2)) = lv') (d : decode cc pc = .ok (.astore_n q, 1)) (k : J X ce sl w lv' (pc + 1) st) : J X ce sl w lv pc (.ref x :: st) := by
  obtain ⟨p, l, e, R, s, m, args, below, meth, c, Q, D, kkx, A, nLx⟩ := X
  obtain ⟨hx, hb, hml, hown, hts, hK, hA, hN, hZ, hR, hkk, hnL, hlk⟩ := C
  subst hR hkk hnL
  exact fun H locs ls hP hD hS hl => lv_astore_n hx hb d hi hl hn hl' (fun ls' h' => k H locs ls' hP hD hS h')
theorem j_astore {X : jC} {cc : ByteArray} {own : String} {R : Room} {kk : Nat → Nat} {nL : Nat} (C : jF X cc own R kk nL) {ce sl : Nat} {w : va_W} {lv : List (Nat × Value)} {pc : Nat} {st : List Value} {x : Nat} {i : Nat} (lv' : List (Nat × Value)) (hn : i < nL) (hl' : (i, Value.ref x) :: lv.filter (fun q => !(q.1 == i) && !(q.1 + 1 == i && q.2.category == 2)) = lv') (d : decode cc pc = .ok (.astore i, 2)) (k : J X ce sl w lv' (pc + 2) st) : J X ce sl w lv pc (.ref x :: st) := by
  obtain ⟨p, l, e, R, s, m, args, below, meth, c, Q, D, kkx, A, nLx⟩ := X
  obtain ⟨hx, hb, hml, hown, hts, hK, hA, hN, hZ, hR, hkk, hnL, hlk⟩ := C
  subst hR hkk hnL
  exact fun H locs ls hP hD hS hl => lv_astore hx hb d hl hn hl' (fun ls' h' => k H locs ls' hP hD hS h')
theorem j_lstore_n {X : jC} {cc : ByteArray} {own : String} {R : Room} {kk : Nat → Nat} {nL : Nat} (C : jF X cc own R kk nL) {ce sl : Nat} {w : va_W} {lv : List (Nat × Value)} {pc : Nat} {st : List Value} {q : Fin 4} {x : Int64} {i : Nat} (lv' : List (Nat × Value)) (hi : (q : Nat) = i) (hn : i + 1 < nL) (hl' : (i, Value.long x) :: lv.filter (fun q => !(q.1 == i) && (!(q.1 == i + 1) && !(q.1 + 1 == i && q.2.category == 2))) = lv') (d : decode cc pc = .ok (.lstore_n q, 1)) (k : J X ce sl w lv' (pc + 1) st) : J X ce sl w lv pc (.long x :: st) := by
  obtain ⟨p, l, e, R, s, m, args, below, meth, c, Q, D, kkx, A, nLx⟩ := X
  obtain ⟨hx, hb, hml, hown, hts, hK, hA, hN, hZ, hR, hkk, hnL, hlk⟩ := C
  subst hR hkk hnL
  exact fun H locs ls hP hD hS hl => lv_lstore_n hx hb d hi hl hn hl' (fun ls' h' => k H locs ls' hP hD hS h')
theorem j_lstore {X : jC} {cc : ByteArray} {own : String} {R : Room} {kk : Nat → Nat} {nL : Nat} (C : jF X cc own R kk nL) {ce sl : Nat} {w : va_W} {lv : List (Nat × Value)} {pc : Nat} {st : List Value} {x : Int64} {i : Nat} (lv' : List (Nat × Value)) (hn : i + 1 < nL) (hl' : (i, Value.long x) :: lv.filter (fun q => !(q.1 == i) && (!(q.1 == i + 1) && !(q.1 + 1 == i && q.2.category == 2))) = lv') (d : decode cc pc = .ok (.lstore i, 2)) (k : J X ce sl w lv' (pc + 2) st) : J X ce sl w lv pc (.long x :: st) := by
  obtain ⟨p, l, e, R, s, m, args, below, meth, c, Q, D, kkx, A, nLx⟩ := X
  obtain ⟨hx, hb, hml, hown, hts, hK, hA, hN, hZ, hR, hkk, hnL, hlk⟩ := C
  subst hR hkk hnL
  exact fun H locs ls hP hD hS hl => lv_lstore hx hb d hl hn hl' (fun ls' h' => k H locs ls' hP hD hS h')
theorem j_iinc {X : jC} {cc : ByteArray} {own : String} {R : Room} {kk : Nat → Nat} {nL : Nat} (C : jF X cc own R kk nL) {ce sl : Nat} {w : va_W} {lv : List (Nat × Value)} {pc : Nat} {st : List Value} {x : Int32} {i : Nat} {n : Int} (v : Int32) (lv' : List (Nat × Value)) (kq : Nat) (hq : lv[kq]? = some (i, .int x)) (hv : x + Int32.ofInt n = v) (hn : i < nL) (hl' : (i, Value.int v) :: lv.filter (fun q => !(q.1 == i) && !(q.1 + 1 == i && q.2.category == 2)) = lv') (d : decode cc pc = .ok (.iinc i n, 3)) (k : J X ce sl w lv' (pc + 3) st) : J X ce sl w lv pc st := by
  obtain ⟨p, l, e, R, s, m, args, below, meth, c, Q, D, kkx, A, nLx⟩ := X
  obtain ⟨hx, hb, hml, hown, hts, hK, hA, hN, hZ, hR, hkk, hnL, hlk⟩ := C
  subst hR hkk hnL
  exact fun H locs ls hP hD hS hl => lv_iinc hx hb d hl hq hv hn hl' (fun ls' h' => k H locs ls' hP hD hS h')
theorem j_sub {X : jC} {ce sl : Nat} {w : va_W} {lv lv' : List (Nat × Value)} {pc : Nat} {st : List Value} (ks : List Nat) (h : lv_pick lv ks = lv') (k : J X ce sl w lv' pc st) : J X ce sl w lv pc st := by
  obtain ⟨p, l, e, R, s, m, args, below, meth, c, Q, D, kkx, A, nLx⟩ := X
  exact fun H locs ls hP hD hS hl => k H locs ls hP hD hS (lv_sub hl ks h)
theorem j_perm {X : jC} {ce sl : Nat} {w w' : va_W} {lv : List (Nat × Value)} {pc : Nat} {st : List Value} (is : List Nat) (hn : va_nd is = true) (h : is.map (fun i => w[i]?) = w'.map some) (k : J X ce sl w' lv pc st) : J X ce sl w lv pc st := by
  obtain ⟨p, l, e, R, s, m, args, below, meth, c, Q, D, kkx, A, nLx⟩ := X
  refine fun H locs ls hP hD hS hl => k H locs ls (hP.sub is ?_) (hD.sub is hn h) hS hl
  have e : is.filterMap (fun i => w[i]?) = (is.map (fun i => w[i]?)).filterMap id := by simp [List.filterMap_map]
  rw [e, h]
  simp
theorem j_widen {X : jC} {ce sl ce' sl' : Nat} {w : va_W} {lv : List (Nat × Value)} {pc : Nat} {st : List Value} (h1 : ce ≤ ce') (h2 : sl ≤ sl') (k : J X ce' sl' w lv pc st) : J X ce sl w lv pc st := by
  obtain ⟨p, l, e, R, s, m, args, below, meth, c, Q, D, kkx, A, nLx⟩ := X
  exact fun H locs ls hP hD hS hl => W.widen h1 h2 (k H locs ls hP hD hS hl)
theorem j_if_eq {X : jC} {cc : ByteArray} {own : String} {R : Room} {kk : Nat → Nat} {nL : Nat} (C : jF X cc own R kk nL) {ce sl : Nat} {w : va_W} {lv : List (Nat × Value)} {pc : Nat} {st : List Value} {x : Int32} {off : Int} (tgt : Nat) (ht : (pc : Int) + off = (tgt : Int)) (d : decode cc pc = .ok (.ifCond .eq off, 3)) (kt : x = 0 → J X ce sl w lv tgt st) (kf : ¬ x = 0 → J X ce sl w lv (pc + 3) st) : J X ce sl w lv pc (.int x :: st) := by
  obtain ⟨p, l, e, R, s, m, args, below, meth, c, Q, D, kkx, A, nLx⟩ := X
  obtain ⟨hx, hb, hml, hown, hts, hK, hA, hN, hZ, hR, hkk, hnL, hlk⟩ := C
  subst hR hkk hnL
  exact fun H locs ls hP hD hS hl => lv_if_eq hx hb d ht (fun h => kt h H locs ls hP hD hS hl) (fun h => kf h H locs ls hP hD hS hl)
theorem j_icmp_eq {X : jC} {cc : ByteArray} {own : String} {R : Room} {kk : Nat → Nat} {nL : Nat} (C : jF X cc own R kk nL) {ce sl : Nat} {w : va_W} {lv : List (Nat × Value)} {pc : Nat} {st : List Value} {x y : Int32} {off : Int} (tgt : Nat) (ht : (pc : Int) + off = (tgt : Int)) (d : decode cc pc = .ok (.if_icmp .eq off, 3)) (kt : x = y → J X ce sl w lv tgt st) (kf : ¬ x = y → J X ce sl w lv (pc + 3) st) : J X ce sl w lv pc (.int y :: .int x :: st) := by
  obtain ⟨p, l, e, R, s, m, args, below, meth, c, Q, D, kkx, A, nLx⟩ := X
  obtain ⟨hx, hb, hml, hown, hts, hK, hA, hN, hZ, hR, hkk, hnL, hlk⟩ := C
  subst hR hkk hnL
  exact fun H locs ls hP hD hS hl => lv_icmp_eq hx hb d ht (fun h => kt h H locs ls hP hD hS hl) (fun h => kf h H locs ls hP hD hS hl)
theorem j_if_ne {X : jC} {cc : ByteArray} {own : String} {R : Room} {kk : Nat → Nat} {nL : Nat} (C : jF X cc own R kk nL) {ce sl : Nat} {w : va_W} {lv : List (Nat × Value)} {pc : Nat} {st : List Value} {x : Int32} {off : Int} (tgt : Nat) (ht : (pc : Int) + off = (tgt : Int)) (d : decode cc pc = .ok (.ifCond .ne off, 3)) (kt : ¬ x = 0 → J X ce sl w lv tgt st) (kf : x = 0 → J X ce sl w lv (pc + 3) st) : J X ce sl w lv pc (.int x :: st) := by
  obtain ⟨p, l, e, R, s, m, args, below, meth, c, Q, D, kkx, A, nLx⟩ := X
  obtain ⟨hx, hb, hml, hown, hts, hK, hA, hN, hZ, hR, hkk, hnL, hlk⟩ := C
  subst hR hkk hnL
  exact fun H locs ls hP hD hS hl => lv_if_ne hx hb d ht (fun h => kt h H locs ls hP hD hS hl) (fun h => kf h H locs ls hP hD hS hl)
theorem j_icmp_ne {X : jC} {cc : ByteArray} {own : String} {R : Room} {kk : Nat → Nat} {nL : Nat} (C : jF X cc own R kk nL) {ce sl : Nat} {w : va_W} {lv : List (Nat × Value)} {pc : Nat} {st : List Value} {x y : Int32} {off : Int} (tgt : Nat) (ht : (pc : Int) + off = (tgt : Int)) (d : decode cc pc = .ok (.if_icmp .ne off, 3)) (kt : ¬ x = y → J X ce sl w lv tgt st) (kf : x = y → J X ce sl w lv (pc + 3) st) : J X ce sl w lv pc (.int y :: .int x :: st) := by
  obtain ⟨p, l, e, R, s, m, args, below, meth, c, Q, D, kkx, A, nLx⟩ := X
  obtain ⟨hx, hb, hml, hown, hts, hK, hA, hN, hZ, hR, hkk, hnL, hlk⟩ := C
  subst hR hkk hnL
  exact fun H locs ls hP hD hS hl => lv_icmp_ne hx hb d ht (fun h => kt h H locs ls hP hD hS hl) (fun h => kf h H locs ls hP hD hS hl)
theorem j_if_lt {X : jC} {cc : ByteArray} {own : String} {R : Room} {kk : Nat → Nat} {nL : Nat} (C : jF X cc own R kk nL) {ce sl : Nat} {w : va_W} {lv : List (Nat × Value)} {pc : Nat} {st : List Value} {x : Int32} {off : Int} (tgt : Nat) (ht : (pc : Int) + off = (tgt : Int)) (d : decode cc pc = .ok (.ifCond .lt off, 3)) (kt : x < 0 → J X ce sl w lv tgt st) (kf : ¬ x < 0 → J X ce sl w lv (pc + 3) st) : J X ce sl w lv pc (.int x :: st) := by
  obtain ⟨p, l, e, R, s, m, args, below, meth, c, Q, D, kkx, A, nLx⟩ := X
  obtain ⟨hx, hb, hml, hown, hts, hK, hA, hN, hZ, hR, hkk, hnL, hlk⟩ := C
  subst hR hkk hnL
  exact fun H locs ls hP hD hS hl => lv_if_lt hx hb d ht (fun h => kt h H locs ls hP hD hS hl) (fun h => kf h H locs ls hP hD hS hl)
theorem j_icmp_lt {X : jC} {cc : ByteArray} {own : String} {R : Room} {kk : Nat → Nat} {nL : Nat} (C : jF X cc own R kk nL) {ce sl : Nat} {w : va_W} {lv : List (Nat × Value)} {pc : Nat} {st : List Value} {x y : Int32} {off : Int} (tgt : Nat) (ht : (pc : Int) + off = (tgt : Int)) (d : decode cc pc = .ok (.if_icmp .lt off, 3)) (kt : x < y → J X ce sl w lv tgt st) (kf : ¬ x < y → J X ce sl w lv (pc + 3) st) : J X ce sl w lv pc (.int y :: .int x :: st) := by
  obtain ⟨p, l, e, R, s, m, args, below, meth, c, Q, D, kkx, A, nLx⟩ := X
  obtain ⟨hx, hb, hml, hown, hts, hK, hA, hN, hZ, hR, hkk, hnL, hlk⟩ := C
  subst hR hkk hnL
  exact fun H locs ls hP hD hS hl => lv_icmp_lt hx hb d ht (fun h => kt h H locs ls hP hD hS hl) (fun h => kf h H locs ls hP hD hS hl)
theorem j_if_ge {X : jC} {cc : ByteArray} {own : String} {R : Room} {kk : Nat → Nat} {nL : Nat} (C : jF X cc own R kk nL) {ce sl : Nat} {w : va_W} {lv : List (Nat × Value)} {pc : Nat} {st : List Value} {x : Int32} {off : Int} (tgt : Nat) (ht : (pc : Int) + off = (tgt : Int)) (d : decode cc pc = .ok (.ifCond .ge off, 3)) (kt : 0 ≤ x → J X ce sl w lv tgt st) (kf : ¬ 0 ≤ x → J X ce sl w lv (pc + 3) st) : J X ce sl w lv pc (.int x :: st) := by
  obtain ⟨p, l, e, R, s, m, args, below, meth, c, Q, D, kkx, A, nLx⟩ := X
  obtain ⟨hx, hb, hml, hown, hts, hK, hA, hN, hZ, hR, hkk, hnL, hlk⟩ := C
  subst hR hkk hnL
  exact fun H locs ls hP hD hS hl => lv_if_ge hx hb d ht (fun h => kt h H locs ls hP hD hS hl) (fun h => kf h H locs ls hP hD hS hl)
theorem j_icmp_ge {X : jC} {cc : ByteArray} {own : String} {R : Room} {kk : Nat → Nat} {nL : Nat} (C : jF X cc own R kk nL) {ce sl : Nat} {w : va_W} {lv : List (Nat × Value)} {pc : Nat} {st : List Value} {x y : Int32} {off : Int} (tgt : Nat) (ht : (pc : Int) + off = (tgt : Int)) (d : decode cc pc = .ok (.if_icmp .ge off, 3)) (kt : y ≤ x → J X ce sl w lv tgt st) (kf : ¬ y ≤ x → J X ce sl w lv (pc + 3) st) : J X ce sl w lv pc (.int y :: .int x :: st) := by
  obtain ⟨p, l, e, R, s, m, args, below, meth, c, Q, D, kkx, A, nLx⟩ := X
  obtain ⟨hx, hb, hml, hown, hts, hK, hA, hN, hZ, hR, hkk, hnL, hlk⟩ := C
  subst hR hkk hnL
  exact fun H locs ls hP hD hS hl => lv_icmp_ge hx hb d ht (fun h => kt h H locs ls hP hD hS hl) (fun h => kf h H locs ls hP hD hS hl)
theorem j_if_gt {X : jC} {cc : ByteArray} {own : String} {R : Room} {kk : Nat → Nat} {nL : Nat} (C : jF X cc own R kk nL) {ce sl : Nat} {w : va_W} {lv : List (Nat × Value)} {pc : Nat} {st : List Value} {x : Int32} {off : Int} (tgt : Nat) (ht : (pc : Int) + off = (tgt : Int)) (d : decode cc pc = .ok (.ifCond .gt off, 3)) (kt : 0 < x → J X ce sl w lv tgt st) (kf : ¬ 0 < x → J X ce sl w lv (pc + 3) st) : J X ce sl w lv pc (.int x :: st) := by
  obtain ⟨p, l, e, R, s, m, args, below, meth, c, Q, D, kkx, A, nLx⟩ := X
  obtain ⟨hx, hb, hml, hown, hts, hK, hA, hN, hZ, hR, hkk, hnL, hlk⟩ := C
  subst hR hkk hnL
  exact fun H locs ls hP hD hS hl => lv_if_gt hx hb d ht (fun h => kt h H locs ls hP hD hS hl) (fun h => kf h H locs ls hP hD hS hl)
theorem j_icmp_gt {X : jC} {cc : ByteArray} {own : String} {R : Room} {kk : Nat → Nat} {nL : Nat} (C : jF X cc own R kk nL) {ce sl : Nat} {w : va_W} {lv : List (Nat × Value)} {pc : Nat} {st : List Value} {x y : Int32} {off : Int} (tgt : Nat) (ht : (pc : Int) + off = (tgt : Int)) (d : decode cc pc = .ok (.if_icmp .gt off, 3)) (kt : y < x → J X ce sl w lv tgt st) (kf : ¬ y < x → J X ce sl w lv (pc + 3) st) : J X ce sl w lv pc (.int y :: .int x :: st) := by
  obtain ⟨p, l, e, R, s, m, args, below, meth, c, Q, D, kkx, A, nLx⟩ := X
  obtain ⟨hx, hb, hml, hown, hts, hK, hA, hN, hZ, hR, hkk, hnL, hlk⟩ := C
  subst hR hkk hnL
  exact fun H locs ls hP hD hS hl => lv_icmp_gt hx hb d ht (fun h => kt h H locs ls hP hD hS hl) (fun h => kf h H locs ls hP hD hS hl)
theorem j_if_le {X : jC} {cc : ByteArray} {own : String} {R : Room} {kk : Nat → Nat} {nL : Nat} (C : jF X cc own R kk nL) {ce sl : Nat} {w : va_W} {lv : List (Nat × Value)} {pc : Nat} {st : List Value} {x : Int32} {off : Int} (tgt : Nat) (ht : (pc : Int) + off = (tgt : Int)) (d : decode cc pc = .ok (.ifCond .le off, 3)) (kt : x ≤ 0 → J X ce sl w lv tgt st) (kf : ¬ x ≤ 0 → J X ce sl w lv (pc + 3) st) : J X ce sl w lv pc (.int x :: st) := by
  obtain ⟨p, l, e, R, s, m, args, below, meth, c, Q, D, kkx, A, nLx⟩ := X
  obtain ⟨hx, hb, hml, hown, hts, hK, hA, hN, hZ, hR, hkk, hnL, hlk⟩ := C
  subst hR hkk hnL
  exact fun H locs ls hP hD hS hl => lv_if_le hx hb d ht (fun h => kt h H locs ls hP hD hS hl) (fun h => kf h H locs ls hP hD hS hl)
theorem j_icmp_le {X : jC} {cc : ByteArray} {own : String} {R : Room} {kk : Nat → Nat} {nL : Nat} (C : jF X cc own R kk nL) {ce sl : Nat} {w : va_W} {lv : List (Nat × Value)} {pc : Nat} {st : List Value} {x y : Int32} {off : Int} (tgt : Nat) (ht : (pc : Int) + off = (tgt : Int)) (d : decode cc pc = .ok (.if_icmp .le off, 3)) (kt : x ≤ y → J X ce sl w lv tgt st) (kf : ¬ x ≤ y → J X ce sl w lv (pc + 3) st) : J X ce sl w lv pc (.int y :: .int x :: st) := by
  obtain ⟨p, l, e, R, s, m, args, below, meth, c, Q, D, kkx, A, nLx⟩ := X
  obtain ⟨hx, hb, hml, hown, hts, hK, hA, hN, hZ, hR, hkk, hnL, hlk⟩ := C
  subst hR hkk hnL
  exact fun H locs ls hP hD hS hl => lv_icmp_le hx hb d ht (fun h => kt h H locs ls hP hD hS hl) (fun h => kf h H locs ls hP hD hS hl)
theorem j_goto {X : jC} {cc : ByteArray} {own : String} {R : Room} {kk : Nat → Nat} {nL : Nat} (C : jF X cc own R kk nL) {ce sl : Nat} {w : va_W} {lv : List (Nat × Value)} {pc : Nat} {st : List Value} {off : Int} (tgt : Nat) (ht : (pc : Int) + off = (tgt : Int)) (d : decode cc pc = .ok (.goto off, 3)) (k : J X ce sl w lv tgt st) : J X ce sl w lv pc st := by
  obtain ⟨p, l, e, R, s, m, args, below, meth, c, Q, D, kkx, A, nLx⟩ := X
  obtain ⟨hx, hb, hml, hown, hts, hK, hA, hN, hZ, hR, hkk, hnL, hlk⟩ := C
  subst hR hkk hnL
  exact fun H locs ls hP hD hS hl => lv_goto hx hb d ht (k H locs ls hP hD hS hl)
theorem j_tabOut {X : jC} {cc : ByteArray} {own : String} {R : Room} {kk : Nat → Nat} {nL : Nat} (C : jF X cc own R kk nL) {ce sl : Nat} {w : va_W} {lv : List (Nat × Value)} {pc : Nat} {st : List Value} {dflt lo hi : Int} {offs : Array Int} {len : Nat} {x : Int32} (tgt : Nat) (h : x.toInt < lo ∨ hi < x.toInt) (ht : (pc : Int) + dflt = (tgt : Int)) (d : decode cc pc = .ok (.tableswitch dflt lo hi offs, len)) (k : J X ce sl w lv tgt st) : J X ce sl w lv pc (.int x :: st) := by
  obtain ⟨p, l, e, R, s, m, args, below, meth, c, Q, D, kkx, A, nLx⟩ := X
  obtain ⟨hx, hb, hml, hown, hts, hK, hA, hN, hZ, hR, hkk, hnL, hlk⟩ := C
  subst hR hkk hnL
  exact fun H locs ls hP hD hS hl => lv_tableOut hx hb d h ht (k H locs ls hP hD hS hl)
theorem j_tabIn {X : jC} {cc : ByteArray} {own : String} {R : Room} {kk : Nat → Nat} {nL : Nat} (C : jF X cc own R kk nL) {ce sl : Nat} {w : va_W} {lv : List (Nat × Value)} {pc : Nat} {st : List Value} {dflt lo hi : Int} {offs : Array Int} {len : Nat} {x : Int32} {off : Int} (tgt : Nat) (h1 : ¬ x.toInt < lo) (h2 : ¬ hi < x.toInt) (ho : offs[(x.toInt - lo).toNat]? = some off) (ht : (pc : Int) + off = (tgt : Int)) (d : decode cc pc = .ok (.tableswitch dflt lo hi offs, len)) (k : J X ce sl w lv tgt st) : J X ce sl w lv pc (.int x :: st) := by
  obtain ⟨p, l, e, R, s, m, args, below, meth, c, Q, D, kkx, A, nLx⟩ := X
  obtain ⟨hx, hb, hml, hown, hts, hK, hA, hN, hZ, hR, hkk, hnL, hlk⟩ := C
  subst hR hkk hnL
  exact fun H locs ls hP hD hS hl => lv_tableIn hx hb d h1 h2 ho ht (k H locs ls hP hD hS hl)
theorem j_look {X : jC} {cc : ByteArray} {own : String} {R : Room} {kk : Nat → Nat} {nL : Nat} (C : jF X cc own R kk nL) {ce sl : Nat} {w : va_W} {lv : List (Nat × Value)} {pc : Nat} {st : List Value} {dflt : Int} {ps : Array (Int × Int)} {len : Nat} {x : Int32} {off : Int} (tgt : Nat) (hp : (ps.toList.zip (ps.toList.drop 1)).all (fun (a, next) => a.1 < next.1) = true) (ho : Op.lookupswitch.offset ps.toList dflt x.toInt = off) (ht : (pc : Int) + off = (tgt : Int)) (d : decode cc pc = .ok (.lookupswitch dflt ps, len)) (k : J X ce sl w lv tgt st) : J X ce sl w lv pc (.int x :: st) := by
  obtain ⟨p, l, e, R, s, m, args, below, meth, c, Q, D, kkx, A, nLx⟩ := X
  obtain ⟨hx, hb, hml, hown, hts, hK, hA, hN, hZ, hR, hkk, hnL, hlk⟩ := C
  subst hR hkk hnL
  exact fun H locs ls hP hD hS hl => lv_lookup hx hb d hp ho ht (k H locs ls hP hD hS hl)
theorem j_get {X : jC} {cc : ByteArray} {own : String} {R : Room} {kk : Nat → Nat} {nL : Nat} (C : jF X cc own R kk nL) {ce sl : Nat} {w : va_W} {lv : List (Nat × Value)} {pc : Nat} {st : List Value} {CN ref : String} {T : u_T} {N ci index a : Nat} {fs : List Value} {v : Value} (hin : ∀ w ∈ u_ws CN T N, w ∈ lw_tbl) (hg : (u_ws CN T N).all goodWord = true) (hc : vwCl[ci]? = some (CN, T, N)) (kf : Nat) (hk : kf < N) (hr : (T kf).1 = ref) (hlink : Cond.fieldLink own index ref (T kf).2.1 (T kf).2.2.1 ∈ lw_tbl) (q0 : Nat) (he : w[q0]? = some (a, .inr (ci, fs))) (hv : fs[kf]? = some v) (d : decode cc pc = .ok (.getfield index, 3)) (k : J X ce sl w lv (pc + 3) (v :: st)) : J X ce sl w lv pc (.ref a :: st) := by
  obtain ⟨p, l, e, R, s, m, args, below, meth, c, Q, D, kkx, A, nLx⟩ := X
  obtain ⟨hx, hb, hml, hown, hts, hK, hA, hN, hZ, hR, hkk, hnL, hlk⟩ := C
  subst hR hkk hnL
  subst hr
  exact fun H locs ls hP hD hS hl => va_get hx hb hts (fun w h => Tg_of (hin w h) (List.all_eq_true.mp hg w h)) hown hK hP q0 he hc kf hk (hts _ (Tg_of hlink rfl)) (fun _ h9 => h9) hv d (k H locs ls hP hD hS hl)
theorem j_put {X : jC} {cc : ByteArray} {own : String} {R : Room} {kk : Nat → Nat} {nL : Nat} (C : jF X cc own R kk nL) {ce sl : Nat} {w : va_W} {lv : List (Nat × Value)} {pc : Nat} {st : List Value} {CN ref : String} {T : u_T} {N ci index a : Nat} {fs : List Value} {v : Value} {ty0 : Nat → FieldType} {ty : FieldType} (hin : ∀ w ∈ u_ws CN T N, w ∈ lw_tbl) (hg : (u_ws CN T N).all goodWord = true) (hty : ∀ k, k < N → parseFieldDescriptor (T k).2.2.1 = some (ty0 k)) (hnm : ∀ a, a < N → ∀ b, b < N → a ≠ b → (T a).2.1 ≠ (T b).2.1) (hc : vwCl[ci]? = some (CN, T, N)) (kf : Nat) (hk : kf < N) (hr : (T kf).1 = ref) (hlink : Cond.fieldLink own index ref (T kf).2.1 (T kf).2.2.1 ∈ lw_tbl) (hfin : (T kf).2.2.2 = false)  (hd : parseFieldDescriptor (T kf).2.2.1 = some ty) (q0 : Nat) (he : w[q0]? = some (a, .inr (ci, fs))) (hn : narrow ty v = v) (hfit : fits ty v = true) (hl : kf < fs.length) {w' : va_W} (hw : w.set q0 (a, .inr (ci, fs.set kf v)) = w') (d : decode cc pc = .ok (.putfield index, 3)) (k : J X ce sl w' lv (pc + 3) st) : J X ce sl w lv pc (v :: .ref a :: st) := by
  obtain ⟨p, l, e, R, s, m, args, below, meth, c, Q, D, kkx, A, nLx⟩ := X
  obtain ⟨hx, hb, hml, hown, hts, hK, hA, hN, hZ, hR, hkk, hnL, hlk⟩ := C
  subst hR hkk hnL
  subst hr
  subst hw
  exact fun H locs ls hP hD hS hlv => va_put hx hb hts (fun w h => Tg_of (hin w h) (List.all_eq_true.mp hg w h)) ty0 hty hnm hown hK hP hD hS q0 he hc kf hk (hts _ (Tg_of hlink rfl)) (fun _ h9 => h9) hfin hd hn hfit hl d (fun H1 locs1 hP1 hD1 hS1 => k H1 locs1 ls hP1 hD1 hS1 hlv)
theorem j_putF {X : jC} {cc : ByteArray} {own : String} {R : Room} {kk : Nat → Nat} {nL : Nat} (C : jF X cc own R kk nL) {ce sl : Nat} {w : va_W} {lv : List (Nat × Value)} {pc : Nat} {st : List Value} {CN ref : String} {T : u_T} {N ci index a : Nat} {fs : List Value} {v : Value} {ty0 : Nat → FieldType} {ty : FieldType} (hin : ∀ w ∈ u_ws CN T N, w ∈ lw_tbl) (hg : (u_ws CN T N).all goodWord = true) (hty : ∀ k, k < N → parseFieldDescriptor (T k).2.2.1 = some (ty0 k)) (hnm : ∀ a, a < N → ∀ b, b < N → a ≠ b → (T a).2.1 ≠ (T b).2.1) (hc : vwCl[ci]? = some (CN, T, N)) (kf : Nat) (hk : kf < N) (hr : (T kf).1 = ref) (hlink : Cond.fieldLink own index ref (T kf).2.1 (T kf).2.2.1 ∈ lw_tbl) (hfin : (T kf).2.2.2 = true) (I : jI X) (hdecl : (T kf).1 = own) (hd : parseFieldDescriptor (T kf).2.2.1 = some ty) (q0 : Nat) (he : w[q0]? = some (a, .inr (ci, fs))) (hn : narrow ty v = v) (hfit : fits ty v = true) (hl : kf < fs.length) {w' : va_W} (hw : w.set q0 (a, .inr (ci, fs.set kf v)) = w') (d : decode cc pc = .ok (.putfield index, 3)) (k : J X ce sl w' lv (pc + 3) st) : J X ce sl w lv pc (v :: .ref a :: st) := by
  obtain ⟨p, l, e, R, s, m, args, below, meth, c, Q, D, kkx, A, nLx⟩ := X
  obtain ⟨hx, hb, hml, hown, hts, hK, hA, hN, hZ, hR, hkk, hnL, hlk⟩ := C
  subst hR hkk hnL
  subst hr
  subst hw
  exact fun H locs ls hP hD hS hlv => va_putF hx hb hts (fun w h => Tg_of (hin w h) (List.all_eq_true.mp hg w h)) ty0 hty hnm hown hK hP hD hS q0 he hc kf hk (hts _ (Tg_of hlink rfl)) (fun _ h9 => h9) hfin I hdecl hd hn hfit hl d (fun H1 locs1 hP1 hD1 hS1 => k H1 locs1 ls hP1 hD1 hS1 hlv)
theorem j_iald {X : jC} {cc : ByteArray} {own : String} {R : Room} {kk : Nat → Nat} {nL : Nat} (C : jF X cc own R kk nL) {ce sl : Nat} {w : va_W} {lv : List (Nat × Value)} {pc : Nat} {st : List Value} {a n : Nat} {f : Nat → Int32} {i : Int32} (q0 : Nat) (ha : w[q0]? = some (a, .inl (kk 0, n, .inl f))) (hin : vp_in i n) (d : decode cc pc = .ok (.iaload, 1)) (k : J X ce sl w lv (pc + 1) (.int (f i.toNatClampNeg) :: st)) : J X ce sl w lv pc (.int i :: .ref a :: st) := by
  obtain ⟨p, l, e, R, s, m, args, below, meth, c, Q, D, kkx, A, nLx⟩ := X
  obtain ⟨hx, hb, hml, hown, hts, hK, hA, hN, hZ, hR, hkk, hnL, hlk⟩ := C
  subst hR hkk hnL
  exact fun H locs ls hP hD hS hl => va_iald hx hb hK hP q0 0 ha rfl hin d (k H locs ls hP hD hS hl)
theorem j_zald {X : jC} {cc : ByteArray} {own : String} {R : Room} {kk : Nat → Nat} {nL : Nat} (C : jF X cc own R kk nL) {ce sl : Nat} {w : va_W} {lv : List (Nat × Value)} {pc : Nat} {st : List Value} {a n : Nat} {f : Nat → Int32} {i : Int32} (q0 : Nat) (ha : w[q0]? = some (a, .inl (kk 1, n, .inl f))) (hin : vp_in i n) (d : decode cc pc = .ok (.baload, 1)) (k : J X ce sl w lv (pc + 1) (.int (f i.toNatClampNeg) :: st)) : J X ce sl w lv pc (.int i :: .ref a :: st) := by
  obtain ⟨p, l, e, R, s, m, args, below, meth, c, Q, D, kkx, A, nLx⟩ := X
  obtain ⟨hx, hb, hml, hown, hts, hK, hA, hN, hZ, hR, hkk, hnL, hlk⟩ := C
  subst hR hkk hnL
  exact fun H locs ls hP hD hS hl => va_zald hx hb hK hP q0 1 ha rfl hin d (k H locs ls hP hD hS hl)
theorem j_lald {X : jC} {cc : ByteArray} {own : String} {R : Room} {kk : Nat → Nat} {nL : Nat} (C : jF X cc own R kk nL) {ce sl : Nat} {w : va_W} {lv : List (Nat × Value)} {pc : Nat} {st : List Value} {a n : Nat} {f : Nat → Int64} {i : Int32} (q0 : Nat) (ha : w[q0]? = some (a, .inl (kk 2, n, .inr (.inl f)))) (hin : vp_in i n) (d : decode cc pc = .ok (.laload, 1)) (k : J X ce sl w lv (pc + 1) (.long (f i.toNatClampNeg) :: st)) : J X ce sl w lv pc (.int i :: .ref a :: st) := by
  obtain ⟨p, l, e, R, s, m, args, below, meth, c, Q, D, kkx, A, nLx⟩ := X
  obtain ⟨hx, hb, hml, hown, hts, hK, hA, hN, hZ, hR, hkk, hnL, hlk⟩ := C
  subst hR hkk hnL
  exact fun H locs ls hP hD hS hl => va_lald hx hb hK hP q0 2 ha rfl hin d (k H locs ls hP hD hS hl)
theorem j_aald {X : jC} {cc : ByteArray} {own : String} {R : Room} {kk : Nat → Nat} {nL : Nat} (C : jF X cc own R kk nL) {ce sl : Nat} {w : va_W} {lv : List (Nat × Value)} {pc : Nat} {st : List Value} {a n : Nat} {f : Nat → Option Nat} {i : Int32} (q0 : Nat) (ha : w[q0]? = some (a, .inl (kk 3, n, .inr (.inr (.inr (.inr f)))))) (hin : vp_in i n) (d : decode cc pc = .ok (.aaload, 1)) (k : J X ce sl w lv (pc + 1) (va_rf (f i.toNatClampNeg) :: st)) : J X ce sl w lv pc (.int i :: .ref a :: st) := by
  obtain ⟨p, l, e, R, s, m, args, below, meth, c, Q, D, kkx, A, nLx⟩ := X
  obtain ⟨hx, hb, hml, hown, hts, hK, hA, hN, hZ, hR, hkk, hnL, hlk⟩ := C
  subst hR hkk hnL
  exact fun H locs ls hP hD hS hl => va_aldq hx hb hK hP q0 3 ha rfl hin d (k H locs ls hP hD hS hl)
theorem j_alen {X : jC} {cc : ByteArray} {own : String} {R : Room} {kk : Nat → Nat} {nL : Nat} (C : jF X cc own R kk nL) {ce sl : Nat} {w : va_W} {lv : List (Nat × Value)} {pc : Nat} {st : List Value} {a : Nat} {x : vp_A} {cA : ClassId} {ty : FieldType} (q0 t0 : Nat) (ha : w[q0]? = some (a, .inl (cA, x))) (ht : (jT kk)[t0]? = some (cA, ty)) (v : Int32) (hv : Int32.ofNat x.1 = v) (d : decode cc pc = .ok (.arraylength, 1)) (k : J X ce sl w lv (pc + 1) (.int v :: st)) : J X ce sl w lv pc (.ref a :: st) := by
  obtain ⟨p, l, e, R, s, m, args, below, meth, c, Q, D, kkx, A, nLx⟩ := X
  obtain ⟨hx, hb, hml, hown, hts, hK, hA, hN, hZ, hR, hkk, hnL, hlk⟩ := C
  subst hR hkk hnL
  exact fun H locs ls hP hD hS hl => va_alen hx hb hK hP q0 t0 ha ht hv d (k H locs ls hP hD hS hl)
theorem j_iast {X : jC} {cc : ByteArray} {own : String} {R : Room} {kk : Nat → Nat} {nL : Nat} (C : jF X cc own R kk nL) {ce sl : Nat} {w : va_W} {lv : List (Nat × Value)} {pc : Nat} {st : List Value} {a n : Nat} {f : Nat → Int32} {i : Int32} {x : Int32} (q0 : Nat) (ha : w[q0]? = some (a, .inl (kk 0, n, .inl f))) (hin : vp_in i n) {w' : va_W} (hw : w.set q0 (a, .inl (kk 0, n, .inl (upd f i.toNatClampNeg (x)))) = w') (d : decode cc pc = .ok (.iastore, 1)) (k : J X ce sl w' lv (pc + 1) st) : J X ce sl w lv pc (.int x :: .int i :: .ref a :: st) := by
  obtain ⟨p, l, e, R, s, m, args, below, meth, c, Q, D, kkx, A, nLx⟩ := X
  obtain ⟨hx, hb, hml, hown, hts, hK, hA, hN, hZ, hR, hkk, hnL, hlk⟩ := C
  subst hR hkk hnL
  subst hw
  exact fun H locs ls hP hD hS hl => va_iast hx hb hK hP hD hS q0 0 ha rfl hin d (fun H1 locs1 hP1 hD1 hS1 => k H1 locs1 ls hP1 hD1 hS1 hl)
theorem j_zast {X : jC} {cc : ByteArray} {own : String} {R : Room} {kk : Nat → Nat} {nL : Nat} (C : jF X cc own R kk nL) {ce sl : Nat} {w : va_W} {lv : List (Nat × Value)} {pc : Nat} {st : List Value} {a n : Nat} {f : Nat → Int32} {i : Int32} {x : Int32} (q0 : Nat) (ha : w[q0]? = some (a, .inl (kk 1, n, .inl f))) (hin : vp_in i n) {w' : va_W} (hw : w.set q0 (a, .inl (kk 1, n, .inl (upd f i.toNatClampNeg (vp_nar .boolean x)))) = w') (d : decode cc pc = .ok (.bastore, 1)) (k : J X ce sl w' lv (pc + 1) st) : J X ce sl w lv pc (.int x :: .int i :: .ref a :: st) := by
  obtain ⟨p, l, e, R, s, m, args, below, meth, c, Q, D, kkx, A, nLx⟩ := X
  obtain ⟨hx, hb, hml, hown, hts, hK, hA, hN, hZ, hR, hkk, hnL, hlk⟩ := C
  subst hR hkk hnL
  subst hw
  exact fun H locs ls hP hD hS hl => va_zast hx hb hK hP hD hS q0 1 ha rfl hin d (fun H1 locs1 hP1 hD1 hS1 => k H1 locs1 ls hP1 hD1 hS1 hl)
theorem j_last {X : jC} {cc : ByteArray} {own : String} {R : Room} {kk : Nat → Nat} {nL : Nat} (C : jF X cc own R kk nL) {ce sl : Nat} {w : va_W} {lv : List (Nat × Value)} {pc : Nat} {st : List Value} {a n : Nat} {f : Nat → Int64} {i : Int32} {x : Int64} (q0 : Nat) (ha : w[q0]? = some (a, .inl (kk 2, n, .inr (.inl f)))) (hin : vp_in i n) {w' : va_W} (hw : w.set q0 (a, .inl (kk 2, n, .inr (.inl (vp_updL f i.toNatClampNeg (x))))) = w') (d : decode cc pc = .ok (.lastore, 1)) (k : J X ce sl w' lv (pc + 1) st) : J X ce sl w lv pc (.long x :: .int i :: .ref a :: st) := by
  obtain ⟨p, l, e, R, s, m, args, below, meth, c, Q, D, kkx, A, nLx⟩ := X
  obtain ⟨hx, hb, hml, hown, hts, hK, hA, hN, hZ, hR, hkk, hnL, hlk⟩ := C
  subst hR hkk hnL
  subst hw
  exact fun H locs ls hP hD hS hl => va_last hx hb hK hP hD hS q0 2 ha rfl hin d (fun H1 locs1 hP1 hD1 hS1 => k H1 locs1 ls hP1 hD1 hS1 hl)
theorem j_aast {X : jC} {cc : ByteArray} {own : String} {R : Room} {kk : Nat → Nat} {nL : Nat} (C : jF X cc own R kk nL) {ce sl : Nat} {w : va_W} {lv : List (Nat × Value)} {pc : Nat} {st : List Value} {a n v ci : Nat} {f : Nat → Option Nat} {i : Int32} {T : u_T} {N : Nat} {vs : List Value} (q0 qk : Nat) (ha : w[q0]? = some (a, .inl (kk 3, n, .inr (.inr (.inr (.inr f)))))) (hv : w[qk]? = some (v, .inr (ci, vs))) (hc : vwCl[ci]? = some ("RainCans$Garden", T, N)) (hin : vp_in i n) {w' : va_W} (hw : w.set q0 (a, .inl (kk 3, n, .inr (.inr (.inr (.inr (va_up f i.toNatClampNeg (some v))))))) = w') (d : decode cc pc = .ok (.aastore, 1)) (k : J X ce sl w' lv (pc + 1) st) : J X ce sl w lv pc (.ref v :: .int i :: .ref a :: st) := by
  obtain ⟨p, l, e, R, s, m, args, below, meth, c, Q, D, kkx, A, nLx⟩ := X
  obtain ⟨hx, hb, hml, hown, hts, hK, hA, hN, hZ, hR, hkk, hnL, hlk⟩ := C
  subst hR hkk hnL
  subst hw
  exact fun H locs ls hP hD hS hl => va_astq hx hb hK hP hD hS q0 3 qk ci ha rfl hv hc hin d (fun H1 locs1 hP1 hD1 hS1 => k H1 locs1 ls hP1 hD1 hS1 hl)
theorem j_copy {X : jC} {cc : ByteArray} {own : String} {R : Room} {kk : Nat → Nat} {nL : Nat} (C : jF X cc own R kk nL) {ce sl : Nat} {w : va_W} {lv : List (Nat × Value)} {pc : Nat} {st : List Value} {a a0 n0 n1 index : Nat} {f g : Nat → Int32} {sp dp n : Int32} (hlink : Cond.methodLink own index arraycopyName ∈ lw_tbl) (hnat : Cond.native arraycopyName ∈ lw_tbl) (hstat : Cond.static arraycopyName ∈ lw_tbl) (hini : Cond.initialized "java/lang/System" ∈ lw_tbl) (q0 q1 : Nat) (ha0 : w[q0]? = some (a0, .inl (kk 0, n0, .inl f))) (ha1 : w[q1]? = some (a, .inl (kk 0, n1, .inl g))) (i j m' : Nat) (e1 : sp = nI i) (e2 : dp = nI j) (e3 : n = nI m') (hb1 : i + m' ≤ n0) (hb2 : j + m' ≤ n1) (hs1 : n0 < 2 ^ 31) (hs2 : n1 < 2 ^ 31) (hfr : 1 ≤ R.frames) (hlo : (st.map fun v => v.category).sum + (nativeFrameWords "java/lang/System" "arraycopy" 5 + 11) ≤ R.locals) {w' : va_W} (hw : w.set q1 (a, .inl (kk 0, n1, .inl (va_cpy f g i j m'))) = w') (d : decode cc pc = .ok (.invokestatic index, 3)) (k : J X ce sl w' lv (pc + 3) st) : J X ce sl w lv pc (.int n :: .int dp :: .ref a :: .int sp :: .ref a0 :: st) := by
  obtain ⟨p, l, e, R, s, m, args, below, meth, c, Q, D, kkx, A, nLx⟩ := X
  obtain ⟨hx, hb, hml, hown, hts, hK, hA, hN, hZ, hR, hkk, hnL, hlk⟩ := C
  subst hR hkk hnL
  subst hw
  subst e1 e2 e3
  intro H locs ls hP hD hS hl
  have c1 := nI_clamp (n := i) (by omega)
  have c2 := nI_clamp (n := j) (by omega)
  have c3 := nI_clamp (n := m') (by omega)
  refine va_copyi hx hb (hml.trans hl.1.symm) hown (hts _ (Tg_of hlink rfl)) (hts _ (Tg_of hnat rfl)) (hts _ (Tg_of hstat rfl)) (hts _ (Tg_of hini rfl)) hK hP hD hS q0 q1 0 0 ha0 ha1 rfl rfl rfl (nI_pos (by omega)) (nI_pos (by omega)) (nI_pos (by omega)) (by rw [c1, c3]; exact hb1) (by rw [c2, c3]; exact hb2) (fun _ _ => rfl) hfr hlo d (fun H1 locs1 hP1 hD1 hS1 => ?_)
  rw [c1, c2, c3] at hP1 hD1
  exact k H1 locs1 ls hP1 hD1 hS1 hl
theorem j_mmax {X : jC} {cc : ByteArray} {own : String} {R : Room} {kk : Nat → Nat} {nL : Nat} (C : jF X cc own R kk nL) {ce sl : Nat} {w : va_W} {lv : List (Nat × Value)} {pc : Nat} {st : List Value} {x y : Int32} {index : Nat} (hlink : Cond.methodLink own index Lib.Math.max.name ∈ lw_tbl) (hstat : Cond.static Lib.Math.max.name ∈ lw_tbl) (hini : Cond.initialized "java/lang/Math" ∈ lw_tbl) (hcode : Cond.code Lib.Math.max.name Lib.Math.max.code 2 (some .int) ∈ lw_tbl) (hfr : 1 ≤ R.frames) (hlo : (st.map fun v => v.category).sum + 13 ≤ R.locals) (hc : ce ≤ R.cells) (hs : sl ≤ R.slots) (d : decode cc pc = .ok (.invokestatic index, 3)) (k : J X ce sl w lv (pc + 3) (.int (if x < y then y else x) :: st)) : J X ce sl w lv pc (.int y :: .int x :: st) := by
  obtain ⟨p, l, e, R, s, m, args, below, meth, c, Q, D, kkx, A, nLx⟩ := X
  obtain ⟨hx, hb, hml, hown, hts, hK, hA, hN, hZ, hR, hkk, hnL, hlk⟩ := C
  subst hR hkk hnL
  exact fun H locs ls hP hD hS hl => va_mmax hx hb (hml.trans hl.1.symm) hown (hts _ (Tg_of hlink rfl)) (hts _ (Tg_of hstat rfl)) (hts _ (Tg_of hini rfl)) (hts _ (Tg_of hcode rfl)) hfr hlo hc hs d (k H locs ls hP hD hS hl)
theorem j_mmin {X : jC} {cc : ByteArray} {own : String} {R : Room} {kk : Nat → Nat} {nL : Nat} (C : jF X cc own R kk nL) {ce sl : Nat} {w : va_W} {lv : List (Nat × Value)} {pc : Nat} {st : List Value} {x y : Int32} {index : Nat} (hlink : Cond.methodLink own index Lib.Math.min.name ∈ lw_tbl) (hstat : Cond.static Lib.Math.min.name ∈ lw_tbl) (hini : Cond.initialized "java/lang/Math" ∈ lw_tbl) (hcode : Cond.code Lib.Math.min.name Lib.Math.min.code 2 (some .int) ∈ lw_tbl) (hfr : 1 ≤ R.frames) (hlo : (st.map fun v => v.category).sum + 13 ≤ R.locals) (hc : ce ≤ R.cells) (hs : sl ≤ R.slots) (d : decode cc pc = .ok (.invokestatic index, 3)) (k : J X ce sl w lv (pc + 3) (.int (if y < x then y else x) :: st)) : J X ce sl w lv pc (.int y :: .int x :: st) := by
  obtain ⟨p, l, e, R, s, m, args, below, meth, c, Q, D, kkx, A, nLx⟩ := X
  obtain ⟨hx, hb, hml, hown, hts, hK, hA, hN, hZ, hR, hkk, hnL, hlk⟩ := C
  subst hR hkk hnL
  exact fun H locs ls hP hD hS hl => va_mmin hx hb (hml.trans hl.1.symm) hown (hts _ (Tg_of hlink rfl)) (hts _ (Tg_of hstat rfl)) (hts _ (Tg_of hini rfl)) (hts _ (Tg_of hcode rfl)) hfr hlo hc hs d (k H locs ls hP hD hS hl)
theorem j_mabs {X : jC} {cc : ByteArray} {own : String} {R : Room} {kk : Nat → Nat} {nL : Nat} (C : jF X cc own R kk nL) {ce sl : Nat} {w : va_W} {lv : List (Nat × Value)} {pc : Nat} {st : List Value} {x : Int32} {index : Nat} (hlink : Cond.methodLink own index Lib.Math.abs.name ∈ lw_tbl) (hstat : Cond.static Lib.Math.abs.name ∈ lw_tbl) (hini : Cond.initialized "java/lang/Math" ∈ lw_tbl) (hcode : Cond.code Lib.Math.abs.name Lib.Math.abs.code 1 (some .int) ∈ lw_tbl) (hfr : 1 ≤ R.frames) (hlo : (st.map fun v => v.category).sum + 13 ≤ R.locals) (hc : ce ≤ R.cells) (hs : sl ≤ R.slots) (d : decode cc pc = .ok (.invokestatic index, 3)) (k : J X ce sl w lv (pc + 3) (.int (if 0 ≤ x then x else 0 - x) :: st)) : J X ce sl w lv pc (.int x :: st) := by
  obtain ⟨p, l, e, R, s, m, args, below, meth, c, Q, D, kkx, A, nLx⟩ := X
  obtain ⟨hx, hb, hml, hown, hts, hK, hA, hN, hZ, hR, hkk, hnL, hlk⟩ := C
  subst hR hkk hnL
  exact fun H locs ls hP hD hS hl => va_mabs hx hb (hml.trans hl.1.symm) hown (hts _ (Tg_of hlink rfl)) (hts _ (Tg_of hstat rfl)) (hts _ (Tg_of hini rfl)) (hts _ (Tg_of hcode rfl)) hfr hlo hc hs d (k H locs ls hP hD hS hl)
theorem j_gs4 {X : jC} {cc : ByteArray} {own : String} {R : Room} {kk : Nat → Nat} {nL : Nat} (C : jF X cc own R kk nL) {ce sl : Nat} {w : va_W} {lv : List (Nat × Value)} {pc : Nat} {st : List Value} {index : Nat} (hlink : Cond.fieldLink own index "RainCans" "SETTING_FIRST" "[I" ∈ lw_tbl) (d : decode cc pc = .ok (.getstatic index, 3)) (k : J X ce sl w lv (pc + 3) (.ref (kk 4) :: st)) : J X ce sl w lv pc (st) := by
  obtain ⟨p, l, e, R, s, m, args, below, meth, c, Q, D, kkx, A, nLx⟩ := X
  obtain ⟨hx, hb, hml, hown, hts, hK, hA, hN, hZ, hR, hkk, hnL, hlk⟩ := C
  subst hR hkk hnL
  exact fun H locs ls hP hD hS hl => va_gets hx hb hZ.1.1 hS hown (hts _ (Tg_of hlink rfl)) (fun _ h => h) d (k H locs ls hP hD hS hl)
theorem j_st4 {X : jC} {cc : ByteArray} {own : String} {R : Room} {kk : Nat → Nat} {nL : Nat} (C : jF X cc own R kk nL) {ce sl : Nat} {w : va_W} {lv : List (Nat × Value)} {pc : Nat} {st : List Value} {i : Int32} (hin : vp_in i 4) (d : decode cc pc = .ok (.iaload, 1)) (k : J X ce sl w lv (pc + 1) (.int (jS0 0 i.toNatClampNeg) :: st)) : J X ce sl w lv pc (.int i :: .ref (kk 4) :: st) := by
  obtain ⟨p, l, e, R, s, m, args, below, meth, c, Q, D, kkx, A, nLx⟩ := X
  obtain ⟨hx, hb, hml, hown, hts, hK, hA, hN, hZ, hR, hkk, hnL, hlk⟩ := C
  subst hR hkk hnL
  exact fun H locs ls hP hD hS hl => va_ti hx hb hZ.2.1 hS hin rfl d (k H locs ls hP hD hS hl)
theorem j_gs5 {X : jC} {cc : ByteArray} {own : String} {R : Room} {kk : Nat → Nat} {nL : Nat} (C : jF X cc own R kk nL) {ce sl : Nat} {w : va_W} {lv : List (Nat × Value)} {pc : Nat} {st : List Value} {index : Nat} (hlink : Cond.fieldLink own index "RainCans" "SETTING_LEAST" "[I" ∈ lw_tbl) (d : decode cc pc = .ok (.getstatic index, 3)) (k : J X ce sl w lv (pc + 3) (.ref (kk 5) :: st)) : J X ce sl w lv pc (st) := by
  obtain ⟨p, l, e, R, s, m, args, below, meth, c, Q, D, kkx, A, nLx⟩ := X
  obtain ⟨hx, hb, hml, hown, hts, hK, hA, hN, hZ, hR, hkk, hnL, hlk⟩ := C
  subst hR hkk hnL
  exact fun H locs ls hP hD hS hl => va_gets hx hb hZ.1.2.1 hS hown (hts _ (Tg_of hlink rfl)) (fun _ h => h) d (k H locs ls hP hD hS hl)
theorem j_st5 {X : jC} {cc : ByteArray} {own : String} {R : Room} {kk : Nat → Nat} {nL : Nat} (C : jF X cc own R kk nL) {ce sl : Nat} {w : va_W} {lv : List (Nat × Value)} {pc : Nat} {st : List Value} {i : Int32} (hin : vp_in i 4) (d : decode cc pc = .ok (.iaload, 1)) (k : J X ce sl w lv (pc + 1) (.int (jS0 1 i.toNatClampNeg) :: st)) : J X ce sl w lv pc (.int i :: .ref (kk 5) :: st) := by
  obtain ⟨p, l, e, R, s, m, args, below, meth, c, Q, D, kkx, A, nLx⟩ := X
  obtain ⟨hx, hb, hml, hown, hts, hK, hA, hN, hZ, hR, hkk, hnL, hlk⟩ := C
  subst hR hkk hnL
  exact fun H locs ls hP hD hS hl => va_ti hx hb hZ.2.2.1 hS hin rfl d (k H locs ls hP hD hS hl)
theorem j_gs6 {X : jC} {cc : ByteArray} {own : String} {R : Room} {kk : Nat → Nat} {nL : Nat} (C : jF X cc own R kk nL) {ce sl : Nat} {w : va_W} {lv : List (Nat × Value)} {pc : Nat} {st : List Value} {index : Nat} (hlink : Cond.fieldLink own index "RainCans" "SETTING_MOST" "[I" ∈ lw_tbl) (d : decode cc pc = .ok (.getstatic index, 3)) (k : J X ce sl w lv (pc + 3) (.ref (kk 6) :: st)) : J X ce sl w lv pc (st) := by
  obtain ⟨p, l, e, R, s, m, args, below, meth, c, Q, D, kkx, A, nLx⟩ := X
  obtain ⟨hx, hb, hml, hown, hts, hK, hA, hN, hZ, hR, hkk, hnL, hlk⟩ := C
  subst hR hkk hnL
  exact fun H locs ls hP hD hS hl => va_gets hx hb hZ.1.2.2 hS hown (hts _ (Tg_of hlink rfl)) (fun _ h => h) d (k H locs ls hP hD hS hl)
theorem j_st6 {X : jC} {cc : ByteArray} {own : String} {R : Room} {kk : Nat → Nat} {nL : Nat} (C : jF X cc own R kk nL) {ce sl : Nat} {w : va_W} {lv : List (Nat × Value)} {pc : Nat} {st : List Value} {i : Int32} (hin : vp_in i 4) (d : decode cc pc = .ok (.iaload, 1)) (k : J X ce sl w lv (pc + 1) (.int (jS0 2 i.toNatClampNeg) :: st)) : J X ce sl w lv pc (.int i :: .ref (kk 6) :: st) := by
  obtain ⟨p, l, e, R, s, m, args, below, meth, c, Q, D, kkx, A, nLx⟩ := X
  obtain ⟨hx, hb, hml, hown, hts, hK, hA, hN, hZ, hR, hkk, hnL, hlk⟩ := C
  subst hR hkk hnL
  exact fun H locs ls hP hD hS hl => va_ti hx hb hZ.2.2.2 hS hin rfl d (k H locs ls hP hD hS hl)
theorem j_gsN {X : jC} {cc : ByteArray} {own : String} {R : Room} {kk : Nat → Nat} {nL : Nat} (C : jF X cc own R kk nL) {ce sl : Nat} {w : va_W} {lv : List (Nat × Value)} {pc : Nat} {st : List Value} (hO : own = RX2) (d : decode cc pc = .ok (.getstatic 59, 3)) (k : J X ce sl w lv (pc + 3) (.ref (kk 4) :: st)) : J X ce sl w lv pc (st) := by
  obtain ⟨p, l, e, R, s, m, args, below, meth, c, Q, D, kkx, A, nLx⟩ := X
  obtain ⟨hx, hb, hml, hown, hts, hK, hA, hN, hZ, hR, hkk, hnL, hlk⟩ := C
  subst hR hkk hnL
  exact fun H locs ls hP hD hS hl => va_getsN hx hb hZ.1.1 hS (hO ▸ hown) (va_Nw.use rfl hN.2.2.2.2.2.2.1) (fun _ h => h) d (k H locs ls hP hD hS hl)
theorem j_copyT {X : jC} {cc : ByteArray} {own : String} {R : Room} {kk : Nat → Nat} {nL : Nat} (C : jF X cc own R kk nL) {ce sl : Nat} {w : va_W} {lv : List (Nat × Value)} {pc : Nat} {st : List Value} {a n1 index : Nat} {g : Nat → Int32} (hlink : Cond.methodLink own index arraycopyName ∈ lw_tbl) (hnat : Cond.native arraycopyName ∈ lw_tbl) (hstat : Cond.static arraycopyName ∈ lw_tbl) (hini : Cond.initialized "java/lang/System" ∈ lw_tbl) (q1 : Nat) (ha1 : w[q1]? = some (a, .inl (kk 0, n1, .inl g))) (h4 : 4 ≤ n1) (hfr : 1 ≤ R.frames) (hlo : (st.map fun v => v.category).sum + (nativeFrameWords "java/lang/System" "arraycopy" 5 + 11) ≤ R.locals) {w' : va_W} (hw : w.set q1 (a, .inl (kk 0, n1, .inl (va_cpy (jS0 0) g 0 0 4))) = w') (d : decode cc pc = .ok (.invokestatic index, 3)) (k : J X ce sl w' lv (pc + 3) st) : J X ce sl w lv pc (.int 4 :: .int 0 :: .ref a :: .int 0 :: .ref (kk 4) :: st) := by
  obtain ⟨p, l, e, R, s, m, args, below, meth, c, Q, D, kkx, A, nLx⟩ := X
  obtain ⟨hx, hb, hml, hown, hts, hK, hA, hN, hZ, hR, hkk, hnL, hlk⟩ := C
  subst hR hkk hnL
  subst hw
  intro H locs ls hP hD hS hl T hT Y
  obtain ⟨src, s1, ⟨s2, k0, s3, cm0, s4⟩, s5, s6, -, s7, s8⟩ := hZ.2.1
  have c0 : H[kkx 4]? = some src := (hS.2.1 _ (Array.getElem?_eq_some_iff.mp s1).1 s8).trans s1
  have c1 : H[a]? = some (vp_cell (kkx 0) (n1, .inl g)) := hP q1 _ ha1
  obtain ⟨-, k1, t3, cm1, t4⟩ := (hK.2 0 _ rfl).1 n1 (fun j => .int (g j))
  have t := fun w h hg => hts w (Tg_of h hg)
  have z4 : (4 : Int32).toInt = 4 := by decide
  have z0 : (0 : Int32).toInt = 0 := by decide
  have n4 : (4 : Int32).toNatClampNeg = 4 := by decide
  have n0 : (0 : Int32).toNatClampNeg = 0 := by decide
  obtain ⟨vm', Y', go⟩ := Y.arraycopy hx hown (t _ hlink rfl) (t _ hnat rfl) (t _ hstat rfl) (t _ hini rfl) (src := kkx 4) (dst := a) (cs := src) (cd := vp_cell (kkx 0) (n1, .inl g)) (srcPos := 0) (destPos := 0) (n := 4) (hT ▸ c0) (hT ▸ c1) s2 (fun _ h => nomatch h) s5 (fun h => nomatch h) s3 t3 s4 t4 (by simp [refKind]) (by decide) (by decide) (by decide)
    (by rw [z0, z4]; omega) (by rw [z0, z4]; show ¬ _ > ((arrV (kkx 0) n1 (fun j => .int (g j))).slots.size : Int); rw [arrV_size]; omega)
    (fun _ _ i hi => by
      rw [n4] at hi
      have e : src.slots.getD ((0 : Int32).toNatClampNeg + i) .null = .int (jS0 0 i) := by
        rw [n0, Nat.zero_add, Array.getD_eq_getD_getElem?, s7 i hi]; rfl
      exact ⟨by rw [e]; rfl, by rw [e]; exact trivial⟩)
    (g := F0 m pc ls (.int 4 :: .int 0 :: .ref a :: .int 0 :: .ref (kkx 4) :: st)) rfl (by rw [hml]; exact hl.1) (rest := st) rfl (by rw [hb]; exact d) hfr (by show 2 * 0 + _ + _ ≤ _; omega)
  have ec : copied src (vp_cell (kkx 0) (n1, .inl g)) 0 0 4 = vp_cell (kkx 0) (n1, .inl (va_cpy (jS0 0) g 0 0 4)) := va_copiedX (fun z => .int z) src (kkx 0) (jS0 0) g s7 (by decide)
  rw [ec] at Y' go
  have la : a < H.size := (Array.getElem?_eq_some_iff.mp c1).1
  have oth : ∀ q : Nat, q ≠ a → (H.setIfInBounds a (vp_cell (kkx 0) (n1, .inl (va_cpy (jS0 0) g 0 0 4))))[q]? = H[q]? := fun q hq => by simp [Array.getElem?_setIfInBounds, Ne.symm hq]
  have Aa : A a := hD.2 q1 _ ha1
  obtain ⟨t9, a9, b9⟩ := k (H.setIfInBounds a (vp_cell (kkx 0) (n1, .inl (va_cpy (jS0 0) g 0 0 4)))) _ ls (hP.set hD ha1 (show (H.setIfInBounds a _)[a]? = some _ by simp [Array.getElem?_setIfInBounds, la]) oth) (hD.set ha1) ⟨by simpa using hS.1, fun q g1 g2 => (oth q (fun e => g2 (e ▸ Aa))).trans (hS.2.1 q g1 g2), fun q hq => (List.mem_append.mp hq).elim (hS.2.2 q) (fun h => by
      obtain ⟨z, -, rfl⟩ := List.mem_map.mp h
      exact Aa)⟩ hl _ (by rw [← hT]; rfl) Y'
  exact ⟨t9, go t9 a9, b9⟩
theorem j_iret {S : Type} {X : jC} {cc : ByteArray} {own : String} {R : Room} {kk : Nat → Nat} {nL : Nat} (C : jF X cc own R kk nL) {ce sl : Nat} {w : va_W} {lv : List (Nat × Value)} {pc : Nat} {post : Option Value → S → Prop} {cells : S → va_W} (E : jE X (some .int) post cells ce sl) {x : Int32}  (u : S) (hp : post (some (.int x)) u) (hw : cells u = w) (d : decode cc pc = .ok (.ireturn, 1)) : J X ce sl w lv pc [.int x] := by
  obtain ⟨p, l, e, R, s, m, args, below, meth, c, Q, D, kkx, A, nLx⟩ := X
  obtain ⟨hx, hb, hml, hown, hts, hK, hA, hN, hZ, hR, hkk, hnL, hlk⟩ := C
  subst hR hkk hnL
  subst hw
  obtain ⟨E1, E2⟩ := E
  subst E2
  exact fun H locs ls hP hD hS hl => W.iret hx hb E1 (fun t ht hW => ⟨⟨_, u, rfl, hp, by rw [ht]; exact hP, hD⟩, hS.F ht⟩) hS.2.2 d hlk
theorem j_zret {S : Type} {X : jC} {cc : ByteArray} {own : String} {R : Room} {kk : Nat → Nat} {nL : Nat} (C : jF X cc own R kk nL) {ce sl : Nat} {w : va_W} {lv : List (Nat × Value)} {pc : Nat} {post : Option Value → S → Prop} {cells : S → va_W} (E : jE X (some .boolean) post cells ce sl) {x : Int32} (hz : narrow .boolean (.int x) = .int x) (u : S) (hp : post (some (.int x)) u) (hw : cells u = w) (d : decode cc pc = .ok (.ireturn, 1)) : J X ce sl w lv pc [.int x] := by
  obtain ⟨p, l, e, R, s, m, args, below, meth, c, Q, D, kkx, A, nLx⟩ := X
  obtain ⟨hx, hb, hml, hown, hts, hK, hA, hN, hZ, hR, hkk, hnL, hlk⟩ := C
  subst hR hkk hnL
  subst hw
  obtain ⟨E1, E2⟩ := E
  subst E2
  exact fun H locs ls hP hD hS hl => W.zret hx hb E1 hz (fun t ht hW => ⟨⟨_, u, rfl, hp, by rw [ht]; exact hP, hD⟩, hS.F ht⟩) hS.2.2 d hlk
theorem j_lret {S : Type} {X : jC} {cc : ByteArray} {own : String} {R : Room} {kk : Nat → Nat} {nL : Nat} (C : jF X cc own R kk nL) {ce sl : Nat} {w : va_W} {lv : List (Nat × Value)} {pc : Nat} {post : Option Value → S → Prop} {cells : S → va_W} (E : jE X (some .long) post cells ce sl) {x : Int64}  (u : S) (hp : post (some (.long x)) u) (hw : cells u = w) (d : decode cc pc = .ok (.lreturn, 1)) : J X ce sl w lv pc [.long x] := by
  obtain ⟨p, l, e, R, s, m, args, below, meth, c, Q, D, kkx, A, nLx⟩ := X
  obtain ⟨hx, hb, hml, hown, hts, hK, hA, hN, hZ, hR, hkk, hnL, hlk⟩ := C
  subst hR hkk hnL
  subst hw
  obtain ⟨E1, E2⟩ := E
  subst E2
  exact fun H locs ls hP hD hS hl => W.lret hx hb E1 (fun t ht hW => ⟨⟨_, u, rfl, hp, by rw [ht]; exact hP, hD⟩, hS.F ht⟩) hS.2.2 d hlk
theorem j_vret {S : Type} {X : jC} {cc : ByteArray} {own : String} {R : Room} {kk : Nat → Nat} {nL : Nat} (C : jF X cc own R kk nL) {ce sl : Nat} {w : va_W} {lv : List (Nat × Value)} {pc : Nat} {post : Option Value → S → Prop} {cells : S → va_W} (E : jE X none post cells ce sl)   (u : S) (hp : post none u) (hw : cells u = w) (d : decode cc pc = .ok (.return_, 1)) : J X ce sl w lv pc [] := by
  obtain ⟨p, l, e, R, s, m, args, below, meth, c, Q, D, kkx, A, nLx⟩ := X
  obtain ⟨hx, hb, hml, hown, hts, hK, hA, hN, hZ, hR, hkk, hnL, hlk⟩ := C
  subst hR hkk hnL
  subst hw
  obtain ⟨E1, E2⟩ := E
  subst E2
  exact fun H locs ls hP hD hS hl => W.vret hx hb E1 (fun t ht hW => ⟨⟨_, u, rfl, hp, by rw [ht]; exact hP, hD⟩, hS.F ht⟩) hS.2.2 d hlk
theorem j_new {X : jC} {cc : ByteArray} {own : String} {R : Room} {kk : Nat → Nat} {nL : Nat} (C : jF X cc own R kk nL) {ce sl : Nat} {w : va_W} {lv : List (Nat × Value)} {pc : Nat} {st : List Value} {CN : String} {T : u_T} {N ci index : Nat} {ty : Nat → FieldType} (hin : ∀ w ∈ u_ws CN T N, w ∈ lw_tbl) (hg : (u_ws CN T N).all goodWord = true) (hty : ∀ k, k < N → parseFieldDescriptor (T k).2.2.1 = some (ty k)) (hcl : Cond.classLink own index CN ∈ lw_tbl) (hinst : Cond.instantiable CN N ∈ lw_tbl) (hini : Cond.initialized CN ∈ lw_tbl) (hc : vwCl[ci]? = some (CN, T, N)) (fs : List Value) (hfs : ∀ j, j < N → defaultValue (ty j) = vp_V fs j) (hcells : ce + 1 ≤ R.cells) (hslots : sl + N ≤ R.slots) (d : decode cc pc = .ok (.new index, 3)) (k : ∀ q : Nat, J X (ce + 1) (sl + N) (w ++ [(q, .inr (ci, fs))]) lv (pc + 3) (.ref q :: st)) : J X ce sl w lv pc st := by
  obtain ⟨p, l, e, R, s, m, args, below, meth, c, Q, D, kkx, A, nLx⟩ := X
  obtain ⟨hx, hb, hml, hown, hts, hK, hA, hN, hZ, hR, hkk, hnL, hlk⟩ := C
  subst hR hkk hnL
  exact fun H locs ls hP hD hS hl => va_new hx hb hts (fun w h => Tg_of (hin w h) (List.all_eq_true.mp hg w h)) ty hty hown (hts _ (Tg_of hcl rfl)) (hts _ (Tg_of hinst rfl)) (hts _ (Tg_of hini rfl)) hK hP hD hS hA hc hfs hcells hslots d (fun q H1 hP1 hD1 hS1 => k q H1 locs ls hP1 hD1 hS1 hl)
theorem j_newi {X : jC} {cc : ByteArray} {own : String} {R : Room} {kk : Nat → Nat} {nL : Nat} (C : jF X cc own R kk nL) {ce sl : Nat} {w : va_W} {lv : List (Nat × Value)} {pc : Nat} {st : List Value} {n : Int32} (N : Nat) (harr : Cond.arrayClass .int ∈ lw_tbl) (hn : n = nI N) (hN : N < 2 ^ 20) (hcells : ce + 1 ≤ R.cells) (hslots : sl + N ≤ R.slots) (d : decode cc pc = .ok (.newarray .int, 2)) (k : ∀ q : Nat, J X (ce + 1) (sl + N) (w ++ [(q, .inl (kk 0, (N, .inl (fun _ => 0))))]) lv (pc + 2) (.ref q :: st)) : J X ce sl w lv pc (.int n :: st) := by
  obtain ⟨p, l, e, R, s, m, args, below, meth, c, Q, D, kkx, A, nLx⟩ := X
  obtain ⟨hx, hb, hml, hown, hts, hK, hA, hN, hZ, hR, hkk, hnL, hlk⟩ := C
  subst hR hkk hnL
  subst hn
  intro H locs ls hP hD hS hl
  refine va_newa (atype := .int) (ty := .int) (a0 := (N, .inl (fun _ => 0))) (N' := N) hx hb (hts _ (Tg_of harr rfl)) rfl hK hP hD hS hA (fun _ => rfl) (nI_pos (by omega)) (nI_clamp (by omega)) (by simp [componentBytes]; omega) hcells hslots d (fun q cA H1 hK1 hP1 hD1 hS1 => ?_)
  have e1 := (hK.2 0 _ rfl).2
  have e2 := (hK1.2 4 _ rfl).2
  have e3 : cA = kkx 0 := Option.some.inj ((show s.vm.findClass _ = some cA from e2).symm.trans (show s.vm.findClass _ = some (kkx 0) from e1))
  subst e3
  exact k q H1 locs ls hP1 hD1 hS1 hl
theorem j_newz {X : jC} {cc : ByteArray} {own : String} {R : Room} {kk : Nat → Nat} {nL : Nat} (C : jF X cc own R kk nL) {ce sl : Nat} {w : va_W} {lv : List (Nat × Value)} {pc : Nat} {st : List Value} {n : Int32} (N : Nat) (harr : Cond.arrayClass .boolean ∈ lw_tbl) (hn : n = nI N) (hN : N < 2 ^ 20) (hcells : ce + 1 ≤ R.cells) (hslots : sl + N ≤ R.slots) (d : decode cc pc = .ok (.newarray .boolean, 2)) (k : ∀ q : Nat, J X (ce + 1) (sl + N) (w ++ [(q, .inl (kk 1, (N, .inl (fun _ => 0))))]) lv (pc + 2) (.ref q :: st)) : J X ce sl w lv pc (.int n :: st) := by
  obtain ⟨p, l, e, R, s, m, args, below, meth, c, Q, D, kkx, A, nLx⟩ := X
  obtain ⟨hx, hb, hml, hown, hts, hK, hA, hN, hZ, hR, hkk, hnL, hlk⟩ := C
  subst hR hkk hnL
  subst hn
  intro H locs ls hP hD hS hl
  refine va_newa (atype := .boolean) (ty := .boolean) (a0 := (N, .inl (fun _ => 0))) (N' := N) hx hb (hts _ (Tg_of harr rfl)) rfl hK hP hD hS hA (fun _ => rfl) (nI_pos (by omega)) (nI_clamp (by omega)) (by simp [componentBytes]; omega) hcells hslots d (fun q cA H1 hK1 hP1 hD1 hS1 => ?_)
  have e1 := (hK.2 1 _ rfl).2
  have e2 := (hK1.2 4 _ rfl).2
  have e3 : cA = kkx 1 := Option.some.inj ((show s.vm.findClass _ = some cA from e2).symm.trans (show s.vm.findClass _ = some (kkx 1) from e1))
  subst e3
  exact k q H1 locs ls hP1 hD1 hS1 hl
theorem j_newl {X : jC} {cc : ByteArray} {own : String} {R : Room} {kk : Nat → Nat} {nL : Nat} (C : jF X cc own R kk nL) {ce sl : Nat} {w : va_W} {lv : List (Nat × Value)} {pc : Nat} {st : List Value} {n : Int32} (N : Nat) (harr : Cond.arrayClass .long ∈ lw_tbl) (hn : n = nI N) (hN : N < 2 ^ 20) (hcells : ce + 1 ≤ R.cells) (hslots : sl + N ≤ R.slots) (d : decode cc pc = .ok (.newarray .long, 2)) (k : ∀ q : Nat, J X (ce + 1) (sl + N) (w ++ [(q, .inl (kk 2, (N, .inr (.inl (fun _ => 0)))))]) lv (pc + 2) (.ref q :: st)) : J X ce sl w lv pc (.int n :: st) := by
  obtain ⟨p, l, e, R, s, m, args, below, meth, c, Q, D, kkx, A, nLx⟩ := X
  obtain ⟨hx, hb, hml, hown, hts, hK, hA, hN, hZ, hR, hkk, hnL, hlk⟩ := C
  subst hR hkk hnL
  subst hn
  intro H locs ls hP hD hS hl
  refine va_newa (atype := .long) (ty := .long) (a0 := (N, .inr (.inl (fun _ => 0)))) (N' := N) hx hb (hts _ (Tg_of harr rfl)) rfl hK hP hD hS hA (fun _ => rfl) (nI_pos (by omega)) (nI_clamp (by omega)) (by simp [componentBytes]; omega) hcells hslots d (fun q cA H1 hK1 hP1 hD1 hS1 => ?_)
  have e1 := (hK.2 2 _ rfl).2
  have e2 := (hK1.2 4 _ rfl).2
  have e3 : cA = kkx 2 := Option.some.inj ((show s.vm.findClass _ = some cA from e2).symm.trans (show s.vm.findClass _ = some (kkx 2) from e1))
  subst e3
  exact k q H1 locs ls hP1 hD1 hS1 hl
theorem j_newq {X : jC} {cc : ByteArray} {own : String} {R : Room} {kk : Nat → Nat} {nL : Nat} (C : jF X cc own R kk nL) {ce sl : Nat} {w : va_W} {lv : List (Nat × Value)} {pc : Nat} {st : List Value} {n : Int32} {index : Nat} (N : Nat) (hcl : Cond.classLink own index "RainCans$Garden" ∈ lw_tbl) (hn : n = nI N) (hNN : N < 2 ^ 20) (hcells : ce + 1 ≤ R.cells) (hslots : sl + N ≤ R.slots) (d : decode cc pc = .ok (.anewarray index, 3)) (k : ∀ q : Nat, J X (ce + 1) (sl + N) (w ++ [(q, .inl (kk 3, N, .inr (.inr (.inr (.inr (fun _ => none))))))]) lv (pc + 3) (.ref q :: st)) : J X ce sl w lv pc (.int n :: st) := by
  obtain ⟨p, l, e, R, s, m, args, below, meth, c, Q, D, kkx, A, nLx⟩ := X
  obtain ⟨hx, hb, hml, hown, hts, hK, hA, hN, hZ, hR, hkk, hnL, hlk⟩ := C
  subst hR hkk hnL
  subst hn
  intro H locs ls hP hD hS hl
  refine va_newq (C := "RainCans$Garden") (N' := N) hx hb hown (hts _ (Tg_of hcl rfl)) hN.2.2.2.2.2.2.2 hK hP hD hS hA (nI_pos (by omega)) (nI_clamp (by omega)) (by omega) hcells hslots d (fun q cA H1 hK1 hP1 hD1 hS1 => ?_)
  obtain ⟨-, -, -, -, -, e1⟩ := (hK.2 3 _ rfl).2
  obtain ⟨-, -, -, -, -, e2⟩ := (hK1.2 4 _ rfl).2
  have e3 : cA = kkx 3 := Option.some.inj (e2.symm.trans e1)
  subst e3
  exact k q H1 locs ls hP1 hD1 hS1 hl
theorem j_obj {X : jC} {cc : ByteArray} {own : String} {R : Room} {kk : Nat → Nat} {nL : Nat} (C : jF X cc own R kk nL) {ce sl : Nat} {w : va_W} {lv : List (Nat × Value)} {pc : Nat} {st : List Value} {a index : Nat} (hlink : Cond.methodLink own index Lib.objectInit ∈ lw_tbl) (hinst : Cond.instanceMethod Lib.objectInit ∈ lw_tbl) (hcode : Cond.code Lib.objectInit ⟨#[0xb1]⟩ 1 none ∈ lw_tbl) (hfr : 1 ≤ R.frames) (hlo : (st.map fun v => v.category).sum + 12 ≤ R.locals) (d : decode cc pc = .ok (.invokespecial index, 3)) (k : J X ce sl w lv (pc + 3) st) : J X ce sl w lv pc (.ref a :: st) := by
  obtain ⟨p, l, e, R, s, m, args, below, meth, c, Q, D, kkx, A, nLx⟩ := X
  obtain ⟨hx, hb, hml, hown, hts, hK, hA, hN, hZ, hR, hkk, hnL, hlk⟩ := C
  subst hR hkk hnL
  exact fun H locs ls hP hD hS hl => W.objInit hx hb hown (hts _ (Tg_of hlink rfl)) (hts _ (Tg_of hinst rfl)) (hts _ (Tg_of hcode rfl)) rfl (hl.1.trans hml.symm) rfl d hfr (by show 2 * 0 + _ + 12 ≤ _; omega) (k H locs ls hP hD hS hl)
