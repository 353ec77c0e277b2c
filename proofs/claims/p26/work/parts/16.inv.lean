theorem j_top {X : jC} {ce sl : Nat} {w : va_W} {lv : List (Nat × Value)} {pc : Nat} {st : List Value} {x : Int32} (k : ∀ v : Int32, J X ce sl w lv pc (.int v :: st)) : J X ce sl w lv pc (.int x :: st) := k x
theorem j_topL {X : jC} {ce sl : Nat} {w : va_W} {lv : List (Nat × Value)} {pc : Nat} {st : List Value} {x : Int64} (k : ∀ v : Int64, J X ce sl w lv pc (.long v :: st)) : J X ce sl w lv pc (.long x :: st) := k x
theorem nI_dec {n : Nat} (h : 1 ≤ n) : nI n + Int32.ofInt (-1) = nI (n - 1) := by
  obtain ⟨m, rfl⟩ : ∃ m, n = m + 1 := ⟨n - 1, by omega⟩
  rw [show Int32.ofInt (-1) = -1 from by decide, pk_m1, Nat.add_sub_cancel]
theorem sI_self {σ : St} {i : Nat} {v : Int32} (h : σ.1 i = v) : sI σ i v = σ := by
  subst h
  unfold sI
  refine Prod.ext ?_ rfl
  funext j
  show (if j = i then σ.1 i else σ.1 j) = σ.1 j
  by_cases e : j = i
  · rw [if_pos e, e]
  · rw [if_neg e]
theorem rowB_nat {x : Int32} (h : rowB x = true) : ∃ n : Nat, n ≤ 666666 ∧ x = nI n := by
  obtain ⟨n, h1, h2, h3⟩ := wB_nat (by decide) (by decide) (andL h)
  exact ⟨n, h2, h3⟩
theorem wrF {S T : St} {c : Nat} {f : Nat → Int32} (h : S = T) : sF S c f = sF T c f := by rw [h]
theorem wrI {S T : St} {c : Nat} {f : Int32} (h : S = T) : sI S c f = sI T c f := by rw [h]
theorem wrL {S T : St} {c : Nat} {f : Int64} (h : S = T) : sL S c f = sL T c f := by rw [h]
theorem wrG {S T : St} {c : Nat} {f : Nat → Int64} (h : S = T) : sG S c f = sG T c f := by rw [h]
theorem if_s {α : Type} {c : Nat} {a v : α} {f : Nat → α} : (fun j => if j = c then v else (if j = c then a else f j)) = fun j => if j = c then v else f j := by
  funext j
  by_cases h : j = c
  · rw [if_pos h, if_pos h]
  · rw [if_neg h, if_neg h, if_neg h]
theorem if_c {α : Type} {c d : Nat} {a v : α} {f : Nat → α} (h : c ≠ d) : (fun j => if j = c then v else (if j = d then a else f j)) = fun j => if j = d then a else (if j = c then v else f j) := by
  funext j
  by_cases e : j = c
  · rw [if_pos e, if_neg (fun q => h (e.symm.trans q)), if_pos e]
  · rw [if_neg e]
    by_cases q : j = d
    · rw [if_pos q, if_pos q]
    · rw [if_neg q, if_neg q, if_neg e]
theorem wrFs {S : St} {c : Nat} {a v : Nat → Int32} : sF (sF S c a) c v = sF S c v := Prod.ext rfl (Prod.ext if_s rfl)
theorem wrFc {S : St} {c d : Nat} {a v : Nat → Int32} (h : c ≠ d) : sF (sF S d a) c v = sF (sF S c v) d a := Prod.ext rfl (Prod.ext (if_c h) rfl)
theorem wrIs {S : St} {c : Nat} {a v : Int32} : sI (sI S c a) c v = sI S c v := Prod.ext if_s rfl
theorem wrIc {S : St} {c d : Nat} {a v : Int32} (h : c ≠ d) : sI (sI S d a) c v = sI (sI S c v) d a := Prod.ext (if_c h) rfl
theorem wrLs {S : St} {c : Nat} {a v : Int64} : sL (sL S c a) c v = sL S c v := Prod.ext rfl (Prod.ext rfl (Prod.ext if_s rfl))
theorem wrLc {S : St} {c d : Nat} {a v : Int64} (h : c ≠ d) : sL (sL S d a) c v = sL (sL S c v) d a := Prod.ext rfl (Prod.ext rfl (Prod.ext (if_c h) rfl))
theorem wrGs {S : St} {c : Nat} {a v : Nat → Int64} : sG (sG S c a) c v = sG S c v := Prod.ext rfl (Prod.ext rfl (Prod.ext rfl if_s))
theorem wrGc {S : St} {c d : Nat} {a v : Nat → Int64} (h : c ≠ d) : sG (sG S d a) c v = sG (sG S c v) d a := Prod.ext rfl (Prod.ext rfl (Prod.ext rfl (if_c h)))
theorem wrFi {S : St} {c : Nat} {v : Nat → Int32} (h : S.2.1 c = v) : S = sF S c v := by
  subst h
  refine Prod.ext rfl (Prod.ext ?_ rfl)
  funext j
  show S.2.1 j = (if j = c then S.2.1 c else S.2.1 j)
  by_cases e : j = c
  · rw [if_pos e, e]
  · rw [if_neg e]
theorem wrIi {S : St} {c : Nat} {v : Int32} (h : S.1 c = v) : S = sI S c v := (sI_self h).symm
theorem wrLi {S : St} {c : Nat} {v : Int64} (h : S.2.2.1 c = v) : S = sL S c v := by
  subst h
  refine Prod.ext rfl (Prod.ext rfl (Prod.ext ?_ rfl))
  funext j
  show S.2.2.1 j = (if j = c then S.2.2.1 c else S.2.2.1 j)
  by_cases e : j = c
  · rw [if_pos e, e]
  · rw [if_neg e]
theorem wrGi {S : St} {c : Nat} {v : Nat → Int64} (h : S.2.2.2 c = v) : S = sG S c v := by
  subst h
  refine Prod.ext rfl (Prod.ext rfl (Prod.ext rfl ?_))
  funext j
  show S.2.2.2 j = (if j = c then S.2.2.2 c else S.2.2.2 j)
  by_cases e : j = c
  · rw [if_pos e, e]
  · rw [if_neg e]
theorem wrFG {S : St} {c d : Nat} {a : Nat → Int64} {v : Nat → Int32} : sF (sG S d a) c v = sG (sF S c v) d a := rfl
theorem wrFI {S : St} {c d : Nat} {a : Int32} {v : Nat → Int32} : sF (sI S d a) c v = sI (sF S c v) d a := rfl
theorem wrFL {S : St} {c d : Nat} {a : Int64} {v : Nat → Int32} : sF (sL S d a) c v = sL (sF S c v) d a := rfl
theorem wrGF {S : St} {c d : Nat} {a : Nat → Int32} {v : Nat → Int64} : sG (sF S d a) c v = sF (sG S c v) d a := rfl
theorem wrGI {S : St} {c d : Nat} {a : Int32} {v : Nat → Int64} : sG (sI S d a) c v = sI (sG S c v) d a := rfl
theorem wrGL {S : St} {c d : Nat} {a : Int64} {v : Nat → Int64} : sG (sL S d a) c v = sL (sG S c v) d a := rfl
theorem wrIF {S : St} {c d : Nat} {a : Nat → Int32} {v : Int32} : sI (sF S d a) c v = sF (sI S c v) d a := rfl
theorem wrIG {S : St} {c d : Nat} {a : Nat → Int64} {v : Int32} : sI (sG S d a) c v = sG (sI S c v) d a := rfl
theorem wrIL {S : St} {c d : Nat} {a : Int64} {v : Int32} : sI (sL S d a) c v = sL (sI S c v) d a := rfl
theorem wrLF {S : St} {c d : Nat} {a : Nat → Int32} {v : Int64} : sL (sF S d a) c v = sF (sL S c v) d a := rfl
theorem wrLG {S : St} {c d : Nat} {a : Nat → Int64} {v : Int64} : sL (sG S d a) c v = sG (sL S c v) d a := rfl
theorem wrLI {S : St} {c d : Nat} {a : Int32} {v : Int64} : sL (sI S d a) c v = sI (sL S c v) d a := rfl
theorem gtFF {S : St} {c d : Nat} {a v : Nat → Int32} (h : c ≠ d) (e : S.2.1 c = v) : (sF S d a).2.1 c = v := (if_neg h).trans e
theorem gtFG {S : St} {c d : Nat} {a : Nat → Int64} {v : Nat → Int32} (e : S.2.1 c = v) : (sG S d a).2.1 c = v := e
theorem gtFI {S : St} {c d : Nat} {a : Int32} {v : Nat → Int32} (e : S.2.1 c = v) : (sI S d a).2.1 c = v := e
theorem gtFL {S : St} {c d : Nat} {a : Int64} {v : Nat → Int32} (e : S.2.1 c = v) : (sL S d a).2.1 c = v := e
theorem gtGF {S : St} {c d : Nat} {a : Nat → Int32} {v : Nat → Int64} (e : S.2.2.2 c = v) : (sF S d a).2.2.2 c = v := e
theorem gtGG {S : St} {c d : Nat} {a v : Nat → Int64} (h : c ≠ d) (e : S.2.2.2 c = v) : (sG S d a).2.2.2 c = v := (if_neg h).trans e
theorem gtGI {S : St} {c d : Nat} {a : Int32} {v : Nat → Int64} (e : S.2.2.2 c = v) : (sI S d a).2.2.2 c = v := e
theorem gtGL {S : St} {c d : Nat} {a : Int64} {v : Nat → Int64} (e : S.2.2.2 c = v) : (sL S d a).2.2.2 c = v := e
theorem gtIF {S : St} {c d : Nat} {a : Nat → Int32} {v : Int32} (e : S.1 c = v) : (sF S d a).1 c = v := e
theorem gtIG {S : St} {c d : Nat} {a : Nat → Int64} {v : Int32} (e : S.1 c = v) : (sG S d a).1 c = v := e
theorem gtII {S : St} {c d : Nat} {a v : Int32} (h : c ≠ d) (e : S.1 c = v) : (sI S d a).1 c = v := (if_neg h).trans e
theorem gtIL {S : St} {c d : Nat} {a : Int64} {v : Int32} (e : S.1 c = v) : (sL S d a).1 c = v := e
theorem gtLF {S : St} {c d : Nat} {a : Nat → Int32} {v : Int64} (e : S.2.2.1 c = v) : (sF S d a).2.2.1 c = v := e
theorem gtLG {S : St} {c d : Nat} {a : Nat → Int64} {v : Int64} (e : S.2.2.1 c = v) : (sG S d a).2.2.1 c = v := e
theorem gtLI {S : St} {c d : Nat} {a : Int32} {v : Int64} (e : S.2.2.1 c = v) : (sI S d a).2.2.1 c = v := e
theorem gtLL {S : St} {c d : Nat} {a v : Int64} (h : c ≠ d) (e : S.2.2.1 c = v) : (sL S d a).2.2.1 c = v := (if_neg h).trans e
theorem nbz {n : Nat} (h : n ≤ 1) : narrow .boolean (.int (nI n)) = .int (nI n) := by
  rcases (show n = 0 ∨ n = 1 by omega) with rfl | rfl <;> rfl
theorem nbf {n : Nat} (h : n ≤ 1) : fits .boolean (.int (nI n)) = true := by
  rcases (show n = 0 ∨ n = 1 by omega) with rfl | rfl <;> rfl
/-- an int that is a natural of at most b -/
def le_ (b : Nat) (x : Int32) : Prop := ∃ m : Nat, m ≤ b ∧ x = nI m
def lm_ (b : Nat) (x : Int32) : Prop := x = -1 ∨ ∃ m : Nat, m ≤ b ∧ x = nI m
def al_ (n b : Nat) (f : Nat → Int32) : Prop := ∀ j : Nat, j < n → le_ b (f j)
def am_ (n b : Nat) (f : Nat → Int32) : Prop := ∀ j : Nat, j < n → lm_ b (f j)
theorem al_upd {n b : Nat} {f : Nat → Int32} {k : Nat} {x : Int32} (h : al_ n b f) (hx : le_ b x) : al_ n b (upd f k x) := fun j hj => by
  by_cases e : j = k
  · rw [e, pk_us]; exact hx
  · rw [pk_un e]; exact h j hj
theorem am_upd {n b : Nat} {f : Nat → Int32} {k : Nat} {x : Int32} (h : am_ n b f) (hx : lm_ b x) : am_ n b (upd f k x) := fun j hj => by
  by_cases e : j = k
  · rw [e, pk_us]; exact hx
  · rw [pk_un e]; exact h j hj
theorem al_cpy {n b sp dp m : Nat} {f g : Nat → Int32} {N : Nat} (hf : al_ N b f) (hg : al_ n b g) (hN : sp + m ≤ N) : al_ n b (va_cpy f g sp dp m) := fun j hj => by
  by_cases e : dp ≤ j ∧ j < dp + m
  · rw [pk_cpy_in e.1 e.2]; exact hf _ (by omega)
  · rw [pk_cpy_out (by omega)]; exact hg j hj
theorem am_cpy {n b sp dp m : Nat} {f g : Nat → Int32} {N : Nat} (hf : am_ N b f) (hg : am_ n b g) (hN : sp + m ≤ N) : am_ n b (va_cpy f g sp dp m) := fun j hj => by
  by_cases e : dp ≤ j ∧ j < dp + m
  · rw [pk_cpy_in e.1 e.2]; exact hf _ (by omega)
  · rw [pk_cpy_out (by omega)]; exact hg j hj
def gB (k : Int32) (w sf : Nat → Int32) (fc : Int32) (ce ea la : Nat → Int32) (ra : Int32) : Prop := le_ 6 k ∧ al_ 28 2 w ∧ al_ 168 27 sf ∧ le_ 20 fc ∧ al_ 20 167 ce ∧ am_ 20 19 ea ∧ am_ 168 19 la ∧ le_ 6 ra
def iX (σ : St) : Prop := gB (σ.1 16) (σ.2.1 5) (σ.2.1 8) (σ.1 176) (σ.2.1 12) (σ.2.1 14) (σ.2.1 15) (σ.1 256) ∧ gB (σ.1 896) (σ.2.1 60) (σ.2.1 63) (σ.1 1056) (σ.2.1 67) (σ.2.1 69) (σ.2.1 70) (σ.1 1136) ∧ gB (σ.1 1232) (σ.2.1 81) (σ.2.1 84) (σ.1 1392) (σ.2.1 88) (σ.2.1 90) (σ.2.1 91) (σ.1 1472) ∧ le_ 40 (σ.1 352) ∧ σ.2.1 33 = wf 257
theorem iX.wind {σ : St} (h : iX σ) : al_ 28 2 (σ.2.1 5) := h.1.2.1
theorem iX.sf {σ : St} (h : iX σ) : al_ 168 27 (σ.2.1 8) := h.1.2.2.1
theorem iX.fc {σ : St} (h : iX σ) : le_ 20 (σ.1 176) := h.1.2.2.2.1
theorem iX.cell {σ : St} (h : iX σ) : al_ 20 167 (σ.2.1 12) := h.1.2.2.2.2.1
theorem iX.ear {σ : St} (h : iX σ) : am_ 20 19 (σ.2.1 14) := h.1.2.2.2.2.2.1
theorem iX.last {σ : St} (h : iX σ) : am_ 168 19 (σ.2.1 15) := h.1.2.2.2.2.2.2.1
theorem iX.rad {σ : St} (h : iX σ) : le_ 6 (σ.1 256) := h.1.2.2.2.2.2.2.2
theorem iX.sg {σ : St} (h : iX σ) : le_ 40 (σ.1 352) := h.2.2.2.1
theorem iX.code {σ : St} (h : iX σ) : σ.2.1 33 = wf 257 := h.2.2.2.2
theorem iX.can {σ : St} (h : iX σ) : le_ 6 (σ.1 16) := h.1.1
def mdP (c : Nat) : Prop := (c / 100 = 0 ∧ c / 10 % 10 ≤ 5) ∨ (c / 100 = 1 ∧ 1 ≤ c / 10 % 10 ∧ c / 10 % 10 ≤ c % 10 ∧ c % 10 ≤ 6) ∨ (c / 100 = 2 ∧ c / 10 % 10 < c % 10 ∧ c % 10 ≤ 6)
theorem wn_mono : ∀ c, wn c ≤ wn (c + 1) := fun c => by
  rw [wn]
  split <;> omega
theorem wn_cl : wn 257 = 38 := by decide +kernel
theorem md_ok : ∀ c, c < 257 → mdB (c / 100) (c / 10 % 10) (c % 10) = true → mdP c := fun c h e => by
  unfold mdB at e
  have h3 : c / 100 ≤ 2 := by omega
  unfold mdP
  split at e
  · have := of_decide_eq_true e; omega
  · split at e
    · have := of_decide_eq_true e; omega
    · have := of_decide_eq_true e; omega
theorem wf_ok : ∀ c, c ≤ 257 → ∀ a, a < wn c → ∃ m, mdP m ∧ m < 257 ∧ wf c a = nI m := by
  intro c
  induction c with
  | zero => intro _ a h; exact absurd h (Nat.not_lt_zero _)
  | succ c ih =>
    intro h a ha
    rw [wn] at ha
    rw [wf]
    split at ha
    · rename_i e
      rw [if_pos e]
      by_cases q : a = wn c
      · exact ⟨c, md_ok c (by omega) e, by omega, by rw [q, pk_us]⟩
      · rw [pk_un q]; exact ih (by omega) a (by omega)
    · rename_i e
      rw [if_neg e]
      exact ih (by omega) a ha
theorem iX.codes {σ : St} (h : iX σ) (a : Nat) (ha : a < 38) : ∃ m, (mdP m ∧ m < 257) ∧ σ.2.1 33 a = nI m := by
  obtain ⟨m, h1, h2, h3⟩ := wf_ok 257 (Nat.le_refl _) a (by rw [wn_cl]; exact ha)
  exact ⟨m, ⟨h1, h2⟩, by rw [h.code]; exact h3⟩
/-- an image in the reference's row, from place t on -/
def kB (t : Nat) (f : Nat → Int32) : Prop := le_ 6 (f t) ∧ le_ 20 (f (t + 1)) ∧ le_ 6 (f (t + 2)) ∧ (∀ j : Nat, j < 18 → le_ 9 (f (t + 19 + j))) ∧ (∀ j : Nat, j < 28 → le_ 2 (f (t + 37 + j))) ∧ (∀ j : Nat, j < 168 → le_ 27 (f (t + 65 + 4 * j + 2)))
def mB (k : Int32) (ms w : Nat → Int32) (fc si : Int32) (fo : Nat → Int32) (ra : Int32) : Prop := le_ 6 k ∧ al_ 18 9 ms ∧ al_ 28 2 w ∧ le_ 20 fc ∧ le_ 40 si ∧ al_ 168 27 fo ∧ le_ 6 ra
def iM (σ : St) : Prop := mB (σ.1 3) (σ.2.1 3) (σ.2.1 4) (σ.1 9) (σ.1 15) (σ.2.1 11) (σ.1 46) ∧ (¬ σ.2.1 33 0 = 0 → kB 0 (σ.2.1 32)) ∧ (¬ σ.2.1 33 1 = 0 → kB 900 (σ.2.1 32))
theorem iM.can {σ : St} (h : iM σ) : le_ 6 (σ.1 3) := h.1.1
theorem iM.miss {σ : St} (h : iM σ) : al_ 18 9 (σ.2.1 3) := h.1.2.1
theorem iM.wind {σ : St} (h : iM σ) : al_ 28 2 (σ.2.1 4) := h.1.2.2.1
theorem iM.fc {σ : St} (h : iM σ) : le_ 20 (σ.1 9) := h.1.2.2.2.1
theorem iM.sg {σ : St} (h : iM σ) : le_ 40 (σ.1 15) := h.1.2.2.2.2.1
theorem iM.fo {σ : St} (h : iM σ) : al_ 168 27 (σ.2.1 11) := h.1.2.2.2.2.2.1
theorem iM.rad {σ : St} (h : iM σ) : le_ 6 (σ.1 46) := h.1.2.2.2.2.2.2
set_option maxRecDepth 100000 in
set_option maxHeartbeats 4000000 in
theorem fl_54 {X : jC} {cc : ByteArray} {own : String} {R : Room} {kk : Nat → Nat} {nL : Nat} (C : jF X cc own R kk nL) {g : Nat → Nat} {σ : St} {ce sl : Nat} {lv : List (Nat × Value)} {pc : Nat} {st : List Value} {v : Int32} {index : Nat} (hl : Cond.methodLink own index yJ7_fill_53178 ∈ lw_tbl) (hst : (st.map fun v => v.category).sum ≤ 8) (hR1 : 0 + 1 ≤ R.frames ∧ 8 + (4 + 11) + 0 ≤ R.locals) (hR2 : ce ≤ R.cells ∧ sl ≤ R.slots) (d : decode cc pc = .ok (.invokestatic index, 3)) (k : J X ce sl (cX g kk (sF σ 54 (fillF (σ.2.1 54) v 7))) lv (pc + 3) st) : J X ce sl (cX g kk σ) lv pc (.int v :: .ref (g 54) :: st) := by
  refine j_perm (w' := (cX g kk σ).eraseIdx 54 ++ [(g 54, .inl (kk 0, 7, .inl (σ.2.1 54)))]) [0, 1, 2, 3, 4, 5, 6, 7, 8, 9, 10, 11, 12, 13, 14, 15, 16, 17, 18, 19, 20, 21, 22, 23, 24, 25, 26, 27, 28, 29, 30, 31, 32, 33, 34, 35, 36, 37, 38, 39, 40, 41, 42, 43, 44, 45, 46, 47, 48, 49, 50, 51, 52, 53, 55, 56, 57, 58, 59, 60, 61, 62, 63, 64, 65, 66, 67, 68, 69, 70, 71, 72, 73, 74, 75, 76, 77, 78, 79, 80, 81, 82, 83, 84, 85, 86, 87, 88, 89, 90, 91, 92, 93, 94, 95, 96, 97, 98, 54] rfl rfl ?_
  refine j_S C ((cX g kk σ).eraseIdx 54) (c_fill kk (g 54) 7 (by decide) (σ.2.1 54) v) kyJ7_fill_53178 hl tb_37 rfl hst hR1 hR2 d rfl (fun vr ur hp => ?_)
  obtain ⟨rfl, -⟩ := hp
  refine j_perm (w' := cX g kk (sF σ 54 (fillF (σ.2.1 54) v 7))) [0, 1, 2, 3, 4, 5, 6, 7, 8, 9, 10, 11, 12, 13, 14, 15, 16, 17, 18, 19, 20, 21, 22, 23, 24, 25, 26, 27, 28, 29, 30, 31, 32, 33, 34, 35, 36, 37, 38, 39, 40, 41, 42, 43, 44, 45, 46, 47, 48, 49, 50, 51, 52, 53, 98, 54, 55, 56, 57, 58, 59, 60, 61, 62, 63, 64, 65, 66, 67, 68, 69, 70, 71, 72, 73, 74, 75, 76, 77, 78, 79, 80, 81, 82, 83, 84, 85, 86, 87, 88, 89, 90, 91, 92, 93, 94, 95, 96, 97] rfl rfl ?_
  exact k
set_option maxRecDepth 100000 in
set_option maxHeartbeats 4000000 in
theorem fl_24 {X : jC} {cc : ByteArray} {own : String} {R : Room} {kk : Nat → Nat} {nL : Nat} (C : jF X cc own R kk nL) {g : Nat → Nat} {σ : St} {ce sl : Nat} {lv : List (Nat × Value)} {pc : Nat} {st : List Value} {v : Int32} {index : Nat} (hl : Cond.methodLink own index yJ7_fill_53178 ∈ lw_tbl) (hst : (st.map fun v => v.category).sum ≤ 8) (hR1 : 0 + 1 ≤ R.frames ∧ 8 + (4 + 11) + 0 ≤ R.locals) (hR2 : ce ≤ R.cells ∧ sl ≤ R.slots) (d : decode cc pc = .ok (.invokestatic index, 3)) (k : J X ce sl (cX g kk (sF σ 24 (fillF (σ.2.1 24) v 28))) lv (pc + 3) st) : J X ce sl (cX g kk σ) lv pc (.int v :: .ref (g 24) :: st) := by
  refine j_perm (w' := (cX g kk σ).eraseIdx 24 ++ [(g 24, .inl (kk 0, 28, .inl (σ.2.1 24)))]) [0, 1, 2, 3, 4, 5, 6, 7, 8, 9, 10, 11, 12, 13, 14, 15, 16, 17, 18, 19, 20, 21, 22, 23, 25, 26, 27, 28, 29, 30, 31, 32, 33, 34, 35, 36, 37, 38, 39, 40, 41, 42, 43, 44, 45, 46, 47, 48, 49, 50, 51, 52, 53, 54, 55, 56, 57, 58, 59, 60, 61, 62, 63, 64, 65, 66, 67, 68, 69, 70, 71, 72, 73, 74, 75, 76, 77, 78, 79, 80, 81, 82, 83, 84, 85, 86, 87, 88, 89, 90, 91, 92, 93, 94, 95, 96, 97, 98, 24] rfl rfl ?_
  refine j_S C ((cX g kk σ).eraseIdx 24) (c_fill kk (g 24) 28 (by decide) (σ.2.1 24) v) kyJ7_fill_53178 hl tb_37 rfl hst hR1 hR2 d rfl (fun vr ur hp => ?_)
  obtain ⟨rfl, -⟩ := hp
  refine j_perm (w' := cX g kk (sF σ 24 (fillF (σ.2.1 24) v 28))) [0, 1, 2, 3, 4, 5, 6, 7, 8, 9, 10, 11, 12, 13, 14, 15, 16, 17, 18, 19, 20, 21, 22, 23, 98, 24, 25, 26, 27, 28, 29, 30, 31, 32, 33, 34, 35, 36, 37, 38, 39, 40, 41, 42, 43, 44, 45, 46, 47, 48, 49, 50, 51, 52, 53, 54, 55, 56, 57, 58, 59, 60, 61, 62, 63, 64, 65, 66, 67, 68, 69, 70, 71, 72, 73, 74, 75, 76, 77, 78, 79, 80, 81, 82, 83, 84, 85, 86, 87, 88, 89, 90, 91, 92, 93, 94, 95, 96, 97] rfl rfl ?_
  exact k
theorem i64ne {x : Int32} (h : ¬ x = 0) : ¬ x.toInt64 = 0 := fun q => h (Int32.toInt_inj.mp (by
  have e := congrArg Int64.toInt q
  rw [Int32.toInt_toInt64] at e
  exact e))
theorem nI_nm1 {n : Nat} (h : n < 2 ^ 31) : ¬ nI n = -1 := fun q => by
  have e := congrArg Int32.toInt q
  rw [nI_toInt h] at e
  have z : (-1 : Int32).toInt = -1 := by decide
  omega
theorem ltB {d : Nat} {x : Int32} (b : Nat) (hb : b < 2 ^ 31) (hd : d < 2 ^ 31) (h : ¬ x < nI d) (h2 : ¬ nI b ≤ x) : d < b := by
  rw [Int32.lt_iff_toInt_lt, nI_toInt hd] at h
  rw [Int32.le_iff_toInt_le, nI_toInt hb] at h2
  omega
