/-- days below d of weekday w that P holds of -/
def mi (P : Nat → Bool) (w : Nat) : Nat → Nat
  | 0 => 0
  | d + 1 => mi P w d + (if d % 7 = w ∧ P d = true then 1 else 0)
def am (P : Nat → Bool) : Nat → Nat
  | 0 => 0
  | n + 1 => if mi P (am P n) 28 < mi P (n + 1) 28 then n + 1 else am P n
theorem mi_le (P : Nat → Bool) (w : Nat) : ∀ d, mi P w d ≤ d
  | 0 => Nat.le_refl _
  | d + 1 => by
    have := mi_le P w d
    show mi P w d + (if d % 7 = w ∧ P d = true then 1 else 0) ≤ d + 1
    split <;> omega
theorem mi_same {P : Nat → Bool} {w d : Nat} (h : ¬ d % 7 = w) : mi P w (d + 1) = mi P w d := by
  show mi P w d + (if d % 7 = w ∧ P d = true then 1 else 0) = _
  rw [if_neg (fun q => h q.1)]; rfl
theorem mi_no {P : Nat → Bool} {w d : Nat} (h : P d = false) : mi P w (d + 1) = mi P w d := by
  show mi P w d + (if d % 7 = w ∧ P d = true then 1 else 0) = _
  rw [if_neg (fun q => by rw [h] at q; exact absurd q.2 (by decide))]; rfl
theorem mi_yes {P : Nat → Bool} {w d : Nat} (h : P d = true) (hw : d % 7 = w) : mi P w (d + 1) = mi P w d + 1 := by
  show mi P w d + (if d % 7 = w ∧ P d = true then 1 else 0) = _
  rw [if_pos ⟨hw, h⟩]
theorem mi_run {P : Nat → Bool} {w d : Nat} : ∀ m : Nat, (∀ e, d ≤ e → e < d + m → ¬ e % 7 = w) → mi P w (d + m) = mi P w d
  | 0, _ => rfl
  | m + 1, h => by
    rw [← Nat.add_assoc, mi_same (h (d + m) (by omega) (by omega))]
    exact mi_run m (fun e h1 h2 => h e h1 (by omega))
theorem mi_0 {P : Nat → Bool} {w : Nat} (hw : w < 7) : 0 = mi P w w := by
  have := mi_run (P := P) (w := w) (d := 0) w (fun e h1 h2 => by omega)
  rw [Nat.zero_add] at this
  rw [this]; rfl
theorem mi_28 {P : Nat → Bool} {w d m : Nat} (h : m = mi P w d) (hd : d % 7 = w) (h1 : 28 ≤ d) (h2 : d ≤ 34) : m = mi P w 28 := by
  have := mi_run (P := P) (w := w) (d := 28) (d - 28) (fun e h1 h2 => by omega)
  rw [show 28 + (d - 28) = d by omega] at this
  rw [h, this]
theorem mi_7 {P : Nat → Bool} {w d : Nat} (hd : d % 7 = w) : mi P w (d + 7) = mi P w (d + 1) := by
  have := mi_run (P := P) (w := w) (d := d + 1) 6 (fun e h1 h2 => by omega)
  rw [show d + 1 + 6 = d + 7 by omega] at this
  exact this
theorem mi_a1 {P : Nat → Bool} {w d m : Nat} (h : m = mi P w d) (hd : d % 7 = w) (hp : P d = true) : m + 1 = mi P w (d + 7) := by
  rw [mi_7 hd, mi_yes hp hd, h]
theorem mi_a0 {P : Nat → Bool} {w d m : Nat} (h : m = mi P w d) (hd : d % 7 = w) (hp : P d = false) : m + 0 = mi P w (d + 7) := by
  rw [mi_7 hd, mi_no hp, h]; rfl
theorem am_le (P : Nat → Bool) : ∀ n, am P n ≤ n
  | 0 => Nat.le_refl _
  | n + 1 => by
    have := am_le P n
    show (if mi P (am P n) 28 < mi P (n + 1) 28 then n + 1 else am P n) ≤ n + 1
    split <;> omega
theorem am_n {P : Nat → Bool} {w n : Nat} (hw : w = am P (n - 1)) (h1 : 1 ≤ n) (h : mi P n 28 ≤ mi P w 28) : w = am P (n + 1 - 1) := by
  obtain ⟨m, rfl⟩ : ∃ m, n = m + 1 := ⟨n - 1, by omega⟩
  rw [Nat.add_sub_cancel] at hw ⊢
  show w = (if mi P (am P m) 28 < mi P (m + 1) 28 then m + 1 else am P m)
  rw [← hw, if_neg (by omega)]
theorem am_g {P : Nat → Bool} {w n : Nat} (hw : w = am P (n - 1)) (h1 : 1 ≤ n) (h : mi P w 28 < mi P n 28) : n = am P (n + 1 - 1) := by
  obtain ⟨m, rfl⟩ : ∃ m, n = m + 1 := ⟨n - 1, by omega⟩
  rw [Nat.add_sub_cancel] at hw ⊢
  show m + 1 = (if mi P (am P m) 28 < mi P (m + 1) 28 then m + 1 else am P m)
  rw [← hw, if_pos h]
theorem mi_congr {P Q : Nat → Bool} {w : Nat} : ∀ d, (∀ e, e < d → P e = Q e) → mi P w d = mi Q w d
  | 0, _ => rfl
  | d + 1, h => by
    show mi P w d + (if d % 7 = w ∧ P d = true then 1 else 0) = mi Q w d + (if d % 7 = w ∧ Q d = true then 1 else 0)
    rw [mi_congr d (fun e he => h e (by omega)), h d (by omega)]
theorem am_congr {P Q : Nat → Bool} (h : ∀ e, e < 28 → P e = Q e) : ∀ n, am P n = am Q n
  | 0 => rfl
  | n + 1 => by
    show (if mi P (am P n) 28 < mi P (n + 1) 28 then n + 1 else am P n) = (if mi Q (am Q n) 28 < mi Q (n + 1) 28 then n + 1 else am Q n)
    rw [am_congr h n, mi_congr 28 h, mi_congr 28 h]
def pX (f : Nat → Int32) (b e : Nat) : Bool := decide (f (b + e) = -1)
def pM (f : Nat → Int32) (b e : Nat) : Bool := decide (¬ 0 ≤ f (b + e))
theorem mX_y {f fm : Nat → Int32} {b d : Nat} (h : ∀ j, j < 7 → fm j = nI (mi (pX f b) j d)) (hp : f (b + d) = -1) : ∀ j, j < 7 → upd fm (d % 7) (fm (d % 7) + nI 1) j = nI (mi (pX f b) j (d + 1)) := fun j hj => by
  have e : pX f b d = true := decide_eq_true hp
  by_cases q : j = d % 7
  · rw [q, pk_us, h _ (by omega), nI_add, mi_yes e rfl]
  · rw [pk_un q, h j hj, mi_same (fun w => q w.symm)]
theorem mX_n {f fm : Nat → Int32} {b d : Nat} (h : ∀ j, j < 7 → fm j = nI (mi (pX f b) j d)) (hp : ¬ f (b + d) = -1) : ∀ j, j < 7 → fm j = nI (mi (pX f b) j (d + 1)) := fun j hj => by
  rw [h j hj, mi_no (show pX f b d = false from decide_eq_false hp)]
theorem nle6 {m : Nat} (h : m < 2 ^ 31) : ¬ nI m ≤ -6 := fun q => by
  rw [Int32.le_iff_toInt_le, nI_toInt h] at q
  have z : (-6 : Int32).toInt = -6 := by decide
  omega
def fgF (k : Nat) (P : Nat → Nat → Bool) (x y : Int32) : Int32 := if cB x (nI k) = false then -1 else if wB y (nI 0) (nI 1) = false then -2 else if y = nI 0 then nI (am (P x.toNatClampNeg) 6) else nI (mi (P x.toNatClampNeg) (am (P x.toNatClampNeg) 6) 28)
theorem fgF_1 {k : Nat} {P : Nat → Nat → Bool} {x y : Int32} (h : cB x (nI k) = false) : -1 = fgF k P x y := by unfold fgF; rw [if_pos h]
theorem fgF_2 {k : Nat} {P : Nat → Nat → Bool} {x y : Int32} (h : cB x (nI k) = true) (h2 : wB y (nI 0) (nI 1) = false) : -2 = fgF k P x y := by unfold fgF; rw [if_neg (by rw [h]; decide), if_pos h2]
theorem fgF_3 {k c y w : Nat} {P : Nat → Nat → Bool} {Q : Nat → Bool} {r : Int32} (h : cB (nI c) (nI k) = true) (h2 : wB (nI y) (nI 0) (nI 1) = true) (hc : c < 2 ^ 31) (hy : y = 0) (hQ : Q = P c) (hw : w = am Q 6) (hr : r = nI w) : r = fgF k P (nI c) (nI y) := by
  unfold fgF
  rw [if_neg (by rw [h]; decide), if_neg (by rw [h2]; decide), if_pos (by rw [hy]), nI_clamp hc, ← hQ, ← hw, hr]
theorem fgF_4 {k c y w : Nat} {P : Nat → Nat → Bool} {Q : Nat → Bool} {r : Int32} (h : cB (nI c) (nI k) = true) (h2 : wB (nI y) (nI 0) (nI 1) = true) (hc : c < 2 ^ 31) (hy1 : y < 2 ^ 31) (hy : ¬ y = 0) (hQ : Q = P c) (hw : w = am Q 6) (hr : r = nI (mi Q w 28)) : r = fgF k P (nI c) (nI y) := by
  unfold fgF
  rw [if_neg (by rw [h]; decide), if_neg (by rw [h2]; decide), if_neg (fun z => hy ((nI_eq hy1 (by decide)).mp z)), nI_clamp hc, ← hQ, ← hw, hr]
set_option maxRecDepth 100000 in
set_option maxHeartbeats 4000000 in
theorem e_forgot (g kk : Nat → Nat) (σ : St) (k : Nat) (hk : σ.1 16 = nI k) (hk6 : k ≤ 6) (hI : iX σ)  (c : Nat) (hc0 : c < 6) : jM (S := St) yX3_findForgotten cX3_findForgotten 3 none { frames := 1, cells := 0, slots := 0, locals := 23 } kk (cX g kk σ) [.ref (g 53), .int (nI c)] (cX g kk) (rV (fun u : St => ∃ (pF54 : Nat → Int32) (w : Nat) (v : Nat), u = sI (sI (sF σ 54 pF54) 854 (nI w)) 855 (nI v) ∧ (w = am (pX (σ.2.1 6) (c * 28)) 6 ∧ v = mi (pX (σ.2.1 6) (c * 28)) w 28 ∧ w ≤ 6))) := by
  refine j_entry [(0, .ref (g 53)), (1, .int (nI c))] (by decide) (Nat.le_of_ble_eq_true rfl) rfl ?_
  intro X C E HI
  refine j_aload_n C 0 rfl dX3_findForgotten_0 ?_
  refine gX_53_1 C tb_397 dX3_findForgotten_1 ?_
  refine j_iconst C (nI 0) (by decide) dX3_findForgotten_4 ?_
  refine fl_54 C tb_840 (Nat.le_of_ble_eq_true rfl) ⟨by decide, by decide⟩ ⟨by decide, by decide⟩ dX3_findForgotten_5 ?_
  refine j_iconst C (nI 0) (by decide) dX3_findForgotten_8 ?_
  refine j_istore_n C [(2, .int (nI 0)), (0, .ref (g 53)), (1, .int (nI c))] rfl (by decide) rfl dX3_findForgotten_9 ?_
  have L10 : ∀ (n10 : Nat) (d : Nat) (fm : Nat → Int32) (i10_0 : d ≤ 28) (hm : ∀ j, j < 7 → fm j = nI (mi (pX (σ.2.1 6) (c * 28)) j d)) (hm10 : 28 - d < n10), J X 0 0 (cX g kk (sF σ 54 fm)) [(2, .int (nI d)), (0, .ref (g 53)), (1, .int (nI c))] 10 [] := by
    intro n10
    induction n10 with
    | zero => intro d fm i10_0 hm hm; exact absurd hm (Nat.not_lt_zero _)
    | succ n10 ih10 =>
      intro d fm i10_0 hm hm10
      refine j_iload_n C 0 rfl dX3_findForgotten_10 ?_
      refine j_bipush C (nI 28) (by decide) dX3_findForgotten_11 ?_
      refine j_icmp_geN C 53 (by decide) (by omega) (by omega) dX3_findForgotten_13 (fun c1 => ?_) (fun c1 => ?_)
      · have hm28 : ∀ j, j < 7 → fm j = nI (mi (pX (σ.2.1 6) (c * 28)) j 28) := fun j hj => by have z := hm j hj; rw [show d = 28 by omega] at z; exact z
        refine j_aload_n C 1 rfl dX3_findForgotten_53 ?_
        refine j_iconst C (nI 0) (by decide) dX3_findForgotten_54 ?_
        refine pX_53_6 C tb_406 dX3_findForgotten_55 ?_
        refine j_iconst C (nI 1) (by decide) dX3_findForgotten_58 ?_
        refine j_istore_n C [(2, .int (nI 1)), (0, .ref (g 53)), (1, .int (nI c))] rfl (by decide) rfl dX3_findForgotten_59 ?_
        have L60 : ∀ (n60 : Nat) (n : Nat) (w : Nat) (i60_0 : 1 ≤ n) (i60_1 : n ≤ 7) (i60_2 : w ≤ 6) (hw : w = am (pX (σ.2.1 6) (c * 28)) (n - 1)) (hm60 : 7 - n < n60), J X 0 0 (cX g kk (sI (sF σ 54 fm) 854 (nI w))) [(2, .int (nI n)), (0, .ref (g 53)), (1, .int (nI c))] 60 [] := by
          intro n60
          induction n60 with
          | zero => intro n w i60_0 i60_1 i60_2 hw hm; exact absurd hm (Nat.not_lt_zero _)
          | succ n60 ih60 =>
            intro n w i60_0 i60_1 i60_2 hw hm60
            refine j_iload_n C 0 rfl dX3_findForgotten_60 ?_
            refine j_bipush C (nI 7) (by decide) dX3_findForgotten_61 ?_
            refine j_icmp_geN C 95 (by decide) (by omega) (by omega) dX3_findForgotten_63 (fun c2 => ?_) (fun c2 => ?_)
            · refine j_aload_n C 1 rfl dX3_findForgotten_95 ?_
              refine j_aload_n C 1 rfl dX3_findForgotten_96 ?_
              refine gX_53_1 C tb_397 dX3_findForgotten_97 ?_
              refine j_aload_n C 1 rfl dX3_findForgotten_100 ?_
              refine gX_53_6 C tb_406 (nI w) rfl dX3_findForgotten_101 ?_
              have zw_0 := mi_le (pX (σ.2.1 6) (c * 28)) w 28
              refine rX_54 C w rfl (by omega) (nI (mi (pX (σ.2.1 6) (c * 28)) w 28)) (hm28 w (by omega)) dX3_findForgotten_104 ?_
              refine pX_53_7 C tb_408 dX3_findForgotten_105 ?_
              exact j_vret C E (sI (sI (sF σ 54 fm) 854 (nI w)) 855 (nI (mi (pX (σ.2.1 6) (c * 28)) w 28))) ⟨rfl, ⟨fm, w, (mi (pX (σ.2.1 6) (c * 28)) w 28), rfl, ⟨by rw [hw, show n = 7 by omega], rfl, by omega⟩⟩⟩ rfl dX3_findForgotten_108
            · refine j_aload_n C 1 rfl dX3_findForgotten_66 ?_
              refine gX_53_1 C tb_397 dX3_findForgotten_67 ?_
              refine j_iload_n C 0 rfl dX3_findForgotten_70 ?_
              have zn_0 := mi_le (pX (σ.2.1 6) (c * 28)) n 28
              refine rX_54 C n rfl (by omega) (nI (mi (pX (σ.2.1 6) (c * 28)) n 28)) (hm28 n (by omega)) dX3_findForgotten_71 ?_
              refine j_aload_n C 1 rfl dX3_findForgotten_72 ?_
              refine gX_53_1 C tb_397 dX3_findForgotten_73 ?_
              refine j_aload_n C 1 rfl dX3_findForgotten_76 ?_
              refine gX_53_6 C tb_406 (nI w) rfl dX3_findForgotten_77 ?_
              have zw_0 := mi_le (pX (σ.2.1 6) (c * 28)) w 28
              refine rX_54 C w rfl (by omega) (nI (mi (pX (σ.2.1 6) (c * 28)) w 28)) (hm28 w (by omega)) dX3_findForgotten_80 ?_
              refine j_icmp_leN C 89 (by decide) (by omega) (by omega) dX3_findForgotten_81 (fun c3 => ?_) (fun c3 => ?_)
              · refine j_iinc C (nI (n + 1)) [(2, .int (nI (n + 1))), (0, .ref (g 53)), (1, .int (nI c))] 0 rfl (by rw [show Int32.ofInt 1 = nI 1 from by decide, nI_add]) (by decide) rfl dX3_findForgotten_89 ?_
                refine j_goto C 60 (by decide) dX3_findForgotten_92 ?_
                exact ih60 (n + 1) w (by omega) (by omega) (by omega) (am_n hw (by omega) (by omega)) (by omega)
              · refine j_aload_n C 1 rfl dX3_findForgotten_84 ?_
                refine j_iload_n C 0 rfl dX3_findForgotten_85 ?_
                refine pX_53_6 C tb_406 dX3_findForgotten_86 ?_
                refine j_iinc C (nI (n + 1)) [(2, .int (nI (n + 1))), (0, .ref (g 53)), (1, .int (nI c))] 0 rfl (by rw [show Int32.ofInt 1 = nI 1 from by decide, nI_add]) (by decide) rfl dX3_findForgotten_89 ?_
                refine j_goto C 60 (by decide) dX3_findForgotten_92 ?_
                refine j_w (cX g kk (sI (sF σ 54 fm) 854 (nI n))) (congrArg (cX g kk) (show sI (sI (sF σ 54 fm) 854 (nI w)) 854 (nI n) = sI (sF σ 54 fm) 854 (nI n) from wrIs)) ?_
                exact ih60 (n + 1) n (by omega) (by omega) (by omega) (am_g hw (by omega) (by omega)) (by omega)
        exact L60 _ 1 0 (by omega) (by omega) (by omega) rfl (Nat.lt_succ_self _)
      · refine j_aload_n C 1 rfl dX3_findForgotten_16 ?_
        refine gX_53_0 C tb_396 dX3_findForgotten_17 ?_
        refine gX_1_5 C tb_117 dX3_findForgotten_20 ?_
        refine j_iload_n C 2 rfl dX3_findForgotten_23 ?_
        refine j_bipush C (nI 28) (by decide) dX3_findForgotten_24 ?_
        refine j_imulN C dX3_findForgotten_26 ?_
        refine j_iload_n C 0 rfl dX3_findForgotten_27 ?_
        refine j_iaddN C dX3_findForgotten_28 ?_
        refine rX_6 C ((c * 28) + d) rfl (by omega) ((σ.2.1 6) ((c * 28) + d)) rfl dX3_findForgotten_29 ?_
        refine j_iconst C ((-1)) (by decide) dX3_findForgotten_30 ?_
        refine j_icmp_ne C 47 (by decide) dX3_findForgotten_31 (fun c4 => ?_) (fun c4 => ?_)
        · refine j_iinc C (nI (d + 1)) [(2, .int (nI (d + 1))), (0, .ref (g 53)), (1, .int (nI c))] 0 rfl (by rw [show Int32.ofInt 1 = nI 1 from by decide, nI_add]) (by decide) rfl dX3_findForgotten_47 ?_
          refine j_goto C 10 (by decide) dX3_findForgotten_50 ?_
          exact ih10 (d + 1) fm (by omega) (mX_n hm c4) (by omega)
        · refine j_aload_n C 1 rfl dX3_findForgotten_34 ?_
          refine gX_53_1 C tb_397 dX3_findForgotten_35 ?_
          refine j_iload_n C 0 rfl dX3_findForgotten_38 ?_
          refine j_bipush C (nI 7) (by decide) dX3_findForgotten_39 ?_
          refine j_iremN C (by omega) (by omega) (by omega) dX3_findForgotten_41 ?_
          refine j_dup2 C rfl rfl dX3_findForgotten_42 ?_
          refine rX_54 C (d % 7) rfl (by omega) (fm (d % 7)) rfl dX3_findForgotten_43 ?_
          refine j_iconst C (nI 1) (by decide) dX3_findForgotten_44 ?_
          refine j_iadd C dX3_findForgotten_45 ?_
          refine tX_54 C (d % 7) rfl (by omega) dX3_findForgotten_46 ?_
          refine j_iinc C (nI (d + 1)) [(2, .int (nI (d + 1))), (0, .ref (g 53)), (1, .int (nI c))] 0 rfl (by rw [show Int32.ofInt 1 = nI 1 from by decide, nI_add]) (by decide) rfl dX3_findForgotten_47 ?_
          refine j_goto C 10 (by decide) dX3_findForgotten_50 ?_
          refine j_w (cX g kk (sF σ 54 (upd fm (d % 7) ((fm (d % 7)) + (nI 1))))) (congrArg (cX g kk) (show sF (sF σ 54 fm) 54 (upd fm (d % 7) ((fm (d % 7)) + (nI 1))) = sF σ 54 (upd fm (d % 7) ((fm (d % 7)) + (nI 1))) from wrFs)) ?_
          exact ih10 (d + 1) (upd fm (d % 7) ((fm (d % 7)) + (nI 1))) (by omega) (mX_y hm c4) (by omega)
  exact L10 _ 0 (fillF (σ.2.1 54) (nI 0) 7) (by omega) (fun j hj => if_pos hj) (Nat.lt_succ_self _)
set_option maxRecDepth 100000 in
set_option maxHeartbeats 4000000 in
theorem e_forgets (g kk : Nat → Nat) (σ : St) (k : Nat) (hk : σ.1 16 = nI k) (hk6 : k ≤ 6) (hI : iX σ)  (x : Int32) (y : Int32) : jM (S := St) yX10_forgets cX10_forgets 3 (some .int) { frames := 2, cells := 0, slots := 0, locals := 45 } kk (cX g kk σ) [.ref (g 0), .int x, .int y] (cX g kk) (rI (fun (r : Int32) (u : St) => ∃ (pF54 : Nat → Int32) (pI854 : Int32) (pI855 : Int32), u = sI (sI (sF σ 54 pF54) 854 pI854) 855 pI855 ∧ (r = fgF k (fun c e => pX (σ.2.1 6) (c * 28) e) x y))) := by
  refine j_entry [(0, .ref (g 0)), (1, .int x), (2, .int y)] (by decide) (Nat.le_of_ble_eq_true rfl) rfl ?_
  intro X C E HI
  refine j_aload_n C 0 rfl dX10_forgets_0 ?_
  refine j_iload_n C 1 rfl dX10_forgets_1 ?_
  refine j_V1 C (c_isCan g kk σ k hk hk6 x) kyX10_isCan tb_478 tb_480 sp_0 0 rfl (eX_0 g kk _) rfl (Nat.le_of_ble_eq_true rfl) ⟨by decide, by decide⟩ dX10_forgets_2 rfl (fun vr ur hp => ?_)
  obtain ⟨r, rfl, rfl, hu⟩ := hp
  replace hu := hu.symm
  subst hu
  refine j_if_ne C 10 (by decide) dX10_forgets_5 (fun c1 => ?_) (fun c1 => ?_)
  · replace c1 := bI_t c1
    obtain ⟨xn, xn1, rfl⟩ := cB_nat (by omega) c1
    refine j_iload_n C 2 rfl dX10_forgets_10 ?_
    refine j_iconst C (nI 0) (by decide) dX10_forgets_11 ?_
    refine j_iconst C (nI 1) (by decide) dX10_forgets_12 ?_
    refine j_S01 C (c_isWithin y (nI 0) (nI 1)) kyX10_isWithin tb_467 tb_468 rfl (Nat.le_of_ble_eq_true rfl) ⟨by decide, by decide⟩ ⟨by decide, by decide⟩ dX10_forgets_13 rfl ?_
    refine j_if_ne C 22 (by decide) dX10_forgets_16 (fun c2 => ?_) (fun c2 => ?_)
    · replace c2 := bI_t c2
      obtain ⟨yn, yn1, yn2, rfl⟩ := wB_nat (by decide) (by decide) c2
      refine j_aload_n C 0 rfl dX10_forgets_22 ?_
      refine gX_0_7 C tb_435 dX10_forgets_23 ?_
      refine j_iload_n C 1 rfl dX10_forgets_26 ?_
      refine j_V1 C (e_forgot g kk σ k hk hk6 hI  xn (by first | assumption | omega)) kyX3_findForgotten tb_836 tb_837 tb_838 53 rfl (eX_53 g kk _) rfl (Nat.le_of_ble_eq_true rfl) ⟨by decide, by decide⟩ dX10_forgets_27 rfl (fun vr ur hp => ?_)
      obtain ⟨rfl, w3, w4, w5, hu, g6⟩ := hp
      replace hu := hu.symm
      subst hu
      refine j_iload_n C 2 rfl dX10_forgets_30 ?_
      refine j_if_neN C 44 (by decide) (by omega) dX10_forgets_31 (fun c7 => ?_) (fun c7 => ?_)
      · refine j_aload_n C 0 rfl dX10_forgets_44 ?_
        refine gX_0_7 C tb_435 dX10_forgets_45 ?_
        refine gX_53_7 C tb_409 (nI w5) rfl dX10_forgets_48 ?_
        exact j_iret C E (sI (sI (sF σ 54 w3) 854 (nI w4)) 855 (nI w5)) ⟨_, rfl, ⟨w3, (nI w4), (nI w5), rfl, (by first | exact fgF_3 c1 c2 (by omega) (by assumption) rfl g6.1 rfl | exact fgF_4 c1 c2 (by omega) (by omega) (by assumption) rfl g6.1 (by rw [g6.2.1]))⟩⟩ rfl dX10_forgets_51
      · refine j_aload_n C 0 rfl dX10_forgets_34 ?_
        refine gX_0_7 C tb_435 dX10_forgets_35 ?_
        refine gX_53_6 C tb_407 (nI w4) rfl dX10_forgets_38 ?_
        refine j_goto C 51 (by decide) dX10_forgets_41 ?_
        exact j_iret C E (sI (sI (sF σ 54 w3) 854 (nI w4)) 855 (nI w5)) ⟨_, rfl, ⟨w3, (nI w4), (nI w5), rfl, (by first | exact fgF_3 c1 c2 (by omega) (by assumption) rfl g6.1 rfl | exact fgF_4 c1 c2 (by omega) (by omega) (by assumption) rfl g6.1 (by rw [g6.2.1]))⟩⟩ rfl dX10_forgets_51
    · replace c2 := bI_f c2
      refine j_bipush C ((-2)) (by decide) dX10_forgets_19 ?_
      refine j_w (cX g kk (sF σ 54 (σ.2.1 54))) (congrArg (cX g kk) (wrFi (S := σ) (c := 54) (v := σ.2.1 54) rfl)) ?_
      refine j_w (cX g kk (sI (sF σ 54 (σ.2.1 54)) 854 (σ.1 854))) (congrArg (cX g kk) (wrIi (S := (sF σ 54 (σ.2.1 54))) (c := 854) (v := σ.1 854) (gtIF rfl))) ?_
      refine j_w (cX g kk (sI (sI (sF σ 54 (σ.2.1 54)) 854 (σ.1 854)) 855 (σ.1 855))) (congrArg (cX g kk) (wrIi (S := (sI (sF σ 54 (σ.2.1 54)) 854 (σ.1 854))) (c := 855) (v := σ.1 855) (gtII (by decide) (gtIF rfl)))) ?_
      exact j_iret C E (sI (sI (sF σ 54 (σ.2.1 54)) 854 (σ.1 854)) 855 (σ.1 855)) ⟨_, rfl, ⟨(σ.2.1 54), (σ.1 854), (σ.1 855), rfl, (fgF_2 c1 c2)⟩⟩ rfl dX10_forgets_21
  · replace c1 := bI_f c1
    refine j_iconst C ((-1)) (by decide) dX10_forgets_8 ?_
    refine j_w (cX g kk (sF σ 54 (σ.2.1 54))) (congrArg (cX g kk) (wrFi (S := σ) (c := 54) (v := σ.2.1 54) rfl)) ?_
    refine j_w (cX g kk (sI (sF σ 54 (σ.2.1 54)) 854 (σ.1 854))) (congrArg (cX g kk) (wrIi (S := (sF σ 54 (σ.2.1 54))) (c := 854) (v := σ.1 854) (gtIF rfl))) ?_
    refine j_w (cX g kk (sI (sI (sF σ 54 (σ.2.1 54)) 854 (σ.1 854)) 855 (σ.1 855))) (congrArg (cX g kk) (wrIi (S := (sI (sF σ 54 (σ.2.1 54)) 854 (σ.1 854))) (c := 855) (v := σ.1 855) (gtII (by decide) (gtIF rfl)))) ?_
    exact j_iret C E (sI (sI (sF σ 54 (σ.2.1 54)) 854 (σ.1 854)) 855 (σ.1 855)) ⟨_, rfl, ⟨(σ.2.1 54), (σ.1 854), (σ.1 855), rfl, (fgF_1 c1)⟩⟩ rfl dX10_forgets_9
set_option maxRecDepth 100000 in
set_option maxHeartbeats 4000000 in
theorem o_forgets (g kk : Nat → Nat) (σ : St) (k : Nat) (hk : σ.1 3 = nI k) (hk6 : k ≤ 6) (hI : iM σ)  (x : Int32) (y : Int32) : jM (S := St) yX11_forgets cX11_forgets 8 (some .int) { frames := 2, cells := 0, slots := 0, locals := 46 } kk (cM g kk σ) [.ref (g 0), .int x, .int y] (cM g kk) (rI (fun (r : Int32) (u : St) => u = σ ∧ (r = fgF k (fun c e => pM (σ.2.1 5) (28 * c) e) x y))) := by
  refine j_entry [(0, .ref (g 0)), (1, .int x), (2, .int y)] (by decide) (Nat.le_of_ble_eq_true rfl) rfl ?_
  intro X C E HI
  refine j_aload_n C 0 rfl dX11_forgets_0 ?_
  refine j_iload_n C 1 rfl dX11_forgets_1 ?_
  refine j_V1 C (m_isCan g kk σ k hk hk6 x) kyX11_isCan tb_1067 tb_1069 sp_21 0 rfl (eM_0 g kk _) rfl (Nat.le_of_ble_eq_true rfl) ⟨by decide, by decide⟩ dX11_forgets_2 rfl (fun vr ur hp => ?_)
  obtain ⟨r, rfl, rfl, hu⟩ := hp
  replace hu := hu.symm
  subst hu
  refine j_if_ne C 10 (by decide) dX11_forgets_5 (fun c1 => ?_) (fun c1 => ?_)
  · replace c1 := bI_t c1
    obtain ⟨xn, xn1, rfl⟩ := cB_nat (by omega) c1
    refine j_iload_n C 2 rfl dX11_forgets_10 ?_
    refine j_i2l C dX11_forgets_11 ?_
    refine j_lconst C 0 (by decide) dX11_forgets_12 ?_
    refine j_lconst C 1 (by decide) dX11_forgets_13 ?_
    refine j_S01 C (m_inB y (nI 0) (nI 1) 0 1 (by decide) (by decide)) kyX11_in tb_1057 tb_1058 rfl (Nat.le_of_ble_eq_true rfl) ⟨by decide, by decide⟩ ⟨by decide, by decide⟩ dX11_forgets_14 rfl ?_
    refine j_if_ne C 23 (by decide) dX11_forgets_17 (fun c2 => ?_) (fun c2 => ?_)
    · replace c2 := bI_t c2
      obtain ⟨yn, yn1, yn2, rfl⟩ := wB_nat (by decide) (by decide) c2
      refine j_iconst C (nI 0) (by decide) dX11_forgets_23 ?_
      refine j_istore_n C [(3, .int (nI 0)), (0, .ref (g 0)), (1, .int (nI xn)), (2, .int (nI yn))] rfl (by decide) rfl dX11_forgets_24 ?_
      refine j_bipush C ((-6)) (by decide) dX11_forgets_25 ?_
      refine j_istore C [(4, .int (-6)), (3, .int (nI 0)), (0, .ref (g 0)), (1, .int (nI xn)), (2, .int (nI yn))] (by decide) rfl dX11_forgets_27 ?_
      refine j_iconst C (nI 0) (by decide) dX11_forgets_29 ?_
      refine j_istore C [(5, .int (nI 0)), (4, .int (-6)), (3, .int (nI 0)), (0, .ref (g 0)), (1, .int (nI xn)), (2, .int (nI yn))] (by decide) rfl dX11_forgets_30 ?_
      have L32 : ∀ (n32 : Nat) (w : Nat) (y32_4 : Int32) (bt : Nat) (i32_0 : w ≤ 7) (i32_1 : bt ≤ 6) (hmost : (w = 0 ∧ bt = 0 ∧ y32_4 = -6) ∨ (1 ≤ w ∧ bt = am (pM (σ.2.1 5) (28 * xn)) (w - 1) ∧ y32_4 = nI (mi (pM (σ.2.1 5) (28 * xn)) bt 28))) (hm32 : 7 - w < n32), J X 0 0 (cM g kk σ) [(5, .int (nI w)), (4, .int y32_4), (3, .int (nI bt)), (0, .ref (g 0)), (1, .int (nI xn)), (2, .int (nI yn))] 32 [] := by
        intro n32
        induction n32 with
        | zero => intro w y32_4 bt i32_0 i32_1 hmost hm; exact absurd hm (Nat.not_lt_zero _)
        | succ n32 ih32 =>
          intro w y32_4 bt i32_0 i32_1 hmost hm32
          refine j_iload C 0 rfl dX11_forgets_32 ?_
          refine j_bipush C (nI 7) (by decide) dX11_forgets_34 ?_
          refine j_icmp_geN C 103 (by decide) (by omega) (by omega) dX11_forgets_36 (fun c3 => ?_) (fun c3 => ?_)
          · refine j_iload_n C 5 rfl dX11_forgets_103 ?_
            refine j_if_neN C 111 (by decide) (by omega) dX11_forgets_104 (fun c4 => ?_) (fun c4 => ?_)
            · refine j_iload C 1 rfl dX11_forgets_111 ?_
              exact j_iret C E (σ) ⟨_, rfl, ⟨rfl, (by rcases hmost with ⟨hw0, -⟩ | ⟨hw1, hb1, hmo⟩; (exfalso; omega); first | exact fgF_3 c1 c2 (by omega) (by assumption) rfl (by rw [hb1, show w = 7 by omega]) rfl | exact fgF_4 c1 c2 (by omega) (by omega) (by assumption) rfl (by rw [hb1, show w = 7 by omega]) hmo)⟩⟩ rfl dX11_forgets_113
            · refine j_iload_n C 2 rfl dX11_forgets_107 ?_
              refine j_goto C 113 (by decide) dX11_forgets_108 ?_
              exact j_iret C E (σ) ⟨_, rfl, ⟨rfl, (by rcases hmost with ⟨hw0, -⟩ | ⟨hw1, hb1, hmo⟩; (exfalso; omega); first | exact fgF_3 c1 c2 (by omega) (by assumption) rfl (by rw [hb1, show w = 7 by omega]) rfl | exact fgF_4 c1 c2 (by omega) (by omega) (by assumption) rfl (by rw [hb1, show w = 7 by omega]) hmo)⟩⟩ rfl dX11_forgets_113
          · refine j_iconst C (nI 0) (by decide) dX11_forgets_39 ?_
            refine j_istore C [(6, .int (nI 0)), (5, .int (nI w)), (4, .int y32_4), (3, .int (nI bt)), (0, .ref (g 0)), (1, .int (nI xn)), (2, .int (nI yn))] (by decide) rfl dX11_forgets_40 ?_
            refine j_iload C 1 rfl dX11_forgets_42 ?_
            refine j_istore C [(7, .int (nI w)), (6, .int (nI 0)), (5, .int (nI w)), (4, .int y32_4), (3, .int (nI bt)), (0, .ref (g 0)), (1, .int (nI xn)), (2, .int (nI yn))] (by decide) rfl dX11_forgets_44 ?_
            have L46 : ∀ (n46 : Nat) (d : Nat) (m : Nat) (i46_0 : d ≤ 34) (i46_1 : m ≤ d) (hd : d % 7 = w) (hmi : m = mi (pM (σ.2.1 5) (28 * xn)) w d) (hm46 : 34 - d < n46), J X 0 0 (cM g kk σ) [(7, .int (nI d)), (6, .int (nI m)), (5, .int (nI w)), (4, .int y32_4), (3, .int (nI bt)), (0, .ref (g 0)), (1, .int (nI xn)), (2, .int (nI yn))] 46 [] := by
              intro n46
              induction n46 with
              | zero => intro d m i46_0 i46_1 hd hmi hm; exact absurd hm (Nat.not_lt_zero _)
              | succ n46 ih46 =>
                intro d m i46_0 i46_1 hd hmi hm46
                refine j_iload C 0 rfl dX11_forgets_46 ?_
                refine j_bipush C (nI 28) (by decide) dX11_forgets_48 ?_
                refine j_icmp_geN C 83 (by decide) (by omega) (by omega) dX11_forgets_50 (fun c5 => ?_) (fun c5 => ?_)
                · have hmi28 := mi_28 hmi hd (by omega) (by omega)
                  have zb := mi_le (pM (σ.2.1 5) (28 * xn)) bt 28
                  have zm := mi_le (pM (σ.2.1 5) (28 * xn)) w 28
                  rcases hmost with ⟨hw0, hb0, hmo⟩ | ⟨hw1, hb1, hmo⟩
                  · subst hmo
                    refine j_iload C 1 rfl dX11_forgets_83 ?_
                    refine j_iload C 3 rfl dX11_forgets_85 ?_
                    refine j_icmp_le C 97 (by decide) dX11_forgets_87 (fun c6 => ?_) (fun c6 => ?_)
                    · exact absurd c6 (nle6 (by omega))
                    · refine j_iload C 2 rfl dX11_forgets_90 ?_
                      refine j_istore_n C [(3, .int (nI w)), (7, .int (nI d)), (6, .int (nI m)), (5, .int (nI w)), (4, .int (-6)), (0, .ref (g 0)), (1, .int (nI xn)), (2, .int (nI yn))] rfl (by decide) rfl dX11_forgets_92 ?_
                      refine j_iload C 2 rfl dX11_forgets_93 ?_
                      refine j_istore C [(4, .int (nI m)), (3, .int (nI w)), (7, .int (nI d)), (6, .int (nI m)), (5, .int (nI w)), (0, .ref (g 0)), (1, .int (nI xn)), (2, .int (nI yn))] (by decide) rfl dX11_forgets_95 ?_
                      refine j_iinc C (nI (w + 1)) [(5, .int (nI (w + 1))), (4, .int (nI m)), (3, .int (nI w)), (7, .int (nI d)), (6, .int (nI m)), (0, .ref (g 0)), (1, .int (nI xn)), (2, .int (nI yn))] 4 rfl (by rw [show Int32.ofInt 1 = nI 1 from by decide, nI_add]) (by decide) rfl dX11_forgets_97 ?_
                      refine j_goto C 32 (by decide) dX11_forgets_100 ?_
                      refine j_sub (lv' := [(5, .int (nI (w + 1))), (4, .int (nI m)), (3, .int (nI w)), (0, .ref (g 0)), (1, .int (nI xn)), (2, .int (nI yn))]) [0, 1, 2, 5, 6, 7] rfl ?_
                      exact ih32 (w + 1) (nI m) w (by omega) (by omega) (Or.inr ⟨by omega, by rw [hw0]; rfl, by rw [← hmi28]⟩) (by omega)
                  · subst hmo
                    refine j_iload C 1 rfl dX11_forgets_83 ?_
                    refine j_iload C 3 rfl dX11_forgets_85 ?_
                    refine j_icmp_leN C 97 (by decide) (by omega) (by omega) dX11_forgets_87 (fun c7 => ?_) (fun c7 => ?_)
                    · refine j_iinc C (nI (w + 1)) [(5, .int (nI (w + 1))), (7, .int (nI d)), (6, .int (nI m)), (4, .int (nI (mi (pM (σ.2.1 5) (28 * xn)) bt 28))), (3, .int (nI bt)), (0, .ref (g 0)), (1, .int (nI xn)), (2, .int (nI yn))] 2 rfl (by rw [show Int32.ofInt 1 = nI 1 from by decide, nI_add]) (by decide) rfl dX11_forgets_97 ?_
                      refine j_goto C 32 (by decide) dX11_forgets_100 ?_
                      refine j_sub (lv' := [(5, .int (nI (w + 1))), (4, .int (nI (mi (pM (σ.2.1 5) (28 * xn)) bt 28))), (3, .int (nI bt)), (0, .ref (g 0)), (1, .int (nI xn)), (2, .int (nI yn))]) [0, 3, 4, 5, 6, 7] rfl ?_
                      exact ih32 (w + 1) (nI (mi (pM (σ.2.1 5) (28 * xn)) bt 28)) bt (by omega) (by omega) (Or.inr ⟨by omega, am_n hb1 (by omega) (by omega), rfl⟩) (by omega)
                    · refine j_iload C 2 rfl dX11_forgets_90 ?_
                      refine j_istore_n C [(3, .int (nI w)), (7, .int (nI d)), (6, .int (nI m)), (5, .int (nI w)), (4, .int (nI (mi (pM (σ.2.1 5) (28 * xn)) bt 28))), (0, .ref (g 0)), (1, .int (nI xn)), (2, .int (nI yn))] rfl (by decide) rfl dX11_forgets_92 ?_
                      refine j_iload C 2 rfl dX11_forgets_93 ?_
                      refine j_istore C [(4, .int (nI m)), (3, .int (nI w)), (7, .int (nI d)), (6, .int (nI m)), (5, .int (nI w)), (0, .ref (g 0)), (1, .int (nI xn)), (2, .int (nI yn))] (by decide) rfl dX11_forgets_95 ?_
                      refine j_iinc C (nI (w + 1)) [(5, .int (nI (w + 1))), (4, .int (nI m)), (3, .int (nI w)), (7, .int (nI d)), (6, .int (nI m)), (0, .ref (g 0)), (1, .int (nI xn)), (2, .int (nI yn))] 4 rfl (by rw [show Int32.ofInt 1 = nI 1 from by decide, nI_add]) (by decide) rfl dX11_forgets_97 ?_
                      refine j_goto C 32 (by decide) dX11_forgets_100 ?_
                      refine j_sub (lv' := [(5, .int (nI (w + 1))), (4, .int (nI m)), (3, .int (nI w)), (0, .ref (g 0)), (1, .int (nI xn)), (2, .int (nI yn))]) [0, 1, 2, 5, 6, 7] rfl ?_
                      exact ih32 (w + 1) (nI m) w (by omega) (by omega) (Or.inr ⟨by omega, am_g hb1 (by omega) (by omega), by rw [← hmi28]⟩) (by omega)
                · refine j_iload C 1 rfl dX11_forgets_53 ?_
                  refine j_aload_n C 5 rfl dX11_forgets_55 ?_
                  refine gM_0_5 C tb_878 dX11_forgets_56 ?_
                  refine j_iload_n C 6 rfl dX11_forgets_59 ?_
                  refine j_iload C 0 rfl dX11_forgets_60 ?_
                  refine j_S01 C (m_at xn d) kyX11_at tb_1060 tb_1061 rfl (Nat.le_of_ble_eq_true rfl) ⟨by decide, by decide⟩ ⟨by decide, by decide⟩ dX11_forgets_62 rfl ?_
                  refine rM_5 C (28 * xn + d) rfl (by omega) ((σ.2.1 5) (28 * xn + d)) rfl dX11_forgets_65 ?_
                  refine j_if_ge C 73 (by decide) dX11_forgets_66 (fun c8 => ?_) (fun c8 => ?_)
                  · refine j_iconst C (nI 0) (by decide) dX11_forgets_73 ?_
                    refine j_iaddN C dX11_forgets_74 ?_
                    refine j_istore C [(6, .int (nI (m + 0))), (7, .int (nI d)), (5, .int (nI w)), (4, .int y32_4), (3, .int (nI bt)), (0, .ref (g 0)), (1, .int (nI xn)), (2, .int (nI yn))] (by decide) rfl dX11_forgets_75 ?_
                    refine j_iinc C (nI (d + 7)) [(7, .int (nI (d + 7))), (6, .int (nI (m + 0))), (5, .int (nI w)), (4, .int y32_4), (3, .int (nI bt)), (0, .ref (g 0)), (1, .int (nI xn)), (2, .int (nI yn))] 1 rfl (by rw [show Int32.ofInt 7 = nI 7 from by decide, nI_add]) (by decide) rfl dX11_forgets_77 ?_
                    refine j_goto C 46 (by decide) dX11_forgets_80 ?_
                    exact ih46 (d + 7) (m + 0) (by omega) (by omega) (by omega) (mi_a0 hmi hd (decide_eq_false (fun q => q c8))) (by omega)
                  · refine j_iconst C (nI 1) (by decide) dX11_forgets_69 ?_
                    refine j_goto C 74 (by decide) dX11_forgets_70 ?_
                    refine j_iaddN C dX11_forgets_74 ?_
                    refine j_istore C [(6, .int (nI (m + 1))), (7, .int (nI d)), (5, .int (nI w)), (4, .int y32_4), (3, .int (nI bt)), (0, .ref (g 0)), (1, .int (nI xn)), (2, .int (nI yn))] (by decide) rfl dX11_forgets_75 ?_
                    refine j_iinc C (nI (d + 7)) [(7, .int (nI (d + 7))), (6, .int (nI (m + 1))), (5, .int (nI w)), (4, .int y32_4), (3, .int (nI bt)), (0, .ref (g 0)), (1, .int (nI xn)), (2, .int (nI yn))] 1 rfl (by rw [show Int32.ofInt 7 = nI 7 from by decide, nI_add]) (by decide) rfl dX11_forgets_77 ?_
                    refine j_goto C 46 (by decide) dX11_forgets_80 ?_
                    exact ih46 (d + 7) (m + 1) (by omega) (by omega) (by omega) (mi_a1 hmi hd (decide_eq_true c8)) (by omega)
            exact L46 _ w 0 (by omega) (by omega) (by omega) (mi_0 (by omega)) (Nat.lt_succ_self _)
      exact L32 _ 0 (-6) 0 (by omega) (by omega) (Or.inl ⟨rfl, rfl, rfl⟩) (Nat.lt_succ_self _)
    · replace c2 := bI_f c2
      refine j_bipush C ((-2)) (by decide) dX11_forgets_20 ?_
      exact j_iret C E (σ) ⟨_, rfl, ⟨rfl, (fgF_2 c1 c2)⟩⟩ rfl dX11_forgets_22
  · replace c1 := bI_f c1
    refine j_iconst C ((-1)) (by decide) dX11_forgets_8 ?_
    exact j_iret C E (σ) ⟨_, rfl, ⟨rfl, (fgF_1 c1)⟩⟩ rfl dX11_forgets_9
theorem fgF_eq {k n r : Nat} {σ μ : St} (h : RB k n r σ μ) (x y : Int32) : fgF k (fun c e => pX (σ.2.1 6) (c * 28) e) x y = fgF k (fun c e => pM (μ.2.1 5) (28 * c) e) x y := by
  unfold fgF
  by_cases hc : cB x (nI k) = false
  · rw [if_pos hc, if_pos hc]
  · rw [if_neg hc, if_neg hc]
    obtain ⟨c, c1, c2⟩ := cB_nat (by have := h.k.1; omega) (show cB x (nI k) = true from by cases e : cB x (nI k) with | false => exact absurd e hc | true => rfl)
    have hk := h.k.1
    have e : ∀ d, d < 28 → pX (σ.2.1 6) (x.toNatClampNeg * 28) d = pM (μ.2.1 5) (28 * x.toNatClampNeg) d := by
      rw [c2, nI_clamp (by omega), Nat.mul_comm c 28]
      intro d hd
      obtain ⟨q1, q2, q3⟩ := h.1.2.2.2.2.1 (28 * c + d) (by omega)
      have q : tr (σ.2.1 6 (28 * c + d)) = μ.2.1 5 (28 * c + d) := q1 (by omega)
      unfold pX pM
      rw [← q, decide_eq_decide]
      rcases q3 with z | ⟨m, z1, z2⟩
      · have z : σ.2.1 6 (28 * c + d) = -1 := z
        rw [z]
        exact ⟨fun _ => by decide, fun _ => rfl⟩
      · have z2 : σ.2.1 6 (28 * c + d) = nI m := z2
        rw [z2, tr_ge (nI_pos' (by omega))]
        exact ⟨fun w => absurd w (nI_nm1 (by omega)), fun w => absurd (nI_pos' (by omega)) w⟩
    show (if _ then _ else if _ then nI (am (pX (σ.2.1 6) (x.toNatClampNeg * 28)) 6) else nI (mi (pX (σ.2.1 6) (x.toNatClampNeg * 28)) (am (pX (σ.2.1 6) (x.toNatClampNeg * 28)) 6) 28)) = (if _ then _ else if _ then nI (am (pM (μ.2.1 5) (28 * x.toNatClampNeg)) 6) else nI (mi (pM (μ.2.1 5) (28 * x.toNatClampNeg)) (am (pM (μ.2.1 5) (28 * x.toNatClampNeg)) 6) 28))
    rw [am_congr e 6, mi_congr 28 e]
