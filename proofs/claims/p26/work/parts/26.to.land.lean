abbrev RQ := (Nat → Nat) × (Nat → Nat) × (Nat → Nat) × (Nat → Nat) × (Nat → Nat)
def bst (p : Nat × Nat) (g l h : Nat) : Nat × Nat := (max p.1 (l - g), min p.2 (h + g))
def bdK (G : GD) (k d x y : Nat) : Nat → Nat × Nat
  | 0 => (0, 9999)
  | c + 1 => if vaV G k c d = -1 then bdK G k d x y c else bst (bdK G k d x y c) (zS G 2 * frN x y (zX G c) (zY G c)) (vaV G k c d).toNatClampNeg (vaV G k c d).toNatClampNeg
def bdR (G : GD) (k : Nat) (Q : RQ) (d x y : Nat) : Nat → Nat × Nat
  | 0 => bdK G k d x y k
  | i + 1 => if Q.1 i = d then bst (bdR G k Q d x y i) (zS G 2 * frN x y (Q.2.1 i) (Q.2.2.1 i)) (Q.2.2.2.1 i) (Q.2.2.2.2 i) else bdR G k Q d x y i
theorem bdK_n {G : GD} {k d x y c : Nat} (h : vaV G k c d = -1) : bdK G k d x y (c + 1) = bdK G k d x y c := if_pos h
theorem bdK_y {G : GD} {k d x y c v : Nat} (hv : v < 2 ^ 31) (h : vaV G k c d = nI v) : bdK G k d x y (c + 1) = bst (bdK G k d x y c) (zS G 2 * frN x y (zX G c) (zY G c)) v v := by
  show (if vaV G k c d = -1 then _ else _) = _
  rw [h, if_neg (nI_nm1 hv), nI_clamp hv]
theorem bdR_n {G : GD} {k d x y i : Nat} {Q : RQ} (h : ¬ Q.1 i = d) : bdR G k Q d x y (i + 1) = bdR G k Q d x y i := if_neg h
theorem bdR_y {G : GD} {k d x y i : Nat} {Q : RQ} (h : Q.1 i = d) : bdR G k Q d x y (i + 1) = bst (bdR G k Q d x y i) (zS G 2 * frN x y (Q.2.1 i) (Q.2.2.1 i)) (Q.2.2.2.1 i) (Q.2.2.2.2 i) := if_pos h
def anF (f1 f2 f3 f4 : Nat → Int32) (s x y : Nat) : Nat → Nat × Nat
  | 0 => (0, 9999)
  | i + 1 => bst (anF f1 f2 f3 f4 s x y i) (s * frN x y (f1 i).toNatClampNeg (f2 i).toNatClampNeg) (f3 i).toNatClampNeg (f4 i).toNatClampNeg
theorem anF_congr {f1 f2 f3 f4 e1 e2 e3 e4 : Nat → Int32} {s x y : Nat} : ∀ q : Nat, (∀ i, i < q → f1 i = e1 i ∧ f2 i = e2 i ∧ f3 i = e3 i ∧ f4 i = e4 i) → anF f1 f2 f3 f4 s x y q = anF e1 e2 e3 e4 s x y q
  | 0, _ => rfl
  | q + 1, h => by
    obtain ⟨h1, h2, h3, h4⟩ := h q (by omega)
    show bst (anF f1 f2 f3 f4 s x y q) _ _ _ = bst (anF e1 e2 e3 e4 s x y q) _ _ _
    rw [anF_congr q (fun i hi => h i (by omega)), h1, h2, h3, h4]
/-- anchors that tell B -/
def AN (f1 f2 f3 f4 : Nat → Int32) (s q : Nat) (B : Nat → Nat → Nat × Nat) : Prop := (∀ i, i < q → le_ 20 (f1 i) ∧ le_ 20 (f2 i) ∧ le_ 9990 (f3 i) ∧ le_ 9990 (f4 i)) ∧ ∀ x y, anF f1 f2 f3 f4 s x y q = B x y
theorem AN_0 {f1 f2 f3 f4 : Nat → Int32} {s : Nat} {B : Nat → Nat → Nat × Nat} (h : ∀ x y, B x y = (0, 9999)) : AN f1 f2 f3 f4 s 0 B := ⟨fun i hi => absurd hi (by omega), fun x y => (h x y).symm⟩
theorem AN_s {f1 f2 f3 f4 : Nat → Int32} {s q a b l m : Nat} {B C : Nat → Nat → Nat × Nat} (h : AN f1 f2 f3 f4 s q B) (ha : a ≤ 20) (hb : b ≤ 20) (hl : l ≤ 9990) (hm : m ≤ 9990) (hC : ∀ x y, C x y = bst (B x y) (s * frN x y a b) l m) : AN (upd f1 q (nI a)) (upd f2 q (nI b)) (upd f3 q (nI l)) (upd f4 q (nI m)) s (q + 1) C := by
  refine ⟨fun i hi => ?_, fun x y => ?_⟩
  · by_cases e : i = q
    · rw [e, pk_us, pk_us, pk_us, pk_us]; exact ⟨⟨a, ha, rfl⟩, ⟨b, hb, rfl⟩, ⟨l, hl, rfl⟩, ⟨m, hm, rfl⟩⟩
    · rw [pk_un e, pk_un e, pk_un e, pk_un e]; exact h.1 i (by omega)
  · show bst (anF (upd f1 q (nI a)) (upd f2 q (nI b)) (upd f3 q (nI l)) (upd f4 q (nI m)) s x y q) (s * frN x y (upd f1 q (nI a) q).toNatClampNeg (upd f2 q (nI b) q).toNatClampNeg) (upd f3 q (nI l) q).toNatClampNeg (upd f4 q (nI m) q).toNatClampNeg = C x y
    rw [pk_us, pk_us, pk_us, pk_us, nI_clamp (by omega), nI_clamp (by omega), nI_clamp (by omega), nI_clamp (by omega), anF_congr q (fun i hi => ⟨pk_un (by omega), pk_un (by omega), pk_un (by omega), pk_un (by omega)⟩), h.2 x y, hC]
theorem AN_c {f1 f2 f3 f4 : Nat → Int32} {s q : Nat} {B C : Nat → Nat → Nat × Nat} (h : AN f1 f2 f3 f4 s q B) (e : ∀ x y, C x y = B x y) : AN f1 f2 f3 f4 s q C := ⟨h.1, fun x y => (h.2 x y).trans (e x y).symm⟩
theorem mxs {lo l g : Nat} (h1 : lo ≤ 9990) (h2 : l ≤ 9990) (h3 : g ≤ 3960) : (if nI lo < nI l - nI g then nI l - nI g else nI lo) = nI (max lo (l - g)) := by
  rcases Nat.lt_or_ge l g with q | q
  · have : ¬ nI lo < nI l - nI g := fun w => by
      have a := Int32.lt_iff_toInt_lt.mp w
      rw [nI_toInt (by omega), pk_sub_toInt (by omega) (by omega)] at a
      omega
    rw [if_neg this, show max lo (l - g) = lo by omega]
  · rw [pk_sub q]
    by_cases w : lo < l - g
    · rw [if_pos ((nI_ltI (by omega) (by omega)).mpr w), show max lo (l - g) = l - g by omega]
    · rw [if_neg (fun z => w ((nI_ltI (by omega) (by omega)).mp z)), show max lo (l - g) = lo by omega]
theorem mns {hi h g : Nat} (h1 : hi ≤ 9999) (h2 : h ≤ 9990) (h3 : g ≤ 3960) : (if nI (h + g) < nI hi then nI (h + g) else nI hi) = nI (min hi (h + g)) := by
  by_cases w : h + g < hi
  · rw [if_pos ((nI_ltI (by omega) (by omega)).mpr w), show min hi (h + g) = h + g by omega]
  · rw [if_neg (fun z => w ((nI_ltI (by omega) (by omega)).mp z)), show min hi (h + g) = hi by omega]
theorem gvb {s f : Nat} (hs : s ≤ 99) (hf : f ≤ 40) : s * f ≤ 3960 := Nat.le_trans (Nat.mul_le_mul hs hf) (by decide)
theorem anF_b {f1 f2 f3 f4 : Nat → Int32} {s x y lo hi g l h n : Nat} (e : (lo, hi) = anF f1 f2 f3 f4 s x y n) (hg : g = s * frN x y (f1 n).toNatClampNeg (f2 n).toNatClampNeg) (hl : l = (f3 n).toNatClampNeg) (hh : h = (f4 n).toNatClampNeg) : (max lo (l - g), min hi (h + g)) = anF f1 f2 f3 f4 s x y (n + 1) := by
  subst hg hl hh
  show _ = bst (anF f1 f2 f3 f4 s x y n) _ _ _
  rw [← e]; rfl
def ovY (B : Nat → Nat → Nat × Nat) (x m : Nat) (s : Option (Nat × Nat)) : Nat → Option (Nat × Nat)
  | 0 => s
  | y + 1 => (ovY B x m s y).bind (fun t => if (B x (m + y)).1 ≤ (B x (m + y)).2 then some (t.1 + (B x (m + y)).1, t.2 + (B x (m + y)).2) else none)
def ovX (B : Nat → Nat → Nat × Nat) (i m l : Nat) : Nat → Option (Nat × Nat)
  | 0 => some (0, 0)
  | x + 1 => ovY B (i + x) m (ovX B i m l x) (l + 1 - m)
theorem ovY_n {B : Nat → Nat → Nat × Nat} {x m : Nat} {s : Option (Nat × Nat)} {a : Nat} (h : ovY B x m s a = none) : ∀ b : Nat, ovY B x m s (a + b) = none
  | 0 => h
  | b + 1 => by
    show (ovY B x m s (a + b)).bind _ = none
    rw [ovY_n h b]; rfl
theorem ovY_0 {B : Nat → Nat → Nat × Nat} {x m : Nat} : ∀ b : Nat, ovY B x m none b = none
  | 0 => rfl
  | b + 1 => by
    show (ovY B x m none b).bind _ = none
    rw [ovY_0 b]; rfl
theorem ovX_n {B : Nat → Nat → Nat × Nat} {i m l a : Nat} (h : ovX B i m l a = none) : ∀ b : Nat, ovX B i m l (a + b) = none
  | 0 => h
  | b + 1 => by
    show ovY B _ m (ovX B i m l (a + b)) _ = none
    rw [ovX_n h b]; exact ovY_0 _
theorem ovY_s {B : Nat → Nat → Nat × Nat} {x y m ta tb lo hi : Nat} {s : Option (Nat × Nat)} (h : some (ta, tb) = ovY B x m s (y - m)) (hy : m ≤ y) (hB : (lo, hi) = B x y) (hc : lo ≤ hi) : some (ta + lo, tb + hi) = ovY B x m s (y + 1 - m) := by
  rw [show y + 1 - m = (y - m) + 1 by omega]
  show _ = (ovY B x m s (y - m)).bind _
  rw [← h, show m + (y - m) = y by omega, ← hB]
  show _ = (if lo ≤ hi then _ else _)
  rw [if_pos hc]
theorem ovY_c {B : Nat → Nat → Nat × Nat} {x y m l ta tb lo hi : Nat} {s : Option (Nat × Nat)} (h : some (ta, tb) = ovY B x m s (y - m)) (hy : m ≤ y) (hl : y ≤ l) (hB : (lo, hi) = B x y) (hc : ¬ lo ≤ hi) : ovY B x m s (l + 1 - m) = none := by
  have e : ovY B x m s ((y - m) + 1) = none := by
    show (ovY B x m s (y - m)).bind _ = none
    rw [← h, show m + (y - m) = y by omega, ← hB]
    show (if lo ≤ hi then _ else none) = none
    rw [if_neg hc]
  have := ovY_n e (l - y)
  rw [show (y - m) + 1 + (l - y) = l + 1 - m by omega] at this
  exact this
theorem ovX_s {B : Nat → Nat → Nat × Nat} {i m l x : Nat} {t : Option (Nat × Nat)} (h : t = ovY B x m (ovX B i m l (x - i)) (l + 1 - m)) (hx : i ≤ x) : t = ovX B i m l (x + 1 - i) := by
  rw [show x + 1 - i = (x - i) + 1 by omega]
  show t = ovY B (i + (x - i)) m (ovX B i m l (x - i)) (l + 1 - m)
  rw [show i + (x - i) = x by omega]; exact h
theorem ovX_c {B : Nat → Nat → Nat × Nat} {i j m l x : Nat} (h : ovY B x m (ovX B i m l (x - i)) (l + 1 - m) = none) (hx : i ≤ x) (hj : x ≤ j) : ovX B i m l (j + 1 - i) = none := by
  have := ovX_n (ovX_s h.symm hx).symm (j - x)
  rw [show x + 1 - i + (j - x) = j + 1 - i by omega] at this
  exact this
/-- radars of the class, of the reference -/
def QB (Q : RQ) (r : Nat) : Prop := ∀ i, i < r → Q.1 i ≤ 27 ∧ Q.2.1 i ≤ 20 ∧ Q.2.2.1 i ≤ 20 ∧ Q.2.2.2.1 i ≤ 999 ∧ Q.2.2.2.2 i ≤ 999
def HQ (Q : RQ) (r : Nat) (σ : St) : Prop := QB Q r ∧ ∀ i, i < r → σ.2.1 17 i = nI (Q.1 i) ∧ σ.2.1 18 i = nI (Q.2.1 i) ∧ σ.2.1 19 i = nI (Q.2.2.1 i) ∧ σ.2.1 20 i = nI (Q.2.2.2.1 i) ∧ σ.2.1 21 i = nI (Q.2.2.2.2 i)
def HN (Q : RQ) (r : Nat) (σ : St) : Prop := QB Q r ∧ ∀ i, i < r → σ.2.1 26 i = nI (Q.1 i) ∧ σ.2.1 27 i = nI (Q.2.1 i) ∧ σ.2.1 28 i = nI (Q.2.2.1 i) ∧ σ.2.1 29 i = nI (Q.2.2.2.1 i) ∧ σ.2.1 30 i = nI (Q.2.2.2.2 i)
def rqX (σ : St) : RQ := (fun i => (σ.2.1 17 i).toNatClampNeg, fun i => (σ.2.1 18 i).toNatClampNeg, fun i => (σ.2.1 19 i).toNatClampNeg, fun i => (σ.2.1 20 i).toNatClampNeg, fun i => (σ.2.1 21 i).toNatClampNeg)
theorem RB.rd {k n r : Nat} {σ μ : St} (h : RB k n r σ μ) : ∀ j : Nat, j < 6 → (σ.2.1 17 j = μ.2.1 26 j ∧ σ.2.1 18 j = μ.2.1 27 j ∧ σ.2.1 19 j = μ.2.1 28 j ∧ σ.2.1 20 j = μ.2.1 29 j ∧ σ.2.1 21 j = μ.2.1 30 j) ∧ (le_ 27 (σ.2.1 17 j) ∧ le_ 20 (σ.2.1 18 j) ∧ le_ 20 (σ.2.1 19 j) ∧ le_ 999 (σ.2.1 20 j) ∧ le_ 999 (σ.2.1 21 j)) := h.1.2.2.2.2.2.2.2.2.2.2.2
theorem HQ_of {k n r : Nat} {σ μ : St} (h : RB k n r σ μ) : HQ (rqX σ) r σ := by
  have hr := h.r.1
  refine ⟨fun i hi => ?_, fun i hi => ?_⟩
  · obtain ⟨-, a, b, c, d, e⟩ := h.rd i (by omega)
    exact ⟨(le_cl (by decide) a).2, (le_cl (by decide) b).2, (le_cl (by decide) c).2, (le_cl (by decide) d).2, (le_cl (by decide) e).2⟩
  · obtain ⟨-, a, b, c, d, e⟩ := h.rd i (by omega)
    exact ⟨(le_cl (by decide) a).1, (le_cl (by decide) b).1, (le_cl (by decide) c).1, (le_cl (by decide) d).1, (le_cl (by decide) e).1⟩
theorem HN_of {k n r : Nat} {σ μ : St} (h : RB k n r σ μ) : HN (rqX σ) r μ := by
  have hr := h.r.1
  refine ⟨(HQ_of h).1, fun i hi => ?_⟩
  obtain ⟨⟨a, b, c, d, e⟩, -⟩ := h.rd i (by omega)
  rw [← a, ← b, ← c, ← d, ← e]
  exact (HQ_of h).2 i hi
set_option maxRecDepth 100000 in
set_option maxHeartbeats 4000000 in
theorem e_addAnchor (g kk : Nat → Nat) (σ : St) (k : Nat) (hk : σ.1 16 = nI k) (hk6 : k ≤ 6) (hI : iX σ) (q : Nat) (hq : σ.1 678 = nI q) (hqb : q < 12) (a : Int32) (b : Int32) (c : Int32) (d : Int32) : jM (S := St) yX4_addAnchor cX4_addAnchor 5 none { frames := 0, cells := 0, slots := 0, locals := 0 } kk (cX g kk σ) [.ref (g 42), .int a, .int b, .int c, .int d] (cX g kk) (rV (fun u : St => ∃ (pF43 : Nat → Int32) (pF44 : Nat → Int32) (pF45 : Nat → Int32) (pF46 : Nat → Int32) (q1 : Nat), u = sI (sF (sF (sF (sF σ 43 pF43) 44 pF44) 45 pF45) 46 pF46) 678 (nI q1) ∧ (pF43 = upd (σ.2.1 43) q a) ∧ (pF44 = upd (σ.2.1 44) q b) ∧ (pF45 = upd (σ.2.1 45) q c) ∧ (pF46 = upd (σ.2.1 46) q d) ∧ (q1 = q + 1))) := by
  refine j_entry [(0, .ref (g 42)), (1, .int a), (2, .int b), (3, .int c), (4, .int d)] (by decide) (Nat.le_of_ble_eq_true rfl) rfl ?_
  intro X C E HI
  refine j_aload_n C 0 rfl dX4_addAnchor_0 ?_
  refine gX_42_2 C tb_314 dX4_addAnchor_1 ?_
  refine j_aload_n C 0 rfl dX4_addAnchor_4 ?_
  refine gX_42_6 C tb_318 (nI q) hq dX4_addAnchor_5 ?_
  refine j_iload_n C 1 rfl dX4_addAnchor_8 ?_
  refine tX_43 C q rfl (by omega) dX4_addAnchor_9 ?_
  refine j_aload_n C 0 rfl dX4_addAnchor_10 ?_
  refine gX_42_3 C tb_315 dX4_addAnchor_11 ?_
  refine j_aload_n C 0 rfl dX4_addAnchor_14 ?_
  refine gX_42_6 C tb_318 (nI q) hq dX4_addAnchor_15 ?_
  refine j_iload_n C 2 rfl dX4_addAnchor_18 ?_
  refine tX_44 C q rfl (by omega) dX4_addAnchor_19 ?_
  refine j_aload_n C 0 rfl dX4_addAnchor_20 ?_
  refine gX_42_4 C tb_316 dX4_addAnchor_21 ?_
  refine j_aload_n C 0 rfl dX4_addAnchor_24 ?_
  refine gX_42_6 C tb_318 (nI q) hq dX4_addAnchor_25 ?_
  refine j_iload_n C 3 rfl dX4_addAnchor_28 ?_
  refine tX_45 C q rfl (by omega) dX4_addAnchor_29 ?_
  refine j_aload_n C 0 rfl dX4_addAnchor_30 ?_
  refine gX_42_5 C tb_317 dX4_addAnchor_31 ?_
  refine j_aload_n C 0 rfl dX4_addAnchor_34 ?_
  refine gX_42_6 C tb_318 (nI q) hq dX4_addAnchor_35 ?_
  refine j_iload C 4 rfl dX4_addAnchor_38 ?_
  refine tX_46 C q rfl (by omega) dX4_addAnchor_40 ?_
  refine j_aload_n C 0 rfl dX4_addAnchor_41 ?_
  refine j_dup C rfl dX4_addAnchor_42 ?_
  refine gX_42_6 C tb_318 (nI q) hq dX4_addAnchor_43 ?_
  refine j_iconst C (nI 1) (by decide) dX4_addAnchor_46 ?_
  refine j_iaddN C dX4_addAnchor_47 ?_
  refine pX_42_6 C tb_318 dX4_addAnchor_48 ?_
  exact j_vret C E (sI (sF (sF (sF (sF σ 43 (upd (σ.2.1 43) q a)) 44 (upd (σ.2.1 44) q b)) 45 (upd (σ.2.1 45) q c)) 46 (upd (σ.2.1 46) q d)) 678 (nI (q + 1))) ⟨rfl, ⟨(upd (σ.2.1 43) q a), (upd (σ.2.1 44) q b), (upd (σ.2.1 45) q c), (upd (σ.2.1 46) q d), (q + 1), rfl, rfl, rfl, rfl, rfl, rfl⟩⟩ rfl dX4_addAnchor_51
set_option maxRecDepth 100000 in
set_option maxHeartbeats 4000000 in
theorem e_gather (g kk : Nat → Nat) (σ : St) (k : Nat) (hk : σ.1 16 = nI k) (hk6 : k ≤ 6) (hI : iX σ) (G : GD) (hX : HX G k σ) (ra : Nat) (hra : σ.1 256 = nI ra) (hrab : ra ≤ 6) (Q : RQ) (hQ : HQ Q ra σ) (hC : CXf G k (σ.2.1 28) (σ.2.1 29) (σ.2.1 30) (σ.2.1 31)) (d : Nat) (hd0 : d < 28) : jM (S := St) yX4_gather cX4_gather 4 none { frames := 1, cells := 0, slots := 0, locals := 24 } kk (cX g kk σ) [.ref (g 42), .int (nI d)] (cX g kk) (rV (fun u : St => ∃ (pF43 : Nat → Int32) (pF44 : Nat → Int32) (pF45 : Nat → Int32) (pF46 : Nat → Int32) (q : Nat), u = sI (sF (sF (sF (sF σ 43 pF43) 44 pF44) 45 pF45) 46 pF46) 678 (nI q) ∧ (q ≤ 12) ∧ (AN pF43 pF44 pF45 pF46 (zS G 2) q (fun x y => bdR G k Q d x y ra)))) := by
  refine j_entry [(0, .ref (g 42)), (1, .int (nI d))] (by decide) (Nat.le_of_ble_eq_true rfl) rfl ?_
  intro X C E HI
  refine j_aload_n C 0 rfl dX4_gather_0 ?_
  refine j_iconst C (nI 0) (by decide) dX4_gather_1 ?_
  refine pX_42_6 C tb_318 dX4_gather_2 ?_
  refine j_iconst C (nI 0) (by decide) dX4_gather_5 ?_
  refine j_istore_n C [(2, .int (nI 0)), (0, .ref (g 42)), (1, .int (nI d))] rfl (by decide) rfl dX4_gather_6 ?_
  have L7 : ∀ (n7 : Nat) (a : Nat) (u1 : Nat → Int32) (u2 : Nat → Int32) (u3 : Nat → Int32) (u4 : Nat → Int32) (q : Nat) (i7_0 : a ≤ k) (i7_1 : q ≤ a) (ha : AN u1 u2 u3 u4 (zS G 2) q (fun x y => bdK G k d x y a)) (hm7 : k - a < n7), J X 0 0 (cX g kk (sI (sF (sF (sF (sF σ 43 u1) 44 u2) 45 u3) 46 u4) 678 (nI q))) [(2, .int (nI a)), (0, .ref (g 42)), (1, .int (nI d))] 7 [] := by
    intro n7
    induction n7 with
    | zero => intro a u1 u2 u3 u4 q i7_0 i7_1 ha hm; exact absurd hm (Nat.not_lt_zero _)
    | succ n7 ih7 =>
      intro a u1 u2 u3 u4 q i7_0 i7_1 ha hm7
      refine j_iload_n C 0 rfl dX4_gather_7 ?_
      refine j_aload_n C 1 rfl dX4_gather_8 ?_
      refine gX_42_1 C tb_313 dX4_gather_9 ?_
      refine gX_1_0 C tb_98 (nI k) hk dX4_gather_12 ?_
      refine j_icmp_geN C 68 (by decide) (by omega) (by omega) dX4_gather_15 (fun c1 => ?_) (fun c1 => ?_)
      · refine j_aload_n C 1 rfl dX4_gather_68 ?_
        refine gX_42_1 C tb_313 dX4_gather_69 ?_
        refine gX_1_11 C tb_135 dX4_gather_72 ?_
        refine j_astore_n C [(2, .ref (g 16)), (0, .ref (g 42)), (1, .int (nI d))] rfl (by decide) rfl dX4_gather_75 ?_
        refine j_iconst C (nI 0) (by decide) dX4_gather_76 ?_
        refine j_istore_n C [(3, .int (nI 0)), (2, .ref (g 16)), (0, .ref (g 42)), (1, .int (nI d))] rfl (by decide) rfl dX4_gather_77 ?_
        have L78 : ∀ (n78 : Nat) (b : Nat) (t1 : Nat → Int32) (t2 : Nat → Int32) (t3 : Nat → Int32) (t4 : Nat → Int32) (q2 : Nat) (i78_0 : b ≤ ra) (i78_1 : q2 ≤ 6 + b) (hb : AN t1 t2 t3 t4 (zS G 2) q2 (fun x y => bdR G k Q d x y b)) (hm78 : ra - b < n78), J X 0 0 (cX g kk (sI (sF (sF (sF (sF σ 43 t1) 44 t2) 45 t3) 46 t4) 678 (nI q2))) [(3, .int (nI b)), (2, .ref (g 16)), (0, .ref (g 42)), (1, .int (nI d))] 78 [] := by
          intro n78
          induction n78 with
          | zero => intro b t1 t2 t3 t4 q2 i78_0 i78_1 hb hm; exact absurd hm (Nat.not_lt_zero _)
          | succ n78 ih78 =>
            intro b t1 t2 t3 t4 q2 i78_0 i78_1 hb hm78
            refine j_iload_n C 0 rfl dX4_gather_78 ?_
            refine j_aload_n C 1 rfl dX4_gather_79 ?_
            refine gX_16_0 C tb_66 (nI ra) hra dX4_gather_80 ?_
            refine j_icmp_geN C 130 (by decide) (by omega) (by omega) dX4_gather_83 (fun c2 => ?_) (fun c2 => ?_)
            · exact j_vret C E (sI (sF (sF (sF (sF σ 43 t1) 44 t2) 45 t3) 46 t4) 678 (nI q2)) ⟨rfl, ⟨t1, t2, t3, t4, q2, rfl, (by omega), (AN_c hb (fun x y => by rw [show b = ra by omega]))⟩⟩ rfl dX4_gather_130
            · have hq9 := hQ.1 b (by omega)
              refine j_aload_n C 1 rfl dX4_gather_86 ?_
              refine gX_16_1 C tb_69 dX4_gather_87 ?_
              refine j_iload_n C 0 rfl dX4_gather_90 ?_
              refine rX_17 C b rfl (by omega) (nI (Q.1 b)) (hQ.2 b (by omega)).1 dX4_gather_91 ?_
              refine j_iload_n C 3 rfl dX4_gather_92 ?_
              refine j_icmp_neN C 124 (by decide) (by omega) (by omega) dX4_gather_93 (fun c3 => ?_) (fun c3 => ?_)
              · refine j_iinc C (nI (b + 1)) [(3, .int (nI (b + 1))), (2, .ref (g 16)), (0, .ref (g 42)), (1, .int (nI d))] 0 rfl (by rw [show Int32.ofInt 1 = nI 1 from by decide, nI_add]) (by decide) rfl dX4_gather_124 ?_
                refine j_goto C 78 (by decide) dX4_gather_127 ?_
                exact ih78 (b + 1) t1 t2 t3 t4 q2 (by omega) (by omega) (AN_c hb (fun x y => bdR_n c3)) (by omega)
              · refine j_aload_n C 2 rfl dX4_gather_96 ?_
                refine j_aload_n C 1 rfl dX4_gather_97 ?_
                refine gX_16_2 C tb_71 dX4_gather_98 ?_
                refine j_iload_n C 0 rfl dX4_gather_101 ?_
                refine rX_18 C b rfl (by omega) (nI (Q.2.1 b)) (hQ.2 b (by omega)).2.1 dX4_gather_102 ?_
                refine j_aload_n C 1 rfl dX4_gather_103 ?_
                refine gX_16_3 C tb_73 dX4_gather_104 ?_
                refine j_iload_n C 0 rfl dX4_gather_107 ?_
                refine rX_19 C b rfl (by omega) (nI (Q.2.2.1 b)) (hQ.2 b (by omega)).2.2.1 dX4_gather_108 ?_
                refine j_aload_n C 1 rfl dX4_gather_109 ?_
                refine gX_16_4 C tb_75 dX4_gather_110 ?_
                refine j_iload_n C 0 rfl dX4_gather_113 ?_
                refine rX_20 C b rfl (by omega) (nI (Q.2.2.2.1 b)) (hQ.2 b (by omega)).2.2.2.1 dX4_gather_114 ?_
                refine j_aload_n C 1 rfl dX4_gather_115 ?_
                refine gX_16_5 C tb_77 dX4_gather_116 ?_
                refine j_iload_n C 0 rfl dX4_gather_119 ?_
                refine rX_21 C b rfl (by omega) (nI (Q.2.2.2.2 b)) (hQ.2 b (by omega)).2.2.2.2 dX4_gather_120 ?_
                refine j_V1 C (e_addAnchor g kk (sI (sF (sF (sF (sF σ 43 t1) 44 t2) 45 t3) 46 t4) 678 (nI q2)) k hk hk6 hI q2 rfl (by omega) (nI (Q.2.1 b)) (nI (Q.2.2.1 b)) (nI (Q.2.2.2.1 b)) (nI (Q.2.2.2.2 b))) kyX4_addAnchor tb_716 tb_718 sp_17 42 rfl (eX_42 g kk _) rfl (Nat.le_of_ble_eq_true rfl) ⟨by decide, by decide⟩ dX4_gather_121 rfl (fun vr ur hp => ?_)
                obtain ⟨rfl, w4, w5, w6, w7, w8, hu, g9, g10, g11, g12, g13⟩ := hp
                replace hu := hu.symm
                subst hu
                refine j_iinc C (nI (b + 1)) [(3, .int (nI (b + 1))), (2, .ref (g 16)), (0, .ref (g 42)), (1, .int (nI d))] 0 rfl (by rw [show Int32.ofInt 1 = nI 1 from by decide, nI_add]) (by decide) rfl dX4_gather_124 ?_
                refine j_goto C 78 (by decide) dX4_gather_127 ?_
                refine j_w (cX g kk (sI (sF (sF (sF (sF σ 43 w4) 44 w5) 45 w6) 46 w7) 678 (nI w8))) (congrArg (cX g kk) (show sI (sF (sF (sF (sF (sI (sF (sF (sF (sF σ 43 t1) 44 t2) 45 t3) 46 t4) 678 (nI q2)) 43 w4) 44 w5) 45 w6) 46 w7) 678 (nI w8) = sI (sF (sF (sF (sF σ 43 w4) 44 w5) 45 w6) 46 w7) 678 (nI w8) from (Eq.trans (wrI (Eq.trans (wrF (Eq.trans (wrF (Eq.trans (wrF (Eq.trans wrFI (wrI (Eq.trans (wrFc (by decide)) (wrF (Eq.trans (wrFc (by decide)) (wrF (Eq.trans (wrFc (by decide)) (wrF wrFs))))))))) (Eq.trans wrFI (wrI (Eq.trans (wrFc (by decide)) (wrF (Eq.trans (wrFc (by decide)) (wrF wrFs)))))))) (Eq.trans wrFI (wrI (Eq.trans (wrFc (by decide)) (wrF wrFs)))))) (Eq.trans wrFI (wrI wrFs)))) wrIs))) ?_
                exact ih78 (b + 1) w4 w5 w6 w7 w8 (by omega) (by omega) (by rw [g9, g10, g11, g12, g13]; exact AN_s hb (by omega) (by omega) (by omega) (by omega) (fun x y => bdR_y c3)) (by omega)
        exact L78 _ 0 u1 u2 u3 u4 q (by omega) (by omega) (AN_c ha (fun x y => by rw [show a = k by omega]; rfl)) (Nat.lt_succ_self _)
      · refine j_aload_n C 1 rfl dX4_gather_18 ?_
        refine gX_42_0 C tb_312 dX4_gather_19 ?_
        refine gX_27_4 C tb_208 dX4_gather_22 ?_
        refine j_iload_n C 0 rfl dX4_gather_25 ?_
        refine j_bipush C (nI 28) (by decide) dX4_gather_26 ?_
        refine j_imulN C dX4_gather_28 ?_
        refine j_iload_n C 2 rfl dX4_gather_29 ?_
        refine j_iaddN C dX4_gather_30 ?_
        refine rX_31 C ((a * 28) + d) rfl (by omega) (vaV G k a d) (hC a d (by omega) (by omega)).2.2.2 dX4_gather_31 ?_
        refine j_istore_n C [(3, .int (vaV G k a d)), (2, .int (nI a)), (0, .ref (g 42)), (1, .int (nI d))] rfl (by decide) rfl dX4_gather_32 ?_
        refine j_iload_n C 0 rfl dX4_gather_33 ?_
        refine j_iconst C ((-1)) (by decide) dX4_gather_34 ?_
        refine j_icmp_eq C 62 (by decide) dX4_gather_35 (fun c14 => ?_) (fun c14 => ?_)
        · refine j_iinc C (nI (a + 1)) [(2, .int (nI (a + 1))), (3, .int (vaV G k a d)), (0, .ref (g 42)), (1, .int (nI d))] 1 rfl (by rw [show Int32.ofInt 1 = nI 1 from by decide, nI_add]) (by decide) rfl dX4_gather_62 ?_
          refine j_goto C 7 (by decide) dX4_gather_65 ?_
          refine j_sub (lv' := [(2, .int (nI (a + 1))), (0, .ref (g 42)), (1, .int (nI d))]) [0, 2, 3] rfl ?_
          exact ih7 (a + 1) u1 u2 u3 u4 q (by omega) (by omega) (AN_c ha (fun x y => bdK_n c14)) (by omega)
        · obtain ⟨v9, hv9, ev9⟩ := (va_lm hX.W (show a < k by omega) hd0).resolve_left c14
          rw [ev9]
          have hxy := hX.W.XY (show a < k by omega)
          refine j_aload_n C 2 rfl dX4_gather_38 ?_
          refine j_aload_n C 2 rfl dX4_gather_39 ?_
          refine gX_42_1 C tb_313 dX4_gather_40 ?_
          refine gX_1_1 C tb_103 dX4_gather_43 ?_
          refine j_iload_n C 1 rfl dX4_gather_46 ?_
          refine rX_2 C a rfl (by omega) (nI (zX G a)) (hX.P (by omega)).1 dX4_gather_47 ?_
          refine j_aload_n C 2 rfl dX4_gather_48 ?_
          refine gX_42_1 C tb_313 dX4_gather_49 ?_
          refine gX_1_2 C tb_107 dX4_gather_52 ?_
          refine j_iload_n C 1 rfl dX4_gather_55 ?_
          refine rX_3 C a rfl (by omega) (nI (zY G a)) (hX.P (by omega)).2 dX4_gather_56 ?_
          refine j_iload_n C 0 rfl dX4_gather_57 ?_
          refine j_iload_n C 0 rfl dX4_gather_58 ?_
          refine j_V1 C (e_addAnchor g kk (sI (sF (sF (sF (sF σ 43 u1) 44 u2) 45 u3) 46 u4) 678 (nI q)) k hk hk6 hI q rfl (by omega) (nI (zX G a)) (nI (zY G a)) (nI v9) (nI v9)) kyX4_addAnchor tb_716 tb_718 sp_17 42 rfl (eX_42 g kk _) rfl (Nat.le_of_ble_eq_true rfl) ⟨by decide, by decide⟩ dX4_gather_59 rfl (fun vr ur hp => ?_)
          obtain ⟨rfl, w15, w16, w17, w18, w19, hu, g20, g21, g22, g23, g24⟩ := hp
          replace hu := hu.symm
          subst hu
          refine j_iinc C (nI (a + 1)) [(2, .int (nI (a + 1))), (3, .int (nI v9)), (0, .ref (g 42)), (1, .int (nI d))] 1 rfl (by rw [show Int32.ofInt 1 = nI 1 from by decide, nI_add]) (by decide) rfl dX4_gather_62 ?_
          refine j_goto C 7 (by decide) dX4_gather_65 ?_
          refine j_sub (lv' := [(2, .int (nI (a + 1))), (0, .ref (g 42)), (1, .int (nI d))]) [0, 2, 3] rfl ?_
          refine j_w (cX g kk (sI (sF (sF (sF (sF σ 43 w15) 44 w16) 45 w17) 46 w18) 678 (nI w19))) (congrArg (cX g kk) (show sI (sF (sF (sF (sF (sI (sF (sF (sF (sF σ 43 u1) 44 u2) 45 u3) 46 u4) 678 (nI q)) 43 w15) 44 w16) 45 w17) 46 w18) 678 (nI w19) = sI (sF (sF (sF (sF σ 43 w15) 44 w16) 45 w17) 46 w18) 678 (nI w19) from (Eq.trans (wrI (Eq.trans (wrF (Eq.trans (wrF (Eq.trans (wrF (Eq.trans wrFI (wrI (Eq.trans (wrFc (by decide)) (wrF (Eq.trans (wrFc (by decide)) (wrF (Eq.trans (wrFc (by decide)) (wrF wrFs))))))))) (Eq.trans wrFI (wrI (Eq.trans (wrFc (by decide)) (wrF (Eq.trans (wrFc (by decide)) (wrF wrFs)))))))) (Eq.trans wrFI (wrI (Eq.trans (wrFc (by decide)) (wrF wrFs)))))) (Eq.trans wrFI (wrI wrFs)))) wrIs))) ?_
          exact ih7 (a + 1) w15 w16 w17 w18 w19 (by omega) (by omega) (by rw [g20, g21, g22, g23, g24]; exact AN_s ha (by omega) (by omega) (by omega) (by omega) (fun x y => bdK_y (by omega) ev9)) (by omega)
  refine j_w (cX g kk (sF (sI σ 678 (nI 0)) 43 (σ.2.1 43))) (congrArg (cX g kk) (wrFi (S := (sI σ 678 (nI 0))) (c := 43) (v := σ.2.1 43) (gtFI rfl))) ?_
  refine j_w (cX g kk (sF (sF (sI σ 678 (nI 0)) 43 (σ.2.1 43)) 44 (σ.2.1 44))) (congrArg (cX g kk) (wrFi (S := (sF (sI σ 678 (nI 0)) 43 (σ.2.1 43))) (c := 44) (v := σ.2.1 44) (gtFF (by decide) (gtFI rfl)))) ?_
  refine j_w (cX g kk (sF (sF (sF (sI σ 678 (nI 0)) 43 (σ.2.1 43)) 44 (σ.2.1 44)) 45 (σ.2.1 45))) (congrArg (cX g kk) (wrFi (S := (sF (sF (sI σ 678 (nI 0)) 43 (σ.2.1 43)) 44 (σ.2.1 44))) (c := 45) (v := σ.2.1 45) (gtFF (by decide) (gtFF (by decide) (gtFI rfl))))) ?_
  refine j_w (cX g kk (sF (sF (sF (sF (sI σ 678 (nI 0)) 43 (σ.2.1 43)) 44 (σ.2.1 44)) 45 (σ.2.1 45)) 46 (σ.2.1 46))) (congrArg (cX g kk) (wrFi (S := (sF (sF (sF (sI σ 678 (nI 0)) 43 (σ.2.1 43)) 44 (σ.2.1 44)) 45 (σ.2.1 45))) (c := 46) (v := σ.2.1 46) (gtFF (by decide) (gtFF (by decide) (gtFF (by decide) (gtFI rfl)))))) ?_
  refine j_w (cX g kk (sI (sF (sF (sF (sF σ 43 (σ.2.1 43)) 44 (σ.2.1 44)) 45 (σ.2.1 45)) 46 (σ.2.1 46)) 678 (nI 0))) (congrArg (cX g kk) (show sF (sF (sF (sF (sI σ 678 (nI 0)) 43 (σ.2.1 43)) 44 (σ.2.1 44)) 45 (σ.2.1 45)) 46 (σ.2.1 46) = sI (sF (sF (sF (sF σ 43 (σ.2.1 43)) 44 (σ.2.1 44)) 45 (σ.2.1 45)) 46 (σ.2.1 46)) 678 (nI 0) from (Eq.trans (wrF (Eq.trans (wrF (Eq.trans (wrF wrFI) wrFI)) wrFI)) wrFI))) ?_
  exact L7 _ 0 (σ.2.1 43) (σ.2.1 44) (σ.2.1 45) (σ.2.1 46) 0 (by omega) (by omega) (AN_0 (fun x y => rfl)) (Nat.lt_succ_self _)
set_option maxRecDepth 100000 in
set_option maxHeartbeats 4000000 in
theorem e_boundsAt (g kk : Nat → Nat) (σ : St) (k : Nat) (hk : σ.1 16 = nI k) (hk6 : k ≤ 6) (hI : iX σ) (G : GD) (hX : HX G k σ) (q : Nat) (hq : σ.1 678 = nI q) (hqb : q ≤ 12) (B : Nat → Nat → Nat × Nat) (hA : AN (σ.2.1 43) (σ.2.1 44) (σ.2.1 45) (σ.2.1 46) (zS G 2) q B) (x : Nat) (hx0 : x ≤ 20) (y : Nat) (hy0 : y ≤ 20) : jM (S := St) yX4_boundsAt cX4_boundsAt 5 (some .boolean) { frames := 2, cells := 0, slots := 0, locals := 44 } kk (cX g kk σ) [.ref (g 42), .int (nI x), .int (nI y)] (cX g kk) (rI (fun (r : Int32) (u : St) => ∃ (lo : Nat) (hi : Nat), u = sI (sI σ 679 (nI lo)) 680 (nI hi) ∧ ((lo, hi) = B x y ∧ lo ≤ 9990 ∧ hi ≤ 9999) ∧ (r = bI (decide (lo ≤ hi))))) := by
  refine j_entry [(0, .ref (g 42)), (1, .int (nI x)), (2, .int (nI y))] (by decide) (Nat.le_of_ble_eq_true rfl) rfl ?_
  intro X C E HI
  have hs9 : zS G 2 ≤ 99 := hX.W.2.2.2.2.2.1
  refine j_aload_n C 0 rfl dX4_boundsAt_0 ?_
  refine j_iconst C (nI 0) (by decide) dX4_boundsAt_1 ?_
  refine pX_42_7 C tb_319 dX4_boundsAt_2 ?_
  refine j_aload_n C 0 rfl dX4_boundsAt_5 ?_
  refine j_sipush C (nI 9999) (by decide) dX4_boundsAt_6 ?_
  refine pX_42_8 C tb_321 dX4_boundsAt_9 ?_
  refine j_iconst C (nI 0) (by decide) dX4_boundsAt_12 ?_
  refine j_istore_n C [(3, .int (nI 0)), (0, .ref (g 42)), (1, .int (nI x)), (2, .int (nI y))] rfl (by decide) rfl dX4_boundsAt_13 ?_
  have L14 : ∀ (n14 : Nat) (n : Nat) (lo : Nat) (hi : Nat) (i14_0 : n ≤ q) (i14_1 : lo ≤ 9990) (i14_2 : hi ≤ 9999) (he : (lo, hi) = anF (σ.2.1 43) (σ.2.1 44) (σ.2.1 45) (σ.2.1 46) (zS G 2) x y n) (hm14 : q - n < n14), J X 0 0 (cX g kk (sI (sI σ 679 (nI lo)) 680 (nI hi))) [(3, .int (nI n)), (0, .ref (g 42)), (1, .int (nI x)), (2, .int (nI y))] 14 [] := by
    intro n14
    induction n14 with
    | zero => intro n lo hi i14_0 i14_1 i14_2 he hm; exact absurd hm (Nat.not_lt_zero _)
    | succ n14 ih14 =>
      intro n lo hi i14_0 i14_1 i14_2 he hm14
      refine j_iload_n C 0 rfl dX4_boundsAt_14 ?_
      refine j_aload_n C 1 rfl dX4_boundsAt_15 ?_
      refine gX_42_6 C tb_318 (nI q) hq dX4_boundsAt_16 ?_
      refine j_icmp_geN C 97 (by decide) (by omega) (by omega) dX4_boundsAt_19 (fun c1 => ?_) (fun c1 => ?_)
      · refine j_aload_n C 1 rfl dX4_boundsAt_97 ?_
        refine gX_42_7 C tb_319 (nI lo) rfl dX4_boundsAt_98 ?_
        refine j_aload_n C 1 rfl dX4_boundsAt_101 ?_
        refine gX_42_8 C tb_321 (nI hi) rfl dX4_boundsAt_102 ?_
        refine j_icmp_gtN C 112 (by decide) (by omega) (by omega) dX4_boundsAt_105 (fun c2 => ?_) (fun c2 => ?_)
        · refine j_iconst C (nI 0) (by decide) dX4_boundsAt_112 ?_
          exact j_zret C E (by first | rfl | decide) (sI (sI σ 679 (nI lo)) 680 (nI hi)) ⟨_, rfl, ⟨lo, hi, rfl, ⟨by have z := he; rw [show n = q by omega] at z; exact z.trans (hA.2 x y), by omega, by omega⟩, (bI_0 (decide_eq_false (by omega)))⟩⟩ rfl dX4_boundsAt_113
        · refine j_iconst C (nI 1) (by decide) dX4_boundsAt_108 ?_
          refine j_goto C 113 (by decide) dX4_boundsAt_109 ?_
          exact j_zret C E (by first | rfl | decide) (sI (sI σ 679 (nI lo)) 680 (nI hi)) ⟨_, rfl, ⟨lo, hi, rfl, ⟨by have z := he; rw [show n = q by omega] at z; exact z.trans (hA.2 x y), by omega, by omega⟩, (bI_1 (decide_eq_true (by omega)))⟩⟩ rfl dX4_boundsAt_113
      · have hA9 := hA.1 n (by omega)
        refine j_aload_n C 1 rfl dX4_boundsAt_22 ?_
        refine gX_42_1 C tb_313 dX4_boundsAt_23 ?_
        refine gX_1_9 C tb_128 dX4_boundsAt_26 ?_
        refine j_iconst C (nI 2) (by decide) dX4_boundsAt_29 ?_
        refine rX_10 C 2 rfl (by omega) (nI (zS G 2)) (hX.S (by decide)) dX4_boundsAt_30 ?_
        refine j_iload_n C 2 rfl dX4_boundsAt_31 ?_
        refine j_iload_n C 3 rfl dX4_boundsAt_32 ?_
        refine j_aload_n C 1 rfl dX4_boundsAt_33 ?_
        refine gX_42_2 C tb_314 dX4_boundsAt_34 ?_
        refine j_iload_n C 0 rfl dX4_boundsAt_37 ?_
        refine rX_43 C n rfl (by omega) (nI ((σ.2.1 43 n).toNatClampNeg)) (le_cl (by decide) hA9.1).1 dX4_boundsAt_38 ?_
        refine j_aload_n C 1 rfl dX4_boundsAt_39 ?_
        refine gX_42_3 C tb_315 dX4_boundsAt_40 ?_
        refine j_iload_n C 0 rfl dX4_boundsAt_43 ?_
        refine rX_44 C n rfl (by omega) (nI ((σ.2.1 44 n).toNatClampNeg)) (le_cl (by decide) hA9.2.1).1 dX4_boundsAt_44 ?_
        refine j_SN01 C (c_far (nI x) (nI y) (nI ((σ.2.1 43 n).toNatClampNeg)) (nI ((σ.2.1 44 n).toNatClampNeg))) kyX10_far (fun _ h => h.2.2.2.2.2.1) tb_587 rfl (Nat.le_of_ble_eq_true rfl) ⟨by decide, by decide⟩ ⟨by decide, by decide⟩ dX4_boundsAt_45 rfl ?_
        rw [far_n hx0 hy0 (le_cl (by decide) hA9.1).2 (le_cl (by decide) hA9.2.1).2]
        have hfr := frN_le hx0 hy0 (le_cl (by decide) hA9.1).2 (le_cl (by decide) hA9.2.1).2
        have hgv := gvb hs9 hfr
        refine j_imulN C dX4_boundsAt_48 ?_
        refine j_istore C [(4, .int (nI ((zS G 2) * (frN x y ((σ.2.1 43 n).toNatClampNeg) ((σ.2.1 44 n).toNatClampNeg))))), (3, .int (nI n)), (0, .ref (g 42)), (1, .int (nI x)), (2, .int (nI y))] (by decide) rfl dX4_boundsAt_49 ?_
        refine j_aload_n C 2 rfl dX4_boundsAt_51 ?_
        refine j_aload_n C 2 rfl dX4_boundsAt_52 ?_
        refine gX_42_7 C tb_319 (nI lo) rfl dX4_boundsAt_53 ?_
        refine j_aload_n C 2 rfl dX4_boundsAt_56 ?_
        refine gX_42_4 C tb_316 dX4_boundsAt_57 ?_
        refine j_iload_n C 1 rfl dX4_boundsAt_60 ?_
        refine rX_45 C n rfl (by omega) (nI ((σ.2.1 45 n).toNatClampNeg)) (le_cl (by decide) hA9.2.2.1).1 dX4_boundsAt_61 ?_
        refine j_iload C 0 rfl dX4_boundsAt_62 ?_
        refine j_isub C dX4_boundsAt_64 ?_
        refine j_mmax C tb_725 tb_600 tb_15 tb_601 (by decide) (Nat.le_of_ble_eq_true rfl) (by decide) (by decide) dX4_boundsAt_65 ?_
        have hz3 := (le_cl (by decide) hA9.2.2.1).2
        have hz4 := (le_cl (by decide) hA9.2.2.2).2
        rw [mxs (by omega) hz3 hgv]
        refine pX_42_7 C tb_319 dX4_boundsAt_68 ?_
        refine j_aload_n C 2 rfl dX4_boundsAt_71 ?_
        refine j_aload_n C 2 rfl dX4_boundsAt_72 ?_
        refine gX_42_8 C tb_321 (nI hi) rfl dX4_boundsAt_73 ?_
        refine j_aload_n C 2 rfl dX4_boundsAt_76 ?_
        refine gX_42_5 C tb_317 dX4_boundsAt_77 ?_
        refine j_iload_n C 1 rfl dX4_boundsAt_80 ?_
        refine rX_46 C n rfl (by omega) (nI ((σ.2.1 46 n).toNatClampNeg)) (le_cl (by decide) hA9.2.2.2).1 dX4_boundsAt_81 ?_
        refine j_iload C 0 rfl dX4_boundsAt_82 ?_
        refine j_iaddN C dX4_boundsAt_84 ?_
        refine j_mmin C tb_726 tb_727 tb_15 tb_728 (by decide) (Nat.le_of_ble_eq_true rfl) (by decide) (by decide) dX4_boundsAt_85 ?_
        rw [mns (by omega) hz4 hgv]
        refine pX_42_8 C tb_321 dX4_boundsAt_88 ?_
        refine j_iinc C (nI (n + 1)) [(3, .int (nI (n + 1))), (4, .int (nI ((zS G 2) * (frN x y ((σ.2.1 43 n).toNatClampNeg) ((σ.2.1 44 n).toNatClampNeg))))), (0, .ref (g 42)), (1, .int (nI x)), (2, .int (nI y))] 1 rfl (by rw [show Int32.ofInt 1 = nI 1 from by decide, nI_add]) (by decide) rfl dX4_boundsAt_91 ?_
        refine j_goto C 14 (by decide) dX4_boundsAt_94 ?_
        refine j_sub (lv' := [(3, .int (nI (n + 1))), (0, .ref (g 42)), (1, .int (nI x)), (2, .int (nI y))]) [0, 2, 3, 4] rfl ?_
        refine j_w (cX g kk (sI (sI σ 679 (nI (max lo ((σ.2.1 45 n).toNatClampNeg - zS G 2 * frN x y ((σ.2.1 43 n).toNatClampNeg) ((σ.2.1 44 n).toNatClampNeg))))) 680 (nI (min hi ((σ.2.1 46 n).toNatClampNeg + zS G 2 * frN x y ((σ.2.1 43 n).toNatClampNeg) ((σ.2.1 44 n).toNatClampNeg)))))) (congrArg (cX g kk) (show sI (sI (sI (sI σ 679 (nI lo)) 680 (nI hi)) 679 (nI (max lo ((σ.2.1 45 n).toNatClampNeg - zS G 2 * frN x y ((σ.2.1 43 n).toNatClampNeg) ((σ.2.1 44 n).toNatClampNeg))))) 680 (nI (min hi ((σ.2.1 46 n).toNatClampNeg + zS G 2 * frN x y ((σ.2.1 43 n).toNatClampNeg) ((σ.2.1 44 n).toNatClampNeg)))) = sI (sI σ 679 (nI (max lo ((σ.2.1 45 n).toNatClampNeg - zS G 2 * frN x y ((σ.2.1 43 n).toNatClampNeg) ((σ.2.1 44 n).toNatClampNeg))))) 680 (nI (min hi ((σ.2.1 46 n).toNatClampNeg + zS G 2 * frN x y ((σ.2.1 43 n).toNatClampNeg) ((σ.2.1 44 n).toNatClampNeg)))) from (Eq.trans (wrI (Eq.trans (wrIc (by decide)) (wrI wrIs))) wrIs))) ?_
        exact ih14 (n + 1) (max lo ((σ.2.1 45 n).toNatClampNeg - zS G 2 * frN x y ((σ.2.1 43 n).toNatClampNeg) ((σ.2.1 44 n).toNatClampNeg))) (min hi ((σ.2.1 46 n).toNatClampNeg + zS G 2 * frN x y ((σ.2.1 43 n).toNatClampNeg) ((σ.2.1 44 n).toNatClampNeg))) (by omega) (by omega) (by omega) (anF_b he rfl rfl rfl) (by omega)
  exact L14 _ 0 0 9999 (by omega) (by omega) (by omega) rfl (Nat.lt_succ_self _)
set_option maxRecDepth 100000 in
set_option maxHeartbeats 4000000 in
theorem e_sum (g kk : Nat → Nat) (σ : St) (k : Nat) (hk : σ.1 16 = nI k) (hk6 : k ≤ 6) (hI : iX σ) (G : GD) (hX : HX G k σ) (q : Nat) (hq : σ.1 678 = nI q) (hqb : q ≤ 12) (B : Nat → Nat → Nat × Nat) (hA : AN (σ.2.1 43) (σ.2.1 44) (σ.2.1 45) (σ.2.1 46) (zS G 2) q B) (i : Nat) (j : Nat) (hj0 : i ≤ j) (hj1 : j ≤ 20) (m : Nat) (l : Nat) (hl0 : m ≤ l) (hl1 : l ≤ 20) : jM (S := St) yX4_sum cX4_sum 7 (some .boolean) { frames := 3, cells := 0, slots := 0, locals := 68 } kk (cX g kk σ) [.ref (g 42), .int (nI i), .int (nI j), .int (nI m), .int (nI l)] (cX g kk) (rI (fun (r : Int32) (u : St) => ∃ (pI679 : Int32) (pI680 : Int32) (sa : Nat) (sb : Nat), u = sI (sI (sI (sI σ 679 pI679) 680 pI680) 681 (nI sa)) 682 (nI sb) ∧ ((r = nI 1 ∧ some (sa, sb) = ovX B i m l (j + 1 - i)) ∨ (r = nI 0 ∧ ovX B i m l (j + 1 - i) = none)) ∧ (sa ≤ 4405590 ∧ sb ≤ 4409559))) := by
  refine j_entry [(0, .ref (g 42)), (1, .int (nI i)), (2, .int (nI j)), (3, .int (nI m)), (4, .int (nI l))] (by decide) (Nat.le_of_ble_eq_true rfl) rfl ?_
  intro X C E HI
  refine j_aload_n C 0 rfl dX4_sum_0 ?_
  refine j_iconst C (nI 0) (by decide) dX4_sum_1 ?_
  refine pX_42_9 C tb_323 dX4_sum_2 ?_
  refine j_aload_n C 0 rfl dX4_sum_5 ?_
  refine j_iconst C (nI 0) (by decide) dX4_sum_6 ?_
  refine pX_42_10 C tb_325 dX4_sum_7 ?_
  refine j_iload_n C 1 rfl dX4_sum_10 ?_
  refine j_istore C [(5, .int (nI i)), (0, .ref (g 42)), (1, .int (nI i)), (2, .int (nI j)), (3, .int (nI m)), (4, .int (nI l))] (by decide) rfl dX4_sum_11 ?_
  have L13 : ∀ (n13 : Nat) (x : Nat) (z13_I679 : Int32) (z13_I680 : Int32) (sa : Nat) (sb : Nat) (i13_0 : i ≤ x) (i13_1 : x ≤ j + 1) (i13_2 : sa ≤ 209790 * (x - i)) (i13_3 : sb ≤ 209979 * (x - i)) (hs1 : some (sa, sb) = ovX B i m l (x - i)) (hm13 : j + 1 - x < n13), J X 0 0 (cX g kk (sI (sI (sI (sI σ 679 z13_I679) 680 z13_I680) 681 (nI sa)) 682 (nI sb))) [(5, .int (nI x)), (0, .ref (g 42)), (1, .int (nI i)), (2, .int (nI j)), (3, .int (nI m)), (4, .int (nI l))] 13 [] := by
    intro n13
    induction n13 with
    | zero => intro x z13_I679 z13_I680 sa sb i13_0 i13_1 i13_2 i13_3 hs1 hm; exact absurd hm (Nat.not_lt_zero _)
    | succ n13 ih13 =>
      intro x z13_I679 z13_I680 sa sb i13_0 i13_1 i13_2 i13_3 hs1 hm13
      refine j_iload C 0 rfl dX4_sum_13 ?_
      refine j_iload_n C 3 rfl dX4_sum_15 ?_
      refine j_icmp_gtN C 80 (by decide) (by omega) (by omega) dX4_sum_16 (fun c1 => ?_) (fun c1 => ?_)
      · refine j_iconst C (nI 1) (by decide) dX4_sum_80 ?_
        exact j_zret C E (by first | rfl | decide) (sI (sI (sI (sI σ 679 z13_I679) 680 z13_I680) 681 (nI sa)) 682 (nI sb)) ⟨_, rfl, ⟨z13_I679, z13_I680, sa, sb, rfl, (Or.inl ⟨rfl, by have z := hs1; rw [show x = j + 1 by omega] at z; exact z⟩), (by omega)⟩⟩ rfl dX4_sum_81
      · refine j_iload_n C 4 rfl dX4_sum_19 ?_
        refine j_istore C [(6, .int (nI m)), (5, .int (nI x)), (0, .ref (g 42)), (1, .int (nI i)), (2, .int (nI j)), (3, .int (nI m)), (4, .int (nI l))] (by decide) rfl dX4_sum_20 ?_
        have L22 : ∀ (n22 : Nat) (y : Nat) (z22_I679 : Int32) (z22_I680 : Int32) (ta : Nat) (tb : Nat) (i22_0 : m ≤ y) (i22_1 : y ≤ l + 1) (i22_2 : ta ≤ 209790 * (x - i) + 9990 * (y - m)) (i22_3 : tb ≤ 209979 * (x - i) + 9999 * (y - m)) (hs2 : some (ta, tb) = ovY B x m (ovX B i m l (x - i)) (y - m)) (hm22 : l + 1 - y < n22), J X 0 0 (cX g kk (sI (sI (sI (sI σ 679 z22_I679) 680 z22_I680) 681 (nI ta)) 682 (nI tb))) [(6, .int (nI y)), (5, .int (nI x)), (0, .ref (g 42)), (1, .int (nI i)), (2, .int (nI j)), (3, .int (nI m)), (4, .int (nI l))] 22 [] := by
          intro n22
          induction n22 with
          | zero => intro y z22_I679 z22_I680 ta tb i22_0 i22_1 i22_2 i22_3 hs2 hm; exact absurd hm (Nat.not_lt_zero _)
          | succ n22 ih22 =>
            intro y z22_I679 z22_I680 ta tb i22_0 i22_1 i22_2 i22_3 hs2 hm22
            refine j_iload C 0 rfl dX4_sum_22 ?_
            refine j_iload C 6 rfl dX4_sum_24 ?_
            refine j_icmp_gtN C 74 (by decide) (by omega) (by omega) dX4_sum_26 (fun c2 => ?_) (fun c2 => ?_)
            · refine j_iinc C (nI (x + 1)) [(5, .int (nI (x + 1))), (6, .int (nI y)), (0, .ref (g 42)), (1, .int (nI i)), (2, .int (nI j)), (3, .int (nI m)), (4, .int (nI l))] 1 rfl (by rw [show Int32.ofInt 1 = nI 1 from by decide, nI_add]) (by decide) rfl dX4_sum_74 ?_
              refine j_goto C 13 (by decide) dX4_sum_77 ?_
              refine j_sub (lv' := [(5, .int (nI (x + 1))), (0, .ref (g 42)), (1, .int (nI i)), (2, .int (nI j)), (3, .int (nI m)), (4, .int (nI l))]) [0, 2, 3, 4, 5, 6] rfl ?_
              exact ih13 (x + 1) z22_I679 z22_I680 ta tb (by omega) (by omega) (by omega) (by omega) (ovX_s (by have z := hs2; rw [show y = l + 1 by omega] at z; exact z) (by omega)) (by omega)
            · refine j_aload_n C 2 rfl dX4_sum_29 ?_
              refine j_iload C 1 rfl dX4_sum_30 ?_
              refine j_iload C 0 rfl dX4_sum_32 ?_
              refine j_V1 C (e_boundsAt g kk (sI (sI (sI (sI σ 679 z22_I679) 680 z22_I680) 681 (nI ta)) 682 (nI tb)) k hk hk6 hI G hX q hq (by omega) B hA x (by first | assumption | omega) y (by first | assumption | omega)) kyX4_boundsAt tb_740 tb_721 tb_722 42 rfl (eX_42 g kk _) rfl (Nat.le_of_ble_eq_true rfl) ⟨by decide, by decide⟩ dX4_sum_34 rfl (fun vr ur hp => ?_)
              obtain ⟨r7, rfl, w3, w4, hu, g5, g6⟩ := hp
              replace hu := hu.symm
              subst hu
              have er7 := g6
              subst er7
              refine j_if_ne C 42 (by decide) dX4_sum_37 (fun c8 => ?_) (fun c8 => ?_)
              · replace c8 := bI_t c8
                refine j_aload_n C 2 rfl dX4_sum_42 ?_
                refine j_dup C rfl dX4_sum_43 ?_
                refine gX_42_9 C tb_323 (nI ta) rfl dX4_sum_44 ?_
                refine j_aload_n C 2 rfl dX4_sum_47 ?_
                refine gX_42_7 C tb_319 (nI w3) rfl dX4_sum_48 ?_
                refine j_iaddN C dX4_sum_51 ?_
                refine pX_42_9 C tb_323 dX4_sum_52 ?_
                refine j_aload_n C 2 rfl dX4_sum_55 ?_
                refine j_dup C rfl dX4_sum_56 ?_
                refine gX_42_10 C tb_325 (nI tb) rfl dX4_sum_57 ?_
                refine j_aload_n C 2 rfl dX4_sum_60 ?_
                refine gX_42_8 C tb_321 (nI w4) rfl dX4_sum_61 ?_
                refine j_iaddN C dX4_sum_64 ?_
                refine pX_42_10 C tb_325 dX4_sum_65 ?_
                refine j_iinc C (nI (y + 1)) [(6, .int (nI (y + 1))), (5, .int (nI x)), (0, .ref (g 42)), (1, .int (nI i)), (2, .int (nI j)), (3, .int (nI m)), (4, .int (nI l))] 0 rfl (by rw [show Int32.ofInt 1 = nI 1 from by decide, nI_add]) (by decide) rfl dX4_sum_68 ?_
                refine j_goto C 22 (by decide) dX4_sum_71 ?_
                refine j_w (cX g kk (sI (sI (sI (sI σ 679 (nI w3)) 680 (nI w4)) 681 (nI (ta + w3))) 682 (nI (tb + w4)))) (congrArg (cX g kk) (show sI (sI (sI (sI (sI (sI (sI (sI σ 679 z22_I679) 680 z22_I680) 681 (nI ta)) 682 (nI tb)) 679 (nI w3)) 680 (nI w4)) 681 (nI (ta + w3))) 682 (nI (tb + w4)) = sI (sI (sI (sI σ 679 (nI w3)) 680 (nI w4)) 681 (nI (ta + w3))) 682 (nI (tb + w4)) from (Eq.trans (wrI (Eq.trans (wrI (Eq.trans (wrI (Eq.trans (wrIc (by decide)) (wrI (Eq.trans (wrIc (by decide)) (wrI (Eq.trans (wrIc (by decide)) (wrI wrIs))))))) (Eq.trans (wrIc (by decide)) (wrI (Eq.trans (wrIc (by decide)) (wrI wrIs)))))) (Eq.trans (wrIc (by decide)) (wrI wrIs)))) wrIs))) ?_
                exact ih22 (y + 1) (nI w3) (nI w4) (ta + w3) (tb + w4) (by omega) (by omega) (by omega) (by omega) (ovY_s hs2 (by omega) g5.1 (of_decide_eq_true c8)) (by omega)
              · replace c8 := bI_f c8
                refine j_iconst C (nI 0) (by decide) dX4_sum_40 ?_
                refine j_w (cX g kk (sI (sI (sI (sI σ 679 (nI w3)) 680 (nI w4)) 681 (nI ta)) 682 (nI tb))) (congrArg (cX g kk) (show sI (sI (sI (sI (sI (sI σ 679 z22_I679) 680 z22_I680) 681 (nI ta)) 682 (nI tb)) 679 (nI w3)) 680 (nI w4) = sI (sI (sI (sI σ 679 (nI w3)) 680 (nI w4)) 681 (nI ta)) 682 (nI tb) from (Eq.trans (wrI (Eq.trans (wrIc (by decide)) (wrI (Eq.trans (wrIc (by decide)) (wrI (Eq.trans (wrIc (by decide)) (wrI wrIs))))))) (Eq.trans (wrIc (by decide)) (wrI (Eq.trans (wrIc (by decide)) (wrI wrIs))))))) ?_
                exact j_zret C E (by first | rfl | decide) (sI (sI (sI (sI σ 679 (nI w3)) 680 (nI w4)) 681 (nI ta)) 682 (nI tb)) ⟨_, rfl, ⟨(nI w3), (nI w4), ta, tb, rfl, (Or.inr ⟨rfl, ovX_c (ovY_c hs2 (by omega) (by omega) g5.1 (of_decide_eq_false c8)) (by omega) (by omega)⟩), (by omega)⟩⟩ rfl dX4_sum_41
        exact L22 _ m z13_I679 z13_I680 sa sb (by omega) (by omega) (by omega) (by omega) (by rw [Nat.sub_self]; exact hs1) (Nat.lt_succ_self _)
  refine j_w (cX g kk (sI (sI (sI σ 681 (nI 0)) 682 (nI 0)) 679 (σ.1 679))) (congrArg (cX g kk) (wrIi (S := (sI (sI σ 681 (nI 0)) 682 (nI 0))) (c := 679) (v := σ.1 679) (gtII (by decide) (gtII (by decide) rfl)))) ?_
  refine j_w (cX g kk (sI (sI (sI (sI σ 681 (nI 0)) 682 (nI 0)) 679 (σ.1 679)) 680 (σ.1 680))) (congrArg (cX g kk) (wrIi (S := (sI (sI (sI σ 681 (nI 0)) 682 (nI 0)) 679 (σ.1 679))) (c := 680) (v := σ.1 680) (gtII (by decide) (gtII (by decide) (gtII (by decide) rfl))))) ?_
  refine j_w (cX g kk (sI (sI (sI (sI σ 679 (σ.1 679)) 680 (σ.1 680)) 681 (nI 0)) 682 (nI 0))) (congrArg (cX g kk) (show sI (sI (sI (sI σ 681 (nI 0)) 682 (nI 0)) 679 (σ.1 679)) 680 (σ.1 680) = sI (sI (sI (sI σ 679 (σ.1 679)) 680 (σ.1 680)) 681 (nI 0)) 682 (nI 0) from (Eq.trans (wrI (Eq.trans (wrIc (by decide)) (wrI (wrIc (by decide))))) (Eq.trans (wrIc (by decide)) (wrI (wrIc (by decide))))))) ?_
  exact L13 _ i (σ.1 679) (σ.1 680) 0 0 (by omega) (by omega) (by omega) (by omega) (by rw [Nat.sub_self]; rfl) (Nat.lt_succ_self _)
def byF (sa sb p f : Nat) : Int32 := if sb < f then nI f - nI sb else if f < sa * (100 - p) / 100 then nI f - nI (sa * (100 - p) / 100) else nI 0
theorem prb {a p : Nat} (ha : a ≤ 4405590) : a * (100 - p) ≤ 440559000 := Nat.le_trans (Nat.mul_le_mul ha (show 100 - p ≤ 100 by omega)) (by decide)
set_option maxRecDepth 100000 in
set_option maxHeartbeats 4000000 in
theorem e_beyond (g kk : Nat → Nat) (σ : St) (k : Nat) (hk : σ.1 16 = nI k) (hk6 : k ≤ 6) (hI : iX σ) (sa : Nat) (hsa : σ.1 681 = nI sa) (hsab : sa ≤ 4405590) (sb : Nat) (hsb : σ.1 682 = nI sb) (hsbb : sb ≤ 4409559) (p : Nat) (hp0 : p ≤ 100) (f : Nat) (hf0 : f ≤ 9999999) : jM (S := St) yX4_beyond cX4_beyond 4 (some .int) { frames := 0, cells := 0, slots := 0, locals := 0 } kk (cX g kk σ) [.ref (g 42), .int (nI p), .int (nI f)] (cX g kk) (rI (fun (r : Int32) (u : St) => u = σ ∧ (r = byF sa sb p f))) := by
  refine j_entry [(0, .ref (g 42)), (1, .int (nI p)), (2, .int (nI f))] (by decide) (Nat.le_of_ble_eq_true rfl) rfl ?_
  intro X C E HI
  refine j_aload_n C 0 rfl dX4_beyond_0 ?_
  refine gX_42_9 C tb_323 (nI sa) hsa dX4_beyond_1 ?_
  refine j_bipush C (nI 100) (by decide) dX4_beyond_4 ?_
  refine j_iload_n C 1 rfl dX4_beyond_6 ?_
  refine j_isubN C (by omega) dX4_beyond_7 ?_
  have hpr := prb (p := p) hsab
  refine j_imulN C dX4_beyond_8 ?_
  refine j_bipush C (nI 100) (by decide) dX4_beyond_9 ?_
  refine j_idivN C (by omega) (by omega) (by omega) dX4_beyond_11 ?_
  refine j_istore_n C [(3, .int (nI ((sa * (100 - p)) / 100))), (0, .ref (g 42)), (1, .int (nI p)), (2, .int (nI f))] rfl (by decide) rfl dX4_beyond_12 ?_
  refine j_iload_n C 3 rfl dX4_beyond_13 ?_
  refine j_aload_n C 1 rfl dX4_beyond_14 ?_
  refine gX_42_10 C tb_325 (nI sb) hsb dX4_beyond_15 ?_
  refine j_icmp_leN C 28 (by decide) (by omega) (by omega) dX4_beyond_18 (fun c1 => ?_) (fun c1 => ?_)
  · refine j_iload_n C 3 rfl dX4_beyond_28 ?_
    refine j_iload_n C 0 rfl dX4_beyond_29 ?_
    refine j_icmp_geN C 39 (by decide) (by omega) (by omega) dX4_beyond_30 (fun c2 => ?_) (fun c2 => ?_)
    · refine j_iconst C (nI 0) (by decide) dX4_beyond_39 ?_
      exact j_iret C E (σ) ⟨_, rfl, ⟨rfl, (by unfold byF; first | rw [if_pos (by omega)] | rw [if_neg (by omega), if_pos (by omega)] | rw [if_neg (by omega), if_neg (by omega)])⟩⟩ rfl dX4_beyond_40
    · refine j_iload_n C 3 rfl dX4_beyond_33 ?_
      refine j_iload_n C 0 rfl dX4_beyond_34 ?_
      refine j_isub C dX4_beyond_35 ?_
      refine j_goto C 40 (by decide) dX4_beyond_36 ?_
      exact j_iret C E (σ) ⟨_, rfl, ⟨rfl, (by unfold byF; first | rw [if_pos (by omega)] | rw [if_neg (by omega), if_pos (by omega)] | rw [if_neg (by omega), if_neg (by omega)])⟩⟩ rfl dX4_beyond_40
  · refine j_iload_n C 3 rfl dX4_beyond_21 ?_
    refine j_aload_n C 1 rfl dX4_beyond_22 ?_
    refine gX_42_10 C tb_325 (nI sb) hsb dX4_beyond_23 ?_
    refine j_isub C dX4_beyond_26 ?_
    exact j_iret C E (σ) ⟨_, rfl, ⟨rfl, (by unfold byF; first | rw [if_pos (by omega)] | rw [if_neg (by omega), if_pos (by omega)] | rw [if_neg (by omega), if_neg (by omega)])⟩⟩ rfl dX4_beyond_27
def bnF (B : Nat → Nat → Nat → Nat × Nat) (x y z w : Int32) : Int32 := if wB x (nI 0) (nI 27) = false then -1 else if (wB y (nI 0) (nI 20) && wB z (nI 0) (nI 20)) = false ∨ wB w (nI 0) (nI 1) = false then -2 else if ¬ (B x.toNatClampNeg y.toNatClampNeg z.toNatClampNeg).1 ≤ (B x.toNatClampNeg y.toNatClampNeg z.toNatClampNeg).2 then -5 else if w = nI 0 then nI (B x.toNatClampNeg y.toNatClampNeg z.toNatClampNeg).1 else nI (B x.toNatClampNeg y.toNatClampNeg z.toNatClampNeg).2
theorem bnF_1 {B : Nat → Nat → Nat → Nat × Nat} {x y z w : Int32} (h : wB x (nI 0) (nI 27) = false) : -1 = bnF B x y z w := by unfold bnF; rw [if_pos h]
theorem bnF_2 {B : Nat → Nat → Nat → Nat × Nat} {x y z w : Int32} (h : wB x (nI 0) (nI 27) = true) (h2 : (wB y (nI 0) (nI 20) && wB z (nI 0) (nI 20)) = false ∨ wB w (nI 0) (nI 1) = false) : -2 = bnF B x y z w := by unfold bnF; rw [if_neg (by rw [h]; decide), if_pos h2]
theorem bnF_x {B : Nat → Nat → Nat → Nat × Nat} {x y z w lo hi : Nat} {r : Int32} (h : wB (nI x) (nI 0) (nI 27) = true) (h2 : (wB (nI y) (nI 0) (nI 20) && wB (nI z) (nI 0) (nI 20)) = true) (h3 : wB (nI w) (nI 0) (nI 1) = true) (hx : x ≤ 27) (hy : y ≤ 20) (hz : z ≤ 20) (hw : w ≤ 1) (e : (lo, hi) = B x y z) (hr : r = if ¬ lo ≤ hi then -5 else if w = 0 then nI lo else nI hi) : r = bnF B (nI x) (nI y) (nI z) (nI w) := by
  unfold bnF
  rw [if_neg (by rw [h]; decide), if_neg (by rw [h2, h3]; decide), nI_clamp (by omega), nI_clamp (by omega), nI_clamp (by omega), ← e, hr]
  by_cases q : w = 0
  · subst q; rfl
  · rw [if_neg q, if_neg (show ¬ nI w = nI 0 from fun v => q ((nI_eq (by omega) (by decide)).mp v))]
set_option maxRecDepth 100000 in
set_option maxHeartbeats 4000000 in
theorem e_bound (g kk : Nat → Nat) (σ : St) (k : Nat) (hk : σ.1 16 = nI k) (hk6 : k ≤ 6) (hI : iX σ) (G : GD) (hX : HX G k σ) (ra : Nat) (hra : σ.1 256 = nI ra) (hrab : ra ≤ 6) (Q : RQ) (hQ : HQ Q ra σ) (hst : σ.1 437 = 0 → CXf G k (σ.2.1 28) (σ.2.1 29) (σ.2.1 30) (σ.2.1 31)) (x : Int32) (y : Int32) (z : Int32) (w : Int32) : jM (S := St) yX10_bound cX10_bound 5 (some .int) { frames := 5, cells := 0, slots := 0, locals := 115 } kk (cX g kk σ) [.ref (g 0), .int x, .int y, .int z, .int w] (cX g kk) (rI (fun (r : Int32) (u : St) => ∃ (pF28 : Nat → Int32) (pF29 : Nat → Int32) (pF30 : Nat → Int32) (pF31 : Nat → Int32) (pF43 : Nat → Int32) (pF44 : Nat → Int32) (pF45 : Nat → Int32) (pF46 : Nat → Int32) (pI437 : Int32) (pI678 : Int32) (pI679 : Int32) (pI680 : Int32), u = sI (sI (sI (sI (sF (sF (sF (sF (sF (sF (sF (sF σ 28 pF28) 29 pF29) 30 pF30) 31 pF31) 43 pF43) 44 pF44) 45 pF45) 46 pF46) 437 pI437) 678 pI678) 679 pI679) 680 pI680 ∧ (r = bnF (fun d x y => bdR G k Q d x y ra) x y z w) ∧ ((pI437 = nI 0 ∧ CXf G k pF28 pF29 pF30 pF31) ∨ (pI437 = σ.1 437 ∧ pF28 = σ.2.1 28 ∧ pF29 = σ.2.1 29 ∧ pF30 = σ.2.1 30 ∧ pF31 = σ.2.1 31)))) := by
  refine j_entry [(0, .ref (g 0)), (1, .int x), (2, .int y), (3, .int z), (4, .int w)] (by decide) (Nat.le_of_ble_eq_true rfl) rfl ?_
  intro X C E HI
  refine j_iload_n C 1 rfl dX10_bound_0 ?_
  refine j_S01 C (c_isDay x) kyX10_isDay tb_486 tb_487 rfl (Nat.le_of_ble_eq_true rfl) ⟨by decide, by decide⟩ ⟨by decide, by decide⟩ dX10_bound_1 rfl ?_
  refine j_if_ne C 9 (by decide) dX10_bound_4 (fun c1 => ?_) (fun c1 => ?_)
  · replace c1 := bI_t c1
    obtain ⟨xn, xn1, xn2, rfl⟩ := wB_nat (by decide) (by decide) c1
    refine j_iload_n C 2 rfl dX10_bound_9 ?_
    refine j_iload_n C 3 rfl dX10_bound_10 ?_
    refine j_S01 C (c_isPlace y z) kyX10_isPlace tb_464 tb_465 rfl (Nat.le_of_ble_eq_true rfl) ⟨by decide, by decide⟩ ⟨by decide, by decide⟩ dX10_bound_11 rfl ?_
    refine j_if_eq C 27 (by decide) dX10_bound_14 (fun c2 => ?_) (fun c2 => ?_)
    · replace c2 := bI_f c2
      refine j_bipush C ((-2)) (by decide) dX10_bound_27 ?_
      refine j_w (cX g kk (sF σ 28 (σ.2.1 28))) (congrArg (cX g kk) (wrFi (S := σ) (c := 28) (v := σ.2.1 28) rfl)) ?_
      refine j_w (cX g kk (sF (sF σ 28 (σ.2.1 28)) 29 (σ.2.1 29))) (congrArg (cX g kk) (wrFi (S := (sF σ 28 (σ.2.1 28))) (c := 29) (v := σ.2.1 29) (gtFF (by decide) rfl))) ?_
      refine j_w (cX g kk (sF (sF (sF σ 28 (σ.2.1 28)) 29 (σ.2.1 29)) 30 (σ.2.1 30))) (congrArg (cX g kk) (wrFi (S := (sF (sF σ 28 (σ.2.1 28)) 29 (σ.2.1 29))) (c := 30) (v := σ.2.1 30) (gtFF (by decide) (gtFF (by decide) rfl)))) ?_
      refine j_w (cX g kk (sF (sF (sF (sF σ 28 (σ.2.1 28)) 29 (σ.2.1 29)) 30 (σ.2.1 30)) 31 (σ.2.1 31))) (congrArg (cX g kk) (wrFi (S := (sF (sF (sF σ 28 (σ.2.1 28)) 29 (σ.2.1 29)) 30 (σ.2.1 30))) (c := 31) (v := σ.2.1 31) (gtFF (by decide) (gtFF (by decide) (gtFF (by decide) rfl))))) ?_
      refine j_w (cX g kk (sF (sF (sF (sF (sF σ 28 (σ.2.1 28)) 29 (σ.2.1 29)) 30 (σ.2.1 30)) 31 (σ.2.1 31)) 43 (σ.2.1 43))) (congrArg (cX g kk) (wrFi (S := (sF (sF (sF (sF σ 28 (σ.2.1 28)) 29 (σ.2.1 29)) 30 (σ.2.1 30)) 31 (σ.2.1 31))) (c := 43) (v := σ.2.1 43) (gtFF (by decide) (gtFF (by decide) (gtFF (by decide) (gtFF (by decide) rfl)))))) ?_
      refine j_w (cX g kk (sF (sF (sF (sF (sF (sF σ 28 (σ.2.1 28)) 29 (σ.2.1 29)) 30 (σ.2.1 30)) 31 (σ.2.1 31)) 43 (σ.2.1 43)) 44 (σ.2.1 44))) (congrArg (cX g kk) (wrFi (S := (sF (sF (sF (sF (sF σ 28 (σ.2.1 28)) 29 (σ.2.1 29)) 30 (σ.2.1 30)) 31 (σ.2.1 31)) 43 (σ.2.1 43))) (c := 44) (v := σ.2.1 44) (gtFF (by decide) (gtFF (by decide) (gtFF (by decide) (gtFF (by decide) (gtFF (by decide) rfl))))))) ?_
      refine j_w (cX g kk (sF (sF (sF (sF (sF (sF (sF σ 28 (σ.2.1 28)) 29 (σ.2.1 29)) 30 (σ.2.1 30)) 31 (σ.2.1 31)) 43 (σ.2.1 43)) 44 (σ.2.1 44)) 45 (σ.2.1 45))) (congrArg (cX g kk) (wrFi (S := (sF (sF (sF (sF (sF (sF σ 28 (σ.2.1 28)) 29 (σ.2.1 29)) 30 (σ.2.1 30)) 31 (σ.2.1 31)) 43 (σ.2.1 43)) 44 (σ.2.1 44))) (c := 45) (v := σ.2.1 45) (gtFF (by decide) (gtFF (by decide) (gtFF (by decide) (gtFF (by decide) (gtFF (by decide) (gtFF (by decide) rfl)))))))) ?_
      refine j_w (cX g kk (sF (sF (sF (sF (sF (sF (sF (sF σ 28 (σ.2.1 28)) 29 (σ.2.1 29)) 30 (σ.2.1 30)) 31 (σ.2.1 31)) 43 (σ.2.1 43)) 44 (σ.2.1 44)) 45 (σ.2.1 45)) 46 (σ.2.1 46))) (congrArg (cX g kk) (wrFi (S := (sF (sF (sF (sF (sF (sF (sF σ 28 (σ.2.1 28)) 29 (σ.2.1 29)) 30 (σ.2.1 30)) 31 (σ.2.1 31)) 43 (σ.2.1 43)) 44 (σ.2.1 44)) 45 (σ.2.1 45))) (c := 46) (v := σ.2.1 46) (gtFF (by decide) (gtFF (by decide) (gtFF (by decide) (gtFF (by decide) (gtFF (by decide) (gtFF (by decide) (gtFF (by decide) rfl))))))))) ?_
      refine j_w (cX g kk (sI (sF (sF (sF (sF (sF (sF (sF (sF σ 28 (σ.2.1 28)) 29 (σ.2.1 29)) 30 (σ.2.1 30)) 31 (σ.2.1 31)) 43 (σ.2.1 43)) 44 (σ.2.1 44)) 45 (σ.2.1 45)) 46 (σ.2.1 46)) 437 (σ.1 437))) (congrArg (cX g kk) (wrIi (S := (sF (sF (sF (sF (sF (sF (sF (sF σ 28 (σ.2.1 28)) 29 (σ.2.1 29)) 30 (σ.2.1 30)) 31 (σ.2.1 31)) 43 (σ.2.1 43)) 44 (σ.2.1 44)) 45 (σ.2.1 45)) 46 (σ.2.1 46))) (c := 437) (v := σ.1 437) (gtIF (gtIF (gtIF (gtIF (gtIF (gtIF (gtIF (gtIF rfl)))))))))) ?_
      refine j_w (cX g kk (sI (sI (sF (sF (sF (sF (sF (sF (sF (sF σ 28 (σ.2.1 28)) 29 (σ.2.1 29)) 30 (σ.2.1 30)) 31 (σ.2.1 31)) 43 (σ.2.1 43)) 44 (σ.2.1 44)) 45 (σ.2.1 45)) 46 (σ.2.1 46)) 437 (σ.1 437)) 678 (σ.1 678))) (congrArg (cX g kk) (wrIi (S := (sI (sF (sF (sF (sF (sF (sF (sF (sF σ 28 (σ.2.1 28)) 29 (σ.2.1 29)) 30 (σ.2.1 30)) 31 (σ.2.1 31)) 43 (σ.2.1 43)) 44 (σ.2.1 44)) 45 (σ.2.1 45)) 46 (σ.2.1 46)) 437 (σ.1 437))) (c := 678) (v := σ.1 678) (gtII (by decide) (gtIF (gtIF (gtIF (gtIF (gtIF (gtIF (gtIF (gtIF rfl))))))))))) ?_
      refine j_w (cX g kk (sI (sI (sI (sF (sF (sF (sF (sF (sF (sF (sF σ 28 (σ.2.1 28)) 29 (σ.2.1 29)) 30 (σ.2.1 30)) 31 (σ.2.1 31)) 43 (σ.2.1 43)) 44 (σ.2.1 44)) 45 (σ.2.1 45)) 46 (σ.2.1 46)) 437 (σ.1 437)) 678 (σ.1 678)) 679 (σ.1 679))) (congrArg (cX g kk) (wrIi (S := (sI (sI (sF (sF (sF (sF (sF (sF (sF (sF σ 28 (σ.2.1 28)) 29 (σ.2.1 29)) 30 (σ.2.1 30)) 31 (σ.2.1 31)) 43 (σ.2.1 43)) 44 (σ.2.1 44)) 45 (σ.2.1 45)) 46 (σ.2.1 46)) 437 (σ.1 437)) 678 (σ.1 678))) (c := 679) (v := σ.1 679) (gtII (by decide) (gtII (by decide) (gtIF (gtIF (gtIF (gtIF (gtIF (gtIF (gtIF (gtIF rfl)))))))))))) ?_
      refine j_w (cX g kk (sI (sI (sI (sI (sF (sF (sF (sF (sF (sF (sF (sF σ 28 (σ.2.1 28)) 29 (σ.2.1 29)) 30 (σ.2.1 30)) 31 (σ.2.1 31)) 43 (σ.2.1 43)) 44 (σ.2.1 44)) 45 (σ.2.1 45)) 46 (σ.2.1 46)) 437 (σ.1 437)) 678 (σ.1 678)) 679 (σ.1 679)) 680 (σ.1 680))) (congrArg (cX g kk) (wrIi (S := (sI (sI (sI (sF (sF (sF (sF (sF (sF (sF (sF σ 28 (σ.2.1 28)) 29 (σ.2.1 29)) 30 (σ.2.1 30)) 31 (σ.2.1 31)) 43 (σ.2.1 43)) 44 (σ.2.1 44)) 45 (σ.2.1 45)) 46 (σ.2.1 46)) 437 (σ.1 437)) 678 (σ.1 678)) 679 (σ.1 679))) (c := 680) (v := σ.1 680) (gtII (by decide) (gtII (by decide) (gtII (by decide) (gtIF (gtIF (gtIF (gtIF (gtIF (gtIF (gtIF (gtIF rfl))))))))))))) ?_
      exact j_iret C E (sI (sI (sI (sI (sF (sF (sF (sF (sF (sF (sF (sF σ 28 (σ.2.1 28)) 29 (σ.2.1 29)) 30 (σ.2.1 30)) 31 (σ.2.1 31)) 43 (σ.2.1 43)) 44 (σ.2.1 44)) 45 (σ.2.1 45)) 46 (σ.2.1 46)) 437 (σ.1 437)) 678 (σ.1 678)) 679 (σ.1 679)) 680 (σ.1 680)) ⟨_, rfl, ⟨(σ.2.1 28), (σ.2.1 29), (σ.2.1 30), (σ.2.1 31), (σ.2.1 43), (σ.2.1 44), (σ.2.1 45), (σ.2.1 46), (σ.1 437), (σ.1 678), (σ.1 679), (σ.1 680), rfl, (bnF_2 c1 (Or.inl c2)), (Or.inr ⟨rfl, rfl, rfl, rfl, rfl⟩)⟩⟩ rfl dX10_bound_29
    · replace c2 := bI_t c2
      obtain ⟨yn, yn1, yn2, rfl⟩ := wB_nat (by decide) (by decide) (andL c2)
      obtain ⟨zn, zn1, zn2, rfl⟩ := wB_nat (by decide) (by decide) (andR c2)
      refine j_iload C 4 rfl dX10_bound_17 ?_
      refine j_iconst C (nI 0) (by decide) dX10_bound_19 ?_
      refine j_iconst C (nI 1) (by decide) dX10_bound_20 ?_
      refine j_S01 C (c_isWithin w (nI 0) (nI 1)) kyX10_isWithin tb_467 tb_468 rfl (Nat.le_of_ble_eq_true rfl) ⟨by decide, by decide⟩ ⟨by decide, by decide⟩ dX10_bound_21 rfl ?_
      refine j_if_ne C 30 (by decide) dX10_bound_24 (fun c3 => ?_) (fun c3 => ?_)
      · replace c3 := bI_t c3
        obtain ⟨wn, wn1, wn2, rfl⟩ := wB_nat (by decide) (by decide) c3
        refine j_aload_n C 0 rfl dX10_bound_30 ?_
        refine gX_0_2 C tb_430 dX10_bound_31 ?_
        refine j_V1 C (e_refresh g kk σ k hk hk6 hI G hX hst ) kyX7_refresh tb_562 tb_563 tb_564 27 rfl (eX_27 g kk _) rfl (Nat.le_of_ble_eq_true rfl) ⟨by decide, by decide⟩ dX10_bound_34 rfl (fun vr ur hp => ?_)
        obtain ⟨rfl, w4, w5, w6, w7, w8, hu, g9, g10⟩ := hp
        replace hu := hu.symm
        subst hu
        refine j_aload_n C 0 rfl dX10_bound_37 ?_
        refine gX_0_5 C tb_433 dX10_bound_38 ?_
        refine j_iload_n C 1 rfl dX10_bound_41 ?_
        refine j_V1 C (e_gather g kk (sI (sF (sF (sF (sF σ 28 w4) 29 w5) 30 w6) 31 w7) 437 w8) k hk hk6 hI G hX ra hra (by omega) Q hQ g10 xn (by first | assumption | omega)) kyX4_gather tb_712 tb_713 tb_714 42 rfl (eX_42 g kk _) rfl (Nat.le_of_ble_eq_true rfl) ⟨by decide, by decide⟩ dX10_bound_42 rfl (fun vr ur hp => ?_)
        obtain ⟨rfl, w11, w12, w13, w14, w15, hu, g16, g17⟩ := hp
        replace hu := hu.symm
        subst hu
        refine j_aload_n C 0 rfl dX10_bound_45 ?_
        refine gX_0_5 C tb_433 dX10_bound_46 ?_
        refine j_iload_n C 2 rfl dX10_bound_49 ?_
        refine j_iload_n C 3 rfl dX10_bound_50 ?_
        refine j_V1 C (e_boundsAt g kk (sI (sF (sF (sF (sF (sI (sF (sF (sF (sF σ 28 w4) 29 w5) 30 w6) 31 w7) 437 w8) 43 w11) 44 w12) 45 w13) 46 w14) 678 (nI w15)) k hk hk6 hI G hX w15 rfl (by omega) _ g17 yn (by first | assumption | omega) zn (by first | assumption | omega)) kyX4_boundsAt tb_720 tb_721 tb_722 42 rfl (eX_42 g kk _) rfl (Nat.le_of_ble_eq_true rfl) ⟨by decide, by decide⟩ dX10_bound_51 rfl (fun vr ur hp => ?_)
        obtain ⟨r22, rfl, w18, w19, hu, g20, g21⟩ := hp
        replace hu := hu.symm
        subst hu
        have er22 := g21
        subst er22
        refine j_if_ne C 60 (by decide) dX10_bound_54 (fun c23 => ?_) (fun c23 => ?_)
        · replace c23 := bI_t c23
          refine j_iload C 4 rfl dX10_bound_60 ?_
          refine j_if_neN C 75 (by decide) (by omega) dX10_bound_62 (fun c24 => ?_) (fun c24 => ?_)
          · refine j_aload_n C 0 rfl dX10_bound_75 ?_
            refine gX_0_5 C tb_433 dX10_bound_76 ?_
            refine gX_42_8 C tb_322 (nI w19) rfl dX10_bound_79 ?_
            refine j_w (cX g kk (sI (sI (sI (sI (sF (sF (sF (sF (sF (sF (sF (sF σ 28 w4) 29 w5) 30 w6) 31 w7) 43 w11) 44 w12) 45 w13) 46 w14) 437 w8) 678 (nI w15)) 679 (nI w18)) 680 (nI w19))) (congrArg (cX g kk) (show sI (sI (sI (sF (sF (sF (sF (sI (sF (sF (sF (sF σ 28 w4) 29 w5) 30 w6) 31 w7) 437 w8) 43 w11) 44 w12) 45 w13) 46 w14) 678 (nI w15)) 679 (nI w18)) 680 (nI w19) = sI (sI (sI (sI (sF (sF (sF (sF (sF (sF (sF (sF σ 28 w4) 29 w5) 30 w6) 31 w7) 43 w11) 44 w12) 45 w13) 46 w14) 437 w8) 678 (nI w15)) 679 (nI w18)) 680 (nI w19) from (wrI (wrI (wrI (Eq.trans (wrF (Eq.trans (wrF (Eq.trans (wrF wrFI) wrFI)) wrFI)) wrFI)))))) ?_
            exact j_iret C E (sI (sI (sI (sI (sF (sF (sF (sF (sF (sF (sF (sF σ 28 w4) 29 w5) 30 w6) 31 w7) 43 w11) 44 w12) 45 w13) 46 w14) 437 w8) 678 (nI w15)) 679 (nI w18)) 680 (nI w19)) ⟨_, rfl, ⟨w4, w5, w6, w7, w11, w12, w13, w14, w8, (nI w15), (nI w18), (nI w19), rfl, (bnF_x c1 c2 c3 (by omega) (by omega) (by omega) (by omega) g20.1 (by rw [if_neg (fun q => q (of_decide_eq_true c23))]; first | rw [if_pos (by omega)] | rw [if_neg (by omega)])), (Or.inl ⟨g9, g10⟩)⟩⟩ rfl dX10_bound_82
          · refine j_aload_n C 0 rfl dX10_bound_65 ?_
            refine gX_0_5 C tb_433 dX10_bound_66 ?_
            refine gX_42_7 C tb_320 (nI w18) rfl dX10_bound_69 ?_
            refine j_goto C 82 (by decide) dX10_bound_72 ?_
            refine j_w (cX g kk (sI (sI (sI (sI (sF (sF (sF (sF (sF (sF (sF (sF σ 28 w4) 29 w5) 30 w6) 31 w7) 43 w11) 44 w12) 45 w13) 46 w14) 437 w8) 678 (nI w15)) 679 (nI w18)) 680 (nI w19))) (congrArg (cX g kk) (show sI (sI (sI (sF (sF (sF (sF (sI (sF (sF (sF (sF σ 28 w4) 29 w5) 30 w6) 31 w7) 437 w8) 43 w11) 44 w12) 45 w13) 46 w14) 678 (nI w15)) 679 (nI w18)) 680 (nI w19) = sI (sI (sI (sI (sF (sF (sF (sF (sF (sF (sF (sF σ 28 w4) 29 w5) 30 w6) 31 w7) 43 w11) 44 w12) 45 w13) 46 w14) 437 w8) 678 (nI w15)) 679 (nI w18)) 680 (nI w19) from (wrI (wrI (wrI (Eq.trans (wrF (Eq.trans (wrF (Eq.trans (wrF wrFI) wrFI)) wrFI)) wrFI)))))) ?_
            exact j_iret C E (sI (sI (sI (sI (sF (sF (sF (sF (sF (sF (sF (sF σ 28 w4) 29 w5) 30 w6) 31 w7) 43 w11) 44 w12) 45 w13) 46 w14) 437 w8) 678 (nI w15)) 679 (nI w18)) 680 (nI w19)) ⟨_, rfl, ⟨w4, w5, w6, w7, w11, w12, w13, w14, w8, (nI w15), (nI w18), (nI w19), rfl, (bnF_x c1 c2 c3 (by omega) (by omega) (by omega) (by omega) g20.1 (by rw [if_neg (fun q => q (of_decide_eq_true c23))]; first | rw [if_pos (by omega)] | rw [if_neg (by omega)])), (Or.inl ⟨g9, g10⟩)⟩⟩ rfl dX10_bound_82
        · replace c23 := bI_f c23
          refine j_bipush C ((-5)) (by decide) dX10_bound_57 ?_
          refine j_w (cX g kk (sI (sI (sI (sI (sF (sF (sF (sF (sF (sF (sF (sF σ 28 w4) 29 w5) 30 w6) 31 w7) 43 w11) 44 w12) 45 w13) 46 w14) 437 w8) 678 (nI w15)) 679 (nI w18)) 680 (nI w19))) (congrArg (cX g kk) (show sI (sI (sI (sF (sF (sF (sF (sI (sF (sF (sF (sF σ 28 w4) 29 w5) 30 w6) 31 w7) 437 w8) 43 w11) 44 w12) 45 w13) 46 w14) 678 (nI w15)) 679 (nI w18)) 680 (nI w19) = sI (sI (sI (sI (sF (sF (sF (sF (sF (sF (sF (sF σ 28 w4) 29 w5) 30 w6) 31 w7) 43 w11) 44 w12) 45 w13) 46 w14) 437 w8) 678 (nI w15)) 679 (nI w18)) 680 (nI w19) from (wrI (wrI (wrI (Eq.trans (wrF (Eq.trans (wrF (Eq.trans (wrF wrFI) wrFI)) wrFI)) wrFI)))))) ?_
          exact j_iret C E (sI (sI (sI (sI (sF (sF (sF (sF (sF (sF (sF (sF σ 28 w4) 29 w5) 30 w6) 31 w7) 43 w11) 44 w12) 45 w13) 46 w14) 437 w8) 678 (nI w15)) 679 (nI w18)) 680 (nI w19)) ⟨_, rfl, ⟨w4, w5, w6, w7, w11, w12, w13, w14, w8, (nI w15), (nI w18), (nI w19), rfl, (bnF_x c1 c2 c3 (by omega) (by omega) (by omega) (by omega) g20.1 (by rw [if_pos (of_decide_eq_false c23)])), (Or.inl ⟨g9, g10⟩)⟩⟩ rfl dX10_bound_59
      · replace c3 := bI_f c3
        refine j_bipush C ((-2)) (by decide) dX10_bound_27 ?_
        refine j_w (cX g kk (sF σ 28 (σ.2.1 28))) (congrArg (cX g kk) (wrFi (S := σ) (c := 28) (v := σ.2.1 28) rfl)) ?_
        refine j_w (cX g kk (sF (sF σ 28 (σ.2.1 28)) 29 (σ.2.1 29))) (congrArg (cX g kk) (wrFi (S := (sF σ 28 (σ.2.1 28))) (c := 29) (v := σ.2.1 29) (gtFF (by decide) rfl))) ?_
        refine j_w (cX g kk (sF (sF (sF σ 28 (σ.2.1 28)) 29 (σ.2.1 29)) 30 (σ.2.1 30))) (congrArg (cX g kk) (wrFi (S := (sF (sF σ 28 (σ.2.1 28)) 29 (σ.2.1 29))) (c := 30) (v := σ.2.1 30) (gtFF (by decide) (gtFF (by decide) rfl)))) ?_
        refine j_w (cX g kk (sF (sF (sF (sF σ 28 (σ.2.1 28)) 29 (σ.2.1 29)) 30 (σ.2.1 30)) 31 (σ.2.1 31))) (congrArg (cX g kk) (wrFi (S := (sF (sF (sF σ 28 (σ.2.1 28)) 29 (σ.2.1 29)) 30 (σ.2.1 30))) (c := 31) (v := σ.2.1 31) (gtFF (by decide) (gtFF (by decide) (gtFF (by decide) rfl))))) ?_
        refine j_w (cX g kk (sF (sF (sF (sF (sF σ 28 (σ.2.1 28)) 29 (σ.2.1 29)) 30 (σ.2.1 30)) 31 (σ.2.1 31)) 43 (σ.2.1 43))) (congrArg (cX g kk) (wrFi (S := (sF (sF (sF (sF σ 28 (σ.2.1 28)) 29 (σ.2.1 29)) 30 (σ.2.1 30)) 31 (σ.2.1 31))) (c := 43) (v := σ.2.1 43) (gtFF (by decide) (gtFF (by decide) (gtFF (by decide) (gtFF (by decide) rfl)))))) ?_
        refine j_w (cX g kk (sF (sF (sF (sF (sF (sF σ 28 (σ.2.1 28)) 29 (σ.2.1 29)) 30 (σ.2.1 30)) 31 (σ.2.1 31)) 43 (σ.2.1 43)) 44 (σ.2.1 44))) (congrArg (cX g kk) (wrFi (S := (sF (sF (sF (sF (sF σ 28 (σ.2.1 28)) 29 (σ.2.1 29)) 30 (σ.2.1 30)) 31 (σ.2.1 31)) 43 (σ.2.1 43))) (c := 44) (v := σ.2.1 44) (gtFF (by decide) (gtFF (by decide) (gtFF (by decide) (gtFF (by decide) (gtFF (by decide) rfl))))))) ?_
        refine j_w (cX g kk (sF (sF (sF (sF (sF (sF (sF σ 28 (σ.2.1 28)) 29 (σ.2.1 29)) 30 (σ.2.1 30)) 31 (σ.2.1 31)) 43 (σ.2.1 43)) 44 (σ.2.1 44)) 45 (σ.2.1 45))) (congrArg (cX g kk) (wrFi (S := (sF (sF (sF (sF (sF (sF σ 28 (σ.2.1 28)) 29 (σ.2.1 29)) 30 (σ.2.1 30)) 31 (σ.2.1 31)) 43 (σ.2.1 43)) 44 (σ.2.1 44))) (c := 45) (v := σ.2.1 45) (gtFF (by decide) (gtFF (by decide) (gtFF (by decide) (gtFF (by decide) (gtFF (by decide) (gtFF (by decide) rfl)))))))) ?_
        refine j_w (cX g kk (sF (sF (sF (sF (sF (sF (sF (sF σ 28 (σ.2.1 28)) 29 (σ.2.1 29)) 30 (σ.2.1 30)) 31 (σ.2.1 31)) 43 (σ.2.1 43)) 44 (σ.2.1 44)) 45 (σ.2.1 45)) 46 (σ.2.1 46))) (congrArg (cX g kk) (wrFi (S := (sF (sF (sF (sF (sF (sF (sF σ 28 (σ.2.1 28)) 29 (σ.2.1 29)) 30 (σ.2.1 30)) 31 (σ.2.1 31)) 43 (σ.2.1 43)) 44 (σ.2.1 44)) 45 (σ.2.1 45))) (c := 46) (v := σ.2.1 46) (gtFF (by decide) (gtFF (by decide) (gtFF (by decide) (gtFF (by decide) (gtFF (by decide) (gtFF (by decide) (gtFF (by decide) rfl))))))))) ?_
        refine j_w (cX g kk (sI (sF (sF (sF (sF (sF (sF (sF (sF σ 28 (σ.2.1 28)) 29 (σ.2.1 29)) 30 (σ.2.1 30)) 31 (σ.2.1 31)) 43 (σ.2.1 43)) 44 (σ.2.1 44)) 45 (σ.2.1 45)) 46 (σ.2.1 46)) 437 (σ.1 437))) (congrArg (cX g kk) (wrIi (S := (sF (sF (sF (sF (sF (sF (sF (sF σ 28 (σ.2.1 28)) 29 (σ.2.1 29)) 30 (σ.2.1 30)) 31 (σ.2.1 31)) 43 (σ.2.1 43)) 44 (σ.2.1 44)) 45 (σ.2.1 45)) 46 (σ.2.1 46))) (c := 437) (v := σ.1 437) (gtIF (gtIF (gtIF (gtIF (gtIF (gtIF (gtIF (gtIF rfl)))))))))) ?_
        refine j_w (cX g kk (sI (sI (sF (sF (sF (sF (sF (sF (sF (sF σ 28 (σ.2.1 28)) 29 (σ.2.1 29)) 30 (σ.2.1 30)) 31 (σ.2.1 31)) 43 (σ.2.1 43)) 44 (σ.2.1 44)) 45 (σ.2.1 45)) 46 (σ.2.1 46)) 437 (σ.1 437)) 678 (σ.1 678))) (congrArg (cX g kk) (wrIi (S := (sI (sF (sF (sF (sF (sF (sF (sF (sF σ 28 (σ.2.1 28)) 29 (σ.2.1 29)) 30 (σ.2.1 30)) 31 (σ.2.1 31)) 43 (σ.2.1 43)) 44 (σ.2.1 44)) 45 (σ.2.1 45)) 46 (σ.2.1 46)) 437 (σ.1 437))) (c := 678) (v := σ.1 678) (gtII (by decide) (gtIF (gtIF (gtIF (gtIF (gtIF (gtIF (gtIF (gtIF rfl))))))))))) ?_
        refine j_w (cX g kk (sI (sI (sI (sF (sF (sF (sF (sF (sF (sF (sF σ 28 (σ.2.1 28)) 29 (σ.2.1 29)) 30 (σ.2.1 30)) 31 (σ.2.1 31)) 43 (σ.2.1 43)) 44 (σ.2.1 44)) 45 (σ.2.1 45)) 46 (σ.2.1 46)) 437 (σ.1 437)) 678 (σ.1 678)) 679 (σ.1 679))) (congrArg (cX g kk) (wrIi (S := (sI (sI (sF (sF (sF (sF (sF (sF (sF (sF σ 28 (σ.2.1 28)) 29 (σ.2.1 29)) 30 (σ.2.1 30)) 31 (σ.2.1 31)) 43 (σ.2.1 43)) 44 (σ.2.1 44)) 45 (σ.2.1 45)) 46 (σ.2.1 46)) 437 (σ.1 437)) 678 (σ.1 678))) (c := 679) (v := σ.1 679) (gtII (by decide) (gtII (by decide) (gtIF (gtIF (gtIF (gtIF (gtIF (gtIF (gtIF (gtIF rfl)))))))))))) ?_
        refine j_w (cX g kk (sI (sI (sI (sI (sF (sF (sF (sF (sF (sF (sF (sF σ 28 (σ.2.1 28)) 29 (σ.2.1 29)) 30 (σ.2.1 30)) 31 (σ.2.1 31)) 43 (σ.2.1 43)) 44 (σ.2.1 44)) 45 (σ.2.1 45)) 46 (σ.2.1 46)) 437 (σ.1 437)) 678 (σ.1 678)) 679 (σ.1 679)) 680 (σ.1 680))) (congrArg (cX g kk) (wrIi (S := (sI (sI (sI (sF (sF (sF (sF (sF (sF (sF (sF σ 28 (σ.2.1 28)) 29 (σ.2.1 29)) 30 (σ.2.1 30)) 31 (σ.2.1 31)) 43 (σ.2.1 43)) 44 (σ.2.1 44)) 45 (σ.2.1 45)) 46 (σ.2.1 46)) 437 (σ.1 437)) 678 (σ.1 678)) 679 (σ.1 679))) (c := 680) (v := σ.1 680) (gtII (by decide) (gtII (by decide) (gtII (by decide) (gtIF (gtIF (gtIF (gtIF (gtIF (gtIF (gtIF (gtIF rfl))))))))))))) ?_
        exact j_iret C E (sI (sI (sI (sI (sF (sF (sF (sF (sF (sF (sF (sF σ 28 (σ.2.1 28)) 29 (σ.2.1 29)) 30 (σ.2.1 30)) 31 (σ.2.1 31)) 43 (σ.2.1 43)) 44 (σ.2.1 44)) 45 (σ.2.1 45)) 46 (σ.2.1 46)) 437 (σ.1 437)) 678 (σ.1 678)) 679 (σ.1 679)) 680 (σ.1 680)) ⟨_, rfl, ⟨(σ.2.1 28), (σ.2.1 29), (σ.2.1 30), (σ.2.1 31), (σ.2.1 43), (σ.2.1 44), (σ.2.1 45), (σ.2.1 46), (σ.1 437), (σ.1 678), (σ.1 679), (σ.1 680), rfl, (bnF_2 c1 (Or.inr c3)), (Or.inr ⟨rfl, rfl, rfl, rfl, rfl⟩)⟩⟩ rfl dX10_bound_29
  · replace c1 := bI_f c1
    refine j_iconst C ((-1)) (by decide) dX10_bound_7 ?_
    refine j_w (cX g kk (sF σ 28 (σ.2.1 28))) (congrArg (cX g kk) (wrFi (S := σ) (c := 28) (v := σ.2.1 28) rfl)) ?_
    refine j_w (cX g kk (sF (sF σ 28 (σ.2.1 28)) 29 (σ.2.1 29))) (congrArg (cX g kk) (wrFi (S := (sF σ 28 (σ.2.1 28))) (c := 29) (v := σ.2.1 29) (gtFF (by decide) rfl))) ?_
    refine j_w (cX g kk (sF (sF (sF σ 28 (σ.2.1 28)) 29 (σ.2.1 29)) 30 (σ.2.1 30))) (congrArg (cX g kk) (wrFi (S := (sF (sF σ 28 (σ.2.1 28)) 29 (σ.2.1 29))) (c := 30) (v := σ.2.1 30) (gtFF (by decide) (gtFF (by decide) rfl)))) ?_
    refine j_w (cX g kk (sF (sF (sF (sF σ 28 (σ.2.1 28)) 29 (σ.2.1 29)) 30 (σ.2.1 30)) 31 (σ.2.1 31))) (congrArg (cX g kk) (wrFi (S := (sF (sF (sF σ 28 (σ.2.1 28)) 29 (σ.2.1 29)) 30 (σ.2.1 30))) (c := 31) (v := σ.2.1 31) (gtFF (by decide) (gtFF (by decide) (gtFF (by decide) rfl))))) ?_
    refine j_w (cX g kk (sF (sF (sF (sF (sF σ 28 (σ.2.1 28)) 29 (σ.2.1 29)) 30 (σ.2.1 30)) 31 (σ.2.1 31)) 43 (σ.2.1 43))) (congrArg (cX g kk) (wrFi (S := (sF (sF (sF (sF σ 28 (σ.2.1 28)) 29 (σ.2.1 29)) 30 (σ.2.1 30)) 31 (σ.2.1 31))) (c := 43) (v := σ.2.1 43) (gtFF (by decide) (gtFF (by decide) (gtFF (by decide) (gtFF (by decide) rfl)))))) ?_
    refine j_w (cX g kk (sF (sF (sF (sF (sF (sF σ 28 (σ.2.1 28)) 29 (σ.2.1 29)) 30 (σ.2.1 30)) 31 (σ.2.1 31)) 43 (σ.2.1 43)) 44 (σ.2.1 44))) (congrArg (cX g kk) (wrFi (S := (sF (sF (sF (sF (sF σ 28 (σ.2.1 28)) 29 (σ.2.1 29)) 30 (σ.2.1 30)) 31 (σ.2.1 31)) 43 (σ.2.1 43))) (c := 44) (v := σ.2.1 44) (gtFF (by decide) (gtFF (by decide) (gtFF (by decide) (gtFF (by decide) (gtFF (by decide) rfl))))))) ?_
    refine j_w (cX g kk (sF (sF (sF (sF (sF (sF (sF σ 28 (σ.2.1 28)) 29 (σ.2.1 29)) 30 (σ.2.1 30)) 31 (σ.2.1 31)) 43 (σ.2.1 43)) 44 (σ.2.1 44)) 45 (σ.2.1 45))) (congrArg (cX g kk) (wrFi (S := (sF (sF (sF (sF (sF (sF σ 28 (σ.2.1 28)) 29 (σ.2.1 29)) 30 (σ.2.1 30)) 31 (σ.2.1 31)) 43 (σ.2.1 43)) 44 (σ.2.1 44))) (c := 45) (v := σ.2.1 45) (gtFF (by decide) (gtFF (by decide) (gtFF (by decide) (gtFF (by decide) (gtFF (by decide) (gtFF (by decide) rfl)))))))) ?_
    refine j_w (cX g kk (sF (sF (sF (sF (sF (sF (sF (sF σ 28 (σ.2.1 28)) 29 (σ.2.1 29)) 30 (σ.2.1 30)) 31 (σ.2.1 31)) 43 (σ.2.1 43)) 44 (σ.2.1 44)) 45 (σ.2.1 45)) 46 (σ.2.1 46))) (congrArg (cX g kk) (wrFi (S := (sF (sF (sF (sF (sF (sF (sF σ 28 (σ.2.1 28)) 29 (σ.2.1 29)) 30 (σ.2.1 30)) 31 (σ.2.1 31)) 43 (σ.2.1 43)) 44 (σ.2.1 44)) 45 (σ.2.1 45))) (c := 46) (v := σ.2.1 46) (gtFF (by decide) (gtFF (by decide) (gtFF (by decide) (gtFF (by decide) (gtFF (by decide) (gtFF (by decide) (gtFF (by decide) rfl))))))))) ?_
    refine j_w (cX g kk (sI (sF (sF (sF (sF (sF (sF (sF (sF σ 28 (σ.2.1 28)) 29 (σ.2.1 29)) 30 (σ.2.1 30)) 31 (σ.2.1 31)) 43 (σ.2.1 43)) 44 (σ.2.1 44)) 45 (σ.2.1 45)) 46 (σ.2.1 46)) 437 (σ.1 437))) (congrArg (cX g kk) (wrIi (S := (sF (sF (sF (sF (sF (sF (sF (sF σ 28 (σ.2.1 28)) 29 (σ.2.1 29)) 30 (σ.2.1 30)) 31 (σ.2.1 31)) 43 (σ.2.1 43)) 44 (σ.2.1 44)) 45 (σ.2.1 45)) 46 (σ.2.1 46))) (c := 437) (v := σ.1 437) (gtIF (gtIF (gtIF (gtIF (gtIF (gtIF (gtIF (gtIF rfl)))))))))) ?_
    refine j_w (cX g kk (sI (sI (sF (sF (sF (sF (sF (sF (sF (sF σ 28 (σ.2.1 28)) 29 (σ.2.1 29)) 30 (σ.2.1 30)) 31 (σ.2.1 31)) 43 (σ.2.1 43)) 44 (σ.2.1 44)) 45 (σ.2.1 45)) 46 (σ.2.1 46)) 437 (σ.1 437)) 678 (σ.1 678))) (congrArg (cX g kk) (wrIi (S := (sI (sF (sF (sF (sF (sF (sF (sF (sF σ 28 (σ.2.1 28)) 29 (σ.2.1 29)) 30 (σ.2.1 30)) 31 (σ.2.1 31)) 43 (σ.2.1 43)) 44 (σ.2.1 44)) 45 (σ.2.1 45)) 46 (σ.2.1 46)) 437 (σ.1 437))) (c := 678) (v := σ.1 678) (gtII (by decide) (gtIF (gtIF (gtIF (gtIF (gtIF (gtIF (gtIF (gtIF rfl))))))))))) ?_
    refine j_w (cX g kk (sI (sI (sI (sF (sF (sF (sF (sF (sF (sF (sF σ 28 (σ.2.1 28)) 29 (σ.2.1 29)) 30 (σ.2.1 30)) 31 (σ.2.1 31)) 43 (σ.2.1 43)) 44 (σ.2.1 44)) 45 (σ.2.1 45)) 46 (σ.2.1 46)) 437 (σ.1 437)) 678 (σ.1 678)) 679 (σ.1 679))) (congrArg (cX g kk) (wrIi (S := (sI (sI (sF (sF (sF (sF (sF (sF (sF (sF σ 28 (σ.2.1 28)) 29 (σ.2.1 29)) 30 (σ.2.1 30)) 31 (σ.2.1 31)) 43 (σ.2.1 43)) 44 (σ.2.1 44)) 45 (σ.2.1 45)) 46 (σ.2.1 46)) 437 (σ.1 437)) 678 (σ.1 678))) (c := 679) (v := σ.1 679) (gtII (by decide) (gtII (by decide) (gtIF (gtIF (gtIF (gtIF (gtIF (gtIF (gtIF (gtIF rfl)))))))))))) ?_
    refine j_w (cX g kk (sI (sI (sI (sI (sF (sF (sF (sF (sF (sF (sF (sF σ 28 (σ.2.1 28)) 29 (σ.2.1 29)) 30 (σ.2.1 30)) 31 (σ.2.1 31)) 43 (σ.2.1 43)) 44 (σ.2.1 44)) 45 (σ.2.1 45)) 46 (σ.2.1 46)) 437 (σ.1 437)) 678 (σ.1 678)) 679 (σ.1 679)) 680 (σ.1 680))) (congrArg (cX g kk) (wrIi (S := (sI (sI (sI (sF (sF (sF (sF (sF (sF (sF (sF σ 28 (σ.2.1 28)) 29 (σ.2.1 29)) 30 (σ.2.1 30)) 31 (σ.2.1 31)) 43 (σ.2.1 43)) 44 (σ.2.1 44)) 45 (σ.2.1 45)) 46 (σ.2.1 46)) 437 (σ.1 437)) 678 (σ.1 678)) 679 (σ.1 679))) (c := 680) (v := σ.1 680) (gtII (by decide) (gtII (by decide) (gtII (by decide) (gtIF (gtIF (gtIF (gtIF (gtIF (gtIF (gtIF (gtIF rfl))))))))))))) ?_
    exact j_iret C E (sI (sI (sI (sI (sF (sF (sF (sF (sF (sF (sF (sF σ 28 (σ.2.1 28)) 29 (σ.2.1 29)) 30 (σ.2.1 30)) 31 (σ.2.1 31)) 43 (σ.2.1 43)) 44 (σ.2.1 44)) 45 (σ.2.1 45)) 46 (σ.2.1 46)) 437 (σ.1 437)) 678 (σ.1 678)) 679 (σ.1 679)) 680 (σ.1 680)) ⟨_, rfl, ⟨(σ.2.1 28), (σ.2.1 29), (σ.2.1 30), (σ.2.1 31), (σ.2.1 43), (σ.2.1 44), (σ.2.1 45), (σ.2.1 46), (σ.1 437), (σ.1 678), (σ.1 679), (σ.1 680), rfl, (bnF_1 c1), (Or.inr ⟨rfl, rfl, rfl, rfl, rfl⟩)⟩⟩ rfl dX10_bound_8
def ovF (B : Nat → Nat → Nat → Nat × Nat) (x a b c d w : Int32) : Int32 := if wB x (nI 0) (nI 27) = false then -1 else if ldB a b c d = false ∨ wB w (nI 0) (nI 1) = false then -2 else match ovX (B x.toNatClampNeg) a.toNatClampNeg c.toNatClampNeg d.toNatClampNeg (b.toNatClampNeg + 1 - a.toNatClampNeg) with | none => -5 | some t => if w = nI 0 then nI t.1 else nI t.2
theorem ovF_1 {B : Nat → Nat → Nat → Nat × Nat} {x a b c d w : Int32} (h : wB x (nI 0) (nI 27) = false) : -1 = ovF B x a b c d w := by unfold ovF; rw [if_pos h]
theorem ovF_2 {B : Nat → Nat → Nat → Nat × Nat} {x a b c d w : Int32} (h : wB x (nI 0) (nI 27) = true) (h2 : ldB a b c d = false ∨ wB w (nI 0) (nI 1) = false) : -2 = ovF B x a b c d w := by unfold ovF; rw [if_neg (by rw [h]; decide), if_pos h2]
theorem ovF_5 {B : Nat → Nat → Nat → Nat × Nat} {x a b c d w : Nat} (h : wB (nI x) (nI 0) (nI 27) = true) (h2 : ldB (nI a) (nI b) (nI c) (nI d) = true) (h3 : wB (nI w) (nI 0) (nI 1) = true) (hx : x ≤ 27) (ha : a ≤ 20) (hb : b ≤ 20) (hc : c ≤ 20) (hd : d ≤ 20) (e : ovX (B x) a c d (b + 1 - a) = none) : -5 = ovF B (nI x) (nI a) (nI b) (nI c) (nI d) (nI w) := by
  unfold ovF
  rw [if_neg (by rw [h]; decide), if_neg (by rw [h2, h3]; decide), nI_clamp (by omega), nI_clamp (by omega), nI_clamp (by omega), nI_clamp (by omega), nI_clamp (by omega), e]
theorem ovF_x {B : Nat → Nat → Nat → Nat × Nat} {x a b c d w sa sb : Nat} {r : Int32} (h : wB (nI x) (nI 0) (nI 27) = true) (h2 : ldB (nI a) (nI b) (nI c) (nI d) = true) (h3 : wB (nI w) (nI 0) (nI 1) = true) (hx : x ≤ 27) (ha : a ≤ 20) (hb : b ≤ 20) (hc : c ≤ 20) (hd : d ≤ 20) (hw : w ≤ 1) (e : some (sa, sb) = ovX (B x) a c d (b + 1 - a)) (hr : r = if w = 0 then nI sa else nI sb) : r = ovF B (nI x) (nI a) (nI b) (nI c) (nI d) (nI w) := by
  unfold ovF
  rw [if_neg (by rw [h]; decide), if_neg (by rw [h2, h3]; decide), nI_clamp (by omega), nI_clamp (by omega), nI_clamp (by omega), nI_clamp (by omega), nI_clamp (by omega), ← e, hr]
  show _ = (if nI w = nI 0 then nI sa else nI sb)
  by_cases q : w = 0
  · subst q; rfl
  · rw [if_neg q, if_neg (show ¬ nI w = nI 0 from fun v => q ((nI_eq (by omega) (by decide)).mp v))]
def flF (B : Nat → Nat → Nat → Nat × Nat) (x a b c d y z : Int32) : Int32 := if wB x (nI 0) (nI 27) = false then (-1000000001) else if ldB a b c d = false ∨ wB y (nI 0) (nI 100) = false ∨ wB z (nI 0) (nI 9999999) = false then (-1000000002) else match ovX (B x.toNatClampNeg) a.toNatClampNeg c.toNatClampNeg d.toNatClampNeg (b.toNatClampNeg + 1 - a.toNatClampNeg) with | none => (-1000000005) | some t => byF t.1 t.2 y.toNatClampNeg z.toNatClampNeg
theorem flF_1 {B : Nat → Nat → Nat → Nat × Nat} {x a b c d y z : Int32} (h : wB x (nI 0) (nI 27) = false) : (-1000000001) = flF B x a b c d y z := by unfold flF; rw [if_pos h]
theorem flF_2 {B : Nat → Nat → Nat → Nat × Nat} {x a b c d y z : Int32} (h : wB x (nI 0) (nI 27) = true) (h2 : ldB a b c d = false ∨ wB y (nI 0) (nI 100) = false ∨ wB z (nI 0) (nI 9999999) = false) : (-1000000002) = flF B x a b c d y z := by unfold flF; rw [if_neg (by rw [h]; decide), if_pos h2]
theorem flF_5 {B : Nat → Nat → Nat → Nat × Nat} {x a b c d y z : Nat} (h : wB (nI x) (nI 0) (nI 27) = true) (h2 : ldB (nI a) (nI b) (nI c) (nI d) = true) (h3 : wB (nI y) (nI 0) (nI 100) = true) (h4 : wB (nI z) (nI 0) (nI 9999999) = true) (hx : x ≤ 27) (ha : a ≤ 20) (hb : b ≤ 20) (hc : c ≤ 20) (hd : d ≤ 20) (e : ovX (B x) a c d (b + 1 - a) = none) : (-1000000005) = flF B (nI x) (nI a) (nI b) (nI c) (nI d) (nI y) (nI z) := by
  unfold flF
  rw [if_neg (by rw [h]; decide), if_neg (by rw [h2, h3, h4]; decide), nI_clamp (by omega), nI_clamp (by omega), nI_clamp (by omega), nI_clamp (by omega), nI_clamp (by omega), e]
theorem flF_x {B : Nat → Nat → Nat → Nat × Nat} {x a b c d y z sa sb : Nat} {r : Int32} (h : wB (nI x) (nI 0) (nI 27) = true) (h2 : ldB (nI a) (nI b) (nI c) (nI d) = true) (h3 : wB (nI y) (nI 0) (nI 100) = true) (h4 : wB (nI z) (nI 0) (nI 9999999) = true) (hx : x ≤ 27) (ha : a ≤ 20) (hb : b ≤ 20) (hc : c ≤ 20) (hd : d ≤ 20) (hy : y ≤ 100) (hz : z ≤ 9999999) (e : some (sa, sb) = ovX (B x) a c d (b + 1 - a)) (hr : r = byF sa sb y z) : r = flF B (nI x) (nI a) (nI b) (nI c) (nI d) (nI y) (nI z) := by
  unfold flF
  rw [if_neg (by rw [h]; decide), if_neg (by rw [h2, h3, h4]; decide), nI_clamp (by omega), nI_clamp (by omega), nI_clamp (by omega), nI_clamp (by omega), nI_clamp (by omega), nI_clamp (by omega), nI_clamp (by omega), ← e, hr]
def fiF (va : Nat → Nat → Int32) (px py : Nat → Nat) (B : Nat → Nat → Nat → Nat × Nat) (k : Nat) (x y z : Int32) : Int32 := if cB x (nI k) = false ∨ wB y (nI 0) (nI 27) = false then -1 else if wB z (nI 0) (nI 1) = false then -2 else if ¬ va x.toNatClampNeg y.toNatClampNeg = -1 then -3 else if ¬ (B y.toNatClampNeg (px x.toNatClampNeg) (py x.toNatClampNeg)).1 ≤ (B y.toNatClampNeg (px x.toNatClampNeg) (py x.toNatClampNeg)).2 then -5 else if z = nI 0 then nI (((B y.toNatClampNeg (px x.toNatClampNeg) (py x.toNatClampNeg)).1 + (B y.toNatClampNeg (px x.toNatClampNeg) (py x.toNatClampNeg)).2) / 2) else nI (((B y.toNatClampNeg (px x.toNatClampNeg) (py x.toNatClampNeg)).2 - (B y.toNatClampNeg (px x.toNatClampNeg) (py x.toNatClampNeg)).1) / 2 + 1)
theorem fiF_1 {va : Nat → Nat → Int32} {px py : Nat → Nat} {B : Nat → Nat → Nat → Nat × Nat} {k : Nat} {x y z : Int32} (h : cB x (nI k) = false ∨ wB y (nI 0) (nI 27) = false) : -1 = fiF va px py B k x y z := by unfold fiF; rw [if_pos h]
theorem fiF_2 {va : Nat → Nat → Int32} {px py : Nat → Nat} {B : Nat → Nat → Nat → Nat × Nat} {k : Nat} {x y z : Int32} (h1 : cB x (nI k) = true) (h2 : wB y (nI 0) (nI 27) = true) (h : wB z (nI 0) (nI 1) = false) : -2 = fiF va px py B k x y z := by unfold fiF; rw [if_neg (by rw [h1, h2]; decide), if_pos h]
theorem fiF_3 {va : Nat → Nat → Int32} {px py : Nat → Nat} {B : Nat → Nat → Nat → Nat × Nat} {k x y z : Nat} (h1 : cB (nI x) (nI k) = true) (h2 : wB (nI y) (nI 0) (nI 27) = true) (h : wB (nI z) (nI 0) (nI 1) = true) (hx : x < 2 ^ 31) (hy : y < 2 ^ 31) (hv : ¬ va x y = -1) : -3 = fiF va px py B k (nI x) (nI y) (nI z) := by unfold fiF; rw [if_neg (by rw [h1, h2]; decide), if_neg (by rw [h]; decide), nI_clamp hx, nI_clamp hy, if_pos hv]
theorem fiF_x {va : Nat → Nat → Int32} {px py : Nat → Nat} {B : Nat → Nat → Nat → Nat × Nat} {k x y z lo hi : Nat} {r : Int32} (h1 : cB (nI x) (nI k) = true) (h2 : wB (nI y) (nI 0) (nI 27) = true) (h : wB (nI z) (nI 0) (nI 1) = true) (hx : x < 2 ^ 31) (hy : y < 2 ^ 31) (hz : z ≤ 1) (hv : va x y = -1) (e : (lo, hi) = B y (px x) (py x)) (hr : r = if ¬ lo ≤ hi then -5 else if z = 0 then nI ((lo + hi) / 2) else nI ((hi - lo) / 2 + 1)) : r = fiF va px py B k (nI x) (nI y) (nI z) := by
  unfold fiF
  rw [if_neg (by rw [h1, h2]; decide), if_neg (by rw [h]; decide), nI_clamp hx, nI_clamp hy, if_neg (fun q => q hv), ← e, hr]
  by_cases q : z = 0
  · subst q; rfl
  · rw [if_neg q, if_neg (show ¬ nI z = nI 0 from fun v => q ((nI_eq (by omega) (by decide)).mp v))]
set_option maxRecDepth 100000 in
set_option maxHeartbeats 4000000 in
theorem e_over (g kk : Nat → Nat) (σ : St) (k : Nat) (hk : σ.1 16 = nI k) (hk6 : k ≤ 6) (hI : iX σ) (G : GD) (hX : HX G k σ) (ra : Nat) (hra : σ.1 256 = nI ra) (hrab : ra ≤ 6) (Q : RQ) (hQ : HQ Q ra σ) (hst : σ.1 437 = 0 → CXf G k (σ.2.1 28) (σ.2.1 29) (σ.2.1 30) (σ.2.1 31)) (x : Int32) (a : Int32) (b : Int32) (c : Int32) (d : Int32) (w : Int32) : jM (S := St) yX10_over cX10_over 7 (some .int) { frames := 5, cells := 0, slots := 0, locals := 115 } kk (cX g kk σ) [.ref (g 0), .int x, .int a, .int b, .int c, .int d, .int w] (cX g kk) (rI (fun (r : Int32) (u : St) => ∃ (pF28 : Nat → Int32) (pF29 : Nat → Int32) (pF30 : Nat → Int32) (pF31 : Nat → Int32) (pF43 : Nat → Int32) (pF44 : Nat → Int32) (pF45 : Nat → Int32) (pF46 : Nat → Int32) (pI437 : Int32) (pI678 : Int32) (pI679 : Int32) (pI680 : Int32) (pI681 : Int32) (pI682 : Int32), u = sI (sI (sI (sI (sI (sI (sF (sF (sF (sF (sF (sF (sF (sF σ 28 pF28) 29 pF29) 30 pF30) 31 pF31) 43 pF43) 44 pF44) 45 pF45) 46 pF46) 437 pI437) 678 pI678) 679 pI679) 680 pI680) 681 pI681) 682 pI682 ∧ (r = ovF (fun d x y => bdR G k Q d x y ra) x a b c d w) ∧ ((pI437 = nI 0 ∧ CXf G k pF28 pF29 pF30 pF31) ∨ (pI437 = σ.1 437 ∧ pF28 = σ.2.1 28 ∧ pF29 = σ.2.1 29 ∧ pF30 = σ.2.1 30 ∧ pF31 = σ.2.1 31)))) := by
  refine j_entry [(0, .ref (g 0)), (1, .int x), (2, .int a), (3, .int b), (4, .int c), (5, .int d), (6, .int w)] (by decide) (Nat.le_of_ble_eq_true rfl) rfl ?_
  intro X C E HI
  refine j_iload_n C 1 rfl dX10_over_0 ?_
  refine j_S01 C (c_isDay x) kyX10_isDay tb_486 tb_487 rfl (Nat.le_of_ble_eq_true rfl) ⟨by decide, by decide⟩ ⟨by decide, by decide⟩ dX10_over_1 rfl ?_
  refine j_if_ne C 9 (by decide) dX10_over_4 (fun c1 => ?_) (fun c1 => ?_)
  · replace c1 := bI_t c1
    obtain ⟨xn, xn1, xn2, rfl⟩ := wB_nat (by decide) (by decide) c1
    refine j_iload_n C 2 rfl dX10_over_9 ?_
    refine j_iload_n C 3 rfl dX10_over_10 ?_
    refine j_iload C 4 rfl dX10_over_11 ?_
    refine j_iload C 5 rfl dX10_over_13 ?_
    refine j_S01 C (c_isLand a b c d) kyX10_isLand tb_733 tb_734 rfl (Nat.le_of_ble_eq_true rfl) ⟨by decide, by decide⟩ ⟨by decide, by decide⟩ dX10_over_15 rfl ?_
    refine j_if_eq C 31 (by decide) dX10_over_18 (fun c2 => ?_) (fun c2 => ?_)
    · replace c2 := bI_f c2
      refine j_bipush C ((-2)) (by decide) dX10_over_31 ?_
      refine j_w (cX g kk (sF σ 28 (σ.2.1 28))) (congrArg (cX g kk) (wrFi (S := σ) (c := 28) (v := σ.2.1 28) rfl)) ?_
      refine j_w (cX g kk (sF (sF σ 28 (σ.2.1 28)) 29 (σ.2.1 29))) (congrArg (cX g kk) (wrFi (S := (sF σ 28 (σ.2.1 28))) (c := 29) (v := σ.2.1 29) (gtFF (by decide) rfl))) ?_
      refine j_w (cX g kk (sF (sF (sF σ 28 (σ.2.1 28)) 29 (σ.2.1 29)) 30 (σ.2.1 30))) (congrArg (cX g kk) (wrFi (S := (sF (sF σ 28 (σ.2.1 28)) 29 (σ.2.1 29))) (c := 30) (v := σ.2.1 30) (gtFF (by decide) (gtFF (by decide) rfl)))) ?_
      refine j_w (cX g kk (sF (sF (sF (sF σ 28 (σ.2.1 28)) 29 (σ.2.1 29)) 30 (σ.2.1 30)) 31 (σ.2.1 31))) (congrArg (cX g kk) (wrFi (S := (sF (sF (sF σ 28 (σ.2.1 28)) 29 (σ.2.1 29)) 30 (σ.2.1 30))) (c := 31) (v := σ.2.1 31) (gtFF (by decide) (gtFF (by decide) (gtFF (by decide) rfl))))) ?_
      refine j_w (cX g kk (sF (sF (sF (sF (sF σ 28 (σ.2.1 28)) 29 (σ.2.1 29)) 30 (σ.2.1 30)) 31 (σ.2.1 31)) 43 (σ.2.1 43))) (congrArg (cX g kk) (wrFi (S := (sF (sF (sF (sF σ 28 (σ.2.1 28)) 29 (σ.2.1 29)) 30 (σ.2.1 30)) 31 (σ.2.1 31))) (c := 43) (v := σ.2.1 43) (gtFF (by decide) (gtFF (by decide) (gtFF (by decide) (gtFF (by decide) rfl)))))) ?_
      refine j_w (cX g kk (sF (sF (sF (sF (sF (sF σ 28 (σ.2.1 28)) 29 (σ.2.1 29)) 30 (σ.2.1 30)) 31 (σ.2.1 31)) 43 (σ.2.1 43)) 44 (σ.2.1 44))) (congrArg (cX g kk) (wrFi (S := (sF (sF (sF (sF (sF σ 28 (σ.2.1 28)) 29 (σ.2.1 29)) 30 (σ.2.1 30)) 31 (σ.2.1 31)) 43 (σ.2.1 43))) (c := 44) (v := σ.2.1 44) (gtFF (by decide) (gtFF (by decide) (gtFF (by decide) (gtFF (by decide) (gtFF (by decide) rfl))))))) ?_
      refine j_w (cX g kk (sF (sF (sF (sF (sF (sF (sF σ 28 (σ.2.1 28)) 29 (σ.2.1 29)) 30 (σ.2.1 30)) 31 (σ.2.1 31)) 43 (σ.2.1 43)) 44 (σ.2.1 44)) 45 (σ.2.1 45))) (congrArg (cX g kk) (wrFi (S := (sF (sF (sF (sF (sF (sF σ 28 (σ.2.1 28)) 29 (σ.2.1 29)) 30 (σ.2.1 30)) 31 (σ.2.1 31)) 43 (σ.2.1 43)) 44 (σ.2.1 44))) (c := 45) (v := σ.2.1 45) (gtFF (by decide) (gtFF (by decide) (gtFF (by decide) (gtFF (by decide) (gtFF (by decide) (gtFF (by decide) rfl)))))))) ?_
      refine j_w (cX g kk (sF (sF (sF (sF (sF (sF (sF (sF σ 28 (σ.2.1 28)) 29 (σ.2.1 29)) 30 (σ.2.1 30)) 31 (σ.2.1 31)) 43 (σ.2.1 43)) 44 (σ.2.1 44)) 45 (σ.2.1 45)) 46 (σ.2.1 46))) (congrArg (cX g kk) (wrFi (S := (sF (sF (sF (sF (sF (sF (sF σ 28 (σ.2.1 28)) 29 (σ.2.1 29)) 30 (σ.2.1 30)) 31 (σ.2.1 31)) 43 (σ.2.1 43)) 44 (σ.2.1 44)) 45 (σ.2.1 45))) (c := 46) (v := σ.2.1 46) (gtFF (by decide) (gtFF (by decide) (gtFF (by decide) (gtFF (by decide) (gtFF (by decide) (gtFF (by decide) (gtFF (by decide) rfl))))))))) ?_
      refine j_w (cX g kk (sI (sF (sF (sF (sF (sF (sF (sF (sF σ 28 (σ.2.1 28)) 29 (σ.2.1 29)) 30 (σ.2.1 30)) 31 (σ.2.1 31)) 43 (σ.2.1 43)) 44 (σ.2.1 44)) 45 (σ.2.1 45)) 46 (σ.2.1 46)) 437 (σ.1 437))) (congrArg (cX g kk) (wrIi (S := (sF (sF (sF (sF (sF (sF (sF (sF σ 28 (σ.2.1 28)) 29 (σ.2.1 29)) 30 (σ.2.1 30)) 31 (σ.2.1 31)) 43 (σ.2.1 43)) 44 (σ.2.1 44)) 45 (σ.2.1 45)) 46 (σ.2.1 46))) (c := 437) (v := σ.1 437) (gtIF (gtIF (gtIF (gtIF (gtIF (gtIF (gtIF (gtIF rfl)))))))))) ?_
      refine j_w (cX g kk (sI (sI (sF (sF (sF (sF (sF (sF (sF (sF σ 28 (σ.2.1 28)) 29 (σ.2.1 29)) 30 (σ.2.1 30)) 31 (σ.2.1 31)) 43 (σ.2.1 43)) 44 (σ.2.1 44)) 45 (σ.2.1 45)) 46 (σ.2.1 46)) 437 (σ.1 437)) 678 (σ.1 678))) (congrArg (cX g kk) (wrIi (S := (sI (sF (sF (sF (sF (sF (sF (sF (sF σ 28 (σ.2.1 28)) 29 (σ.2.1 29)) 30 (σ.2.1 30)) 31 (σ.2.1 31)) 43 (σ.2.1 43)) 44 (σ.2.1 44)) 45 (σ.2.1 45)) 46 (σ.2.1 46)) 437 (σ.1 437))) (c := 678) (v := σ.1 678) (gtII (by decide) (gtIF (gtIF (gtIF (gtIF (gtIF (gtIF (gtIF (gtIF rfl))))))))))) ?_
      refine j_w (cX g kk (sI (sI (sI (sF (sF (sF (sF (sF (sF (sF (sF σ 28 (σ.2.1 28)) 29 (σ.2.1 29)) 30 (σ.2.1 30)) 31 (σ.2.1 31)) 43 (σ.2.1 43)) 44 (σ.2.1 44)) 45 (σ.2.1 45)) 46 (σ.2.1 46)) 437 (σ.1 437)) 678 (σ.1 678)) 679 (σ.1 679))) (congrArg (cX g kk) (wrIi (S := (sI (sI (sF (sF (sF (sF (sF (sF (sF (sF σ 28 (σ.2.1 28)) 29 (σ.2.1 29)) 30 (σ.2.1 30)) 31 (σ.2.1 31)) 43 (σ.2.1 43)) 44 (σ.2.1 44)) 45 (σ.2.1 45)) 46 (σ.2.1 46)) 437 (σ.1 437)) 678 (σ.1 678))) (c := 679) (v := σ.1 679) (gtII (by decide) (gtII (by decide) (gtIF (gtIF (gtIF (gtIF (gtIF (gtIF (gtIF (gtIF rfl)))))))))))) ?_
      refine j_w (cX g kk (sI (sI (sI (sI (sF (sF (sF (sF (sF (sF (sF (sF σ 28 (σ.2.1 28)) 29 (σ.2.1 29)) 30 (σ.2.1 30)) 31 (σ.2.1 31)) 43 (σ.2.1 43)) 44 (σ.2.1 44)) 45 (σ.2.1 45)) 46 (σ.2.1 46)) 437 (σ.1 437)) 678 (σ.1 678)) 679 (σ.1 679)) 680 (σ.1 680))) (congrArg (cX g kk) (wrIi (S := (sI (sI (sI (sF (sF (sF (sF (sF (sF (sF (sF σ 28 (σ.2.1 28)) 29 (σ.2.1 29)) 30 (σ.2.1 30)) 31 (σ.2.1 31)) 43 (σ.2.1 43)) 44 (σ.2.1 44)) 45 (σ.2.1 45)) 46 (σ.2.1 46)) 437 (σ.1 437)) 678 (σ.1 678)) 679 (σ.1 679))) (c := 680) (v := σ.1 680) (gtII (by decide) (gtII (by decide) (gtII (by decide) (gtIF (gtIF (gtIF (gtIF (gtIF (gtIF (gtIF (gtIF rfl))))))))))))) ?_
      refine j_w (cX g kk (sI (sI (sI (sI (sI (sF (sF (sF (sF (sF (sF (sF (sF σ 28 (σ.2.1 28)) 29 (σ.2.1 29)) 30 (σ.2.1 30)) 31 (σ.2.1 31)) 43 (σ.2.1 43)) 44 (σ.2.1 44)) 45 (σ.2.1 45)) 46 (σ.2.1 46)) 437 (σ.1 437)) 678 (σ.1 678)) 679 (σ.1 679)) 680 (σ.1 680)) 681 (σ.1 681))) (congrArg (cX g kk) (wrIi (S := (sI (sI (sI (sI (sF (sF (sF (sF (sF (sF (sF (sF σ 28 (σ.2.1 28)) 29 (σ.2.1 29)) 30 (σ.2.1 30)) 31 (σ.2.1 31)) 43 (σ.2.1 43)) 44 (σ.2.1 44)) 45 (σ.2.1 45)) 46 (σ.2.1 46)) 437 (σ.1 437)) 678 (σ.1 678)) 679 (σ.1 679)) 680 (σ.1 680))) (c := 681) (v := σ.1 681) (gtII (by decide) (gtII (by decide) (gtII (by decide) (gtII (by decide) (gtIF (gtIF (gtIF (gtIF (gtIF (gtIF (gtIF (gtIF rfl)))))))))))))) ?_
      refine j_w (cX g kk (sI (sI (sI (sI (sI (sI (sF (sF (sF (sF (sF (sF (sF (sF σ 28 (σ.2.1 28)) 29 (σ.2.1 29)) 30 (σ.2.1 30)) 31 (σ.2.1 31)) 43 (σ.2.1 43)) 44 (σ.2.1 44)) 45 (σ.2.1 45)) 46 (σ.2.1 46)) 437 (σ.1 437)) 678 (σ.1 678)) 679 (σ.1 679)) 680 (σ.1 680)) 681 (σ.1 681)) 682 (σ.1 682))) (congrArg (cX g kk) (wrIi (S := (sI (sI (sI (sI (sI (sF (sF (sF (sF (sF (sF (sF (sF σ 28 (σ.2.1 28)) 29 (σ.2.1 29)) 30 (σ.2.1 30)) 31 (σ.2.1 31)) 43 (σ.2.1 43)) 44 (σ.2.1 44)) 45 (σ.2.1 45)) 46 (σ.2.1 46)) 437 (σ.1 437)) 678 (σ.1 678)) 679 (σ.1 679)) 680 (σ.1 680)) 681 (σ.1 681))) (c := 682) (v := σ.1 682) (gtII (by decide) (gtII (by decide) (gtII (by decide) (gtII (by decide) (gtII (by decide) (gtIF (gtIF (gtIF (gtIF (gtIF (gtIF (gtIF (gtIF rfl))))))))))))))) ?_
      exact j_iret C E (sI (sI (sI (sI (sI (sI (sF (sF (sF (sF (sF (sF (sF (sF σ 28 (σ.2.1 28)) 29 (σ.2.1 29)) 30 (σ.2.1 30)) 31 (σ.2.1 31)) 43 (σ.2.1 43)) 44 (σ.2.1 44)) 45 (σ.2.1 45)) 46 (σ.2.1 46)) 437 (σ.1 437)) 678 (σ.1 678)) 679 (σ.1 679)) 680 (σ.1 680)) 681 (σ.1 681)) 682 (σ.1 682)) ⟨_, rfl, ⟨(σ.2.1 28), (σ.2.1 29), (σ.2.1 30), (σ.2.1 31), (σ.2.1 43), (σ.2.1 44), (σ.2.1 45), (σ.2.1 46), (σ.1 437), (σ.1 678), (σ.1 679), (σ.1 680), (σ.1 681), (σ.1 682), rfl, (ovF_2 c1 (Or.inl c2)), (Or.inr ⟨rfl, rfl, rfl, rfl, rfl⟩)⟩⟩ rfl dX10_over_33
    · replace c2 := bI_t c2
      obtain ⟨an, bn, cn, dn, hl1, hl2, hl3, hl4, rfl, rfl, rfl, rfl⟩ := ldB_nat c2
      refine j_iload C 6 rfl dX10_over_21 ?_
      refine j_iconst C (nI 0) (by decide) dX10_over_23 ?_
      refine j_iconst C (nI 1) (by decide) dX10_over_24 ?_
      refine j_S01 C (c_isWithin w (nI 0) (nI 1)) kyX10_isWithin tb_467 tb_468 rfl (Nat.le_of_ble_eq_true rfl) ⟨by decide, by decide⟩ ⟨by decide, by decide⟩ dX10_over_25 rfl ?_
      refine j_if_ne C 34 (by decide) dX10_over_28 (fun c3 => ?_) (fun c3 => ?_)
      · replace c3 := bI_t c3
        obtain ⟨wn, wn1, wn2, rfl⟩ := wB_nat (by decide) (by decide) c3
        refine j_aload_n C 0 rfl dX10_over_34 ?_
        refine gX_0_2 C tb_430 dX10_over_35 ?_
        refine j_V1 C (e_refresh g kk σ k hk hk6 hI G hX hst ) kyX7_refresh tb_562 tb_563 tb_564 27 rfl (eX_27 g kk _) rfl (Nat.le_of_ble_eq_true rfl) ⟨by decide, by decide⟩ dX10_over_38 rfl (fun vr ur hp => ?_)
        obtain ⟨rfl, w4, w5, w6, w7, w8, hu, g9, g10⟩ := hp
        replace hu := hu.symm
        subst hu
        refine j_aload_n C 0 rfl dX10_over_41 ?_
        refine gX_0_5 C tb_433 dX10_over_42 ?_
        refine j_iload_n C 1 rfl dX10_over_45 ?_
        refine j_V1 C (e_gather g kk (sI (sF (sF (sF (sF σ 28 w4) 29 w5) 30 w6) 31 w7) 437 w8) k hk hk6 hI G hX ra hra (by omega) Q hQ g10 xn (by first | assumption | omega)) kyX4_gather tb_712 tb_713 tb_714 42 rfl (eX_42 g kk _) rfl (Nat.le_of_ble_eq_true rfl) ⟨by decide, by decide⟩ dX10_over_46 rfl (fun vr ur hp => ?_)
        obtain ⟨rfl, w11, w12, w13, w14, w15, hu, g16, g17⟩ := hp
        replace hu := hu.symm
        subst hu
        refine j_aload_n C 0 rfl dX10_over_49 ?_
        refine gX_0_5 C tb_433 dX10_over_50 ?_
        refine j_iload_n C 2 rfl dX10_over_53 ?_
        refine j_iload_n C 3 rfl dX10_over_54 ?_
        refine j_iload C 4 rfl dX10_over_55 ?_
        refine j_iload C 5 rfl dX10_over_57 ?_
        refine j_V1 C (e_sum g kk (sI (sF (sF (sF (sF (sI (sF (sF (sF (sF σ 28 w4) 29 w5) 30 w6) 31 w7) 437 w8) 43 w11) 44 w12) 45 w13) 46 w14) 678 (nI w15)) k hk hk6 hI G hX w15 rfl (by omega) _ g17 an bn (by first | assumption | omega) (by first | assumption | omega) cn dn (by first | assumption | omega) (by first | assumption | omega)) kyX4_sum tb_736 tb_737 tb_738 42 rfl (eX_42 g kk _) rfl (Nat.le_of_ble_eq_true rfl) ⟨by decide, by decide⟩ dX10_over_59 rfl (fun vr ur hp => ?_)
        obtain ⟨r24, rfl, w18, w19, w20, w21, hu, g22, g23⟩ := hp
        replace hu := hu.symm
        subst hu
        rcases g22 with ⟨hr9, hs9⟩ | ⟨hr9, hs9⟩
        · subst hr9
          refine j_if_neN C 68 (by decide) (by omega) dX10_over_62 (fun c25 => ?_) (fun c25 => ?_)
          · refine j_iload C 6 rfl dX10_over_68 ?_
            refine j_if_neN C 83 (by decide) (by omega) dX10_over_70 (fun c26 => ?_) (fun c26 => ?_)
            · refine j_aload_n C 0 rfl dX10_over_83 ?_
              refine gX_0_5 C tb_433 dX10_over_84 ?_
              refine gX_42_10 C tb_326 (nI w21) rfl dX10_over_87 ?_
              refine j_w (cX g kk (sI (sI (sI (sI (sI (sI (sF (sF (sF (sF (sF (sF (sF (sF σ 28 w4) 29 w5) 30 w6) 31 w7) 43 w11) 44 w12) 45 w13) 46 w14) 437 w8) 678 (nI w15)) 679 w18) 680 w19) 681 (nI w20)) 682 (nI w21))) (congrArg (cX g kk) (show sI (sI (sI (sI (sI (sF (sF (sF (sF (sI (sF (sF (sF (sF σ 28 w4) 29 w5) 30 w6) 31 w7) 437 w8) 43 w11) 44 w12) 45 w13) 46 w14) 678 (nI w15)) 679 w18) 680 w19) 681 (nI w20)) 682 (nI w21) = sI (sI (sI (sI (sI (sI (sF (sF (sF (sF (sF (sF (sF (sF σ 28 w4) 29 w5) 30 w6) 31 w7) 43 w11) 44 w12) 45 w13) 46 w14) 437 w8) 678 (nI w15)) 679 w18) 680 w19) 681 (nI w20)) 682 (nI w21) from (wrI (wrI (wrI (wrI (wrI (Eq.trans (wrF (Eq.trans (wrF (Eq.trans (wrF wrFI) wrFI)) wrFI)) wrFI)))))))) ?_
              exact j_iret C E (sI (sI (sI (sI (sI (sI (sF (sF (sF (sF (sF (sF (sF (sF σ 28 w4) 29 w5) 30 w6) 31 w7) 43 w11) 44 w12) 45 w13) 46 w14) 437 w8) 678 (nI w15)) 679 w18) 680 w19) 681 (nI w20)) 682 (nI w21)) ⟨_, rfl, ⟨w4, w5, w6, w7, w11, w12, w13, w14, w8, (nI w15), w18, w19, (nI w20), (nI w21), rfl, (ovF_x c1 c2 c3 (by omega) (by omega) (by omega) (by omega) (by omega) (by omega) hs9 (by first | rw [if_pos (by omega)] | rw [if_neg (by omega)])), (Or.inl ⟨g9, g10⟩)⟩⟩ rfl dX10_over_90
            · refine j_aload_n C 0 rfl dX10_over_73 ?_
              refine gX_0_5 C tb_433 dX10_over_74 ?_
              refine gX_42_9 C tb_324 (nI w20) rfl dX10_over_77 ?_
              refine j_goto C 90 (by decide) dX10_over_80 ?_
              refine j_w (cX g kk (sI (sI (sI (sI (sI (sI (sF (sF (sF (sF (sF (sF (sF (sF σ 28 w4) 29 w5) 30 w6) 31 w7) 43 w11) 44 w12) 45 w13) 46 w14) 437 w8) 678 (nI w15)) 679 w18) 680 w19) 681 (nI w20)) 682 (nI w21))) (congrArg (cX g kk) (show sI (sI (sI (sI (sI (sF (sF (sF (sF (sI (sF (sF (sF (sF σ 28 w4) 29 w5) 30 w6) 31 w7) 437 w8) 43 w11) 44 w12) 45 w13) 46 w14) 678 (nI w15)) 679 w18) 680 w19) 681 (nI w20)) 682 (nI w21) = sI (sI (sI (sI (sI (sI (sF (sF (sF (sF (sF (sF (sF (sF σ 28 w4) 29 w5) 30 w6) 31 w7) 43 w11) 44 w12) 45 w13) 46 w14) 437 w8) 678 (nI w15)) 679 w18) 680 w19) 681 (nI w20)) 682 (nI w21) from (wrI (wrI (wrI (wrI (wrI (Eq.trans (wrF (Eq.trans (wrF (Eq.trans (wrF wrFI) wrFI)) wrFI)) wrFI)))))))) ?_
              exact j_iret C E (sI (sI (sI (sI (sI (sI (sF (sF (sF (sF (sF (sF (sF (sF σ 28 w4) 29 w5) 30 w6) 31 w7) 43 w11) 44 w12) 45 w13) 46 w14) 437 w8) 678 (nI w15)) 679 w18) 680 w19) 681 (nI w20)) 682 (nI w21)) ⟨_, rfl, ⟨w4, w5, w6, w7, w11, w12, w13, w14, w8, (nI w15), w18, w19, (nI w20), (nI w21), rfl, (ovF_x c1 c2 c3 (by omega) (by omega) (by omega) (by omega) (by omega) (by omega) hs9 (by first | rw [if_pos (by omega)] | rw [if_neg (by omega)])), (Or.inl ⟨g9, g10⟩)⟩⟩ rfl dX10_over_90
          · exact absurd c25 (by decide)
        · subst hr9
          refine j_if_neN C 68 (by decide) (by omega) dX10_over_62 (fun c27 => ?_) (fun c27 => ?_)
          · exact absurd c27 (by decide)
          · refine j_bipush C ((-5)) (by decide) dX10_over_65 ?_
            refine j_w (cX g kk (sI (sI (sI (sI (sI (sI (sF (sF (sF (sF (sF (sF (sF (sF σ 28 w4) 29 w5) 30 w6) 31 w7) 43 w11) 44 w12) 45 w13) 46 w14) 437 w8) 678 (nI w15)) 679 w18) 680 w19) 681 (nI w20)) 682 (nI w21))) (congrArg (cX g kk) (show sI (sI (sI (sI (sI (sF (sF (sF (sF (sI (sF (sF (sF (sF σ 28 w4) 29 w5) 30 w6) 31 w7) 437 w8) 43 w11) 44 w12) 45 w13) 46 w14) 678 (nI w15)) 679 w18) 680 w19) 681 (nI w20)) 682 (nI w21) = sI (sI (sI (sI (sI (sI (sF (sF (sF (sF (sF (sF (sF (sF σ 28 w4) 29 w5) 30 w6) 31 w7) 43 w11) 44 w12) 45 w13) 46 w14) 437 w8) 678 (nI w15)) 679 w18) 680 w19) 681 (nI w20)) 682 (nI w21) from (wrI (wrI (wrI (wrI (wrI (Eq.trans (wrF (Eq.trans (wrF (Eq.trans (wrF wrFI) wrFI)) wrFI)) wrFI)))))))) ?_
            exact j_iret C E (sI (sI (sI (sI (sI (sI (sF (sF (sF (sF (sF (sF (sF (sF σ 28 w4) 29 w5) 30 w6) 31 w7) 43 w11) 44 w12) 45 w13) 46 w14) 437 w8) 678 (nI w15)) 679 w18) 680 w19) 681 (nI w20)) 682 (nI w21)) ⟨_, rfl, ⟨w4, w5, w6, w7, w11, w12, w13, w14, w8, (nI w15), w18, w19, (nI w20), (nI w21), rfl, (ovF_5 c1 c2 c3 (by omega) (by omega) (by omega) (by omega) (by omega) hs9), (Or.inl ⟨g9, g10⟩)⟩⟩ rfl dX10_over_67
      · replace c3 := bI_f c3
        refine j_bipush C ((-2)) (by decide) dX10_over_31 ?_
        refine j_w (cX g kk (sF σ 28 (σ.2.1 28))) (congrArg (cX g kk) (wrFi (S := σ) (c := 28) (v := σ.2.1 28) rfl)) ?_
        refine j_w (cX g kk (sF (sF σ 28 (σ.2.1 28)) 29 (σ.2.1 29))) (congrArg (cX g kk) (wrFi (S := (sF σ 28 (σ.2.1 28))) (c := 29) (v := σ.2.1 29) (gtFF (by decide) rfl))) ?_
        refine j_w (cX g kk (sF (sF (sF σ 28 (σ.2.1 28)) 29 (σ.2.1 29)) 30 (σ.2.1 30))) (congrArg (cX g kk) (wrFi (S := (sF (sF σ 28 (σ.2.1 28)) 29 (σ.2.1 29))) (c := 30) (v := σ.2.1 30) (gtFF (by decide) (gtFF (by decide) rfl)))) ?_
        refine j_w (cX g kk (sF (sF (sF (sF σ 28 (σ.2.1 28)) 29 (σ.2.1 29)) 30 (σ.2.1 30)) 31 (σ.2.1 31))) (congrArg (cX g kk) (wrFi (S := (sF (sF (sF σ 28 (σ.2.1 28)) 29 (σ.2.1 29)) 30 (σ.2.1 30))) (c := 31) (v := σ.2.1 31) (gtFF (by decide) (gtFF (by decide) (gtFF (by decide) rfl))))) ?_
        refine j_w (cX g kk (sF (sF (sF (sF (sF σ 28 (σ.2.1 28)) 29 (σ.2.1 29)) 30 (σ.2.1 30)) 31 (σ.2.1 31)) 43 (σ.2.1 43))) (congrArg (cX g kk) (wrFi (S := (sF (sF (sF (sF σ 28 (σ.2.1 28)) 29 (σ.2.1 29)) 30 (σ.2.1 30)) 31 (σ.2.1 31))) (c := 43) (v := σ.2.1 43) (gtFF (by decide) (gtFF (by decide) (gtFF (by decide) (gtFF (by decide) rfl)))))) ?_
        refine j_w (cX g kk (sF (sF (sF (sF (sF (sF σ 28 (σ.2.1 28)) 29 (σ.2.1 29)) 30 (σ.2.1 30)) 31 (σ.2.1 31)) 43 (σ.2.1 43)) 44 (σ.2.1 44))) (congrArg (cX g kk) (wrFi (S := (sF (sF (sF (sF (sF σ 28 (σ.2.1 28)) 29 (σ.2.1 29)) 30 (σ.2.1 30)) 31 (σ.2.1 31)) 43 (σ.2.1 43))) (c := 44) (v := σ.2.1 44) (gtFF (by decide) (gtFF (by decide) (gtFF (by decide) (gtFF (by decide) (gtFF (by decide) rfl))))))) ?_
        refine j_w (cX g kk (sF (sF (sF (sF (sF (sF (sF σ 28 (σ.2.1 28)) 29 (σ.2.1 29)) 30 (σ.2.1 30)) 31 (σ.2.1 31)) 43 (σ.2.1 43)) 44 (σ.2.1 44)) 45 (σ.2.1 45))) (congrArg (cX g kk) (wrFi (S := (sF (sF (sF (sF (sF (sF σ 28 (σ.2.1 28)) 29 (σ.2.1 29)) 30 (σ.2.1 30)) 31 (σ.2.1 31)) 43 (σ.2.1 43)) 44 (σ.2.1 44))) (c := 45) (v := σ.2.1 45) (gtFF (by decide) (gtFF (by decide) (gtFF (by decide) (gtFF (by decide) (gtFF (by decide) (gtFF (by decide) rfl)))))))) ?_
        refine j_w (cX g kk (sF (sF (sF (sF (sF (sF (sF (sF σ 28 (σ.2.1 28)) 29 (σ.2.1 29)) 30 (σ.2.1 30)) 31 (σ.2.1 31)) 43 (σ.2.1 43)) 44 (σ.2.1 44)) 45 (σ.2.1 45)) 46 (σ.2.1 46))) (congrArg (cX g kk) (wrFi (S := (sF (sF (sF (sF (sF (sF (sF σ 28 (σ.2.1 28)) 29 (σ.2.1 29)) 30 (σ.2.1 30)) 31 (σ.2.1 31)) 43 (σ.2.1 43)) 44 (σ.2.1 44)) 45 (σ.2.1 45))) (c := 46) (v := σ.2.1 46) (gtFF (by decide) (gtFF (by decide) (gtFF (by decide) (gtFF (by decide) (gtFF (by decide) (gtFF (by decide) (gtFF (by decide) rfl))))))))) ?_
        refine j_w (cX g kk (sI (sF (sF (sF (sF (sF (sF (sF (sF σ 28 (σ.2.1 28)) 29 (σ.2.1 29)) 30 (σ.2.1 30)) 31 (σ.2.1 31)) 43 (σ.2.1 43)) 44 (σ.2.1 44)) 45 (σ.2.1 45)) 46 (σ.2.1 46)) 437 (σ.1 437))) (congrArg (cX g kk) (wrIi (S := (sF (sF (sF (sF (sF (sF (sF (sF σ 28 (σ.2.1 28)) 29 (σ.2.1 29)) 30 (σ.2.1 30)) 31 (σ.2.1 31)) 43 (σ.2.1 43)) 44 (σ.2.1 44)) 45 (σ.2.1 45)) 46 (σ.2.1 46))) (c := 437) (v := σ.1 437) (gtIF (gtIF (gtIF (gtIF (gtIF (gtIF (gtIF (gtIF rfl)))))))))) ?_
        refine j_w (cX g kk (sI (sI (sF (sF (sF (sF (sF (sF (sF (sF σ 28 (σ.2.1 28)) 29 (σ.2.1 29)) 30 (σ.2.1 30)) 31 (σ.2.1 31)) 43 (σ.2.1 43)) 44 (σ.2.1 44)) 45 (σ.2.1 45)) 46 (σ.2.1 46)) 437 (σ.1 437)) 678 (σ.1 678))) (congrArg (cX g kk) (wrIi (S := (sI (sF (sF (sF (sF (sF (sF (sF (sF σ 28 (σ.2.1 28)) 29 (σ.2.1 29)) 30 (σ.2.1 30)) 31 (σ.2.1 31)) 43 (σ.2.1 43)) 44 (σ.2.1 44)) 45 (σ.2.1 45)) 46 (σ.2.1 46)) 437 (σ.1 437))) (c := 678) (v := σ.1 678) (gtII (by decide) (gtIF (gtIF (gtIF (gtIF (gtIF (gtIF (gtIF (gtIF rfl))))))))))) ?_
        refine j_w (cX g kk (sI (sI (sI (sF (sF (sF (sF (sF (sF (sF (sF σ 28 (σ.2.1 28)) 29 (σ.2.1 29)) 30 (σ.2.1 30)) 31 (σ.2.1 31)) 43 (σ.2.1 43)) 44 (σ.2.1 44)) 45 (σ.2.1 45)) 46 (σ.2.1 46)) 437 (σ.1 437)) 678 (σ.1 678)) 679 (σ.1 679))) (congrArg (cX g kk) (wrIi (S := (sI (sI (sF (sF (sF (sF (sF (sF (sF (sF σ 28 (σ.2.1 28)) 29 (σ.2.1 29)) 30 (σ.2.1 30)) 31 (σ.2.1 31)) 43 (σ.2.1 43)) 44 (σ.2.1 44)) 45 (σ.2.1 45)) 46 (σ.2.1 46)) 437 (σ.1 437)) 678 (σ.1 678))) (c := 679) (v := σ.1 679) (gtII (by decide) (gtII (by decide) (gtIF (gtIF (gtIF (gtIF (gtIF (gtIF (gtIF (gtIF rfl)))))))))))) ?_
        refine j_w (cX g kk (sI (sI (sI (sI (sF (sF (sF (sF (sF (sF (sF (sF σ 28 (σ.2.1 28)) 29 (σ.2.1 29)) 30 (σ.2.1 30)) 31 (σ.2.1 31)) 43 (σ.2.1 43)) 44 (σ.2.1 44)) 45 (σ.2.1 45)) 46 (σ.2.1 46)) 437 (σ.1 437)) 678 (σ.1 678)) 679 (σ.1 679)) 680 (σ.1 680))) (congrArg (cX g kk) (wrIi (S := (sI (sI (sI (sF (sF (sF (sF (sF (sF (sF (sF σ 28 (σ.2.1 28)) 29 (σ.2.1 29)) 30 (σ.2.1 30)) 31 (σ.2.1 31)) 43 (σ.2.1 43)) 44 (σ.2.1 44)) 45 (σ.2.1 45)) 46 (σ.2.1 46)) 437 (σ.1 437)) 678 (σ.1 678)) 679 (σ.1 679))) (c := 680) (v := σ.1 680) (gtII (by decide) (gtII (by decide) (gtII (by decide) (gtIF (gtIF (gtIF (gtIF (gtIF (gtIF (gtIF (gtIF rfl))))))))))))) ?_
        refine j_w (cX g kk (sI (sI (sI (sI (sI (sF (sF (sF (sF (sF (sF (sF (sF σ 28 (σ.2.1 28)) 29 (σ.2.1 29)) 30 (σ.2.1 30)) 31 (σ.2.1 31)) 43 (σ.2.1 43)) 44 (σ.2.1 44)) 45 (σ.2.1 45)) 46 (σ.2.1 46)) 437 (σ.1 437)) 678 (σ.1 678)) 679 (σ.1 679)) 680 (σ.1 680)) 681 (σ.1 681))) (congrArg (cX g kk) (wrIi (S := (sI (sI (sI (sI (sF (sF (sF (sF (sF (sF (sF (sF σ 28 (σ.2.1 28)) 29 (σ.2.1 29)) 30 (σ.2.1 30)) 31 (σ.2.1 31)) 43 (σ.2.1 43)) 44 (σ.2.1 44)) 45 (σ.2.1 45)) 46 (σ.2.1 46)) 437 (σ.1 437)) 678 (σ.1 678)) 679 (σ.1 679)) 680 (σ.1 680))) (c := 681) (v := σ.1 681) (gtII (by decide) (gtII (by decide) (gtII (by decide) (gtII (by decide) (gtIF (gtIF (gtIF (gtIF (gtIF (gtIF (gtIF (gtIF rfl)))))))))))))) ?_
        refine j_w (cX g kk (sI (sI (sI (sI (sI (sI (sF (sF (sF (sF (sF (sF (sF (sF σ 28 (σ.2.1 28)) 29 (σ.2.1 29)) 30 (σ.2.1 30)) 31 (σ.2.1 31)) 43 (σ.2.1 43)) 44 (σ.2.1 44)) 45 (σ.2.1 45)) 46 (σ.2.1 46)) 437 (σ.1 437)) 678 (σ.1 678)) 679 (σ.1 679)) 680 (σ.1 680)) 681 (σ.1 681)) 682 (σ.1 682))) (congrArg (cX g kk) (wrIi (S := (sI (sI (sI (sI (sI (sF (sF (sF (sF (sF (sF (sF (sF σ 28 (σ.2.1 28)) 29 (σ.2.1 29)) 30 (σ.2.1 30)) 31 (σ.2.1 31)) 43 (σ.2.1 43)) 44 (σ.2.1 44)) 45 (σ.2.1 45)) 46 (σ.2.1 46)) 437 (σ.1 437)) 678 (σ.1 678)) 679 (σ.1 679)) 680 (σ.1 680)) 681 (σ.1 681))) (c := 682) (v := σ.1 682) (gtII (by decide) (gtII (by decide) (gtII (by decide) (gtII (by decide) (gtII (by decide) (gtIF (gtIF (gtIF (gtIF (gtIF (gtIF (gtIF (gtIF rfl))))))))))))))) ?_
        exact j_iret C E (sI (sI (sI (sI (sI (sI (sF (sF (sF (sF (sF (sF (sF (sF σ 28 (σ.2.1 28)) 29 (σ.2.1 29)) 30 (σ.2.1 30)) 31 (σ.2.1 31)) 43 (σ.2.1 43)) 44 (σ.2.1 44)) 45 (σ.2.1 45)) 46 (σ.2.1 46)) 437 (σ.1 437)) 678 (σ.1 678)) 679 (σ.1 679)) 680 (σ.1 680)) 681 (σ.1 681)) 682 (σ.1 682)) ⟨_, rfl, ⟨(σ.2.1 28), (σ.2.1 29), (σ.2.1 30), (σ.2.1 31), (σ.2.1 43), (σ.2.1 44), (σ.2.1 45), (σ.2.1 46), (σ.1 437), (σ.1 678), (σ.1 679), (σ.1 680), (σ.1 681), (σ.1 682), rfl, (ovF_2 c1 (Or.inr c3)), (Or.inr ⟨rfl, rfl, rfl, rfl, rfl⟩)⟩⟩ rfl dX10_over_33
  · replace c1 := bI_f c1
    refine j_iconst C ((-1)) (by decide) dX10_over_7 ?_
    refine j_w (cX g kk (sF σ 28 (σ.2.1 28))) (congrArg (cX g kk) (wrFi (S := σ) (c := 28) (v := σ.2.1 28) rfl)) ?_
    refine j_w (cX g kk (sF (sF σ 28 (σ.2.1 28)) 29 (σ.2.1 29))) (congrArg (cX g kk) (wrFi (S := (sF σ 28 (σ.2.1 28))) (c := 29) (v := σ.2.1 29) (gtFF (by decide) rfl))) ?_
    refine j_w (cX g kk (sF (sF (sF σ 28 (σ.2.1 28)) 29 (σ.2.1 29)) 30 (σ.2.1 30))) (congrArg (cX g kk) (wrFi (S := (sF (sF σ 28 (σ.2.1 28)) 29 (σ.2.1 29))) (c := 30) (v := σ.2.1 30) (gtFF (by decide) (gtFF (by decide) rfl)))) ?_
    refine j_w (cX g kk (sF (sF (sF (sF σ 28 (σ.2.1 28)) 29 (σ.2.1 29)) 30 (σ.2.1 30)) 31 (σ.2.1 31))) (congrArg (cX g kk) (wrFi (S := (sF (sF (sF σ 28 (σ.2.1 28)) 29 (σ.2.1 29)) 30 (σ.2.1 30))) (c := 31) (v := σ.2.1 31) (gtFF (by decide) (gtFF (by decide) (gtFF (by decide) rfl))))) ?_
    refine j_w (cX g kk (sF (sF (sF (sF (sF σ 28 (σ.2.1 28)) 29 (σ.2.1 29)) 30 (σ.2.1 30)) 31 (σ.2.1 31)) 43 (σ.2.1 43))) (congrArg (cX g kk) (wrFi (S := (sF (sF (sF (sF σ 28 (σ.2.1 28)) 29 (σ.2.1 29)) 30 (σ.2.1 30)) 31 (σ.2.1 31))) (c := 43) (v := σ.2.1 43) (gtFF (by decide) (gtFF (by decide) (gtFF (by decide) (gtFF (by decide) rfl)))))) ?_
    refine j_w (cX g kk (sF (sF (sF (sF (sF (sF σ 28 (σ.2.1 28)) 29 (σ.2.1 29)) 30 (σ.2.1 30)) 31 (σ.2.1 31)) 43 (σ.2.1 43)) 44 (σ.2.1 44))) (congrArg (cX g kk) (wrFi (S := (sF (sF (sF (sF (sF σ 28 (σ.2.1 28)) 29 (σ.2.1 29)) 30 (σ.2.1 30)) 31 (σ.2.1 31)) 43 (σ.2.1 43))) (c := 44) (v := σ.2.1 44) (gtFF (by decide) (gtFF (by decide) (gtFF (by decide) (gtFF (by decide) (gtFF (by decide) rfl))))))) ?_
    refine j_w (cX g kk (sF (sF (sF (sF (sF (sF (sF σ 28 (σ.2.1 28)) 29 (σ.2.1 29)) 30 (σ.2.1 30)) 31 (σ.2.1 31)) 43 (σ.2.1 43)) 44 (σ.2.1 44)) 45 (σ.2.1 45))) (congrArg (cX g kk) (wrFi (S := (sF (sF (sF (sF (sF (sF σ 28 (σ.2.1 28)) 29 (σ.2.1 29)) 30 (σ.2.1 30)) 31 (σ.2.1 31)) 43 (σ.2.1 43)) 44 (σ.2.1 44))) (c := 45) (v := σ.2.1 45) (gtFF (by decide) (gtFF (by decide) (gtFF (by decide) (gtFF (by decide) (gtFF (by decide) (gtFF (by decide) rfl)))))))) ?_
    refine j_w (cX g kk (sF (sF (sF (sF (sF (sF (sF (sF σ 28 (σ.2.1 28)) 29 (σ.2.1 29)) 30 (σ.2.1 30)) 31 (σ.2.1 31)) 43 (σ.2.1 43)) 44 (σ.2.1 44)) 45 (σ.2.1 45)) 46 (σ.2.1 46))) (congrArg (cX g kk) (wrFi (S := (sF (sF (sF (sF (sF (sF (sF σ 28 (σ.2.1 28)) 29 (σ.2.1 29)) 30 (σ.2.1 30)) 31 (σ.2.1 31)) 43 (σ.2.1 43)) 44 (σ.2.1 44)) 45 (σ.2.1 45))) (c := 46) (v := σ.2.1 46) (gtFF (by decide) (gtFF (by decide) (gtFF (by decide) (gtFF (by decide) (gtFF (by decide) (gtFF (by decide) (gtFF (by decide) rfl))))))))) ?_
    refine j_w (cX g kk (sI (sF (sF (sF (sF (sF (sF (sF (sF σ 28 (σ.2.1 28)) 29 (σ.2.1 29)) 30 (σ.2.1 30)) 31 (σ.2.1 31)) 43 (σ.2.1 43)) 44 (σ.2.1 44)) 45 (σ.2.1 45)) 46 (σ.2.1 46)) 437 (σ.1 437))) (congrArg (cX g kk) (wrIi (S := (sF (sF (sF (sF (sF (sF (sF (sF σ 28 (σ.2.1 28)) 29 (σ.2.1 29)) 30 (σ.2.1 30)) 31 (σ.2.1 31)) 43 (σ.2.1 43)) 44 (σ.2.1 44)) 45 (σ.2.1 45)) 46 (σ.2.1 46))) (c := 437) (v := σ.1 437) (gtIF (gtIF (gtIF (gtIF (gtIF (gtIF (gtIF (gtIF rfl)))))))))) ?_
    refine j_w (cX g kk (sI (sI (sF (sF (sF (sF (sF (sF (sF (sF σ 28 (σ.2.1 28)) 29 (σ.2.1 29)) 30 (σ.2.1 30)) 31 (σ.2.1 31)) 43 (σ.2.1 43)) 44 (σ.2.1 44)) 45 (σ.2.1 45)) 46 (σ.2.1 46)) 437 (σ.1 437)) 678 (σ.1 678))) (congrArg (cX g kk) (wrIi (S := (sI (sF (sF (sF (sF (sF (sF (sF (sF σ 28 (σ.2.1 28)) 29 (σ.2.1 29)) 30 (σ.2.1 30)) 31 (σ.2.1 31)) 43 (σ.2.1 43)) 44 (σ.2.1 44)) 45 (σ.2.1 45)) 46 (σ.2.1 46)) 437 (σ.1 437))) (c := 678) (v := σ.1 678) (gtII (by decide) (gtIF (gtIF (gtIF (gtIF (gtIF (gtIF (gtIF (gtIF rfl))))))))))) ?_
    refine j_w (cX g kk (sI (sI (sI (sF (sF (sF (sF (sF (sF (sF (sF σ 28 (σ.2.1 28)) 29 (σ.2.1 29)) 30 (σ.2.1 30)) 31 (σ.2.1 31)) 43 (σ.2.1 43)) 44 (σ.2.1 44)) 45 (σ.2.1 45)) 46 (σ.2.1 46)) 437 (σ.1 437)) 678 (σ.1 678)) 679 (σ.1 679))) (congrArg (cX g kk) (wrIi (S := (sI (sI (sF (sF (sF (sF (sF (sF (sF (sF σ 28 (σ.2.1 28)) 29 (σ.2.1 29)) 30 (σ.2.1 30)) 31 (σ.2.1 31)) 43 (σ.2.1 43)) 44 (σ.2.1 44)) 45 (σ.2.1 45)) 46 (σ.2.1 46)) 437 (σ.1 437)) 678 (σ.1 678))) (c := 679) (v := σ.1 679) (gtII (by decide) (gtII (by decide) (gtIF (gtIF (gtIF (gtIF (gtIF (gtIF (gtIF (gtIF rfl)))))))))))) ?_
    refine j_w (cX g kk (sI (sI (sI (sI (sF (sF (sF (sF (sF (sF (sF (sF σ 28 (σ.2.1 28)) 29 (σ.2.1 29)) 30 (σ.2.1 30)) 31 (σ.2.1 31)) 43 (σ.2.1 43)) 44 (σ.2.1 44)) 45 (σ.2.1 45)) 46 (σ.2.1 46)) 437 (σ.1 437)) 678 (σ.1 678)) 679 (σ.1 679)) 680 (σ.1 680))) (congrArg (cX g kk) (wrIi (S := (sI (sI (sI (sF (sF (sF (sF (sF (sF (sF (sF σ 28 (σ.2.1 28)) 29 (σ.2.1 29)) 30 (σ.2.1 30)) 31 (σ.2.1 31)) 43 (σ.2.1 43)) 44 (σ.2.1 44)) 45 (σ.2.1 45)) 46 (σ.2.1 46)) 437 (σ.1 437)) 678 (σ.1 678)) 679 (σ.1 679))) (c := 680) (v := σ.1 680) (gtII (by decide) (gtII (by decide) (gtII (by decide) (gtIF (gtIF (gtIF (gtIF (gtIF (gtIF (gtIF (gtIF rfl))))))))))))) ?_
    refine j_w (cX g kk (sI (sI (sI (sI (sI (sF (sF (sF (sF (sF (sF (sF (sF σ 28 (σ.2.1 28)) 29 (σ.2.1 29)) 30 (σ.2.1 30)) 31 (σ.2.1 31)) 43 (σ.2.1 43)) 44 (σ.2.1 44)) 45 (σ.2.1 45)) 46 (σ.2.1 46)) 437 (σ.1 437)) 678 (σ.1 678)) 679 (σ.1 679)) 680 (σ.1 680)) 681 (σ.1 681))) (congrArg (cX g kk) (wrIi (S := (sI (sI (sI (sI (sF (sF (sF (sF (sF (sF (sF (sF σ 28 (σ.2.1 28)) 29 (σ.2.1 29)) 30 (σ.2.1 30)) 31 (σ.2.1 31)) 43 (σ.2.1 43)) 44 (σ.2.1 44)) 45 (σ.2.1 45)) 46 (σ.2.1 46)) 437 (σ.1 437)) 678 (σ.1 678)) 679 (σ.1 679)) 680 (σ.1 680))) (c := 681) (v := σ.1 681) (gtII (by decide) (gtII (by decide) (gtII (by decide) (gtII (by decide) (gtIF (gtIF (gtIF (gtIF (gtIF (gtIF (gtIF (gtIF rfl)))))))))))))) ?_
    refine j_w (cX g kk (sI (sI (sI (sI (sI (sI (sF (sF (sF (sF (sF (sF (sF (sF σ 28 (σ.2.1 28)) 29 (σ.2.1 29)) 30 (σ.2.1 30)) 31 (σ.2.1 31)) 43 (σ.2.1 43)) 44 (σ.2.1 44)) 45 (σ.2.1 45)) 46 (σ.2.1 46)) 437 (σ.1 437)) 678 (σ.1 678)) 679 (σ.1 679)) 680 (σ.1 680)) 681 (σ.1 681)) 682 (σ.1 682))) (congrArg (cX g kk) (wrIi (S := (sI (sI (sI (sI (sI (sF (sF (sF (sF (sF (sF (sF (sF σ 28 (σ.2.1 28)) 29 (σ.2.1 29)) 30 (σ.2.1 30)) 31 (σ.2.1 31)) 43 (σ.2.1 43)) 44 (σ.2.1 44)) 45 (σ.2.1 45)) 46 (σ.2.1 46)) 437 (σ.1 437)) 678 (σ.1 678)) 679 (σ.1 679)) 680 (σ.1 680)) 681 (σ.1 681))) (c := 682) (v := σ.1 682) (gtII (by decide) (gtII (by decide) (gtII (by decide) (gtII (by decide) (gtII (by decide) (gtIF (gtIF (gtIF (gtIF (gtIF (gtIF (gtIF (gtIF rfl))))))))))))))) ?_
    exact j_iret C E (sI (sI (sI (sI (sI (sI (sF (sF (sF (sF (sF (sF (sF (sF σ 28 (σ.2.1 28)) 29 (σ.2.1 29)) 30 (σ.2.1 30)) 31 (σ.2.1 31)) 43 (σ.2.1 43)) 44 (σ.2.1 44)) 45 (σ.2.1 45)) 46 (σ.2.1 46)) 437 (σ.1 437)) 678 (σ.1 678)) 679 (σ.1 679)) 680 (σ.1 680)) 681 (σ.1 681)) 682 (σ.1 682)) ⟨_, rfl, ⟨(σ.2.1 28), (σ.2.1 29), (σ.2.1 30), (σ.2.1 31), (σ.2.1 43), (σ.2.1 44), (σ.2.1 45), (σ.2.1 46), (σ.1 437), (σ.1 678), (σ.1 679), (σ.1 680), (σ.1 681), (σ.1 682), rfl, (ovF_1 c1), (Or.inr ⟨rfl, rfl, rfl, rfl, rfl⟩)⟩⟩ rfl dX10_over_8
set_option maxRecDepth 100000 in
set_option maxHeartbeats 4000000 in
theorem e_flow (g kk : Nat → Nat) (σ : St) (k : Nat) (hk : σ.1 16 = nI k) (hk6 : k ≤ 6) (hI : iX σ) (G : GD) (hX : HX G k σ) (ra : Nat) (hra : σ.1 256 = nI ra) (hrab : ra ≤ 6) (Q : RQ) (hQ : HQ Q ra σ) (hst : σ.1 437 = 0 → CXf G k (σ.2.1 28) (σ.2.1 29) (σ.2.1 30) (σ.2.1 31)) (x : Int32) (a : Int32) (b : Int32) (c : Int32) (d : Int32) (y : Int32) (z : Int32) : jM (S := St) yX10_flow cX10_flow 8 (some .int) { frames := 5, cells := 0, slots := 0, locals := 115 } kk (cX g kk σ) [.ref (g 0), .int x, .int a, .int b, .int c, .int d, .int y, .int z] (cX g kk) (rI (fun (r : Int32) (u : St) => ∃ (pF28 : Nat → Int32) (pF29 : Nat → Int32) (pF30 : Nat → Int32) (pF31 : Nat → Int32) (pF43 : Nat → Int32) (pF44 : Nat → Int32) (pF45 : Nat → Int32) (pF46 : Nat → Int32) (pI437 : Int32) (pI678 : Int32) (pI679 : Int32) (pI680 : Int32) (pI681 : Int32) (pI682 : Int32), u = sI (sI (sI (sI (sI (sI (sF (sF (sF (sF (sF (sF (sF (sF σ 28 pF28) 29 pF29) 30 pF30) 31 pF31) 43 pF43) 44 pF44) 45 pF45) 46 pF46) 437 pI437) 678 pI678) 679 pI679) 680 pI680) 681 pI681) 682 pI682 ∧ (r = flF (fun d x y => bdR G k Q d x y ra) x a b c d y z) ∧ ((pI437 = nI 0 ∧ CXf G k pF28 pF29 pF30 pF31) ∨ (pI437 = σ.1 437 ∧ pF28 = σ.2.1 28 ∧ pF29 = σ.2.1 29 ∧ pF30 = σ.2.1 30 ∧ pF31 = σ.2.1 31)))) := by
  refine j_entry [(0, .ref (g 0)), (1, .int x), (2, .int a), (3, .int b), (4, .int c), (5, .int d), (6, .int y), (7, .int z)] (by decide) (Nat.le_of_ble_eq_true rfl) rfl ?_
  intro X C E HI
  refine j_iload_n C 1 rfl dX10_flow_0 ?_
  refine j_S01 C (c_isDay x) kyX10_isDay tb_486 tb_487 rfl (Nat.le_of_ble_eq_true rfl) ⟨by decide, by decide⟩ ⟨by decide, by decide⟩ dX10_flow_1 rfl ?_
  refine j_if_ne C 10 (by decide) dX10_flow_4 (fun c1 => ?_) (fun c1 => ?_)
  · replace c1 := bI_t c1
    obtain ⟨xn, xn1, xn2, rfl⟩ := wB_nat (by decide) (by decide) c1
    refine j_iload_n C 2 rfl dX10_flow_10 ?_
    refine j_iload_n C 3 rfl dX10_flow_11 ?_
    refine j_iload C 4 rfl dX10_flow_12 ?_
    refine j_iload C 5 rfl dX10_flow_14 ?_
    refine j_S01 C (c_isLand a b c d) kyX10_isLand tb_733 tb_734 rfl (Nat.le_of_ble_eq_true rfl) ⟨by decide, by decide⟩ ⟨by decide, by decide⟩ dX10_flow_16 rfl ?_
    refine j_if_eq C 44 (by decide) dX10_flow_19 (fun c2 => ?_) (fun c2 => ?_)
    · replace c2 := bI_f c2
      refine j_ldc C tb_651 dX10_flow_44 ?_
      refine j_w (cX g kk (sF σ 28 (σ.2.1 28))) (congrArg (cX g kk) (wrFi (S := σ) (c := 28) (v := σ.2.1 28) rfl)) ?_
      refine j_w (cX g kk (sF (sF σ 28 (σ.2.1 28)) 29 (σ.2.1 29))) (congrArg (cX g kk) (wrFi (S := (sF σ 28 (σ.2.1 28))) (c := 29) (v := σ.2.1 29) (gtFF (by decide) rfl))) ?_
      refine j_w (cX g kk (sF (sF (sF σ 28 (σ.2.1 28)) 29 (σ.2.1 29)) 30 (σ.2.1 30))) (congrArg (cX g kk) (wrFi (S := (sF (sF σ 28 (σ.2.1 28)) 29 (σ.2.1 29))) (c := 30) (v := σ.2.1 30) (gtFF (by decide) (gtFF (by decide) rfl)))) ?_
      refine j_w (cX g kk (sF (sF (sF (sF σ 28 (σ.2.1 28)) 29 (σ.2.1 29)) 30 (σ.2.1 30)) 31 (σ.2.1 31))) (congrArg (cX g kk) (wrFi (S := (sF (sF (sF σ 28 (σ.2.1 28)) 29 (σ.2.1 29)) 30 (σ.2.1 30))) (c := 31) (v := σ.2.1 31) (gtFF (by decide) (gtFF (by decide) (gtFF (by decide) rfl))))) ?_
      refine j_w (cX g kk (sF (sF (sF (sF (sF σ 28 (σ.2.1 28)) 29 (σ.2.1 29)) 30 (σ.2.1 30)) 31 (σ.2.1 31)) 43 (σ.2.1 43))) (congrArg (cX g kk) (wrFi (S := (sF (sF (sF (sF σ 28 (σ.2.1 28)) 29 (σ.2.1 29)) 30 (σ.2.1 30)) 31 (σ.2.1 31))) (c := 43) (v := σ.2.1 43) (gtFF (by decide) (gtFF (by decide) (gtFF (by decide) (gtFF (by decide) rfl)))))) ?_
      refine j_w (cX g kk (sF (sF (sF (sF (sF (sF σ 28 (σ.2.1 28)) 29 (σ.2.1 29)) 30 (σ.2.1 30)) 31 (σ.2.1 31)) 43 (σ.2.1 43)) 44 (σ.2.1 44))) (congrArg (cX g kk) (wrFi (S := (sF (sF (sF (sF (sF σ 28 (σ.2.1 28)) 29 (σ.2.1 29)) 30 (σ.2.1 30)) 31 (σ.2.1 31)) 43 (σ.2.1 43))) (c := 44) (v := σ.2.1 44) (gtFF (by decide) (gtFF (by decide) (gtFF (by decide) (gtFF (by decide) (gtFF (by decide) rfl))))))) ?_
      refine j_w (cX g kk (sF (sF (sF (sF (sF (sF (sF σ 28 (σ.2.1 28)) 29 (σ.2.1 29)) 30 (σ.2.1 30)) 31 (σ.2.1 31)) 43 (σ.2.1 43)) 44 (σ.2.1 44)) 45 (σ.2.1 45))) (congrArg (cX g kk) (wrFi (S := (sF (sF (sF (sF (sF (sF σ 28 (σ.2.1 28)) 29 (σ.2.1 29)) 30 (σ.2.1 30)) 31 (σ.2.1 31)) 43 (σ.2.1 43)) 44 (σ.2.1 44))) (c := 45) (v := σ.2.1 45) (gtFF (by decide) (gtFF (by decide) (gtFF (by decide) (gtFF (by decide) (gtFF (by decide) (gtFF (by decide) rfl)))))))) ?_
      refine j_w (cX g kk (sF (sF (sF (sF (sF (sF (sF (sF σ 28 (σ.2.1 28)) 29 (σ.2.1 29)) 30 (σ.2.1 30)) 31 (σ.2.1 31)) 43 (σ.2.1 43)) 44 (σ.2.1 44)) 45 (σ.2.1 45)) 46 (σ.2.1 46))) (congrArg (cX g kk) (wrFi (S := (sF (sF (sF (sF (sF (sF (sF σ 28 (σ.2.1 28)) 29 (σ.2.1 29)) 30 (σ.2.1 30)) 31 (σ.2.1 31)) 43 (σ.2.1 43)) 44 (σ.2.1 44)) 45 (σ.2.1 45))) (c := 46) (v := σ.2.1 46) (gtFF (by decide) (gtFF (by decide) (gtFF (by decide) (gtFF (by decide) (gtFF (by decide) (gtFF (by decide) (gtFF (by decide) rfl))))))))) ?_
      refine j_w (cX g kk (sI (sF (sF (sF (sF (sF (sF (sF (sF σ 28 (σ.2.1 28)) 29 (σ.2.1 29)) 30 (σ.2.1 30)) 31 (σ.2.1 31)) 43 (σ.2.1 43)) 44 (σ.2.1 44)) 45 (σ.2.1 45)) 46 (σ.2.1 46)) 437 (σ.1 437))) (congrArg (cX g kk) (wrIi (S := (sF (sF (sF (sF (sF (sF (sF (sF σ 28 (σ.2.1 28)) 29 (σ.2.1 29)) 30 (σ.2.1 30)) 31 (σ.2.1 31)) 43 (σ.2.1 43)) 44 (σ.2.1 44)) 45 (σ.2.1 45)) 46 (σ.2.1 46))) (c := 437) (v := σ.1 437) (gtIF (gtIF (gtIF (gtIF (gtIF (gtIF (gtIF (gtIF rfl)))))))))) ?_
      refine j_w (cX g kk (sI (sI (sF (sF (sF (sF (sF (sF (sF (sF σ 28 (σ.2.1 28)) 29 (σ.2.1 29)) 30 (σ.2.1 30)) 31 (σ.2.1 31)) 43 (σ.2.1 43)) 44 (σ.2.1 44)) 45 (σ.2.1 45)) 46 (σ.2.1 46)) 437 (σ.1 437)) 678 (σ.1 678))) (congrArg (cX g kk) (wrIi (S := (sI (sF (sF (sF (sF (sF (sF (sF (sF σ 28 (σ.2.1 28)) 29 (σ.2.1 29)) 30 (σ.2.1 30)) 31 (σ.2.1 31)) 43 (σ.2.1 43)) 44 (σ.2.1 44)) 45 (σ.2.1 45)) 46 (σ.2.1 46)) 437 (σ.1 437))) (c := 678) (v := σ.1 678) (gtII (by decide) (gtIF (gtIF (gtIF (gtIF (gtIF (gtIF (gtIF (gtIF rfl))))))))))) ?_
      refine j_w (cX g kk (sI (sI (sI (sF (sF (sF (sF (sF (sF (sF (sF σ 28 (σ.2.1 28)) 29 (σ.2.1 29)) 30 (σ.2.1 30)) 31 (σ.2.1 31)) 43 (σ.2.1 43)) 44 (σ.2.1 44)) 45 (σ.2.1 45)) 46 (σ.2.1 46)) 437 (σ.1 437)) 678 (σ.1 678)) 679 (σ.1 679))) (congrArg (cX g kk) (wrIi (S := (sI (sI (sF (sF (sF (sF (sF (sF (sF (sF σ 28 (σ.2.1 28)) 29 (σ.2.1 29)) 30 (σ.2.1 30)) 31 (σ.2.1 31)) 43 (σ.2.1 43)) 44 (σ.2.1 44)) 45 (σ.2.1 45)) 46 (σ.2.1 46)) 437 (σ.1 437)) 678 (σ.1 678))) (c := 679) (v := σ.1 679) (gtII (by decide) (gtII (by decide) (gtIF (gtIF (gtIF (gtIF (gtIF (gtIF (gtIF (gtIF rfl)))))))))))) ?_
      refine j_w (cX g kk (sI (sI (sI (sI (sF (sF (sF (sF (sF (sF (sF (sF σ 28 (σ.2.1 28)) 29 (σ.2.1 29)) 30 (σ.2.1 30)) 31 (σ.2.1 31)) 43 (σ.2.1 43)) 44 (σ.2.1 44)) 45 (σ.2.1 45)) 46 (σ.2.1 46)) 437 (σ.1 437)) 678 (σ.1 678)) 679 (σ.1 679)) 680 (σ.1 680))) (congrArg (cX g kk) (wrIi (S := (sI (sI (sI (sF (sF (sF (sF (sF (sF (sF (sF σ 28 (σ.2.1 28)) 29 (σ.2.1 29)) 30 (σ.2.1 30)) 31 (σ.2.1 31)) 43 (σ.2.1 43)) 44 (σ.2.1 44)) 45 (σ.2.1 45)) 46 (σ.2.1 46)) 437 (σ.1 437)) 678 (σ.1 678)) 679 (σ.1 679))) (c := 680) (v := σ.1 680) (gtII (by decide) (gtII (by decide) (gtII (by decide) (gtIF (gtIF (gtIF (gtIF (gtIF (gtIF (gtIF (gtIF rfl))))))))))))) ?_
      refine j_w (cX g kk (sI (sI (sI (sI (sI (sF (sF (sF (sF (sF (sF (sF (sF σ 28 (σ.2.1 28)) 29 (σ.2.1 29)) 30 (σ.2.1 30)) 31 (σ.2.1 31)) 43 (σ.2.1 43)) 44 (σ.2.1 44)) 45 (σ.2.1 45)) 46 (σ.2.1 46)) 437 (σ.1 437)) 678 (σ.1 678)) 679 (σ.1 679)) 680 (σ.1 680)) 681 (σ.1 681))) (congrArg (cX g kk) (wrIi (S := (sI (sI (sI (sI (sF (sF (sF (sF (sF (sF (sF (sF σ 28 (σ.2.1 28)) 29 (σ.2.1 29)) 30 (σ.2.1 30)) 31 (σ.2.1 31)) 43 (σ.2.1 43)) 44 (σ.2.1 44)) 45 (σ.2.1 45)) 46 (σ.2.1 46)) 437 (σ.1 437)) 678 (σ.1 678)) 679 (σ.1 679)) 680 (σ.1 680))) (c := 681) (v := σ.1 681) (gtII (by decide) (gtII (by decide) (gtII (by decide) (gtII (by decide) (gtIF (gtIF (gtIF (gtIF (gtIF (gtIF (gtIF (gtIF rfl)))))))))))))) ?_
      refine j_w (cX g kk (sI (sI (sI (sI (sI (sI (sF (sF (sF (sF (sF (sF (sF (sF σ 28 (σ.2.1 28)) 29 (σ.2.1 29)) 30 (σ.2.1 30)) 31 (σ.2.1 31)) 43 (σ.2.1 43)) 44 (σ.2.1 44)) 45 (σ.2.1 45)) 46 (σ.2.1 46)) 437 (σ.1 437)) 678 (σ.1 678)) 679 (σ.1 679)) 680 (σ.1 680)) 681 (σ.1 681)) 682 (σ.1 682))) (congrArg (cX g kk) (wrIi (S := (sI (sI (sI (sI (sI (sF (sF (sF (sF (sF (sF (sF (sF σ 28 (σ.2.1 28)) 29 (σ.2.1 29)) 30 (σ.2.1 30)) 31 (σ.2.1 31)) 43 (σ.2.1 43)) 44 (σ.2.1 44)) 45 (σ.2.1 45)) 46 (σ.2.1 46)) 437 (σ.1 437)) 678 (σ.1 678)) 679 (σ.1 679)) 680 (σ.1 680)) 681 (σ.1 681))) (c := 682) (v := σ.1 682) (gtII (by decide) (gtII (by decide) (gtII (by decide) (gtII (by decide) (gtII (by decide) (gtIF (gtIF (gtIF (gtIF (gtIF (gtIF (gtIF (gtIF rfl))))))))))))))) ?_
      exact j_iret C E (sI (sI (sI (sI (sI (sI (sF (sF (sF (sF (sF (sF (sF (sF σ 28 (σ.2.1 28)) 29 (σ.2.1 29)) 30 (σ.2.1 30)) 31 (σ.2.1 31)) 43 (σ.2.1 43)) 44 (σ.2.1 44)) 45 (σ.2.1 45)) 46 (σ.2.1 46)) 437 (σ.1 437)) 678 (σ.1 678)) 679 (σ.1 679)) 680 (σ.1 680)) 681 (σ.1 681)) 682 (σ.1 682)) ⟨_, rfl, ⟨(σ.2.1 28), (σ.2.1 29), (σ.2.1 30), (σ.2.1 31), (σ.2.1 43), (σ.2.1 44), (σ.2.1 45), (σ.2.1 46), (σ.1 437), (σ.1 678), (σ.1 679), (σ.1 680), (σ.1 681), (σ.1 682), rfl, (flF_2 c1 (Or.inl c2)), (Or.inr ⟨rfl, rfl, rfl, rfl, rfl⟩)⟩⟩ rfl dX10_flow_46
    · replace c2 := bI_t c2
      obtain ⟨an, bn, cn, dn, hl1, hl2, hl3, hl4, rfl, rfl, rfl, rfl⟩ := ldB_nat c2
      refine j_iload C 6 rfl dX10_flow_22 ?_
      refine j_iconst C (nI 0) (by decide) dX10_flow_24 ?_
      refine j_bipush C (nI 100) (by decide) dX10_flow_25 ?_
      refine j_S01 C (c_isWithin y (nI 0) (nI 100)) kyX10_isWithin tb_467 tb_468 rfl (Nat.le_of_ble_eq_true rfl) ⟨by decide, by decide⟩ ⟨by decide, by decide⟩ dX10_flow_27 rfl ?_
      refine j_if_eq C 44 (by decide) dX10_flow_30 (fun c3 => ?_) (fun c3 => ?_)
      · replace c3 := bI_f c3
        refine j_ldc C tb_651 dX10_flow_44 ?_
        refine j_w (cX g kk (sF σ 28 (σ.2.1 28))) (congrArg (cX g kk) (wrFi (S := σ) (c := 28) (v := σ.2.1 28) rfl)) ?_
        refine j_w (cX g kk (sF (sF σ 28 (σ.2.1 28)) 29 (σ.2.1 29))) (congrArg (cX g kk) (wrFi (S := (sF σ 28 (σ.2.1 28))) (c := 29) (v := σ.2.1 29) (gtFF (by decide) rfl))) ?_
        refine j_w (cX g kk (sF (sF (sF σ 28 (σ.2.1 28)) 29 (σ.2.1 29)) 30 (σ.2.1 30))) (congrArg (cX g kk) (wrFi (S := (sF (sF σ 28 (σ.2.1 28)) 29 (σ.2.1 29))) (c := 30) (v := σ.2.1 30) (gtFF (by decide) (gtFF (by decide) rfl)))) ?_
        refine j_w (cX g kk (sF (sF (sF (sF σ 28 (σ.2.1 28)) 29 (σ.2.1 29)) 30 (σ.2.1 30)) 31 (σ.2.1 31))) (congrArg (cX g kk) (wrFi (S := (sF (sF (sF σ 28 (σ.2.1 28)) 29 (σ.2.1 29)) 30 (σ.2.1 30))) (c := 31) (v := σ.2.1 31) (gtFF (by decide) (gtFF (by decide) (gtFF (by decide) rfl))))) ?_
        refine j_w (cX g kk (sF (sF (sF (sF (sF σ 28 (σ.2.1 28)) 29 (σ.2.1 29)) 30 (σ.2.1 30)) 31 (σ.2.1 31)) 43 (σ.2.1 43))) (congrArg (cX g kk) (wrFi (S := (sF (sF (sF (sF σ 28 (σ.2.1 28)) 29 (σ.2.1 29)) 30 (σ.2.1 30)) 31 (σ.2.1 31))) (c := 43) (v := σ.2.1 43) (gtFF (by decide) (gtFF (by decide) (gtFF (by decide) (gtFF (by decide) rfl)))))) ?_
        refine j_w (cX g kk (sF (sF (sF (sF (sF (sF σ 28 (σ.2.1 28)) 29 (σ.2.1 29)) 30 (σ.2.1 30)) 31 (σ.2.1 31)) 43 (σ.2.1 43)) 44 (σ.2.1 44))) (congrArg (cX g kk) (wrFi (S := (sF (sF (sF (sF (sF σ 28 (σ.2.1 28)) 29 (σ.2.1 29)) 30 (σ.2.1 30)) 31 (σ.2.1 31)) 43 (σ.2.1 43))) (c := 44) (v := σ.2.1 44) (gtFF (by decide) (gtFF (by decide) (gtFF (by decide) (gtFF (by decide) (gtFF (by decide) rfl))))))) ?_
        refine j_w (cX g kk (sF (sF (sF (sF (sF (sF (sF σ 28 (σ.2.1 28)) 29 (σ.2.1 29)) 30 (σ.2.1 30)) 31 (σ.2.1 31)) 43 (σ.2.1 43)) 44 (σ.2.1 44)) 45 (σ.2.1 45))) (congrArg (cX g kk) (wrFi (S := (sF (sF (sF (sF (sF (sF σ 28 (σ.2.1 28)) 29 (σ.2.1 29)) 30 (σ.2.1 30)) 31 (σ.2.1 31)) 43 (σ.2.1 43)) 44 (σ.2.1 44))) (c := 45) (v := σ.2.1 45) (gtFF (by decide) (gtFF (by decide) (gtFF (by decide) (gtFF (by decide) (gtFF (by decide) (gtFF (by decide) rfl)))))))) ?_
        refine j_w (cX g kk (sF (sF (sF (sF (sF (sF (sF (sF σ 28 (σ.2.1 28)) 29 (σ.2.1 29)) 30 (σ.2.1 30)) 31 (σ.2.1 31)) 43 (σ.2.1 43)) 44 (σ.2.1 44)) 45 (σ.2.1 45)) 46 (σ.2.1 46))) (congrArg (cX g kk) (wrFi (S := (sF (sF (sF (sF (sF (sF (sF σ 28 (σ.2.1 28)) 29 (σ.2.1 29)) 30 (σ.2.1 30)) 31 (σ.2.1 31)) 43 (σ.2.1 43)) 44 (σ.2.1 44)) 45 (σ.2.1 45))) (c := 46) (v := σ.2.1 46) (gtFF (by decide) (gtFF (by decide) (gtFF (by decide) (gtFF (by decide) (gtFF (by decide) (gtFF (by decide) (gtFF (by decide) rfl))))))))) ?_
        refine j_w (cX g kk (sI (sF (sF (sF (sF (sF (sF (sF (sF σ 28 (σ.2.1 28)) 29 (σ.2.1 29)) 30 (σ.2.1 30)) 31 (σ.2.1 31)) 43 (σ.2.1 43)) 44 (σ.2.1 44)) 45 (σ.2.1 45)) 46 (σ.2.1 46)) 437 (σ.1 437))) (congrArg (cX g kk) (wrIi (S := (sF (sF (sF (sF (sF (sF (sF (sF σ 28 (σ.2.1 28)) 29 (σ.2.1 29)) 30 (σ.2.1 30)) 31 (σ.2.1 31)) 43 (σ.2.1 43)) 44 (σ.2.1 44)) 45 (σ.2.1 45)) 46 (σ.2.1 46))) (c := 437) (v := σ.1 437) (gtIF (gtIF (gtIF (gtIF (gtIF (gtIF (gtIF (gtIF rfl)))))))))) ?_
        refine j_w (cX g kk (sI (sI (sF (sF (sF (sF (sF (sF (sF (sF σ 28 (σ.2.1 28)) 29 (σ.2.1 29)) 30 (σ.2.1 30)) 31 (σ.2.1 31)) 43 (σ.2.1 43)) 44 (σ.2.1 44)) 45 (σ.2.1 45)) 46 (σ.2.1 46)) 437 (σ.1 437)) 678 (σ.1 678))) (congrArg (cX g kk) (wrIi (S := (sI (sF (sF (sF (sF (sF (sF (sF (sF σ 28 (σ.2.1 28)) 29 (σ.2.1 29)) 30 (σ.2.1 30)) 31 (σ.2.1 31)) 43 (σ.2.1 43)) 44 (σ.2.1 44)) 45 (σ.2.1 45)) 46 (σ.2.1 46)) 437 (σ.1 437))) (c := 678) (v := σ.1 678) (gtII (by decide) (gtIF (gtIF (gtIF (gtIF (gtIF (gtIF (gtIF (gtIF rfl))))))))))) ?_
        refine j_w (cX g kk (sI (sI (sI (sF (sF (sF (sF (sF (sF (sF (sF σ 28 (σ.2.1 28)) 29 (σ.2.1 29)) 30 (σ.2.1 30)) 31 (σ.2.1 31)) 43 (σ.2.1 43)) 44 (σ.2.1 44)) 45 (σ.2.1 45)) 46 (σ.2.1 46)) 437 (σ.1 437)) 678 (σ.1 678)) 679 (σ.1 679))) (congrArg (cX g kk) (wrIi (S := (sI (sI (sF (sF (sF (sF (sF (sF (sF (sF σ 28 (σ.2.1 28)) 29 (σ.2.1 29)) 30 (σ.2.1 30)) 31 (σ.2.1 31)) 43 (σ.2.1 43)) 44 (σ.2.1 44)) 45 (σ.2.1 45)) 46 (σ.2.1 46)) 437 (σ.1 437)) 678 (σ.1 678))) (c := 679) (v := σ.1 679) (gtII (by decide) (gtII (by decide) (gtIF (gtIF (gtIF (gtIF (gtIF (gtIF (gtIF (gtIF rfl)))))))))))) ?_
        refine j_w (cX g kk (sI (sI (sI (sI (sF (sF (sF (sF (sF (sF (sF (sF σ 28 (σ.2.1 28)) 29 (σ.2.1 29)) 30 (σ.2.1 30)) 31 (σ.2.1 31)) 43 (σ.2.1 43)) 44 (σ.2.1 44)) 45 (σ.2.1 45)) 46 (σ.2.1 46)) 437 (σ.1 437)) 678 (σ.1 678)) 679 (σ.1 679)) 680 (σ.1 680))) (congrArg (cX g kk) (wrIi (S := (sI (sI (sI (sF (sF (sF (sF (sF (sF (sF (sF σ 28 (σ.2.1 28)) 29 (σ.2.1 29)) 30 (σ.2.1 30)) 31 (σ.2.1 31)) 43 (σ.2.1 43)) 44 (σ.2.1 44)) 45 (σ.2.1 45)) 46 (σ.2.1 46)) 437 (σ.1 437)) 678 (σ.1 678)) 679 (σ.1 679))) (c := 680) (v := σ.1 680) (gtII (by decide) (gtII (by decide) (gtII (by decide) (gtIF (gtIF (gtIF (gtIF (gtIF (gtIF (gtIF (gtIF rfl))))))))))))) ?_
        refine j_w (cX g kk (sI (sI (sI (sI (sI (sF (sF (sF (sF (sF (sF (sF (sF σ 28 (σ.2.1 28)) 29 (σ.2.1 29)) 30 (σ.2.1 30)) 31 (σ.2.1 31)) 43 (σ.2.1 43)) 44 (σ.2.1 44)) 45 (σ.2.1 45)) 46 (σ.2.1 46)) 437 (σ.1 437)) 678 (σ.1 678)) 679 (σ.1 679)) 680 (σ.1 680)) 681 (σ.1 681))) (congrArg (cX g kk) (wrIi (S := (sI (sI (sI (sI (sF (sF (sF (sF (sF (sF (sF (sF σ 28 (σ.2.1 28)) 29 (σ.2.1 29)) 30 (σ.2.1 30)) 31 (σ.2.1 31)) 43 (σ.2.1 43)) 44 (σ.2.1 44)) 45 (σ.2.1 45)) 46 (σ.2.1 46)) 437 (σ.1 437)) 678 (σ.1 678)) 679 (σ.1 679)) 680 (σ.1 680))) (c := 681) (v := σ.1 681) (gtII (by decide) (gtII (by decide) (gtII (by decide) (gtII (by decide) (gtIF (gtIF (gtIF (gtIF (gtIF (gtIF (gtIF (gtIF rfl)))))))))))))) ?_
        refine j_w (cX g kk (sI (sI (sI (sI (sI (sI (sF (sF (sF (sF (sF (sF (sF (sF σ 28 (σ.2.1 28)) 29 (σ.2.1 29)) 30 (σ.2.1 30)) 31 (σ.2.1 31)) 43 (σ.2.1 43)) 44 (σ.2.1 44)) 45 (σ.2.1 45)) 46 (σ.2.1 46)) 437 (σ.1 437)) 678 (σ.1 678)) 679 (σ.1 679)) 680 (σ.1 680)) 681 (σ.1 681)) 682 (σ.1 682))) (congrArg (cX g kk) (wrIi (S := (sI (sI (sI (sI (sI (sF (sF (sF (sF (sF (sF (sF (sF σ 28 (σ.2.1 28)) 29 (σ.2.1 29)) 30 (σ.2.1 30)) 31 (σ.2.1 31)) 43 (σ.2.1 43)) 44 (σ.2.1 44)) 45 (σ.2.1 45)) 46 (σ.2.1 46)) 437 (σ.1 437)) 678 (σ.1 678)) 679 (σ.1 679)) 680 (σ.1 680)) 681 (σ.1 681))) (c := 682) (v := σ.1 682) (gtII (by decide) (gtII (by decide) (gtII (by decide) (gtII (by decide) (gtII (by decide) (gtIF (gtIF (gtIF (gtIF (gtIF (gtIF (gtIF (gtIF rfl))))))))))))))) ?_
        exact j_iret C E (sI (sI (sI (sI (sI (sI (sF (sF (sF (sF (sF (sF (sF (sF σ 28 (σ.2.1 28)) 29 (σ.2.1 29)) 30 (σ.2.1 30)) 31 (σ.2.1 31)) 43 (σ.2.1 43)) 44 (σ.2.1 44)) 45 (σ.2.1 45)) 46 (σ.2.1 46)) 437 (σ.1 437)) 678 (σ.1 678)) 679 (σ.1 679)) 680 (σ.1 680)) 681 (σ.1 681)) 682 (σ.1 682)) ⟨_, rfl, ⟨(σ.2.1 28), (σ.2.1 29), (σ.2.1 30), (σ.2.1 31), (σ.2.1 43), (σ.2.1 44), (σ.2.1 45), (σ.2.1 46), (σ.1 437), (σ.1 678), (σ.1 679), (σ.1 680), (σ.1 681), (σ.1 682), rfl, (flF_2 c1 (Or.inr (Or.inl c3))), (Or.inr ⟨rfl, rfl, rfl, rfl, rfl⟩)⟩⟩ rfl dX10_flow_46
      · replace c3 := bI_t c3
        obtain ⟨yn, yn1, yn2, rfl⟩ := wB_nat (by decide) (by decide) c3
        refine j_iload C 7 rfl dX10_flow_33 ?_
        refine j_iconst C (nI 0) (by decide) dX10_flow_35 ?_
        refine j_ldc (v := nI 9999999) C tb_745 dX10_flow_36 ?_
        refine j_S01 C (c_isWithin z (nI 0) (nI 9999999)) kyX10_isWithin tb_467 tb_468 rfl (Nat.le_of_ble_eq_true rfl) ⟨by decide, by decide⟩ ⟨by decide, by decide⟩ dX10_flow_38 rfl ?_
        refine j_if_ne C 47 (by decide) dX10_flow_41 (fun c4 => ?_) (fun c4 => ?_)
        · replace c4 := bI_t c4
          obtain ⟨zn, zn1, zn2, rfl⟩ := wB_nat (by decide) (by decide) c4
          refine j_aload_n C 0 rfl dX10_flow_47 ?_
          refine gX_0_2 C tb_430 dX10_flow_48 ?_
          refine j_V1 C (e_refresh g kk σ k hk hk6 hI G hX hst ) kyX7_refresh tb_562 tb_563 tb_564 27 rfl (eX_27 g kk _) rfl (Nat.le_of_ble_eq_true rfl) ⟨by decide, by decide⟩ dX10_flow_51 rfl (fun vr ur hp => ?_)
          obtain ⟨rfl, w5, w6, w7, w8, w9, hu, g10, g11⟩ := hp
          replace hu := hu.symm
          subst hu
          refine j_aload_n C 0 rfl dX10_flow_54 ?_
          refine gX_0_5 C tb_433 dX10_flow_55 ?_
          refine j_iload_n C 1 rfl dX10_flow_58 ?_
          refine j_V1 C (e_gather g kk (sI (sF (sF (sF (sF σ 28 w5) 29 w6) 30 w7) 31 w8) 437 w9) k hk hk6 hI G hX ra hra (by omega) Q hQ g11 xn (by first | assumption | omega)) kyX4_gather tb_712 tb_713 tb_714 42 rfl (eX_42 g kk _) rfl (Nat.le_of_ble_eq_true rfl) ⟨by decide, by decide⟩ dX10_flow_59 rfl (fun vr ur hp => ?_)
          obtain ⟨rfl, w12, w13, w14, w15, w16, hu, g17, g18⟩ := hp
          replace hu := hu.symm
          subst hu
          refine j_aload_n C 0 rfl dX10_flow_62 ?_
          refine gX_0_5 C tb_433 dX10_flow_63 ?_
          refine j_iload_n C 2 rfl dX10_flow_66 ?_
          refine j_iload_n C 3 rfl dX10_flow_67 ?_
          refine j_iload C 4 rfl dX10_flow_68 ?_
          refine j_iload C 5 rfl dX10_flow_70 ?_
          refine j_V1 C (e_sum g kk (sI (sF (sF (sF (sF (sI (sF (sF (sF (sF σ 28 w5) 29 w6) 30 w7) 31 w8) 437 w9) 43 w12) 44 w13) 45 w14) 46 w15) 678 (nI w16)) k hk hk6 hI G hX w16 rfl (by omega) _ g18 an bn (by first | assumption | omega) (by first | assumption | omega) cn dn (by first | assumption | omega) (by first | assumption | omega)) kyX4_sum tb_736 tb_737 tb_738 42 rfl (eX_42 g kk _) rfl (Nat.le_of_ble_eq_true rfl) ⟨by decide, by decide⟩ dX10_flow_72 rfl (fun vr ur hp => ?_)
          obtain ⟨r25, rfl, w19, w20, w21, w22, hu, g23, g24⟩ := hp
          replace hu := hu.symm
          subst hu
          rcases g23 with ⟨hr9, hs9⟩ | ⟨hr9, hs9⟩
          · subst hr9
            refine j_if_neN C 81 (by decide) (by omega) dX10_flow_75 (fun c26 => ?_) (fun c26 => ?_)
            · refine j_aload_n C 0 rfl dX10_flow_81 ?_
              refine gX_0_5 C tb_433 dX10_flow_82 ?_
              refine j_iload C 6 rfl dX10_flow_85 ?_
              refine j_iload C 7 rfl dX10_flow_87 ?_
              refine j_V1 C (e_beyond g kk (sI (sI (sI (sI (sI (sF (sF (sF (sF (sI (sF (sF (sF (sF σ 28 w5) 29 w6) 30 w7) 31 w8) 437 w9) 43 w12) 44 w13) 45 w14) 46 w15) 678 (nI w16)) 679 w19) 680 w20) 681 (nI w21)) 682 (nI w22)) k hk hk6 hI w21 rfl (by omega) w22 rfl (by omega) yn (by first | assumption | omega) zn (by first | assumption | omega)) kyX4_beyond tb_746 tb_747 tb_748 42 rfl (eX_42 g kk _) rfl (Nat.le_of_ble_eq_true rfl) ⟨by decide, by decide⟩ dX10_flow_89 rfl (fun vr ur hp => ?_)
              obtain ⟨r28, rfl, hu, g27⟩ := hp
              replace hu := hu.symm
              subst hu
              refine j_w (cX g kk (sI (sI (sI (sI (sI (sI (sF (sF (sF (sF (sF (sF (sF (sF σ 28 w5) 29 w6) 30 w7) 31 w8) 43 w12) 44 w13) 45 w14) 46 w15) 437 w9) 678 (nI w16)) 679 w19) 680 w20) 681 (nI w21)) 682 (nI w22))) (congrArg (cX g kk) (show sI (sI (sI (sI (sI (sF (sF (sF (sF (sI (sF (sF (sF (sF σ 28 w5) 29 w6) 30 w7) 31 w8) 437 w9) 43 w12) 44 w13) 45 w14) 46 w15) 678 (nI w16)) 679 w19) 680 w20) 681 (nI w21)) 682 (nI w22) = sI (sI (sI (sI (sI (sI (sF (sF (sF (sF (sF (sF (sF (sF σ 28 w5) 29 w6) 30 w7) 31 w8) 43 w12) 44 w13) 45 w14) 46 w15) 437 w9) 678 (nI w16)) 679 w19) 680 w20) 681 (nI w21)) 682 (nI w22) from (wrI (wrI (wrI (wrI (wrI (Eq.trans (wrF (Eq.trans (wrF (Eq.trans (wrF wrFI) wrFI)) wrFI)) wrFI)))))))) ?_
              exact j_iret C E (sI (sI (sI (sI (sI (sI (sF (sF (sF (sF (sF (sF (sF (sF σ 28 w5) 29 w6) 30 w7) 31 w8) 43 w12) 44 w13) 45 w14) 46 w15) 437 w9) 678 (nI w16)) 679 w19) 680 w20) 681 (nI w21)) 682 (nI w22)) ⟨_, rfl, ⟨w5, w6, w7, w8, w12, w13, w14, w15, w9, (nI w16), w19, w20, (nI w21), (nI w22), rfl, (flF_x c1 c2 c3 c4 (by omega) (by omega) (by omega) (by omega) (by omega) (by omega) (by omega) hs9 g27), (Or.inl ⟨g10, g11⟩)⟩⟩ rfl dX10_flow_92
            · exact absurd c26 (by decide)
          · subst hr9
            refine j_if_neN C 81 (by decide) (by omega) dX10_flow_75 (fun c29 => ?_) (fun c29 => ?_)
            · exact absurd c29 (by decide)
            · refine j_ldc C tb_669 dX10_flow_78 ?_
              refine j_w (cX g kk (sI (sI (sI (sI (sI (sI (sF (sF (sF (sF (sF (sF (sF (sF σ 28 w5) 29 w6) 30 w7) 31 w8) 43 w12) 44 w13) 45 w14) 46 w15) 437 w9) 678 (nI w16)) 679 w19) 680 w20) 681 (nI w21)) 682 (nI w22))) (congrArg (cX g kk) (show sI (sI (sI (sI (sI (sF (sF (sF (sF (sI (sF (sF (sF (sF σ 28 w5) 29 w6) 30 w7) 31 w8) 437 w9) 43 w12) 44 w13) 45 w14) 46 w15) 678 (nI w16)) 679 w19) 680 w20) 681 (nI w21)) 682 (nI w22) = sI (sI (sI (sI (sI (sI (sF (sF (sF (sF (sF (sF (sF (sF σ 28 w5) 29 w6) 30 w7) 31 w8) 43 w12) 44 w13) 45 w14) 46 w15) 437 w9) 678 (nI w16)) 679 w19) 680 w20) 681 (nI w21)) 682 (nI w22) from (wrI (wrI (wrI (wrI (wrI (Eq.trans (wrF (Eq.trans (wrF (Eq.trans (wrF wrFI) wrFI)) wrFI)) wrFI)))))))) ?_
              exact j_iret C E (sI (sI (sI (sI (sI (sI (sF (sF (sF (sF (sF (sF (sF (sF σ 28 w5) 29 w6) 30 w7) 31 w8) 43 w12) 44 w13) 45 w14) 46 w15) 437 w9) 678 (nI w16)) 679 w19) 680 w20) 681 (nI w21)) 682 (nI w22)) ⟨_, rfl, ⟨w5, w6, w7, w8, w12, w13, w14, w15, w9, (nI w16), w19, w20, (nI w21), (nI w22), rfl, (flF_5 c1 c2 c3 c4 (by omega) (by omega) (by omega) (by omega) (by omega) hs9), (Or.inl ⟨g10, g11⟩)⟩⟩ rfl dX10_flow_80
        · replace c4 := bI_f c4
          refine j_ldc C tb_651 dX10_flow_44 ?_
          refine j_w (cX g kk (sF σ 28 (σ.2.1 28))) (congrArg (cX g kk) (wrFi (S := σ) (c := 28) (v := σ.2.1 28) rfl)) ?_
          refine j_w (cX g kk (sF (sF σ 28 (σ.2.1 28)) 29 (σ.2.1 29))) (congrArg (cX g kk) (wrFi (S := (sF σ 28 (σ.2.1 28))) (c := 29) (v := σ.2.1 29) (gtFF (by decide) rfl))) ?_
          refine j_w (cX g kk (sF (sF (sF σ 28 (σ.2.1 28)) 29 (σ.2.1 29)) 30 (σ.2.1 30))) (congrArg (cX g kk) (wrFi (S := (sF (sF σ 28 (σ.2.1 28)) 29 (σ.2.1 29))) (c := 30) (v := σ.2.1 30) (gtFF (by decide) (gtFF (by decide) rfl)))) ?_
          refine j_w (cX g kk (sF (sF (sF (sF σ 28 (σ.2.1 28)) 29 (σ.2.1 29)) 30 (σ.2.1 30)) 31 (σ.2.1 31))) (congrArg (cX g kk) (wrFi (S := (sF (sF (sF σ 28 (σ.2.1 28)) 29 (σ.2.1 29)) 30 (σ.2.1 30))) (c := 31) (v := σ.2.1 31) (gtFF (by decide) (gtFF (by decide) (gtFF (by decide) rfl))))) ?_
          refine j_w (cX g kk (sF (sF (sF (sF (sF σ 28 (σ.2.1 28)) 29 (σ.2.1 29)) 30 (σ.2.1 30)) 31 (σ.2.1 31)) 43 (σ.2.1 43))) (congrArg (cX g kk) (wrFi (S := (sF (sF (sF (sF σ 28 (σ.2.1 28)) 29 (σ.2.1 29)) 30 (σ.2.1 30)) 31 (σ.2.1 31))) (c := 43) (v := σ.2.1 43) (gtFF (by decide) (gtFF (by decide) (gtFF (by decide) (gtFF (by decide) rfl)))))) ?_
          refine j_w (cX g kk (sF (sF (sF (sF (sF (sF σ 28 (σ.2.1 28)) 29 (σ.2.1 29)) 30 (σ.2.1 30)) 31 (σ.2.1 31)) 43 (σ.2.1 43)) 44 (σ.2.1 44))) (congrArg (cX g kk) (wrFi (S := (sF (sF (sF (sF (sF σ 28 (σ.2.1 28)) 29 (σ.2.1 29)) 30 (σ.2.1 30)) 31 (σ.2.1 31)) 43 (σ.2.1 43))) (c := 44) (v := σ.2.1 44) (gtFF (by decide) (gtFF (by decide) (gtFF (by decide) (gtFF (by decide) (gtFF (by decide) rfl))))))) ?_
          refine j_w (cX g kk (sF (sF (sF (sF (sF (sF (sF σ 28 (σ.2.1 28)) 29 (σ.2.1 29)) 30 (σ.2.1 30)) 31 (σ.2.1 31)) 43 (σ.2.1 43)) 44 (σ.2.1 44)) 45 (σ.2.1 45))) (congrArg (cX g kk) (wrFi (S := (sF (sF (sF (sF (sF (sF σ 28 (σ.2.1 28)) 29 (σ.2.1 29)) 30 (σ.2.1 30)) 31 (σ.2.1 31)) 43 (σ.2.1 43)) 44 (σ.2.1 44))) (c := 45) (v := σ.2.1 45) (gtFF (by decide) (gtFF (by decide) (gtFF (by decide) (gtFF (by decide) (gtFF (by decide) (gtFF (by decide) rfl)))))))) ?_
          refine j_w (cX g kk (sF (sF (sF (sF (sF (sF (sF (sF σ 28 (σ.2.1 28)) 29 (σ.2.1 29)) 30 (σ.2.1 30)) 31 (σ.2.1 31)) 43 (σ.2.1 43)) 44 (σ.2.1 44)) 45 (σ.2.1 45)) 46 (σ.2.1 46))) (congrArg (cX g kk) (wrFi (S := (sF (sF (sF (sF (sF (sF (sF σ 28 (σ.2.1 28)) 29 (σ.2.1 29)) 30 (σ.2.1 30)) 31 (σ.2.1 31)) 43 (σ.2.1 43)) 44 (σ.2.1 44)) 45 (σ.2.1 45))) (c := 46) (v := σ.2.1 46) (gtFF (by decide) (gtFF (by decide) (gtFF (by decide) (gtFF (by decide) (gtFF (by decide) (gtFF (by decide) (gtFF (by decide) rfl))))))))) ?_
          refine j_w (cX g kk (sI (sF (sF (sF (sF (sF (sF (sF (sF σ 28 (σ.2.1 28)) 29 (σ.2.1 29)) 30 (σ.2.1 30)) 31 (σ.2.1 31)) 43 (σ.2.1 43)) 44 (σ.2.1 44)) 45 (σ.2.1 45)) 46 (σ.2.1 46)) 437 (σ.1 437))) (congrArg (cX g kk) (wrIi (S := (sF (sF (sF (sF (sF (sF (sF (sF σ 28 (σ.2.1 28)) 29 (σ.2.1 29)) 30 (σ.2.1 30)) 31 (σ.2.1 31)) 43 (σ.2.1 43)) 44 (σ.2.1 44)) 45 (σ.2.1 45)) 46 (σ.2.1 46))) (c := 437) (v := σ.1 437) (gtIF (gtIF (gtIF (gtIF (gtIF (gtIF (gtIF (gtIF rfl)))))))))) ?_
          refine j_w (cX g kk (sI (sI (sF (sF (sF (sF (sF (sF (sF (sF σ 28 (σ.2.1 28)) 29 (σ.2.1 29)) 30 (σ.2.1 30)) 31 (σ.2.1 31)) 43 (σ.2.1 43)) 44 (σ.2.1 44)) 45 (σ.2.1 45)) 46 (σ.2.1 46)) 437 (σ.1 437)) 678 (σ.1 678))) (congrArg (cX g kk) (wrIi (S := (sI (sF (sF (sF (sF (sF (sF (sF (sF σ 28 (σ.2.1 28)) 29 (σ.2.1 29)) 30 (σ.2.1 30)) 31 (σ.2.1 31)) 43 (σ.2.1 43)) 44 (σ.2.1 44)) 45 (σ.2.1 45)) 46 (σ.2.1 46)) 437 (σ.1 437))) (c := 678) (v := σ.1 678) (gtII (by decide) (gtIF (gtIF (gtIF (gtIF (gtIF (gtIF (gtIF (gtIF rfl))))))))))) ?_
          refine j_w (cX g kk (sI (sI (sI (sF (sF (sF (sF (sF (sF (sF (sF σ 28 (σ.2.1 28)) 29 (σ.2.1 29)) 30 (σ.2.1 30)) 31 (σ.2.1 31)) 43 (σ.2.1 43)) 44 (σ.2.1 44)) 45 (σ.2.1 45)) 46 (σ.2.1 46)) 437 (σ.1 437)) 678 (σ.1 678)) 679 (σ.1 679))) (congrArg (cX g kk) (wrIi (S := (sI (sI (sF (sF (sF (sF (sF (sF (sF (sF σ 28 (σ.2.1 28)) 29 (σ.2.1 29)) 30 (σ.2.1 30)) 31 (σ.2.1 31)) 43 (σ.2.1 43)) 44 (σ.2.1 44)) 45 (σ.2.1 45)) 46 (σ.2.1 46)) 437 (σ.1 437)) 678 (σ.1 678))) (c := 679) (v := σ.1 679) (gtII (by decide) (gtII (by decide) (gtIF (gtIF (gtIF (gtIF (gtIF (gtIF (gtIF (gtIF rfl)))))))))))) ?_
          refine j_w (cX g kk (sI (sI (sI (sI (sF (sF (sF (sF (sF (sF (sF (sF σ 28 (σ.2.1 28)) 29 (σ.2.1 29)) 30 (σ.2.1 30)) 31 (σ.2.1 31)) 43 (σ.2.1 43)) 44 (σ.2.1 44)) 45 (σ.2.1 45)) 46 (σ.2.1 46)) 437 (σ.1 437)) 678 (σ.1 678)) 679 (σ.1 679)) 680 (σ.1 680))) (congrArg (cX g kk) (wrIi (S := (sI (sI (sI (sF (sF (sF (sF (sF (sF (sF (sF σ 28 (σ.2.1 28)) 29 (σ.2.1 29)) 30 (σ.2.1 30)) 31 (σ.2.1 31)) 43 (σ.2.1 43)) 44 (σ.2.1 44)) 45 (σ.2.1 45)) 46 (σ.2.1 46)) 437 (σ.1 437)) 678 (σ.1 678)) 679 (σ.1 679))) (c := 680) (v := σ.1 680) (gtII (by decide) (gtII (by decide) (gtII (by decide) (gtIF (gtIF (gtIF (gtIF (gtIF (gtIF (gtIF (gtIF rfl))))))))))))) ?_
          refine j_w (cX g kk (sI (sI (sI (sI (sI (sF (sF (sF (sF (sF (sF (sF (sF σ 28 (σ.2.1 28)) 29 (σ.2.1 29)) 30 (σ.2.1 30)) 31 (σ.2.1 31)) 43 (σ.2.1 43)) 44 (σ.2.1 44)) 45 (σ.2.1 45)) 46 (σ.2.1 46)) 437 (σ.1 437)) 678 (σ.1 678)) 679 (σ.1 679)) 680 (σ.1 680)) 681 (σ.1 681))) (congrArg (cX g kk) (wrIi (S := (sI (sI (sI (sI (sF (sF (sF (sF (sF (sF (sF (sF σ 28 (σ.2.1 28)) 29 (σ.2.1 29)) 30 (σ.2.1 30)) 31 (σ.2.1 31)) 43 (σ.2.1 43)) 44 (σ.2.1 44)) 45 (σ.2.1 45)) 46 (σ.2.1 46)) 437 (σ.1 437)) 678 (σ.1 678)) 679 (σ.1 679)) 680 (σ.1 680))) (c := 681) (v := σ.1 681) (gtII (by decide) (gtII (by decide) (gtII (by decide) (gtII (by decide) (gtIF (gtIF (gtIF (gtIF (gtIF (gtIF (gtIF (gtIF rfl)))))))))))))) ?_
          refine j_w (cX g kk (sI (sI (sI (sI (sI (sI (sF (sF (sF (sF (sF (sF (sF (sF σ 28 (σ.2.1 28)) 29 (σ.2.1 29)) 30 (σ.2.1 30)) 31 (σ.2.1 31)) 43 (σ.2.1 43)) 44 (σ.2.1 44)) 45 (σ.2.1 45)) 46 (σ.2.1 46)) 437 (σ.1 437)) 678 (σ.1 678)) 679 (σ.1 679)) 680 (σ.1 680)) 681 (σ.1 681)) 682 (σ.1 682))) (congrArg (cX g kk) (wrIi (S := (sI (sI (sI (sI (sI (sF (sF (sF (sF (sF (sF (sF (sF σ 28 (σ.2.1 28)) 29 (σ.2.1 29)) 30 (σ.2.1 30)) 31 (σ.2.1 31)) 43 (σ.2.1 43)) 44 (σ.2.1 44)) 45 (σ.2.1 45)) 46 (σ.2.1 46)) 437 (σ.1 437)) 678 (σ.1 678)) 679 (σ.1 679)) 680 (σ.1 680)) 681 (σ.1 681))) (c := 682) (v := σ.1 682) (gtII (by decide) (gtII (by decide) (gtII (by decide) (gtII (by decide) (gtII (by decide) (gtIF (gtIF (gtIF (gtIF (gtIF (gtIF (gtIF (gtIF rfl))))))))))))))) ?_
          exact j_iret C E (sI (sI (sI (sI (sI (sI (sF (sF (sF (sF (sF (sF (sF (sF σ 28 (σ.2.1 28)) 29 (σ.2.1 29)) 30 (σ.2.1 30)) 31 (σ.2.1 31)) 43 (σ.2.1 43)) 44 (σ.2.1 44)) 45 (σ.2.1 45)) 46 (σ.2.1 46)) 437 (σ.1 437)) 678 (σ.1 678)) 679 (σ.1 679)) 680 (σ.1 680)) 681 (σ.1 681)) 682 (σ.1 682)) ⟨_, rfl, ⟨(σ.2.1 28), (σ.2.1 29), (σ.2.1 30), (σ.2.1 31), (σ.2.1 43), (σ.2.1 44), (σ.2.1 45), (σ.2.1 46), (σ.1 437), (σ.1 678), (σ.1 679), (σ.1 680), (σ.1 681), (σ.1 682), rfl, (flF_2 c1 (Or.inr (Or.inr c4))), (Or.inr ⟨rfl, rfl, rfl, rfl, rfl⟩)⟩⟩ rfl dX10_flow_46
  · replace c1 := bI_f c1
    refine j_ldc C tb_650 dX10_flow_7 ?_
    refine j_w (cX g kk (sF σ 28 (σ.2.1 28))) (congrArg (cX g kk) (wrFi (S := σ) (c := 28) (v := σ.2.1 28) rfl)) ?_
    refine j_w (cX g kk (sF (sF σ 28 (σ.2.1 28)) 29 (σ.2.1 29))) (congrArg (cX g kk) (wrFi (S := (sF σ 28 (σ.2.1 28))) (c := 29) (v := σ.2.1 29) (gtFF (by decide) rfl))) ?_
    refine j_w (cX g kk (sF (sF (sF σ 28 (σ.2.1 28)) 29 (σ.2.1 29)) 30 (σ.2.1 30))) (congrArg (cX g kk) (wrFi (S := (sF (sF σ 28 (σ.2.1 28)) 29 (σ.2.1 29))) (c := 30) (v := σ.2.1 30) (gtFF (by decide) (gtFF (by decide) rfl)))) ?_
    refine j_w (cX g kk (sF (sF (sF (sF σ 28 (σ.2.1 28)) 29 (σ.2.1 29)) 30 (σ.2.1 30)) 31 (σ.2.1 31))) (congrArg (cX g kk) (wrFi (S := (sF (sF (sF σ 28 (σ.2.1 28)) 29 (σ.2.1 29)) 30 (σ.2.1 30))) (c := 31) (v := σ.2.1 31) (gtFF (by decide) (gtFF (by decide) (gtFF (by decide) rfl))))) ?_
    refine j_w (cX g kk (sF (sF (sF (sF (sF σ 28 (σ.2.1 28)) 29 (σ.2.1 29)) 30 (σ.2.1 30)) 31 (σ.2.1 31)) 43 (σ.2.1 43))) (congrArg (cX g kk) (wrFi (S := (sF (sF (sF (sF σ 28 (σ.2.1 28)) 29 (σ.2.1 29)) 30 (σ.2.1 30)) 31 (σ.2.1 31))) (c := 43) (v := σ.2.1 43) (gtFF (by decide) (gtFF (by decide) (gtFF (by decide) (gtFF (by decide) rfl)))))) ?_
    refine j_w (cX g kk (sF (sF (sF (sF (sF (sF σ 28 (σ.2.1 28)) 29 (σ.2.1 29)) 30 (σ.2.1 30)) 31 (σ.2.1 31)) 43 (σ.2.1 43)) 44 (σ.2.1 44))) (congrArg (cX g kk) (wrFi (S := (sF (sF (sF (sF (sF σ 28 (σ.2.1 28)) 29 (σ.2.1 29)) 30 (σ.2.1 30)) 31 (σ.2.1 31)) 43 (σ.2.1 43))) (c := 44) (v := σ.2.1 44) (gtFF (by decide) (gtFF (by decide) (gtFF (by decide) (gtFF (by decide) (gtFF (by decide) rfl))))))) ?_
    refine j_w (cX g kk (sF (sF (sF (sF (sF (sF (sF σ 28 (σ.2.1 28)) 29 (σ.2.1 29)) 30 (σ.2.1 30)) 31 (σ.2.1 31)) 43 (σ.2.1 43)) 44 (σ.2.1 44)) 45 (σ.2.1 45))) (congrArg (cX g kk) (wrFi (S := (sF (sF (sF (sF (sF (sF σ 28 (σ.2.1 28)) 29 (σ.2.1 29)) 30 (σ.2.1 30)) 31 (σ.2.1 31)) 43 (σ.2.1 43)) 44 (σ.2.1 44))) (c := 45) (v := σ.2.1 45) (gtFF (by decide) (gtFF (by decide) (gtFF (by decide) (gtFF (by decide) (gtFF (by decide) (gtFF (by decide) rfl)))))))) ?_
    refine j_w (cX g kk (sF (sF (sF (sF (sF (sF (sF (sF σ 28 (σ.2.1 28)) 29 (σ.2.1 29)) 30 (σ.2.1 30)) 31 (σ.2.1 31)) 43 (σ.2.1 43)) 44 (σ.2.1 44)) 45 (σ.2.1 45)) 46 (σ.2.1 46))) (congrArg (cX g kk) (wrFi (S := (sF (sF (sF (sF (sF (sF (sF σ 28 (σ.2.1 28)) 29 (σ.2.1 29)) 30 (σ.2.1 30)) 31 (σ.2.1 31)) 43 (σ.2.1 43)) 44 (σ.2.1 44)) 45 (σ.2.1 45))) (c := 46) (v := σ.2.1 46) (gtFF (by decide) (gtFF (by decide) (gtFF (by decide) (gtFF (by decide) (gtFF (by decide) (gtFF (by decide) (gtFF (by decide) rfl))))))))) ?_
    refine j_w (cX g kk (sI (sF (sF (sF (sF (sF (sF (sF (sF σ 28 (σ.2.1 28)) 29 (σ.2.1 29)) 30 (σ.2.1 30)) 31 (σ.2.1 31)) 43 (σ.2.1 43)) 44 (σ.2.1 44)) 45 (σ.2.1 45)) 46 (σ.2.1 46)) 437 (σ.1 437))) (congrArg (cX g kk) (wrIi (S := (sF (sF (sF (sF (sF (sF (sF (sF σ 28 (σ.2.1 28)) 29 (σ.2.1 29)) 30 (σ.2.1 30)) 31 (σ.2.1 31)) 43 (σ.2.1 43)) 44 (σ.2.1 44)) 45 (σ.2.1 45)) 46 (σ.2.1 46))) (c := 437) (v := σ.1 437) (gtIF (gtIF (gtIF (gtIF (gtIF (gtIF (gtIF (gtIF rfl)))))))))) ?_
    refine j_w (cX g kk (sI (sI (sF (sF (sF (sF (sF (sF (sF (sF σ 28 (σ.2.1 28)) 29 (σ.2.1 29)) 30 (σ.2.1 30)) 31 (σ.2.1 31)) 43 (σ.2.1 43)) 44 (σ.2.1 44)) 45 (σ.2.1 45)) 46 (σ.2.1 46)) 437 (σ.1 437)) 678 (σ.1 678))) (congrArg (cX g kk) (wrIi (S := (sI (sF (sF (sF (sF (sF (sF (sF (sF σ 28 (σ.2.1 28)) 29 (σ.2.1 29)) 30 (σ.2.1 30)) 31 (σ.2.1 31)) 43 (σ.2.1 43)) 44 (σ.2.1 44)) 45 (σ.2.1 45)) 46 (σ.2.1 46)) 437 (σ.1 437))) (c := 678) (v := σ.1 678) (gtII (by decide) (gtIF (gtIF (gtIF (gtIF (gtIF (gtIF (gtIF (gtIF rfl))))))))))) ?_
    refine j_w (cX g kk (sI (sI (sI (sF (sF (sF (sF (sF (sF (sF (sF σ 28 (σ.2.1 28)) 29 (σ.2.1 29)) 30 (σ.2.1 30)) 31 (σ.2.1 31)) 43 (σ.2.1 43)) 44 (σ.2.1 44)) 45 (σ.2.1 45)) 46 (σ.2.1 46)) 437 (σ.1 437)) 678 (σ.1 678)) 679 (σ.1 679))) (congrArg (cX g kk) (wrIi (S := (sI (sI (sF (sF (sF (sF (sF (sF (sF (sF σ 28 (σ.2.1 28)) 29 (σ.2.1 29)) 30 (σ.2.1 30)) 31 (σ.2.1 31)) 43 (σ.2.1 43)) 44 (σ.2.1 44)) 45 (σ.2.1 45)) 46 (σ.2.1 46)) 437 (σ.1 437)) 678 (σ.1 678))) (c := 679) (v := σ.1 679) (gtII (by decide) (gtII (by decide) (gtIF (gtIF (gtIF (gtIF (gtIF (gtIF (gtIF (gtIF rfl)))))))))))) ?_
    refine j_w (cX g kk (sI (sI (sI (sI (sF (sF (sF (sF (sF (sF (sF (sF σ 28 (σ.2.1 28)) 29 (σ.2.1 29)) 30 (σ.2.1 30)) 31 (σ.2.1 31)) 43 (σ.2.1 43)) 44 (σ.2.1 44)) 45 (σ.2.1 45)) 46 (σ.2.1 46)) 437 (σ.1 437)) 678 (σ.1 678)) 679 (σ.1 679)) 680 (σ.1 680))) (congrArg (cX g kk) (wrIi (S := (sI (sI (sI (sF (sF (sF (sF (sF (sF (sF (sF σ 28 (σ.2.1 28)) 29 (σ.2.1 29)) 30 (σ.2.1 30)) 31 (σ.2.1 31)) 43 (σ.2.1 43)) 44 (σ.2.1 44)) 45 (σ.2.1 45)) 46 (σ.2.1 46)) 437 (σ.1 437)) 678 (σ.1 678)) 679 (σ.1 679))) (c := 680) (v := σ.1 680) (gtII (by decide) (gtII (by decide) (gtII (by decide) (gtIF (gtIF (gtIF (gtIF (gtIF (gtIF (gtIF (gtIF rfl))))))))))))) ?_
    refine j_w (cX g kk (sI (sI (sI (sI (sI (sF (sF (sF (sF (sF (sF (sF (sF σ 28 (σ.2.1 28)) 29 (σ.2.1 29)) 30 (σ.2.1 30)) 31 (σ.2.1 31)) 43 (σ.2.1 43)) 44 (σ.2.1 44)) 45 (σ.2.1 45)) 46 (σ.2.1 46)) 437 (σ.1 437)) 678 (σ.1 678)) 679 (σ.1 679)) 680 (σ.1 680)) 681 (σ.1 681))) (congrArg (cX g kk) (wrIi (S := (sI (sI (sI (sI (sF (sF (sF (sF (sF (sF (sF (sF σ 28 (σ.2.1 28)) 29 (σ.2.1 29)) 30 (σ.2.1 30)) 31 (σ.2.1 31)) 43 (σ.2.1 43)) 44 (σ.2.1 44)) 45 (σ.2.1 45)) 46 (σ.2.1 46)) 437 (σ.1 437)) 678 (σ.1 678)) 679 (σ.1 679)) 680 (σ.1 680))) (c := 681) (v := σ.1 681) (gtII (by decide) (gtII (by decide) (gtII (by decide) (gtII (by decide) (gtIF (gtIF (gtIF (gtIF (gtIF (gtIF (gtIF (gtIF rfl)))))))))))))) ?_
    refine j_w (cX g kk (sI (sI (sI (sI (sI (sI (sF (sF (sF (sF (sF (sF (sF (sF σ 28 (σ.2.1 28)) 29 (σ.2.1 29)) 30 (σ.2.1 30)) 31 (σ.2.1 31)) 43 (σ.2.1 43)) 44 (σ.2.1 44)) 45 (σ.2.1 45)) 46 (σ.2.1 46)) 437 (σ.1 437)) 678 (σ.1 678)) 679 (σ.1 679)) 680 (σ.1 680)) 681 (σ.1 681)) 682 (σ.1 682))) (congrArg (cX g kk) (wrIi (S := (sI (sI (sI (sI (sI (sF (sF (sF (sF (sF (sF (sF (sF σ 28 (σ.2.1 28)) 29 (σ.2.1 29)) 30 (σ.2.1 30)) 31 (σ.2.1 31)) 43 (σ.2.1 43)) 44 (σ.2.1 44)) 45 (σ.2.1 45)) 46 (σ.2.1 46)) 437 (σ.1 437)) 678 (σ.1 678)) 679 (σ.1 679)) 680 (σ.1 680)) 681 (σ.1 681))) (c := 682) (v := σ.1 682) (gtII (by decide) (gtII (by decide) (gtII (by decide) (gtII (by decide) (gtII (by decide) (gtIF (gtIF (gtIF (gtIF (gtIF (gtIF (gtIF (gtIF rfl))))))))))))))) ?_
    exact j_iret C E (sI (sI (sI (sI (sI (sI (sF (sF (sF (sF (sF (sF (sF (sF σ 28 (σ.2.1 28)) 29 (σ.2.1 29)) 30 (σ.2.1 30)) 31 (σ.2.1 31)) 43 (σ.2.1 43)) 44 (σ.2.1 44)) 45 (σ.2.1 45)) 46 (σ.2.1 46)) 437 (σ.1 437)) 678 (σ.1 678)) 679 (σ.1 679)) 680 (σ.1 680)) 681 (σ.1 681)) 682 (σ.1 682)) ⟨_, rfl, ⟨(σ.2.1 28), (σ.2.1 29), (σ.2.1 30), (σ.2.1 31), (σ.2.1 43), (σ.2.1 44), (σ.2.1 45), (σ.2.1 46), (σ.1 437), (σ.1 678), (σ.1 679), (σ.1 680), (σ.1 681), (σ.1 682), rfl, (flF_1 c1), (Or.inr ⟨rfl, rfl, rfl, rfl, rfl⟩)⟩⟩ rfl dX10_flow_9
set_option maxRecDepth 100000 in
set_option maxHeartbeats 4000000 in
theorem e_fill (g kk : Nat → Nat) (σ : St) (k : Nat) (hk : σ.1 16 = nI k) (hk6 : k ≤ 6) (hI : iX σ) (G : GD) (hX : HX G k σ) (ra : Nat) (hra : σ.1 256 = nI ra) (hrab : ra ≤ 6) (Q : RQ) (hQ : HQ Q ra σ) (hst : σ.1 437 = 0 → CXf G k (σ.2.1 28) (σ.2.1 29) (σ.2.1 30) (σ.2.1 31)) (x : Int32) (y : Int32) (z : Int32) : jM (S := St) yX10_fill cX10_fill 4 (some .int) { frames := 5, cells := 0, slots := 0, locals := 115 } kk (cX g kk σ) [.ref (g 0), .int x, .int y, .int z] (cX g kk) (rI (fun (r : Int32) (u : St) => ∃ (pF28 : Nat → Int32) (pF29 : Nat → Int32) (pF30 : Nat → Int32) (pF31 : Nat → Int32) (pF43 : Nat → Int32) (pF44 : Nat → Int32) (pF45 : Nat → Int32) (pF46 : Nat → Int32) (pI437 : Int32) (pI678 : Int32) (pI679 : Int32) (pI680 : Int32), u = sI (sI (sI (sI (sF (sF (sF (sF (sF (sF (sF (sF σ 28 pF28) 29 pF29) 30 pF30) 31 pF31) 43 pF43) 44 pF44) 45 pF45) 46 pF46) 437 pI437) 678 pI678) 679 pI679) 680 pI680 ∧ (r = fiF (vaV G k) (zX G) (zY G) (fun d x y => bdR G k Q d x y ra) k x y z) ∧ ((pI437 = nI 0 ∧ CXf G k pF28 pF29 pF30 pF31) ∨ (pI437 = σ.1 437 ∧ pF28 = σ.2.1 28 ∧ pF29 = σ.2.1 29 ∧ pF30 = σ.2.1 30 ∧ pF31 = σ.2.1 31)))) := by
  refine j_entry [(0, .ref (g 0)), (1, .int x), (2, .int y), (3, .int z)] (by decide) (Nat.le_of_ble_eq_true rfl) rfl ?_
  intro X C E HI
  refine j_aload_n C 0 rfl dX10_fill_0 ?_
  refine j_iload_n C 1 rfl dX10_fill_1 ?_
  refine j_V1 C (c_isCan g kk σ k hk hk6 x) kyX10_isCan tb_478 tb_480 sp_0 0 rfl (eX_0 g kk _) rfl (Nat.le_of_ble_eq_true rfl) ⟨by decide, by decide⟩ dX10_fill_2 rfl (fun vr ur hp => ?_)
  obtain ⟨r, rfl, rfl, hu⟩ := hp
  replace hu := hu.symm
  subst hu
  refine j_if_eq C 15 (by decide) dX10_fill_5 (fun c1 => ?_) (fun c1 => ?_)
  · replace c1 := bI_f c1
    refine j_iconst C ((-1)) (by decide) dX10_fill_15 ?_
    refine j_w (cX g kk (sF σ 28 (σ.2.1 28))) (congrArg (cX g kk) (wrFi (S := σ) (c := 28) (v := σ.2.1 28) rfl)) ?_
    refine j_w (cX g kk (sF (sF σ 28 (σ.2.1 28)) 29 (σ.2.1 29))) (congrArg (cX g kk) (wrFi (S := (sF σ 28 (σ.2.1 28))) (c := 29) (v := σ.2.1 29) (gtFF (by decide) rfl))) ?_
    refine j_w (cX g kk (sF (sF (sF σ 28 (σ.2.1 28)) 29 (σ.2.1 29)) 30 (σ.2.1 30))) (congrArg (cX g kk) (wrFi (S := (sF (sF σ 28 (σ.2.1 28)) 29 (σ.2.1 29))) (c := 30) (v := σ.2.1 30) (gtFF (by decide) (gtFF (by decide) rfl)))) ?_
    refine j_w (cX g kk (sF (sF (sF (sF σ 28 (σ.2.1 28)) 29 (σ.2.1 29)) 30 (σ.2.1 30)) 31 (σ.2.1 31))) (congrArg (cX g kk) (wrFi (S := (sF (sF (sF σ 28 (σ.2.1 28)) 29 (σ.2.1 29)) 30 (σ.2.1 30))) (c := 31) (v := σ.2.1 31) (gtFF (by decide) (gtFF (by decide) (gtFF (by decide) rfl))))) ?_
    refine j_w (cX g kk (sF (sF (sF (sF (sF σ 28 (σ.2.1 28)) 29 (σ.2.1 29)) 30 (σ.2.1 30)) 31 (σ.2.1 31)) 43 (σ.2.1 43))) (congrArg (cX g kk) (wrFi (S := (sF (sF (sF (sF σ 28 (σ.2.1 28)) 29 (σ.2.1 29)) 30 (σ.2.1 30)) 31 (σ.2.1 31))) (c := 43) (v := σ.2.1 43) (gtFF (by decide) (gtFF (by decide) (gtFF (by decide) (gtFF (by decide) rfl)))))) ?_
    refine j_w (cX g kk (sF (sF (sF (sF (sF (sF σ 28 (σ.2.1 28)) 29 (σ.2.1 29)) 30 (σ.2.1 30)) 31 (σ.2.1 31)) 43 (σ.2.1 43)) 44 (σ.2.1 44))) (congrArg (cX g kk) (wrFi (S := (sF (sF (sF (sF (sF σ 28 (σ.2.1 28)) 29 (σ.2.1 29)) 30 (σ.2.1 30)) 31 (σ.2.1 31)) 43 (σ.2.1 43))) (c := 44) (v := σ.2.1 44) (gtFF (by decide) (gtFF (by decide) (gtFF (by decide) (gtFF (by decide) (gtFF (by decide) rfl))))))) ?_
    refine j_w (cX g kk (sF (sF (sF (sF (sF (sF (sF σ 28 (σ.2.1 28)) 29 (σ.2.1 29)) 30 (σ.2.1 30)) 31 (σ.2.1 31)) 43 (σ.2.1 43)) 44 (σ.2.1 44)) 45 (σ.2.1 45))) (congrArg (cX g kk) (wrFi (S := (sF (sF (sF (sF (sF (sF σ 28 (σ.2.1 28)) 29 (σ.2.1 29)) 30 (σ.2.1 30)) 31 (σ.2.1 31)) 43 (σ.2.1 43)) 44 (σ.2.1 44))) (c := 45) (v := σ.2.1 45) (gtFF (by decide) (gtFF (by decide) (gtFF (by decide) (gtFF (by decide) (gtFF (by decide) (gtFF (by decide) rfl)))))))) ?_
    refine j_w (cX g kk (sF (sF (sF (sF (sF (sF (sF (sF σ 28 (σ.2.1 28)) 29 (σ.2.1 29)) 30 (σ.2.1 30)) 31 (σ.2.1 31)) 43 (σ.2.1 43)) 44 (σ.2.1 44)) 45 (σ.2.1 45)) 46 (σ.2.1 46))) (congrArg (cX g kk) (wrFi (S := (sF (sF (sF (sF (sF (sF (sF σ 28 (σ.2.1 28)) 29 (σ.2.1 29)) 30 (σ.2.1 30)) 31 (σ.2.1 31)) 43 (σ.2.1 43)) 44 (σ.2.1 44)) 45 (σ.2.1 45))) (c := 46) (v := σ.2.1 46) (gtFF (by decide) (gtFF (by decide) (gtFF (by decide) (gtFF (by decide) (gtFF (by decide) (gtFF (by decide) (gtFF (by decide) rfl))))))))) ?_
    refine j_w (cX g kk (sI (sF (sF (sF (sF (sF (sF (sF (sF σ 28 (σ.2.1 28)) 29 (σ.2.1 29)) 30 (σ.2.1 30)) 31 (σ.2.1 31)) 43 (σ.2.1 43)) 44 (σ.2.1 44)) 45 (σ.2.1 45)) 46 (σ.2.1 46)) 437 (σ.1 437))) (congrArg (cX g kk) (wrIi (S := (sF (sF (sF (sF (sF (sF (sF (sF σ 28 (σ.2.1 28)) 29 (σ.2.1 29)) 30 (σ.2.1 30)) 31 (σ.2.1 31)) 43 (σ.2.1 43)) 44 (σ.2.1 44)) 45 (σ.2.1 45)) 46 (σ.2.1 46))) (c := 437) (v := σ.1 437) (gtIF (gtIF (gtIF (gtIF (gtIF (gtIF (gtIF (gtIF rfl)))))))))) ?_
    refine j_w (cX g kk (sI (sI (sF (sF (sF (sF (sF (sF (sF (sF σ 28 (σ.2.1 28)) 29 (σ.2.1 29)) 30 (σ.2.1 30)) 31 (σ.2.1 31)) 43 (σ.2.1 43)) 44 (σ.2.1 44)) 45 (σ.2.1 45)) 46 (σ.2.1 46)) 437 (σ.1 437)) 678 (σ.1 678))) (congrArg (cX g kk) (wrIi (S := (sI (sF (sF (sF (sF (sF (sF (sF (sF σ 28 (σ.2.1 28)) 29 (σ.2.1 29)) 30 (σ.2.1 30)) 31 (σ.2.1 31)) 43 (σ.2.1 43)) 44 (σ.2.1 44)) 45 (σ.2.1 45)) 46 (σ.2.1 46)) 437 (σ.1 437))) (c := 678) (v := σ.1 678) (gtII (by decide) (gtIF (gtIF (gtIF (gtIF (gtIF (gtIF (gtIF (gtIF rfl))))))))))) ?_
    refine j_w (cX g kk (sI (sI (sI (sF (sF (sF (sF (sF (sF (sF (sF σ 28 (σ.2.1 28)) 29 (σ.2.1 29)) 30 (σ.2.1 30)) 31 (σ.2.1 31)) 43 (σ.2.1 43)) 44 (σ.2.1 44)) 45 (σ.2.1 45)) 46 (σ.2.1 46)) 437 (σ.1 437)) 678 (σ.1 678)) 679 (σ.1 679))) (congrArg (cX g kk) (wrIi (S := (sI (sI (sF (sF (sF (sF (sF (sF (sF (sF σ 28 (σ.2.1 28)) 29 (σ.2.1 29)) 30 (σ.2.1 30)) 31 (σ.2.1 31)) 43 (σ.2.1 43)) 44 (σ.2.1 44)) 45 (σ.2.1 45)) 46 (σ.2.1 46)) 437 (σ.1 437)) 678 (σ.1 678))) (c := 679) (v := σ.1 679) (gtII (by decide) (gtII (by decide) (gtIF (gtIF (gtIF (gtIF (gtIF (gtIF (gtIF (gtIF rfl)))))))))))) ?_
    refine j_w (cX g kk (sI (sI (sI (sI (sF (sF (sF (sF (sF (sF (sF (sF σ 28 (σ.2.1 28)) 29 (σ.2.1 29)) 30 (σ.2.1 30)) 31 (σ.2.1 31)) 43 (σ.2.1 43)) 44 (σ.2.1 44)) 45 (σ.2.1 45)) 46 (σ.2.1 46)) 437 (σ.1 437)) 678 (σ.1 678)) 679 (σ.1 679)) 680 (σ.1 680))) (congrArg (cX g kk) (wrIi (S := (sI (sI (sI (sF (sF (sF (sF (sF (sF (sF (sF σ 28 (σ.2.1 28)) 29 (σ.2.1 29)) 30 (σ.2.1 30)) 31 (σ.2.1 31)) 43 (σ.2.1 43)) 44 (σ.2.1 44)) 45 (σ.2.1 45)) 46 (σ.2.1 46)) 437 (σ.1 437)) 678 (σ.1 678)) 679 (σ.1 679))) (c := 680) (v := σ.1 680) (gtII (by decide) (gtII (by decide) (gtII (by decide) (gtIF (gtIF (gtIF (gtIF (gtIF (gtIF (gtIF (gtIF rfl))))))))))))) ?_
    exact j_iret C E (sI (sI (sI (sI (sF (sF (sF (sF (sF (sF (sF (sF σ 28 (σ.2.1 28)) 29 (σ.2.1 29)) 30 (σ.2.1 30)) 31 (σ.2.1 31)) 43 (σ.2.1 43)) 44 (σ.2.1 44)) 45 (σ.2.1 45)) 46 (σ.2.1 46)) 437 (σ.1 437)) 678 (σ.1 678)) 679 (σ.1 679)) 680 (σ.1 680)) ⟨_, rfl, ⟨(σ.2.1 28), (σ.2.1 29), (σ.2.1 30), (σ.2.1 31), (σ.2.1 43), (σ.2.1 44), (σ.2.1 45), (σ.2.1 46), (σ.1 437), (σ.1 678), (σ.1 679), (σ.1 680), rfl, (fiF_1 (Or.inl c1)), (Or.inr ⟨rfl, rfl, rfl, rfl, rfl⟩)⟩⟩ rfl dX10_fill_16
  · replace c1 := bI_t c1
    obtain ⟨xn, xn1, rfl⟩ := cB_nat (by omega) c1
    refine j_iload_n C 2 rfl dX10_fill_8 ?_
    refine j_S01 C (c_isDay y) kyX10_isDay tb_486 tb_487 rfl (Nat.le_of_ble_eq_true rfl) ⟨by decide, by decide⟩ ⟨by decide, by decide⟩ dX10_fill_9 rfl ?_
    refine j_if_ne C 17 (by decide) dX10_fill_12 (fun c2 => ?_) (fun c2 => ?_)
    · replace c2 := bI_t c2
      obtain ⟨yn, yn1, yn2, rfl⟩ := wB_nat (by decide) (by decide) c2
      refine j_iload_n C 3 rfl dX10_fill_17 ?_
      refine j_iconst C (nI 0) (by decide) dX10_fill_18 ?_
      refine j_iconst C (nI 1) (by decide) dX10_fill_19 ?_
      refine j_S01 C (c_isWithin z (nI 0) (nI 1)) kyX10_isWithin tb_467 tb_468 rfl (Nat.le_of_ble_eq_true rfl) ⟨by decide, by decide⟩ ⟨by decide, by decide⟩ dX10_fill_20 rfl ?_
      refine j_if_ne C 29 (by decide) dX10_fill_23 (fun c3 => ?_) (fun c3 => ?_)
      · replace c3 := bI_t c3
        obtain ⟨zn, zn1, zn2, rfl⟩ := wB_nat (by decide) (by decide) c3
        refine j_aload_n C 0 rfl dX10_fill_29 ?_
        refine gX_0_2 C tb_430 dX10_fill_30 ?_
        refine j_V1 C (e_refresh g kk σ k hk hk6 hI G hX hst ) kyX7_refresh tb_562 tb_563 tb_564 27 rfl (eX_27 g kk _) rfl (Nat.le_of_ble_eq_true rfl) ⟨by decide, by decide⟩ dX10_fill_33 rfl (fun vr ur hp => ?_)
        obtain ⟨rfl, w4, w5, w6, w7, w8, hu, g9, g10⟩ := hp
        replace hu := hu.symm
        subst hu
        refine j_aload_n C 0 rfl dX10_fill_36 ?_
        refine gX_0_2 C tb_430 dX10_fill_37 ?_
        refine gX_27_4 C tb_212 dX10_fill_40 ?_
        refine j_iload_n C 1 rfl dX10_fill_43 ?_
        refine j_bipush C (nI 28) (by decide) dX10_fill_44 ?_
        refine j_imulN C dX10_fill_46 ?_
        refine j_iload_n C 2 rfl dX10_fill_47 ?_
        refine j_iaddN C dX10_fill_48 ?_
        refine rX_31 C ((xn * 28) + yn) rfl (by omega) (vaV G k xn yn) (g10 xn yn (by omega) (by omega)).2.2.2 dX10_fill_49 ?_
        refine j_iconst C ((-1)) (by decide) dX10_fill_50 ?_
        refine j_icmp_eq C 57 (by decide) dX10_fill_51 (fun c11 => ?_) (fun c11 => ?_)
        · refine j_aload_n C 0 rfl dX10_fill_57 ?_
          refine gX_0_5 C tb_433 dX10_fill_58 ?_
          refine j_iload_n C 2 rfl dX10_fill_61 ?_
          refine j_V1 C (e_gather g kk (sI (sF (sF (sF (sF σ 28 w4) 29 w5) 30 w6) 31 w7) 437 w8) k hk hk6 hI G hX ra hra (by omega) Q hQ g10 yn (by first | assumption | omega)) kyX4_gather tb_712 tb_713 tb_714 42 rfl (eX_42 g kk _) rfl (Nat.le_of_ble_eq_true rfl) ⟨by decide, by decide⟩ dX10_fill_62 rfl (fun vr ur hp => ?_)
          obtain ⟨rfl, w12, w13, w14, w15, w16, hu, g17, g18⟩ := hp
          replace hu := hu.symm
          subst hu
          have hxy9 := hX.W.XY (show xn < k by omega)
          refine j_aload_n C 0 rfl dX10_fill_65 ?_
          refine gX_0_5 C tb_433 dX10_fill_66 ?_
          refine j_aload_n C 0 rfl dX10_fill_69 ?_
          refine gX_0_0 C tb_428 dX10_fill_70 ?_
          refine gX_1_1 C tb_105 dX10_fill_73 ?_
          refine j_iload_n C 1 rfl dX10_fill_76 ?_
          refine rX_2 C xn rfl (by omega) (nI (zX G xn)) (hX.P (by omega)).1 dX10_fill_77 ?_
          refine j_aload_n C 0 rfl dX10_fill_78 ?_
          refine gX_0_0 C tb_428 dX10_fill_79 ?_
          refine gX_1_2 C tb_109 dX10_fill_82 ?_
          refine j_iload_n C 1 rfl dX10_fill_85 ?_
          refine rX_3 C xn rfl (by omega) (nI (zY G xn)) (hX.P (by omega)).2 dX10_fill_86 ?_
          refine j_V1 C (e_boundsAt g kk (sI (sF (sF (sF (sF (sI (sF (sF (sF (sF σ 28 w4) 29 w5) 30 w6) 31 w7) 437 w8) 43 w12) 44 w13) 45 w14) 46 w15) 678 (nI w16)) k hk hk6 hI G hX w16 rfl (by omega) _ g18 (zX G xn) (by first | assumption | omega) (zY G xn) (by first | assumption | omega)) kyX4_boundsAt tb_720 tb_721 tb_722 42 rfl (eX_42 g kk _) rfl (Nat.le_of_ble_eq_true rfl) ⟨by decide, by decide⟩ dX10_fill_87 rfl (fun vr ur hp => ?_)
          obtain ⟨r23, rfl, w19, w20, hu, g21, g22⟩ := hp
          replace hu := hu.symm
          subst hu
          have er23 := g22
          subst er23
          refine j_if_ne C 96 (by decide) dX10_fill_90 (fun c24 => ?_) (fun c24 => ?_)
          · replace c24 := bI_t c24
            have hle := of_decide_eq_true c24
            have hb9 := g21.2
            refine j_iload_n C 3 rfl dX10_fill_96 ?_
            refine j_if_neN C 120 (by decide) (by omega) dX10_fill_97 (fun c25 => ?_) (fun c25 => ?_)
            · refine j_aload_n C 0 rfl dX10_fill_120 ?_
              refine gX_0_5 C tb_433 dX10_fill_121 ?_
              refine gX_42_8 C tb_322 (nI w20) rfl dX10_fill_124 ?_
              refine j_aload_n C 0 rfl dX10_fill_127 ?_
              refine gX_0_5 C tb_433 dX10_fill_128 ?_
              refine gX_42_7 C tb_320 (nI w19) rfl dX10_fill_131 ?_
              refine j_isubN C (by omega) dX10_fill_134 ?_
              refine j_iconst C (nI 2) (by decide) dX10_fill_135 ?_
              refine j_idivN C (by omega) (by omega) (by omega) dX10_fill_136 ?_
              refine j_iconst C (nI 1) (by decide) dX10_fill_137 ?_
              refine j_iaddN C dX10_fill_138 ?_
              refine j_w (cX g kk (sI (sI (sI (sI (sF (sF (sF (sF (sF (sF (sF (sF σ 28 w4) 29 w5) 30 w6) 31 w7) 43 w12) 44 w13) 45 w14) 46 w15) 437 w8) 678 (nI w16)) 679 (nI w19)) 680 (nI w20))) (congrArg (cX g kk) (show sI (sI (sI (sF (sF (sF (sF (sI (sF (sF (sF (sF σ 28 w4) 29 w5) 30 w6) 31 w7) 437 w8) 43 w12) 44 w13) 45 w14) 46 w15) 678 (nI w16)) 679 (nI w19)) 680 (nI w20) = sI (sI (sI (sI (sF (sF (sF (sF (sF (sF (sF (sF σ 28 w4) 29 w5) 30 w6) 31 w7) 43 w12) 44 w13) 45 w14) 46 w15) 437 w8) 678 (nI w16)) 679 (nI w19)) 680 (nI w20) from (wrI (wrI (wrI (Eq.trans (wrF (Eq.trans (wrF (Eq.trans (wrF wrFI) wrFI)) wrFI)) wrFI)))))) ?_
              exact j_iret C E (sI (sI (sI (sI (sF (sF (sF (sF (sF (sF (sF (sF σ 28 w4) 29 w5) 30 w6) 31 w7) 43 w12) 44 w13) 45 w14) 46 w15) 437 w8) 678 (nI w16)) 679 (nI w19)) 680 (nI w20)) ⟨_, rfl, ⟨w4, w5, w6, w7, w12, w13, w14, w15, w8, (nI w16), (nI w19), (nI w20), rfl, (fiF_x c1 c2 c3 (by omega) (by omega) (by omega) c11 g21.1 (by rw [if_neg (fun q => q (of_decide_eq_true c24))]; first | rw [if_pos (by omega)] | rw [if_neg (by omega)])), (Or.inl ⟨g9, g10⟩)⟩⟩ rfl dX10_fill_139
            · refine j_aload_n C 0 rfl dX10_fill_100 ?_
              refine gX_0_5 C tb_433 dX10_fill_101 ?_
              refine gX_42_7 C tb_320 (nI w19) rfl dX10_fill_104 ?_
              refine j_aload_n C 0 rfl dX10_fill_107 ?_
              refine gX_0_5 C tb_433 dX10_fill_108 ?_
              refine gX_42_8 C tb_322 (nI w20) rfl dX10_fill_111 ?_
              refine j_iaddN C dX10_fill_114 ?_
              refine j_iconst C (nI 2) (by decide) dX10_fill_115 ?_
              refine j_idivN C (by omega) (by omega) (by omega) dX10_fill_116 ?_
              refine j_goto C 139 (by decide) dX10_fill_117 ?_
              refine j_w (cX g kk (sI (sI (sI (sI (sF (sF (sF (sF (sF (sF (sF (sF σ 28 w4) 29 w5) 30 w6) 31 w7) 43 w12) 44 w13) 45 w14) 46 w15) 437 w8) 678 (nI w16)) 679 (nI w19)) 680 (nI w20))) (congrArg (cX g kk) (show sI (sI (sI (sF (sF (sF (sF (sI (sF (sF (sF (sF σ 28 w4) 29 w5) 30 w6) 31 w7) 437 w8) 43 w12) 44 w13) 45 w14) 46 w15) 678 (nI w16)) 679 (nI w19)) 680 (nI w20) = sI (sI (sI (sI (sF (sF (sF (sF (sF (sF (sF (sF σ 28 w4) 29 w5) 30 w6) 31 w7) 43 w12) 44 w13) 45 w14) 46 w15) 437 w8) 678 (nI w16)) 679 (nI w19)) 680 (nI w20) from (wrI (wrI (wrI (Eq.trans (wrF (Eq.trans (wrF (Eq.trans (wrF wrFI) wrFI)) wrFI)) wrFI)))))) ?_
              exact j_iret C E (sI (sI (sI (sI (sF (sF (sF (sF (sF (sF (sF (sF σ 28 w4) 29 w5) 30 w6) 31 w7) 43 w12) 44 w13) 45 w14) 46 w15) 437 w8) 678 (nI w16)) 679 (nI w19)) 680 (nI w20)) ⟨_, rfl, ⟨w4, w5, w6, w7, w12, w13, w14, w15, w8, (nI w16), (nI w19), (nI w20), rfl, (fiF_x c1 c2 c3 (by omega) (by omega) (by omega) c11 g21.1 (by rw [if_neg (fun q => q (of_decide_eq_true c24))]; first | rw [if_pos (by omega)] | rw [if_neg (by omega)])), (Or.inl ⟨g9, g10⟩)⟩⟩ rfl dX10_fill_139
          · replace c24 := bI_f c24
            refine j_bipush C ((-5)) (by decide) dX10_fill_93 ?_
            refine j_w (cX g kk (sI (sI (sI (sI (sF (sF (sF (sF (sF (sF (sF (sF σ 28 w4) 29 w5) 30 w6) 31 w7) 43 w12) 44 w13) 45 w14) 46 w15) 437 w8) 678 (nI w16)) 679 (nI w19)) 680 (nI w20))) (congrArg (cX g kk) (show sI (sI (sI (sF (sF (sF (sF (sI (sF (sF (sF (sF σ 28 w4) 29 w5) 30 w6) 31 w7) 437 w8) 43 w12) 44 w13) 45 w14) 46 w15) 678 (nI w16)) 679 (nI w19)) 680 (nI w20) = sI (sI (sI (sI (sF (sF (sF (sF (sF (sF (sF (sF σ 28 w4) 29 w5) 30 w6) 31 w7) 43 w12) 44 w13) 45 w14) 46 w15) 437 w8) 678 (nI w16)) 679 (nI w19)) 680 (nI w20) from (wrI (wrI (wrI (Eq.trans (wrF (Eq.trans (wrF (Eq.trans (wrF wrFI) wrFI)) wrFI)) wrFI)))))) ?_
            exact j_iret C E (sI (sI (sI (sI (sF (sF (sF (sF (sF (sF (sF (sF σ 28 w4) 29 w5) 30 w6) 31 w7) 43 w12) 44 w13) 45 w14) 46 w15) 437 w8) 678 (nI w16)) 679 (nI w19)) 680 (nI w20)) ⟨_, rfl, ⟨w4, w5, w6, w7, w12, w13, w14, w15, w8, (nI w16), (nI w19), (nI w20), rfl, (fiF_x c1 c2 c3 (by omega) (by omega) (by omega) c11 g21.1 (by rw [if_pos (of_decide_eq_false c24)])), (Or.inl ⟨g9, g10⟩)⟩⟩ rfl dX10_fill_95
        · refine j_bipush C ((-3)) (by decide) dX10_fill_54 ?_
          refine j_w (cX g kk (sF (sI (sF (sF (sF (sF σ 28 w4) 29 w5) 30 w6) 31 w7) 437 w8) 43 (σ.2.1 43))) (congrArg (cX g kk) (wrFi (S := (sI (sF (sF (sF (sF σ 28 w4) 29 w5) 30 w6) 31 w7) 437 w8)) (c := 43) (v := σ.2.1 43) (gtFI (gtFF (by decide) (gtFF (by decide) (gtFF (by decide) (gtFF (by decide) rfl))))))) ?_
          refine j_w (cX g kk (sF (sF (sI (sF (sF (sF (sF σ 28 w4) 29 w5) 30 w6) 31 w7) 437 w8) 43 (σ.2.1 43)) 44 (σ.2.1 44))) (congrArg (cX g kk) (wrFi (S := (sF (sI (sF (sF (sF (sF σ 28 w4) 29 w5) 30 w6) 31 w7) 437 w8) 43 (σ.2.1 43))) (c := 44) (v := σ.2.1 44) (gtFF (by decide) (gtFI (gtFF (by decide) (gtFF (by decide) (gtFF (by decide) (gtFF (by decide) rfl)))))))) ?_
          refine j_w (cX g kk (sF (sF (sF (sI (sF (sF (sF (sF σ 28 w4) 29 w5) 30 w6) 31 w7) 437 w8) 43 (σ.2.1 43)) 44 (σ.2.1 44)) 45 (σ.2.1 45))) (congrArg (cX g kk) (wrFi (S := (sF (sF (sI (sF (sF (sF (sF σ 28 w4) 29 w5) 30 w6) 31 w7) 437 w8) 43 (σ.2.1 43)) 44 (σ.2.1 44))) (c := 45) (v := σ.2.1 45) (gtFF (by decide) (gtFF (by decide) (gtFI (gtFF (by decide) (gtFF (by decide) (gtFF (by decide) (gtFF (by decide) rfl))))))))) ?_
          refine j_w (cX g kk (sF (sF (sF (sF (sI (sF (sF (sF (sF σ 28 w4) 29 w5) 30 w6) 31 w7) 437 w8) 43 (σ.2.1 43)) 44 (σ.2.1 44)) 45 (σ.2.1 45)) 46 (σ.2.1 46))) (congrArg (cX g kk) (wrFi (S := (sF (sF (sF (sI (sF (sF (sF (sF σ 28 w4) 29 w5) 30 w6) 31 w7) 437 w8) 43 (σ.2.1 43)) 44 (σ.2.1 44)) 45 (σ.2.1 45))) (c := 46) (v := σ.2.1 46) (gtFF (by decide) (gtFF (by decide) (gtFF (by decide) (gtFI (gtFF (by decide) (gtFF (by decide) (gtFF (by decide) (gtFF (by decide) rfl)))))))))) ?_
          refine j_w (cX g kk (sI (sF (sF (sF (sF (sI (sF (sF (sF (sF σ 28 w4) 29 w5) 30 w6) 31 w7) 437 w8) 43 (σ.2.1 43)) 44 (σ.2.1 44)) 45 (σ.2.1 45)) 46 (σ.2.1 46)) 678 (σ.1 678))) (congrArg (cX g kk) (wrIi (S := (sF (sF (sF (sF (sI (sF (sF (sF (sF σ 28 w4) 29 w5) 30 w6) 31 w7) 437 w8) 43 (σ.2.1 43)) 44 (σ.2.1 44)) 45 (σ.2.1 45)) 46 (σ.2.1 46))) (c := 678) (v := σ.1 678) (gtIF (gtIF (gtIF (gtIF (gtII (by decide) (gtIF (gtIF (gtIF (gtIF rfl))))))))))) ?_
          refine j_w (cX g kk (sI (sI (sF (sF (sF (sF (sI (sF (sF (sF (sF σ 28 w4) 29 w5) 30 w6) 31 w7) 437 w8) 43 (σ.2.1 43)) 44 (σ.2.1 44)) 45 (σ.2.1 45)) 46 (σ.2.1 46)) 678 (σ.1 678)) 679 (σ.1 679))) (congrArg (cX g kk) (wrIi (S := (sI (sF (sF (sF (sF (sI (sF (sF (sF (sF σ 28 w4) 29 w5) 30 w6) 31 w7) 437 w8) 43 (σ.2.1 43)) 44 (σ.2.1 44)) 45 (σ.2.1 45)) 46 (σ.2.1 46)) 678 (σ.1 678))) (c := 679) (v := σ.1 679) (gtII (by decide) (gtIF (gtIF (gtIF (gtIF (gtII (by decide) (gtIF (gtIF (gtIF (gtIF rfl)))))))))))) ?_
          refine j_w (cX g kk (sI (sI (sI (sF (sF (sF (sF (sI (sF (sF (sF (sF σ 28 w4) 29 w5) 30 w6) 31 w7) 437 w8) 43 (σ.2.1 43)) 44 (σ.2.1 44)) 45 (σ.2.1 45)) 46 (σ.2.1 46)) 678 (σ.1 678)) 679 (σ.1 679)) 680 (σ.1 680))) (congrArg (cX g kk) (wrIi (S := (sI (sI (sF (sF (sF (sF (sI (sF (sF (sF (sF σ 28 w4) 29 w5) 30 w6) 31 w7) 437 w8) 43 (σ.2.1 43)) 44 (σ.2.1 44)) 45 (σ.2.1 45)) 46 (σ.2.1 46)) 678 (σ.1 678)) 679 (σ.1 679))) (c := 680) (v := σ.1 680) (gtII (by decide) (gtII (by decide) (gtIF (gtIF (gtIF (gtIF (gtII (by decide) (gtIF (gtIF (gtIF (gtIF rfl))))))))))))) ?_
          refine j_w (cX g kk (sI (sI (sI (sI (sF (sF (sF (sF (sF (sF (sF (sF σ 28 w4) 29 w5) 30 w6) 31 w7) 43 (σ.2.1 43)) 44 (σ.2.1 44)) 45 (σ.2.1 45)) 46 (σ.2.1 46)) 437 w8) 678 (σ.1 678)) 679 (σ.1 679)) 680 (σ.1 680))) (congrArg (cX g kk) (show sI (sI (sI (sF (sF (sF (sF (sI (sF (sF (sF (sF σ 28 w4) 29 w5) 30 w6) 31 w7) 437 w8) 43 (σ.2.1 43)) 44 (σ.2.1 44)) 45 (σ.2.1 45)) 46 (σ.2.1 46)) 678 (σ.1 678)) 679 (σ.1 679)) 680 (σ.1 680) = sI (sI (sI (sI (sF (sF (sF (sF (sF (sF (sF (sF σ 28 w4) 29 w5) 30 w6) 31 w7) 43 (σ.2.1 43)) 44 (σ.2.1 44)) 45 (σ.2.1 45)) 46 (σ.2.1 46)) 437 w8) 678 (σ.1 678)) 679 (σ.1 679)) 680 (σ.1 680) from (wrI (wrI (wrI (Eq.trans (wrF (Eq.trans (wrF (Eq.trans (wrF wrFI) wrFI)) wrFI)) wrFI)))))) ?_
          exact j_iret C E (sI (sI (sI (sI (sF (sF (sF (sF (sF (sF (sF (sF σ 28 w4) 29 w5) 30 w6) 31 w7) 43 (σ.2.1 43)) 44 (σ.2.1 44)) 45 (σ.2.1 45)) 46 (σ.2.1 46)) 437 w8) 678 (σ.1 678)) 679 (σ.1 679)) 680 (σ.1 680)) ⟨_, rfl, ⟨w4, w5, w6, w7, (σ.2.1 43), (σ.2.1 44), (σ.2.1 45), (σ.2.1 46), w8, (σ.1 678), (σ.1 679), (σ.1 680), rfl, (fiF_3 c1 c2 c3 (by omega) (by omega) c11), (Or.inl ⟨g9, g10⟩)⟩⟩ rfl dX10_fill_56
      · replace c3 := bI_f c3
        refine j_bipush C ((-2)) (by decide) dX10_fill_26 ?_
        refine j_w (cX g kk (sF σ 28 (σ.2.1 28))) (congrArg (cX g kk) (wrFi (S := σ) (c := 28) (v := σ.2.1 28) rfl)) ?_
        refine j_w (cX g kk (sF (sF σ 28 (σ.2.1 28)) 29 (σ.2.1 29))) (congrArg (cX g kk) (wrFi (S := (sF σ 28 (σ.2.1 28))) (c := 29) (v := σ.2.1 29) (gtFF (by decide) rfl))) ?_
        refine j_w (cX g kk (sF (sF (sF σ 28 (σ.2.1 28)) 29 (σ.2.1 29)) 30 (σ.2.1 30))) (congrArg (cX g kk) (wrFi (S := (sF (sF σ 28 (σ.2.1 28)) 29 (σ.2.1 29))) (c := 30) (v := σ.2.1 30) (gtFF (by decide) (gtFF (by decide) rfl)))) ?_
        refine j_w (cX g kk (sF (sF (sF (sF σ 28 (σ.2.1 28)) 29 (σ.2.1 29)) 30 (σ.2.1 30)) 31 (σ.2.1 31))) (congrArg (cX g kk) (wrFi (S := (sF (sF (sF σ 28 (σ.2.1 28)) 29 (σ.2.1 29)) 30 (σ.2.1 30))) (c := 31) (v := σ.2.1 31) (gtFF (by decide) (gtFF (by decide) (gtFF (by decide) rfl))))) ?_
        refine j_w (cX g kk (sF (sF (sF (sF (sF σ 28 (σ.2.1 28)) 29 (σ.2.1 29)) 30 (σ.2.1 30)) 31 (σ.2.1 31)) 43 (σ.2.1 43))) (congrArg (cX g kk) (wrFi (S := (sF (sF (sF (sF σ 28 (σ.2.1 28)) 29 (σ.2.1 29)) 30 (σ.2.1 30)) 31 (σ.2.1 31))) (c := 43) (v := σ.2.1 43) (gtFF (by decide) (gtFF (by decide) (gtFF (by decide) (gtFF (by decide) rfl)))))) ?_
        refine j_w (cX g kk (sF (sF (sF (sF (sF (sF σ 28 (σ.2.1 28)) 29 (σ.2.1 29)) 30 (σ.2.1 30)) 31 (σ.2.1 31)) 43 (σ.2.1 43)) 44 (σ.2.1 44))) (congrArg (cX g kk) (wrFi (S := (sF (sF (sF (sF (sF σ 28 (σ.2.1 28)) 29 (σ.2.1 29)) 30 (σ.2.1 30)) 31 (σ.2.1 31)) 43 (σ.2.1 43))) (c := 44) (v := σ.2.1 44) (gtFF (by decide) (gtFF (by decide) (gtFF (by decide) (gtFF (by decide) (gtFF (by decide) rfl))))))) ?_
        refine j_w (cX g kk (sF (sF (sF (sF (sF (sF (sF σ 28 (σ.2.1 28)) 29 (σ.2.1 29)) 30 (σ.2.1 30)) 31 (σ.2.1 31)) 43 (σ.2.1 43)) 44 (σ.2.1 44)) 45 (σ.2.1 45))) (congrArg (cX g kk) (wrFi (S := (sF (sF (sF (sF (sF (sF σ 28 (σ.2.1 28)) 29 (σ.2.1 29)) 30 (σ.2.1 30)) 31 (σ.2.1 31)) 43 (σ.2.1 43)) 44 (σ.2.1 44))) (c := 45) (v := σ.2.1 45) (gtFF (by decide) (gtFF (by decide) (gtFF (by decide) (gtFF (by decide) (gtFF (by decide) (gtFF (by decide) rfl)))))))) ?_
        refine j_w (cX g kk (sF (sF (sF (sF (sF (sF (sF (sF σ 28 (σ.2.1 28)) 29 (σ.2.1 29)) 30 (σ.2.1 30)) 31 (σ.2.1 31)) 43 (σ.2.1 43)) 44 (σ.2.1 44)) 45 (σ.2.1 45)) 46 (σ.2.1 46))) (congrArg (cX g kk) (wrFi (S := (sF (sF (sF (sF (sF (sF (sF σ 28 (σ.2.1 28)) 29 (σ.2.1 29)) 30 (σ.2.1 30)) 31 (σ.2.1 31)) 43 (σ.2.1 43)) 44 (σ.2.1 44)) 45 (σ.2.1 45))) (c := 46) (v := σ.2.1 46) (gtFF (by decide) (gtFF (by decide) (gtFF (by decide) (gtFF (by decide) (gtFF (by decide) (gtFF (by decide) (gtFF (by decide) rfl))))))))) ?_
        refine j_w (cX g kk (sI (sF (sF (sF (sF (sF (sF (sF (sF σ 28 (σ.2.1 28)) 29 (σ.2.1 29)) 30 (σ.2.1 30)) 31 (σ.2.1 31)) 43 (σ.2.1 43)) 44 (σ.2.1 44)) 45 (σ.2.1 45)) 46 (σ.2.1 46)) 437 (σ.1 437))) (congrArg (cX g kk) (wrIi (S := (sF (sF (sF (sF (sF (sF (sF (sF σ 28 (σ.2.1 28)) 29 (σ.2.1 29)) 30 (σ.2.1 30)) 31 (σ.2.1 31)) 43 (σ.2.1 43)) 44 (σ.2.1 44)) 45 (σ.2.1 45)) 46 (σ.2.1 46))) (c := 437) (v := σ.1 437) (gtIF (gtIF (gtIF (gtIF (gtIF (gtIF (gtIF (gtIF rfl)))))))))) ?_
        refine j_w (cX g kk (sI (sI (sF (sF (sF (sF (sF (sF (sF (sF σ 28 (σ.2.1 28)) 29 (σ.2.1 29)) 30 (σ.2.1 30)) 31 (σ.2.1 31)) 43 (σ.2.1 43)) 44 (σ.2.1 44)) 45 (σ.2.1 45)) 46 (σ.2.1 46)) 437 (σ.1 437)) 678 (σ.1 678))) (congrArg (cX g kk) (wrIi (S := (sI (sF (sF (sF (sF (sF (sF (sF (sF σ 28 (σ.2.1 28)) 29 (σ.2.1 29)) 30 (σ.2.1 30)) 31 (σ.2.1 31)) 43 (σ.2.1 43)) 44 (σ.2.1 44)) 45 (σ.2.1 45)) 46 (σ.2.1 46)) 437 (σ.1 437))) (c := 678) (v := σ.1 678) (gtII (by decide) (gtIF (gtIF (gtIF (gtIF (gtIF (gtIF (gtIF (gtIF rfl))))))))))) ?_
        refine j_w (cX g kk (sI (sI (sI (sF (sF (sF (sF (sF (sF (sF (sF σ 28 (σ.2.1 28)) 29 (σ.2.1 29)) 30 (σ.2.1 30)) 31 (σ.2.1 31)) 43 (σ.2.1 43)) 44 (σ.2.1 44)) 45 (σ.2.1 45)) 46 (σ.2.1 46)) 437 (σ.1 437)) 678 (σ.1 678)) 679 (σ.1 679))) (congrArg (cX g kk) (wrIi (S := (sI (sI (sF (sF (sF (sF (sF (sF (sF (sF σ 28 (σ.2.1 28)) 29 (σ.2.1 29)) 30 (σ.2.1 30)) 31 (σ.2.1 31)) 43 (σ.2.1 43)) 44 (σ.2.1 44)) 45 (σ.2.1 45)) 46 (σ.2.1 46)) 437 (σ.1 437)) 678 (σ.1 678))) (c := 679) (v := σ.1 679) (gtII (by decide) (gtII (by decide) (gtIF (gtIF (gtIF (gtIF (gtIF (gtIF (gtIF (gtIF rfl)))))))))))) ?_
        refine j_w (cX g kk (sI (sI (sI (sI (sF (sF (sF (sF (sF (sF (sF (sF σ 28 (σ.2.1 28)) 29 (σ.2.1 29)) 30 (σ.2.1 30)) 31 (σ.2.1 31)) 43 (σ.2.1 43)) 44 (σ.2.1 44)) 45 (σ.2.1 45)) 46 (σ.2.1 46)) 437 (σ.1 437)) 678 (σ.1 678)) 679 (σ.1 679)) 680 (σ.1 680))) (congrArg (cX g kk) (wrIi (S := (sI (sI (sI (sF (sF (sF (sF (sF (sF (sF (sF σ 28 (σ.2.1 28)) 29 (σ.2.1 29)) 30 (σ.2.1 30)) 31 (σ.2.1 31)) 43 (σ.2.1 43)) 44 (σ.2.1 44)) 45 (σ.2.1 45)) 46 (σ.2.1 46)) 437 (σ.1 437)) 678 (σ.1 678)) 679 (σ.1 679))) (c := 680) (v := σ.1 680) (gtII (by decide) (gtII (by decide) (gtII (by decide) (gtIF (gtIF (gtIF (gtIF (gtIF (gtIF (gtIF (gtIF rfl))))))))))))) ?_
        exact j_iret C E (sI (sI (sI (sI (sF (sF (sF (sF (sF (sF (sF (sF σ 28 (σ.2.1 28)) 29 (σ.2.1 29)) 30 (σ.2.1 30)) 31 (σ.2.1 31)) 43 (σ.2.1 43)) 44 (σ.2.1 44)) 45 (σ.2.1 45)) 46 (σ.2.1 46)) 437 (σ.1 437)) 678 (σ.1 678)) 679 (σ.1 679)) 680 (σ.1 680)) ⟨_, rfl, ⟨(σ.2.1 28), (σ.2.1 29), (σ.2.1 30), (σ.2.1 31), (σ.2.1 43), (σ.2.1 44), (σ.2.1 45), (σ.2.1 46), (σ.1 437), (σ.1 678), (σ.1 679), (σ.1 680), rfl, (fiF_2 c1 c2 c3), (Or.inr ⟨rfl, rfl, rfl, rfl, rfl⟩)⟩⟩ rfl dX10_fill_28
    · replace c2 := bI_f c2
      refine j_iconst C ((-1)) (by decide) dX10_fill_15 ?_
      refine j_w (cX g kk (sF σ 28 (σ.2.1 28))) (congrArg (cX g kk) (wrFi (S := σ) (c := 28) (v := σ.2.1 28) rfl)) ?_
      refine j_w (cX g kk (sF (sF σ 28 (σ.2.1 28)) 29 (σ.2.1 29))) (congrArg (cX g kk) (wrFi (S := (sF σ 28 (σ.2.1 28))) (c := 29) (v := σ.2.1 29) (gtFF (by decide) rfl))) ?_
      refine j_w (cX g kk (sF (sF (sF σ 28 (σ.2.1 28)) 29 (σ.2.1 29)) 30 (σ.2.1 30))) (congrArg (cX g kk) (wrFi (S := (sF (sF σ 28 (σ.2.1 28)) 29 (σ.2.1 29))) (c := 30) (v := σ.2.1 30) (gtFF (by decide) (gtFF (by decide) rfl)))) ?_
      refine j_w (cX g kk (sF (sF (sF (sF σ 28 (σ.2.1 28)) 29 (σ.2.1 29)) 30 (σ.2.1 30)) 31 (σ.2.1 31))) (congrArg (cX g kk) (wrFi (S := (sF (sF (sF σ 28 (σ.2.1 28)) 29 (σ.2.1 29)) 30 (σ.2.1 30))) (c := 31) (v := σ.2.1 31) (gtFF (by decide) (gtFF (by decide) (gtFF (by decide) rfl))))) ?_
      refine j_w (cX g kk (sF (sF (sF (sF (sF σ 28 (σ.2.1 28)) 29 (σ.2.1 29)) 30 (σ.2.1 30)) 31 (σ.2.1 31)) 43 (σ.2.1 43))) (congrArg (cX g kk) (wrFi (S := (sF (sF (sF (sF σ 28 (σ.2.1 28)) 29 (σ.2.1 29)) 30 (σ.2.1 30)) 31 (σ.2.1 31))) (c := 43) (v := σ.2.1 43) (gtFF (by decide) (gtFF (by decide) (gtFF (by decide) (gtFF (by decide) rfl)))))) ?_
      refine j_w (cX g kk (sF (sF (sF (sF (sF (sF σ 28 (σ.2.1 28)) 29 (σ.2.1 29)) 30 (σ.2.1 30)) 31 (σ.2.1 31)) 43 (σ.2.1 43)) 44 (σ.2.1 44))) (congrArg (cX g kk) (wrFi (S := (sF (sF (sF (sF (sF σ 28 (σ.2.1 28)) 29 (σ.2.1 29)) 30 (σ.2.1 30)) 31 (σ.2.1 31)) 43 (σ.2.1 43))) (c := 44) (v := σ.2.1 44) (gtFF (by decide) (gtFF (by decide) (gtFF (by decide) (gtFF (by decide) (gtFF (by decide) rfl))))))) ?_
      refine j_w (cX g kk (sF (sF (sF (sF (sF (sF (sF σ 28 (σ.2.1 28)) 29 (σ.2.1 29)) 30 (σ.2.1 30)) 31 (σ.2.1 31)) 43 (σ.2.1 43)) 44 (σ.2.1 44)) 45 (σ.2.1 45))) (congrArg (cX g kk) (wrFi (S := (sF (sF (sF (sF (sF (sF σ 28 (σ.2.1 28)) 29 (σ.2.1 29)) 30 (σ.2.1 30)) 31 (σ.2.1 31)) 43 (σ.2.1 43)) 44 (σ.2.1 44))) (c := 45) (v := σ.2.1 45) (gtFF (by decide) (gtFF (by decide) (gtFF (by decide) (gtFF (by decide) (gtFF (by decide) (gtFF (by decide) rfl)))))))) ?_
      refine j_w (cX g kk (sF (sF (sF (sF (sF (sF (sF (sF σ 28 (σ.2.1 28)) 29 (σ.2.1 29)) 30 (σ.2.1 30)) 31 (σ.2.1 31)) 43 (σ.2.1 43)) 44 (σ.2.1 44)) 45 (σ.2.1 45)) 46 (σ.2.1 46))) (congrArg (cX g kk) (wrFi (S := (sF (sF (sF (sF (sF (sF (sF σ 28 (σ.2.1 28)) 29 (σ.2.1 29)) 30 (σ.2.1 30)) 31 (σ.2.1 31)) 43 (σ.2.1 43)) 44 (σ.2.1 44)) 45 (σ.2.1 45))) (c := 46) (v := σ.2.1 46) (gtFF (by decide) (gtFF (by decide) (gtFF (by decide) (gtFF (by decide) (gtFF (by decide) (gtFF (by decide) (gtFF (by decide) rfl))))))))) ?_
      refine j_w (cX g kk (sI (sF (sF (sF (sF (sF (sF (sF (sF σ 28 (σ.2.1 28)) 29 (σ.2.1 29)) 30 (σ.2.1 30)) 31 (σ.2.1 31)) 43 (σ.2.1 43)) 44 (σ.2.1 44)) 45 (σ.2.1 45)) 46 (σ.2.1 46)) 437 (σ.1 437))) (congrArg (cX g kk) (wrIi (S := (sF (sF (sF (sF (sF (sF (sF (sF σ 28 (σ.2.1 28)) 29 (σ.2.1 29)) 30 (σ.2.1 30)) 31 (σ.2.1 31)) 43 (σ.2.1 43)) 44 (σ.2.1 44)) 45 (σ.2.1 45)) 46 (σ.2.1 46))) (c := 437) (v := σ.1 437) (gtIF (gtIF (gtIF (gtIF (gtIF (gtIF (gtIF (gtIF rfl)))))))))) ?_
      refine j_w (cX g kk (sI (sI (sF (sF (sF (sF (sF (sF (sF (sF σ 28 (σ.2.1 28)) 29 (σ.2.1 29)) 30 (σ.2.1 30)) 31 (σ.2.1 31)) 43 (σ.2.1 43)) 44 (σ.2.1 44)) 45 (σ.2.1 45)) 46 (σ.2.1 46)) 437 (σ.1 437)) 678 (σ.1 678))) (congrArg (cX g kk) (wrIi (S := (sI (sF (sF (sF (sF (sF (sF (sF (sF σ 28 (σ.2.1 28)) 29 (σ.2.1 29)) 30 (σ.2.1 30)) 31 (σ.2.1 31)) 43 (σ.2.1 43)) 44 (σ.2.1 44)) 45 (σ.2.1 45)) 46 (σ.2.1 46)) 437 (σ.1 437))) (c := 678) (v := σ.1 678) (gtII (by decide) (gtIF (gtIF (gtIF (gtIF (gtIF (gtIF (gtIF (gtIF rfl))))))))))) ?_
      refine j_w (cX g kk (sI (sI (sI (sF (sF (sF (sF (sF (sF (sF (sF σ 28 (σ.2.1 28)) 29 (σ.2.1 29)) 30 (σ.2.1 30)) 31 (σ.2.1 31)) 43 (σ.2.1 43)) 44 (σ.2.1 44)) 45 (σ.2.1 45)) 46 (σ.2.1 46)) 437 (σ.1 437)) 678 (σ.1 678)) 679 (σ.1 679))) (congrArg (cX g kk) (wrIi (S := (sI (sI (sF (sF (sF (sF (sF (sF (sF (sF σ 28 (σ.2.1 28)) 29 (σ.2.1 29)) 30 (σ.2.1 30)) 31 (σ.2.1 31)) 43 (σ.2.1 43)) 44 (σ.2.1 44)) 45 (σ.2.1 45)) 46 (σ.2.1 46)) 437 (σ.1 437)) 678 (σ.1 678))) (c := 679) (v := σ.1 679) (gtII (by decide) (gtII (by decide) (gtIF (gtIF (gtIF (gtIF (gtIF (gtIF (gtIF (gtIF rfl)))))))))))) ?_
      refine j_w (cX g kk (sI (sI (sI (sI (sF (sF (sF (sF (sF (sF (sF (sF σ 28 (σ.2.1 28)) 29 (σ.2.1 29)) 30 (σ.2.1 30)) 31 (σ.2.1 31)) 43 (σ.2.1 43)) 44 (σ.2.1 44)) 45 (σ.2.1 45)) 46 (σ.2.1 46)) 437 (σ.1 437)) 678 (σ.1 678)) 679 (σ.1 679)) 680 (σ.1 680))) (congrArg (cX g kk) (wrIi (S := (sI (sI (sI (sF (sF (sF (sF (sF (sF (sF (sF σ 28 (σ.2.1 28)) 29 (σ.2.1 29)) 30 (σ.2.1 30)) 31 (σ.2.1 31)) 43 (σ.2.1 43)) 44 (σ.2.1 44)) 45 (σ.2.1 45)) 46 (σ.2.1 46)) 437 (σ.1 437)) 678 (σ.1 678)) 679 (σ.1 679))) (c := 680) (v := σ.1 680) (gtII (by decide) (gtII (by decide) (gtII (by decide) (gtIF (gtIF (gtIF (gtIF (gtIF (gtIF (gtIF (gtIF rfl))))))))))))) ?_
      exact j_iret C E (sI (sI (sI (sI (sF (sF (sF (sF (sF (sF (sF (sF σ 28 (σ.2.1 28)) 29 (σ.2.1 29)) 30 (σ.2.1 30)) 31 (σ.2.1 31)) 43 (σ.2.1 43)) 44 (σ.2.1 44)) 45 (σ.2.1 45)) 46 (σ.2.1 46)) 437 (σ.1 437)) 678 (σ.1 678)) 679 (σ.1 679)) 680 (σ.1 680)) ⟨_, rfl, ⟨(σ.2.1 28), (σ.2.1 29), (σ.2.1 30), (σ.2.1 31), (σ.2.1 43), (σ.2.1 44), (σ.2.1 45), (σ.2.1 46), (σ.1 437), (σ.1 678), (σ.1 679), (σ.1 680), rfl, (fiF_1 (Or.inr c2)), (Or.inr ⟨rfl, rfl, rfl, rfl, rfl⟩)⟩⟩ rfl dX10_fill_16
