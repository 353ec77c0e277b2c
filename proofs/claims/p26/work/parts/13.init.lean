
def mdB (a i j : Nat) : Bool := if a = 0 then decide (i < 6 ∧ j = 0) else if a = 1 then decide (1 ≤ i ∧ i ≤ j ∧ j < 7) else decide (j < 7 ∧ (j = i + 1 ∨ j = i + 2))
/-- how many of the codes below c are MENDINGS; the row of them -/
def wn : Nat → Nat
  | 0 => 0
  | c + 1 => if mdB (c / 100) (c / 10 % 10) (c % 10) then wn c + 1 else wn c
def wf : Nat → Nat → Int32
  | 0 => fun _ => 0
  | c + 1 => if mdB (c / 100) (c / 10 % 10) (c % 10) then upd (wf c) (wn c) (nI c) else wf c
theorem wn_lt : ∀ c, c < 257 → wn c < 38 := by decide +kernel
theorem wn_t {c : Nat} (h : mdB (c / 100) (c / 10 % 10) (c % 10) = true) : wn c + 1 = wn (c + 1) := by simp only [wn, h, if_true]
theorem wn_f {c : Nat} (h : mdB (c / 100) (c / 10 % 10) (c % 10) = false) : wn c = wn (c + 1) := by simp [wn, h]
theorem wf_t {c : Nat} (h : mdB (c / 100) (c / 10 % 10) (c % 10) = true) : upd (wf c) (wn c) (nI c) = wf (c + 1) := by simp only [wf, h, if_true]
theorem wf_f {c : Nat} (h : mdB (c / 100) (c / 10 % 10) (c % 10) = false) : wf c = wf (c + 1) := by simp [wf, h]

set_option maxRecDepth 100000 in
set_option maxHeartbeats 4000000 in
theorem c_fill (kk : Nat → Nat) (a n : Nat) (hn : n < 2 ^ 31) (f : Nat → Int32) (v : Int32) : jM (S := Unit) yJ7_fill_53178 cJ7_fill_53178 4 none { frames := 0, cells := 0, slots := 0, locals := 0 } kk [(a, .inl (kk 0, n, .inl f))] [.ref a, .int v] (fun _ => [(a, .inl (kk 0, n, .inl (fillF f v n)))]) (rV (fun _ => True)) := by
  refine j_entry [(0, .ref a), (1, .int v)] (by decide) (Nat.le_of_ble_eq_true rfl) rfl ?_
  intro X C E HI
  refine j_iconst C (nI 0) (by decide) dJ7_fill_53178_0 ?_
  refine j_istore_n C [(2, .int (nI 0)), (0, .ref a), (1, .int v)] rfl (by decide) rfl dJ7_fill_53178_1 ?_
  refine j_aload_n C 1 rfl dJ7_fill_53178_2 ?_
  refine j_alen C 0 0 rfl rfl (nI n) rfl dJ7_fill_53178_3 ?_
  refine j_istore_n C [(3, .int (nI n)), (2, .int (nI 0)), (0, .ref a), (1, .int v)] rfl (by decide) rfl dJ7_fill_53178_4 ?_
  have L5 : ∀ (nL5 : Nat) (i : Nat) (h : Nat → Int32) (hi : i ≤ n) (hf : h = fillF f v i) (hmL5 : n - i < nL5), J X 0 0 [(a, .inl (kk 0, n, .inl h))] [(0, .ref a), (1, .int v), (2, .int (nI i)), (3, .int (nI n))] 5 [] := by
    intro nL5
    induction nL5 with
    | zero => intro i h hi hf hm; exact absurd hm (Nat.not_lt_zero _)
    | succ nL5 ihL5 =>
      intro i h hi hf hmL5
      refine j_iload_n C 2 rfl dJ7_fill_53178_5 ?_
      refine j_iload_n C 3 rfl dJ7_fill_53178_6 ?_
      refine j_icmp_geN C 20 (by decide) (by omega) (by omega) dJ7_fill_53178_7 (fun c1 => ?_) (fun c1 => ?_)
      · have en : i = n := by omega
        subst en
        subst hf
        exact j_vret C E (()) ⟨rfl, trivial⟩ rfl dJ7_fill_53178_20
      · refine j_aload_n C 0 rfl dJ7_fill_53178_10 ?_
        refine j_iload_n C 2 rfl dJ7_fill_53178_11 ?_
        refine j_iload_n C 1 rfl dJ7_fill_53178_12 ?_
        refine j_iast C 0 rfl (vp_inN rfl (by omega) (by omega)) (w' := [(a, .inl (kk 0, n, .inl (upd h i v)))]) (by rw [nI_clamp (by omega)]; rfl) dJ7_fill_53178_13 ?_
        refine j_iinc C (nI (i + 1)) [(2, .int (nI (i + 1))), (0, .ref a), (1, .int v), (3, .int (nI n))] 2 rfl (by rw [show Int32.ofInt 1 = nI 1 from by decide, nI_add]) (by decide) rfl dJ7_fill_53178_14 ?_
        refine j_goto C 5 (by decide) dJ7_fill_53178_17 ?_
        refine j_sub (lv' := [(0, .ref a), (1, .int v), (2, .int (nI (i + 1))), (3, .int (nI n))]) [1, 2, 0, 3] rfl ?_
        exact ihL5 (i + 1) (upd h i v) (by omega) (by subst hf; exact fillF_s _ _ _) (by omega)
  refine j_sub (lv' := [(0, .ref a), (1, .int v), (2, .int (nI 0)), (3, .int (nI n))]) [2, 3, 1, 0] rfl ?_
  exact L5 _ 0 f (Nat.zero_le _) (fillF_0 _ _).symm (Nat.lt_succ_self _)
def iFixes (kk : Nat → Nat) (h : Nat)  (u : Nat → Nat) : va_W := [(h, .inr (1, [.int 0, .ref (u 1), .ref (u 2), .ref (u 3), .ref (u 4)])), ((u 1), .inl (kk 0, 20, .inl (fun _ => 0))), ((u 2), .inl (kk 0, 20, .inl (fun _ => 0))), ((u 3), .inl (kk 0, 20, .inl (fun _ => 0))), ((u 4), .inl (kk 0, 168, .inl (fillF (fun _ => 0) (-1) 168)))]
set_option maxRecDepth 100000 in
set_option maxHeartbeats 4000000 in
theorem c_Fixes_init (kk : Nat → Nat) (h : Nat)  : jM (S := (Nat → Nat)) yX1_init cX1_init 1 none { frames := 1, cells := 4, slots := 228, locals := 23 } kk [(h, .inr (1, [.int 0, .null, .null, .null, .null]))] [.ref h] (fun u : Nat → Nat => iFixes kk h  u) (rV (fun _ => True)) := by
  refine j_entry [(0, .ref h)] (by decide) (Nat.le_of_ble_eq_true rfl) rfl ?_
  intro X C E HI
  refine j_aload_n C 0 rfl dX1_init_0 ?_
  refine j_obj C tb_35 tb_22 tb_23 (by decide) (Nat.le_of_ble_eq_true rfl) dX1_init_1 ?_
  refine j_aload_n C 0 rfl dX1_init_4 ?_
  refine j_bipush C (nI 20) (by decide) dX1_init_5 ?_
  refine j_newi C 20 tb_58 rfl (by decide) (by decide) (by decide) dX1_init_7 (fun q1 => ?_)
  refine j_w [(h, .inr (1, [.int 0, .null, .null, .null, .null])), (q1, .inl (kk 0, 20, .inl (fun _ => 0)))] rfl ?_
  refine j_putF (ty := (.array .int)) C inX1 gdX1 tyX1_ok nmX1 rfl 1 (by decide) rfl tb_41 rfl (HI rfl) rfl (by decide +kernel) 0 rfl rfl rfl (Nat.le_of_ble_eq_true rfl) (w' := [(h, .inr (1, [.int 0, .ref q1, .null, .null, .null])), (q1, .inl (kk 0, 20, .inl (fun _ => 0)))]) rfl dX1_init_9 ?_
  refine j_aload_n C 0 rfl dX1_init_12 ?_
  refine j_bipush C (nI 20) (by decide) dX1_init_13 ?_
  refine j_newi C 20 tb_58 rfl (by decide) (by decide) (by decide) dX1_init_15 (fun q2 => ?_)
  refine j_w [(h, .inr (1, [.int 0, .ref q1, .null, .null, .null])), (q1, .inl (kk 0, 20, .inl (fun _ => 0))), (q2, .inl (kk 0, 20, .inl (fun _ => 0)))] rfl ?_
  refine j_putF (ty := (.array .int)) C inX1 gdX1 tyX1_ok nmX1 rfl 2 (by decide) rfl tb_42 rfl (HI rfl) rfl (by decide +kernel) 0 rfl rfl rfl (Nat.le_of_ble_eq_true rfl) (w' := [(h, .inr (1, [.int 0, .ref q1, .ref q2, .null, .null])), (q1, .inl (kk 0, 20, .inl (fun _ => 0))), (q2, .inl (kk 0, 20, .inl (fun _ => 0)))]) rfl dX1_init_17 ?_
  refine j_aload_n C 0 rfl dX1_init_20 ?_
  refine j_bipush C (nI 20) (by decide) dX1_init_21 ?_
  refine j_newi C 20 tb_58 rfl (by decide) (by decide) (by decide) dX1_init_23 (fun q3 => ?_)
  refine j_w [(h, .inr (1, [.int 0, .ref q1, .ref q2, .null, .null])), (q1, .inl (kk 0, 20, .inl (fun _ => 0))), (q2, .inl (kk 0, 20, .inl (fun _ => 0))), (q3, .inl (kk 0, 20, .inl (fun _ => 0)))] rfl ?_
  refine j_putF (ty := (.array .int)) C inX1 gdX1 tyX1_ok nmX1 rfl 3 (by decide) rfl tb_44 rfl (HI rfl) rfl (by decide +kernel) 0 rfl rfl rfl (Nat.le_of_ble_eq_true rfl) (w' := [(h, .inr (1, [.int 0, .ref q1, .ref q2, .ref q3, .null])), (q1, .inl (kk 0, 20, .inl (fun _ => 0))), (q2, .inl (kk 0, 20, .inl (fun _ => 0))), (q3, .inl (kk 0, 20, .inl (fun _ => 0)))]) rfl dX1_init_25 ?_
  refine j_aload_n C 0 rfl dX1_init_28 ?_
  refine j_sipush C (nI 168) (by decide) dX1_init_29 ?_
  refine j_newi C 168 tb_58 rfl (by decide) (by decide) (by decide) dX1_init_32 (fun q4 => ?_)
  refine j_w [(h, .inr (1, [.int 0, .ref q1, .ref q2, .ref q3, .null])), (q1, .inl (kk 0, 20, .inl (fun _ => 0))), (q2, .inl (kk 0, 20, .inl (fun _ => 0))), (q3, .inl (kk 0, 20, .inl (fun _ => 0))), (q4, .inl (kk 0, 168, .inl (fun _ => 0)))] rfl ?_
  refine j_putF (ty := (.array .int)) C inX1 gdX1 tyX1_ok nmX1 rfl 4 (by decide) rfl tb_45 rfl (HI rfl) rfl (by decide +kernel) 0 rfl rfl rfl (Nat.le_of_ble_eq_true rfl) (w' := [(h, .inr (1, [.int 0, .ref q1, .ref q2, .ref q3, .ref q4])), (q1, .inl (kk 0, 20, .inl (fun _ => 0))), (q2, .inl (kk 0, 20, .inl (fun _ => 0))), (q3, .inl (kk 0, 20, .inl (fun _ => 0))), (q4, .inl (kk 0, 168, .inl (fun _ => 0)))]) rfl dX1_init_34 ?_
  refine j_aload_n C 0 rfl dX1_init_37 ?_
  refine j_get C inX1 gdX1 rfl 4 (by decide) rfl tb_45 0 rfl rfl dX1_init_38 ?_
  refine j_iconst C ((-1)) (by decide) dX1_init_41 ?_
  refine j_w ([(h, .inr (1, [.int 0, .ref q1, .ref q2, .ref q3, .ref q4])), (q1, .inl (kk 0, 20, .inl (fun _ => 0))), (q2, .inl (kk 0, 20, .inl (fun _ => 0))), (q3, .inl (kk 0, 20, .inl (fun _ => 0)))] ++ [(q4, .inl (kk 0, 168, .inl (fun _ => 0)))]) rfl ?_
  refine j_S C [(h, .inr (1, [.int 0, .ref q1, .ref q2, .ref q3, .ref q4])), (q1, .inl (kk 0, 20, .inl (fun _ => 0))), (q2, .inl (kk 0, 20, .inl (fun _ => 0))), (q3, .inl (kk 0, 20, .inl (fun _ => 0)))] (c_fill kk q4 168 (by decide) (fun _ => 0) (-1)) kyJ7_fill_53178 tb_36 tb_37 rfl (Nat.le_of_ble_eq_true rfl) ⟨by decide, by decide⟩ ⟨by decide, by decide⟩ dX1_init_42 rfl (fun vr ur hp => ?_)
  obtain ⟨rfl, -⟩ := hp
  refine j_w [(h, .inr (1, [.int 0, .ref q1, .ref q2, .ref q3, .ref q4])), (q1, .inl (kk 0, 20, .inl (fun _ => 0))), (q2, .inl (kk 0, 20, .inl (fun _ => 0))), (q3, .inl (kk 0, 20, .inl (fun _ => 0))), (q4, .inl (kk 0, 168, .inl (fillF (fun _ => 0) (-1) 168)))] rfl ?_
  exact j_vret C E (fun j => if j = 1 then q1 else if j = 2 then q2 else if j = 3 then q3 else if j = 4 then q4 else 0) ⟨rfl, trivial⟩ rfl dX1_init_45
def iRadars (kk : Nat → Nat) (h : Nat)  (u : Nat → Nat) : va_W := [(h, .inr (6, [.int 0, .ref (u 1), .ref (u 2), .ref (u 3), .ref (u 4), .ref (u 5)])), ((u 1), .inl (kk 0, 6, .inl (fun _ => 0))), ((u 2), .inl (kk 0, 6, .inl (fun _ => 0))), ((u 3), .inl (kk 0, 6, .inl (fun _ => 0))), ((u 4), .inl (kk 0, 6, .inl (fun _ => 0))), ((u 5), .inl (kk 0, 6, .inl (fun _ => 0)))]
set_option maxRecDepth 100000 in
set_option maxHeartbeats 4000000 in
theorem c_Radars_init (kk : Nat → Nat) (h : Nat)  : jM (S := (Nat → Nat)) yX6_init cX6_init 1 none { frames := 1, cells := 5, slots := 30, locals := 20 } kk [(h, .inr (6, [.int 0, .null, .null, .null, .null, .null]))] [.ref h] (fun u : Nat → Nat => iRadars kk h  u) (rV (fun _ => True)) := by
  refine j_entry [(0, .ref h)] (by decide) (Nat.le_of_ble_eq_true rfl) rfl ?_
  intro X C E HI
  refine j_aload_n C 0 rfl dX6_init_0 ?_
  refine j_obj C tb_64 tb_22 tb_23 (by decide) (Nat.le_of_ble_eq_true rfl) dX6_init_1 ?_
  refine j_aload_n C 0 rfl dX6_init_4 ?_
  refine j_bipush C (nI 6) (by decide) dX6_init_5 ?_
  refine j_newi C 6 tb_58 rfl (by decide) (by decide) (by decide) dX6_init_7 (fun q1 => ?_)
  refine j_w [(h, .inr (6, [.int 0, .null, .null, .null, .null, .null])), (q1, .inl (kk 0, 6, .inl (fun _ => 0)))] rfl ?_
  refine j_putF (ty := (.array .int)) C inX6 gdX6 tyX6_ok nmX6 rfl 1 (by decide) rfl tb_68 rfl (HI rfl) rfl (by decide +kernel) 0 rfl rfl rfl (Nat.le_of_ble_eq_true rfl) (w' := [(h, .inr (6, [.int 0, .ref q1, .null, .null, .null, .null])), (q1, .inl (kk 0, 6, .inl (fun _ => 0)))]) rfl dX6_init_9 ?_
  refine j_aload_n C 0 rfl dX6_init_12 ?_
  refine j_bipush C (nI 6) (by decide) dX6_init_13 ?_
  refine j_newi C 6 tb_58 rfl (by decide) (by decide) (by decide) dX6_init_15 (fun q2 => ?_)
  refine j_w [(h, .inr (6, [.int 0, .ref q1, .null, .null, .null, .null])), (q1, .inl (kk 0, 6, .inl (fun _ => 0))), (q2, .inl (kk 0, 6, .inl (fun _ => 0)))] rfl ?_
  refine j_putF (ty := (.array .int)) C inX6 gdX6 tyX6_ok nmX6 rfl 2 (by decide) rfl tb_70 rfl (HI rfl) rfl (by decide +kernel) 0 rfl rfl rfl (Nat.le_of_ble_eq_true rfl) (w' := [(h, .inr (6, [.int 0, .ref q1, .ref q2, .null, .null, .null])), (q1, .inl (kk 0, 6, .inl (fun _ => 0))), (q2, .inl (kk 0, 6, .inl (fun _ => 0)))]) rfl dX6_init_17 ?_
  refine j_aload_n C 0 rfl dX6_init_20 ?_
  refine j_bipush C (nI 6) (by decide) dX6_init_21 ?_
  refine j_newi C 6 tb_58 rfl (by decide) (by decide) (by decide) dX6_init_23 (fun q3 => ?_)
  refine j_w [(h, .inr (6, [.int 0, .ref q1, .ref q2, .null, .null, .null])), (q1, .inl (kk 0, 6, .inl (fun _ => 0))), (q2, .inl (kk 0, 6, .inl (fun _ => 0))), (q3, .inl (kk 0, 6, .inl (fun _ => 0)))] rfl ?_
  refine j_putF (ty := (.array .int)) C inX6 gdX6 tyX6_ok nmX6 rfl 3 (by decide) rfl tb_72 rfl (HI rfl) rfl (by decide +kernel) 0 rfl rfl rfl (Nat.le_of_ble_eq_true rfl) (w' := [(h, .inr (6, [.int 0, .ref q1, .ref q2, .ref q3, .null, .null])), (q1, .inl (kk 0, 6, .inl (fun _ => 0))), (q2, .inl (kk 0, 6, .inl (fun _ => 0))), (q3, .inl (kk 0, 6, .inl (fun _ => 0)))]) rfl dX6_init_25 ?_
  refine j_aload_n C 0 rfl dX6_init_28 ?_
  refine j_bipush C (nI 6) (by decide) dX6_init_29 ?_
  refine j_newi C 6 tb_58 rfl (by decide) (by decide) (by decide) dX6_init_31 (fun q4 => ?_)
  refine j_w [(h, .inr (6, [.int 0, .ref q1, .ref q2, .ref q3, .null, .null])), (q1, .inl (kk 0, 6, .inl (fun _ => 0))), (q2, .inl (kk 0, 6, .inl (fun _ => 0))), (q3, .inl (kk 0, 6, .inl (fun _ => 0))), (q4, .inl (kk 0, 6, .inl (fun _ => 0)))] rfl ?_
  refine j_putF (ty := (.array .int)) C inX6 gdX6 tyX6_ok nmX6 rfl 4 (by decide) rfl tb_74 rfl (HI rfl) rfl (by decide +kernel) 0 rfl rfl rfl (Nat.le_of_ble_eq_true rfl) (w' := [(h, .inr (6, [.int 0, .ref q1, .ref q2, .ref q3, .ref q4, .null])), (q1, .inl (kk 0, 6, .inl (fun _ => 0))), (q2, .inl (kk 0, 6, .inl (fun _ => 0))), (q3, .inl (kk 0, 6, .inl (fun _ => 0))), (q4, .inl (kk 0, 6, .inl (fun _ => 0)))]) rfl dX6_init_33 ?_
  refine j_aload_n C 0 rfl dX6_init_36 ?_
  refine j_bipush C (nI 6) (by decide) dX6_init_37 ?_
  refine j_newi C 6 tb_58 rfl (by decide) (by decide) (by decide) dX6_init_39 (fun q5 => ?_)
  refine j_w [(h, .inr (6, [.int 0, .ref q1, .ref q2, .ref q3, .ref q4, .null])), (q1, .inl (kk 0, 6, .inl (fun _ => 0))), (q2, .inl (kk 0, 6, .inl (fun _ => 0))), (q3, .inl (kk 0, 6, .inl (fun _ => 0))), (q4, .inl (kk 0, 6, .inl (fun _ => 0))), (q5, .inl (kk 0, 6, .inl (fun _ => 0)))] rfl ?_
  refine j_putF (ty := (.array .int)) C inX6 gdX6 tyX6_ok nmX6 rfl 5 (by decide) rfl tb_76 rfl (HI rfl) rfl (by decide +kernel) 0 rfl rfl rfl (Nat.le_of_ble_eq_true rfl) (w' := [(h, .inr (6, [.int 0, .ref q1, .ref q2, .ref q3, .ref q4, .ref q5])), (q1, .inl (kk 0, 6, .inl (fun _ => 0))), (q2, .inl (kk 0, 6, .inl (fun _ => 0))), (q3, .inl (kk 0, 6, .inl (fun _ => 0))), (q4, .inl (kk 0, 6, .inl (fun _ => 0))), (q5, .inl (kk 0, 6, .inl (fun _ => 0)))]) rfl dX6_init_41 ?_
  exact j_vret C E (fun j => if j = 1 then q1 else if j = 2 then q2 else if j = 3 then q3 else if j = 4 then q4 else if j = 5 then q5 else 0) ⟨rfl, trivial⟩ rfl dX6_init_44
def iGarden (kk : Nat → Nat) (h : Nat)  (u : Nat → Nat) : va_W := [(h, .inr (2, [.int 0, .ref (u 1), .ref (u 2), .ref (u 3), .ref (u 4), .ref (u 5), .ref (u 6), .ref (u 7), .ref (u 8), .ref (u 9), .ref (u 10), .ref (u 15)])), ((u 1), .inl (kk 0, 6, .inl (fun _ => 0))), ((u 2), .inl (kk 0, 6, .inl (fun _ => 0))), ((u 3), .inl (kk 0, 18, .inl (fun _ => 0))), ((u 4), .inl (kk 0, 28, .inl (fun _ => 0))), ((u 5), .inl (kk 0, 168, .inl (fillF (fun _ => 0) (-1) 168))), ((u 6), .inl (kk 0, 168, .inl (fun _ => 0))), ((u 7), .inl (kk 0, 168, .inl (fun _ => 0))), ((u 8), .inl (kk 0, 168, .inl (fun _ => 0))), ((u 9), .inl (kk 0, 4, .inl (va_cpy (jS0 0) (fun _ => 0) 0 0 4))), ((u 10), .inr (1, [.int 0, .ref ((u 11)), .ref ((u 12)), .ref ((u 13)), .ref ((u 14))])), (((u 11)), .inl (kk 0, 20, .inl (fun _ => 0))), (((u 12)), .inl (kk 0, 20, .inl (fun _ => 0))), (((u 13)), .inl (kk 0, 20, .inl (fun _ => 0))), (((u 14)), .inl (kk 0, 168, .inl (fillF (fun _ => 0) (-1) 168))), ((u 15), .inr (6, [.int 0, .ref ((u 16)), .ref ((u 17)), .ref ((u 18)), .ref ((u 19)), .ref ((u 20))])), (((u 16)), .inl (kk 0, 6, .inl (fun _ => 0))), (((u 17)), .inl (kk 0, 6, .inl (fun _ => 0))), (((u 18)), .inl (kk 0, 6, .inl (fun _ => 0))), (((u 19)), .inl (kk 0, 6, .inl (fun _ => 0))), (((u 20)), .inl (kk 0, 6, .inl (fun _ => 0)))]
set_option maxRecDepth 100000 in
set_option maxHeartbeats 4000000 in
theorem c_Garden_init (kk : Nat → Nat) (h : Nat)  : jM (S := (Nat → Nat)) yX2_init cX2_init 1 none { frames := 2, cells := 20, slots := 1003, locals := 60 } kk [(h, .inr (2, [.int 0, .null, .null, .null, .null, .null, .null, .null, .null, .null, .null, .null]))] [.ref h] (fun u : Nat → Nat => iGarden kk h  u) (rV (fun _ => True)) := by
  refine j_entry [(0, .ref h)] (by decide) (Nat.le_of_ble_eq_true rfl) rfl ?_
  intro X C E HI
  refine j_aload_n C 0 rfl dX2_init_0 ?_
  refine j_obj C tb_29 tb_22 tb_23 (by decide) (Nat.le_of_ble_eq_true rfl) dX2_init_1 ?_
  refine j_aload_n C 0 rfl dX2_init_4 ?_
  refine j_bipush C (nI 6) (by decide) dX2_init_5 ?_
  refine j_newi C 6 tb_58 rfl (by decide) (by decide) (by decide) dX2_init_7 (fun q1 => ?_)
  refine j_w [(h, .inr (2, [.int 0, .null, .null, .null, .null, .null, .null, .null, .null, .null, .null, .null])), (q1, .inl (kk 0, 6, .inl (fun _ => 0)))] rfl ?_
  refine j_putF (ty := (.array .int)) C inX2 gdX2 tyX2_ok nmX2 rfl 1 (by decide) rfl tb_102 rfl (HI rfl) rfl (by decide +kernel) 0 rfl rfl rfl (Nat.le_of_ble_eq_true rfl) (w' := [(h, .inr (2, [.int 0, .ref q1, .null, .null, .null, .null, .null, .null, .null, .null, .null, .null])), (q1, .inl (kk 0, 6, .inl (fun _ => 0)))]) rfl dX2_init_9 ?_
  refine j_aload_n C 0 rfl dX2_init_12 ?_
  refine j_bipush C (nI 6) (by decide) dX2_init_13 ?_
  refine j_newi C 6 tb_58 rfl (by decide) (by decide) (by decide) dX2_init_15 (fun q2 => ?_)
  refine j_w [(h, .inr (2, [.int 0, .ref q1, .null, .null, .null, .null, .null, .null, .null, .null, .null, .null])), (q1, .inl (kk 0, 6, .inl (fun _ => 0))), (q2, .inl (kk 0, 6, .inl (fun _ => 0)))] rfl ?_
  refine j_putF (ty := (.array .int)) C inX2 gdX2 tyX2_ok nmX2 rfl 2 (by decide) rfl tb_106 rfl (HI rfl) rfl (by decide +kernel) 0 rfl rfl rfl (Nat.le_of_ble_eq_true rfl) (w' := [(h, .inr (2, [.int 0, .ref q1, .ref q2, .null, .null, .null, .null, .null, .null, .null, .null, .null])), (q1, .inl (kk 0, 6, .inl (fun _ => 0))), (q2, .inl (kk 0, 6, .inl (fun _ => 0)))]) rfl dX2_init_17 ?_
  refine j_aload_n C 0 rfl dX2_init_20 ?_
  refine j_bipush C (nI 18) (by decide) dX2_init_21 ?_
  refine j_newi C 18 tb_58 rfl (by decide) (by decide) (by decide) dX2_init_23 (fun q3 => ?_)
  refine j_w [(h, .inr (2, [.int 0, .ref q1, .ref q2, .null, .null, .null, .null, .null, .null, .null, .null, .null])), (q1, .inl (kk 0, 6, .inl (fun _ => 0))), (q2, .inl (kk 0, 6, .inl (fun _ => 0))), (q3, .inl (kk 0, 18, .inl (fun _ => 0)))] rfl ?_
  refine j_putF (ty := (.array .int)) C inX2 gdX2 tyX2_ok nmX2 rfl 3 (by decide) rfl tb_110 rfl (HI rfl) rfl (by decide +kernel) 0 rfl rfl rfl (Nat.le_of_ble_eq_true rfl) (w' := [(h, .inr (2, [.int 0, .ref q1, .ref q2, .ref q3, .null, .null, .null, .null, .null, .null, .null, .null])), (q1, .inl (kk 0, 6, .inl (fun _ => 0))), (q2, .inl (kk 0, 6, .inl (fun _ => 0))), (q3, .inl (kk 0, 18, .inl (fun _ => 0)))]) rfl dX2_init_25 ?_
  refine j_aload_n C 0 rfl dX2_init_28 ?_
  refine j_bipush C (nI 28) (by decide) dX2_init_29 ?_
  refine j_newi C 28 tb_58 rfl (by decide) (by decide) (by decide) dX2_init_31 (fun q4 => ?_)
  refine j_w [(h, .inr (2, [.int 0, .ref q1, .ref q2, .ref q3, .null, .null, .null, .null, .null, .null, .null, .null])), (q1, .inl (kk 0, 6, .inl (fun _ => 0))), (q2, .inl (kk 0, 6, .inl (fun _ => 0))), (q3, .inl (kk 0, 18, .inl (fun _ => 0))), (q4, .inl (kk 0, 28, .inl (fun _ => 0)))] rfl ?_
  refine j_putF (ty := (.array .int)) C inX2 gdX2 tyX2_ok nmX2 rfl 4 (by decide) rfl tb_113 rfl (HI rfl) rfl (by decide +kernel) 0 rfl rfl rfl (Nat.le_of_ble_eq_true rfl) (w' := [(h, .inr (2, [.int 0, .ref q1, .ref q2, .ref q3, .ref q4, .null, .null, .null, .null, .null, .null, .null])), (q1, .inl (kk 0, 6, .inl (fun _ => 0))), (q2, .inl (kk 0, 6, .inl (fun _ => 0))), (q3, .inl (kk 0, 18, .inl (fun _ => 0))), (q4, .inl (kk 0, 28, .inl (fun _ => 0)))]) rfl dX2_init_33 ?_
  refine j_aload_n C 0 rfl dX2_init_36 ?_
  refine j_sipush C (nI 168) (by decide) dX2_init_37 ?_
  refine j_newi C 168 tb_58 rfl (by decide) (by decide) (by decide) dX2_init_40 (fun q5 => ?_)
  refine j_w [(h, .inr (2, [.int 0, .ref q1, .ref q2, .ref q3, .ref q4, .null, .null, .null, .null, .null, .null, .null])), (q1, .inl (kk 0, 6, .inl (fun _ => 0))), (q2, .inl (kk 0, 6, .inl (fun _ => 0))), (q3, .inl (kk 0, 18, .inl (fun _ => 0))), (q4, .inl (kk 0, 28, .inl (fun _ => 0))), (q5, .inl (kk 0, 168, .inl (fun _ => 0)))] rfl ?_
  refine j_putF (ty := (.array .int)) C inX2 gdX2 tyX2_ok nmX2 rfl 5 (by decide) rfl tb_116 rfl (HI rfl) rfl (by decide +kernel) 0 rfl rfl rfl (Nat.le_of_ble_eq_true rfl) (w' := [(h, .inr (2, [.int 0, .ref q1, .ref q2, .ref q3, .ref q4, .ref q5, .null, .null, .null, .null, .null, .null])), (q1, .inl (kk 0, 6, .inl (fun _ => 0))), (q2, .inl (kk 0, 6, .inl (fun _ => 0))), (q3, .inl (kk 0, 18, .inl (fun _ => 0))), (q4, .inl (kk 0, 28, .inl (fun _ => 0))), (q5, .inl (kk 0, 168, .inl (fun _ => 0)))]) rfl dX2_init_42 ?_
  refine j_aload_n C 0 rfl dX2_init_45 ?_
  refine j_sipush C (nI 168) (by decide) dX2_init_46 ?_
  refine j_newi C 168 tb_58 rfl (by decide) (by decide) (by decide) dX2_init_49 (fun q6 => ?_)
  refine j_w [(h, .inr (2, [.int 0, .ref q1, .ref q2, .ref q3, .ref q4, .ref q5, .null, .null, .null, .null, .null, .null])), (q1, .inl (kk 0, 6, .inl (fun _ => 0))), (q2, .inl (kk 0, 6, .inl (fun _ => 0))), (q3, .inl (kk 0, 18, .inl (fun _ => 0))), (q4, .inl (kk 0, 28, .inl (fun _ => 0))), (q5, .inl (kk 0, 168, .inl (fun _ => 0))), (q6, .inl (kk 0, 168, .inl (fun _ => 0)))] rfl ?_
  refine j_putF (ty := (.array .int)) C inX2 gdX2 tyX2_ok nmX2 rfl 6 (by decide) rfl tb_120 rfl (HI rfl) rfl (by decide +kernel) 0 rfl rfl rfl (Nat.le_of_ble_eq_true rfl) (w' := [(h, .inr (2, [.int 0, .ref q1, .ref q2, .ref q3, .ref q4, .ref q5, .ref q6, .null, .null, .null, .null, .null])), (q1, .inl (kk 0, 6, .inl (fun _ => 0))), (q2, .inl (kk 0, 6, .inl (fun _ => 0))), (q3, .inl (kk 0, 18, .inl (fun _ => 0))), (q4, .inl (kk 0, 28, .inl (fun _ => 0))), (q5, .inl (kk 0, 168, .inl (fun _ => 0))), (q6, .inl (kk 0, 168, .inl (fun _ => 0)))]) rfl dX2_init_51 ?_
  refine j_aload_n C 0 rfl dX2_init_54 ?_
  refine j_sipush C (nI 168) (by decide) dX2_init_55 ?_
  refine j_newi C 168 tb_58 rfl (by decide) (by decide) (by decide) dX2_init_58 (fun q7 => ?_)
  refine j_w [(h, .inr (2, [.int 0, .ref q1, .ref q2, .ref q3, .ref q4, .ref q5, .ref q6, .null, .null, .null, .null, .null])), (q1, .inl (kk 0, 6, .inl (fun _ => 0))), (q2, .inl (kk 0, 6, .inl (fun _ => 0))), (q3, .inl (kk 0, 18, .inl (fun _ => 0))), (q4, .inl (kk 0, 28, .inl (fun _ => 0))), (q5, .inl (kk 0, 168, .inl (fun _ => 0))), (q6, .inl (kk 0, 168, .inl (fun _ => 0))), (q7, .inl (kk 0, 168, .inl (fun _ => 0)))] rfl ?_
  refine j_putF (ty := (.array .int)) C inX2 gdX2 tyX2_ok nmX2 rfl 7 (by decide) rfl tb_122 rfl (HI rfl) rfl (by decide +kernel) 0 rfl rfl rfl (Nat.le_of_ble_eq_true rfl) (w' := [(h, .inr (2, [.int 0, .ref q1, .ref q2, .ref q3, .ref q4, .ref q5, .ref q6, .ref q7, .null, .null, .null, .null])), (q1, .inl (kk 0, 6, .inl (fun _ => 0))), (q2, .inl (kk 0, 6, .inl (fun _ => 0))), (q3, .inl (kk 0, 18, .inl (fun _ => 0))), (q4, .inl (kk 0, 28, .inl (fun _ => 0))), (q5, .inl (kk 0, 168, .inl (fun _ => 0))), (q6, .inl (kk 0, 168, .inl (fun _ => 0))), (q7, .inl (kk 0, 168, .inl (fun _ => 0)))]) rfl dX2_init_60 ?_
  refine j_aload_n C 0 rfl dX2_init_63 ?_
  refine j_sipush C (nI 168) (by decide) dX2_init_64 ?_
  refine j_newi C 168 tb_58 rfl (by decide) (by decide) (by decide) dX2_init_67 (fun q8 => ?_)
  refine j_w [(h, .inr (2, [.int 0, .ref q1, .ref q2, .ref q3, .ref q4, .ref q5, .ref q6, .ref q7, .null, .null, .null, .null])), (q1, .inl (kk 0, 6, .inl (fun _ => 0))), (q2, .inl (kk 0, 6, .inl (fun _ => 0))), (q3, .inl (kk 0, 18, .inl (fun _ => 0))), (q4, .inl (kk 0, 28, .inl (fun _ => 0))), (q5, .inl (kk 0, 168, .inl (fun _ => 0))), (q6, .inl (kk 0, 168, .inl (fun _ => 0))), (q7, .inl (kk 0, 168, .inl (fun _ => 0))), (q8, .inl (kk 0, 168, .inl (fun _ => 0)))] rfl ?_
  refine j_putF (ty := (.array .int)) C inX2 gdX2 tyX2_ok nmX2 rfl 8 (by decide) rfl tb_124 rfl (HI rfl) rfl (by decide +kernel) 0 rfl rfl rfl (Nat.le_of_ble_eq_true rfl) (w' := [(h, .inr (2, [.int 0, .ref q1, .ref q2, .ref q3, .ref q4, .ref q5, .ref q6, .ref q7, .ref q8, .null, .null, .null])), (q1, .inl (kk 0, 6, .inl (fun _ => 0))), (q2, .inl (kk 0, 6, .inl (fun _ => 0))), (q3, .inl (kk 0, 18, .inl (fun _ => 0))), (q4, .inl (kk 0, 28, .inl (fun _ => 0))), (q5, .inl (kk 0, 168, .inl (fun _ => 0))), (q6, .inl (kk 0, 168, .inl (fun _ => 0))), (q7, .inl (kk 0, 168, .inl (fun _ => 0))), (q8, .inl (kk 0, 168, .inl (fun _ => 0)))]) rfl dX2_init_69 ?_
  refine j_aload_n C 0 rfl dX2_init_72 ?_
  refine j_iconst C (nI 4) (by decide) dX2_init_73 ?_
  refine j_newi C 4 tb_58 rfl (by decide) (by decide) (by decide) dX2_init_74 (fun q9 => ?_)
  refine j_w [(h, .inr (2, [.int 0, .ref q1, .ref q2, .ref q3, .ref q4, .ref q5, .ref q6, .ref q7, .ref q8, .null, .null, .null])), (q1, .inl (kk 0, 6, .inl (fun _ => 0))), (q2, .inl (kk 0, 6, .inl (fun _ => 0))), (q3, .inl (kk 0, 18, .inl (fun _ => 0))), (q4, .inl (kk 0, 28, .inl (fun _ => 0))), (q5, .inl (kk 0, 168, .inl (fun _ => 0))), (q6, .inl (kk 0, 168, .inl (fun _ => 0))), (q7, .inl (kk 0, 168, .inl (fun _ => 0))), (q8, .inl (kk 0, 168, .inl (fun _ => 0))), (q9, .inl (kk 0, 4, .inl (fun _ => 0)))] rfl ?_
  refine j_putF (ty := (.array .int)) C inX2 gdX2 tyX2_ok nmX2 rfl 9 (by decide) rfl tb_126 rfl (HI rfl) rfl (by decide +kernel) 0 rfl rfl rfl (Nat.le_of_ble_eq_true rfl) (w' := [(h, .inr (2, [.int 0, .ref q1, .ref q2, .ref q3, .ref q4, .ref q5, .ref q6, .ref q7, .ref q8, .ref q9, .null, .null])), (q1, .inl (kk 0, 6, .inl (fun _ => 0))), (q2, .inl (kk 0, 6, .inl (fun _ => 0))), (q3, .inl (kk 0, 18, .inl (fun _ => 0))), (q4, .inl (kk 0, 28, .inl (fun _ => 0))), (q5, .inl (kk 0, 168, .inl (fun _ => 0))), (q6, .inl (kk 0, 168, .inl (fun _ => 0))), (q7, .inl (kk 0, 168, .inl (fun _ => 0))), (q8, .inl (kk 0, 168, .inl (fun _ => 0))), (q9, .inl (kk 0, 4, .inl (fun _ => 0)))]) rfl dX2_init_76 ?_
  refine j_aload_n C 0 rfl dX2_init_79 ?_
  refine j_new (ci := 1) C inX1 gdX1 tyX1_ok tb_30 tb_31 tb_3 rfl [.int 0, .null, .null, .null, .null] (fun j hj => by rcases (show j = 0 ∨ j = 1 ∨ j = 2 ∨ j = 3 ∨ j = 4 by omega) with rfl | rfl | rfl | rfl | rfl <;> rfl) (by decide) (by decide) dX2_init_80 (fun q10 => ?_)
  refine j_w [(h, .inr (2, [.int 0, .ref q1, .ref q2, .ref q3, .ref q4, .ref q5, .ref q6, .ref q7, .ref q8, .ref q9, .null, .null])), (q1, .inl (kk 0, 6, .inl (fun _ => 0))), (q2, .inl (kk 0, 6, .inl (fun _ => 0))), (q3, .inl (kk 0, 18, .inl (fun _ => 0))), (q4, .inl (kk 0, 28, .inl (fun _ => 0))), (q5, .inl (kk 0, 168, .inl (fun _ => 0))), (q6, .inl (kk 0, 168, .inl (fun _ => 0))), (q7, .inl (kk 0, 168, .inl (fun _ => 0))), (q8, .inl (kk 0, 168, .inl (fun _ => 0))), (q9, .inl (kk 0, 4, .inl (fun _ => 0))), (q10, .inr (1, [.int 0, .null, .null, .null, .null]))] rfl ?_
  refine j_dup C rfl dX2_init_83 ?_
  refine j_w ([(h, .inr (2, [.int 0, .ref q1, .ref q2, .ref q3, .ref q4, .ref q5, .ref q6, .ref q7, .ref q8, .ref q9, .null, .null])), (q1, .inl (kk 0, 6, .inl (fun _ => 0))), (q2, .inl (kk 0, 6, .inl (fun _ => 0))), (q3, .inl (kk 0, 18, .inl (fun _ => 0))), (q4, .inl (kk 0, 28, .inl (fun _ => 0))), (q5, .inl (kk 0, 168, .inl (fun _ => 0))), (q6, .inl (kk 0, 168, .inl (fun _ => 0))), (q7, .inl (kk 0, 168, .inl (fun _ => 0))), (q8, .inl (kk 0, 168, .inl (fun _ => 0))), (q9, .inl (kk 0, 4, .inl (fun _ => 0)))] ++ [(q10, .inr (1, [.int 0, .null, .null, .null, .null]))]) rfl ?_
  refine j_I (ce := 10) (sl := 739) (As := []) (rest := [.ref q10, .ref h]) C [(h, .inr (2, [.int 0, .ref q1, .ref q2, .ref q3, .ref q4, .ref q5, .ref q6, .ref q7, .ref q8, .ref q9, .null, .null])), (q1, .inl (kk 0, 6, .inl (fun _ => 0))), (q2, .inl (kk 0, 6, .inl (fun _ => 0))), (q3, .inl (kk 0, 18, .inl (fun _ => 0))), (q4, .inl (kk 0, 28, .inl (fun _ => 0))), (q5, .inl (kk 0, 168, .inl (fun _ => 0))), (q6, .inl (kk 0, 168, .inl (fun _ => 0))), (q7, .inl (kk 0, 168, .inl (fun _ => 0))), (q8, .inl (kk 0, 168, .inl (fun _ => 0))), (q9, .inl (kk 0, 4, .inl (fun _ => 0)))] (c_Fixes_init kk q10 ) kyX1_init tb_32 tb_33 rfl rfl (Nat.le_of_ble_eq_true rfl) ⟨by decide, by decide⟩ ⟨by decide, by decide⟩ dX2_init_84 rfl (fun vr ur hp => ?_)
  obtain ⟨rfl, -⟩ := hp
  obtain ⟨u11, eu11⟩ : ∃ z, z = ur := ⟨_, rfl⟩
  subst eu11
  refine j_w [(h, .inr (2, [.int 0, .ref q1, .ref q2, .ref q3, .ref q4, .ref q5, .ref q6, .ref q7, .ref q8, .ref q9, .null, .null])), (q1, .inl (kk 0, 6, .inl (fun _ => 0))), (q2, .inl (kk 0, 6, .inl (fun _ => 0))), (q3, .inl (kk 0, 18, .inl (fun _ => 0))), (q4, .inl (kk 0, 28, .inl (fun _ => 0))), (q5, .inl (kk 0, 168, .inl (fun _ => 0))), (q6, .inl (kk 0, 168, .inl (fun _ => 0))), (q7, .inl (kk 0, 168, .inl (fun _ => 0))), (q8, .inl (kk 0, 168, .inl (fun _ => 0))), (q9, .inl (kk 0, 4, .inl (fun _ => 0))), (q10, .inr (1, [.int 0, .ref (u11 1), .ref (u11 2), .ref (u11 3), .ref (u11 4)])), ((u11 1), .inl (kk 0, 20, .inl (fun _ => 0))), ((u11 2), .inl (kk 0, 20, .inl (fun _ => 0))), ((u11 3), .inl (kk 0, 20, .inl (fun _ => 0))), ((u11 4), .inl (kk 0, 168, .inl (fillF (fun _ => 0) (-1) 168)))] rfl ?_
  refine j_putF (ty := (.object "RainCans$Fixes")) C inX2 gdX2 tyX2_ok nmX2 rfl 10 (by decide) rfl tb_132 rfl (HI rfl) rfl (by decide +kernel) 0 rfl rfl rfl (Nat.le_of_ble_eq_true rfl) (w' := [(h, .inr (2, [.int 0, .ref q1, .ref q2, .ref q3, .ref q4, .ref q5, .ref q6, .ref q7, .ref q8, .ref q9, .ref q10, .null])), (q1, .inl (kk 0, 6, .inl (fun _ => 0))), (q2, .inl (kk 0, 6, .inl (fun _ => 0))), (q3, .inl (kk 0, 18, .inl (fun _ => 0))), (q4, .inl (kk 0, 28, .inl (fun _ => 0))), (q5, .inl (kk 0, 168, .inl (fun _ => 0))), (q6, .inl (kk 0, 168, .inl (fun _ => 0))), (q7, .inl (kk 0, 168, .inl (fun _ => 0))), (q8, .inl (kk 0, 168, .inl (fun _ => 0))), (q9, .inl (kk 0, 4, .inl (fun _ => 0))), (q10, .inr (1, [.int 0, .ref (u11 1), .ref (u11 2), .ref (u11 3), .ref (u11 4)])), ((u11 1), .inl (kk 0, 20, .inl (fun _ => 0))), ((u11 2), .inl (kk 0, 20, .inl (fun _ => 0))), ((u11 3), .inl (kk 0, 20, .inl (fun _ => 0))), ((u11 4), .inl (kk 0, 168, .inl (fillF (fun _ => 0) (-1) 168)))]) rfl dX2_init_87 ?_
  refine j_aload_n C 0 rfl dX2_init_90 ?_
  refine j_new (ci := 6) C inX6 gdX6 tyX6_ok tb_59 tb_60 tb_5 rfl [.int 0, .null, .null, .null, .null, .null] (fun j hj => by rcases (show j = 0 ∨ j = 1 ∨ j = 2 ∨ j = 3 ∨ j = 4 ∨ j = 5 by omega) with rfl | rfl | rfl | rfl | rfl | rfl <;> rfl) (by decide) (by decide) dX2_init_91 (fun q12 => ?_)
  refine j_w [(h, .inr (2, [.int 0, .ref q1, .ref q2, .ref q3, .ref q4, .ref q5, .ref q6, .ref q7, .ref q8, .ref q9, .ref q10, .null])), (q1, .inl (kk 0, 6, .inl (fun _ => 0))), (q2, .inl (kk 0, 6, .inl (fun _ => 0))), (q3, .inl (kk 0, 18, .inl (fun _ => 0))), (q4, .inl (kk 0, 28, .inl (fun _ => 0))), (q5, .inl (kk 0, 168, .inl (fun _ => 0))), (q6, .inl (kk 0, 168, .inl (fun _ => 0))), (q7, .inl (kk 0, 168, .inl (fun _ => 0))), (q8, .inl (kk 0, 168, .inl (fun _ => 0))), (q9, .inl (kk 0, 4, .inl (fun _ => 0))), (q10, .inr (1, [.int 0, .ref (u11 1), .ref (u11 2), .ref (u11 3), .ref (u11 4)])), ((u11 1), .inl (kk 0, 20, .inl (fun _ => 0))), ((u11 2), .inl (kk 0, 20, .inl (fun _ => 0))), ((u11 3), .inl (kk 0, 20, .inl (fun _ => 0))), ((u11 4), .inl (kk 0, 168, .inl (fillF (fun _ => 0) (-1) 168))), (q12, .inr (6, [.int 0, .null, .null, .null, .null, .null]))] rfl ?_
  refine j_dup C rfl dX2_init_94 ?_
  refine j_w ([(h, .inr (2, [.int 0, .ref q1, .ref q2, .ref q3, .ref q4, .ref q5, .ref q6, .ref q7, .ref q8, .ref q9, .ref q10, .null])), (q1, .inl (kk 0, 6, .inl (fun _ => 0))), (q2, .inl (kk 0, 6, .inl (fun _ => 0))), (q3, .inl (kk 0, 18, .inl (fun _ => 0))), (q4, .inl (kk 0, 28, .inl (fun _ => 0))), (q5, .inl (kk 0, 168, .inl (fun _ => 0))), (q6, .inl (kk 0, 168, .inl (fun _ => 0))), (q7, .inl (kk 0, 168, .inl (fun _ => 0))), (q8, .inl (kk 0, 168, .inl (fun _ => 0))), (q9, .inl (kk 0, 4, .inl (fun _ => 0))), (q10, .inr (1, [.int 0, .ref (u11 1), .ref (u11 2), .ref (u11 3), .ref (u11 4)])), ((u11 1), .inl (kk 0, 20, .inl (fun _ => 0))), ((u11 2), .inl (kk 0, 20, .inl (fun _ => 0))), ((u11 3), .inl (kk 0, 20, .inl (fun _ => 0))), ((u11 4), .inl (kk 0, 168, .inl (fillF (fun _ => 0) (-1) 168)))] ++ [(q12, .inr (6, [.int 0, .null, .null, .null, .null, .null]))]) rfl ?_
  refine j_IN (ce := 15) (sl := 973) (As := []) (rest := [.ref q12, .ref h]) C [(h, .inr (2, [.int 0, .ref q1, .ref q2, .ref q3, .ref q4, .ref q5, .ref q6, .ref q7, .ref q8, .ref q9, .ref q10, .null])), (q1, .inl (kk 0, 6, .inl (fun _ => 0))), (q2, .inl (kk 0, 6, .inl (fun _ => 0))), (q3, .inl (kk 0, 18, .inl (fun _ => 0))), (q4, .inl (kk 0, 28, .inl (fun _ => 0))), (q5, .inl (kk 0, 168, .inl (fun _ => 0))), (q6, .inl (kk 0, 168, .inl (fun _ => 0))), (q7, .inl (kk 0, 168, .inl (fun _ => 0))), (q8, .inl (kk 0, 168, .inl (fun _ => 0))), (q9, .inl (kk 0, 4, .inl (fun _ => 0))), (q10, .inr (1, [.int 0, .ref (u11 1), .ref (u11 2), .ref (u11 3), .ref (u11 4)])), ((u11 1), .inl (kk 0, 20, .inl (fun _ => 0))), ((u11 2), .inl (kk 0, 20, .inl (fun _ => 0))), ((u11 3), .inl (kk 0, 20, .inl (fun _ => 0))), ((u11 4), .inl (kk 0, 168, .inl (fillF (fun _ => 0) (-1) 168)))] (c_Radars_init kk q12 ) kyX6_init (fun _ h => h.1) tb_62 rfl rfl (Nat.le_of_ble_eq_true rfl) ⟨by decide, by decide⟩ ⟨by decide, by decide⟩ dX2_init_95 rfl (fun vr ur hp => ?_)
  obtain ⟨rfl, -⟩ := hp
  obtain ⟨u13, eu13⟩ : ∃ z, z = ur := ⟨_, rfl⟩
  subst eu13
  refine j_w [(h, .inr (2, [.int 0, .ref q1, .ref q2, .ref q3, .ref q4, .ref q5, .ref q6, .ref q7, .ref q8, .ref q9, .ref q10, .null])), (q1, .inl (kk 0, 6, .inl (fun _ => 0))), (q2, .inl (kk 0, 6, .inl (fun _ => 0))), (q3, .inl (kk 0, 18, .inl (fun _ => 0))), (q4, .inl (kk 0, 28, .inl (fun _ => 0))), (q5, .inl (kk 0, 168, .inl (fun _ => 0))), (q6, .inl (kk 0, 168, .inl (fun _ => 0))), (q7, .inl (kk 0, 168, .inl (fun _ => 0))), (q8, .inl (kk 0, 168, .inl (fun _ => 0))), (q9, .inl (kk 0, 4, .inl (fun _ => 0))), (q10, .inr (1, [.int 0, .ref (u11 1), .ref (u11 2), .ref (u11 3), .ref (u11 4)])), ((u11 1), .inl (kk 0, 20, .inl (fun _ => 0))), ((u11 2), .inl (kk 0, 20, .inl (fun _ => 0))), ((u11 3), .inl (kk 0, 20, .inl (fun _ => 0))), ((u11 4), .inl (kk 0, 168, .inl (fillF (fun _ => 0) (-1) 168))), (q12, .inr (6, [.int 0, .ref (u13 1), .ref (u13 2), .ref (u13 3), .ref (u13 4), .ref (u13 5)])), ((u13 1), .inl (kk 0, 6, .inl (fun _ => 0))), ((u13 2), .inl (kk 0, 6, .inl (fun _ => 0))), ((u13 3), .inl (kk 0, 6, .inl (fun _ => 0))), ((u13 4), .inl (kk 0, 6, .inl (fun _ => 0))), ((u13 5), .inl (kk 0, 6, .inl (fun _ => 0)))] rfl ?_
  refine j_putF (ty := (.object "RainCans$Radars")) C inX2 gdX2 tyX2_ok nmX2 rfl 11 (by decide) rfl tb_134 rfl (HI rfl) rfl (by decide +kernel) 0 rfl rfl rfl (Nat.le_of_ble_eq_true rfl) (w' := [(h, .inr (2, [.int 0, .ref q1, .ref q2, .ref q3, .ref q4, .ref q5, .ref q6, .ref q7, .ref q8, .ref q9, .ref q10, .ref q12])), (q1, .inl (kk 0, 6, .inl (fun _ => 0))), (q2, .inl (kk 0, 6, .inl (fun _ => 0))), (q3, .inl (kk 0, 18, .inl (fun _ => 0))), (q4, .inl (kk 0, 28, .inl (fun _ => 0))), (q5, .inl (kk 0, 168, .inl (fun _ => 0))), (q6, .inl (kk 0, 168, .inl (fun _ => 0))), (q7, .inl (kk 0, 168, .inl (fun _ => 0))), (q8, .inl (kk 0, 168, .inl (fun _ => 0))), (q9, .inl (kk 0, 4, .inl (fun _ => 0))), (q10, .inr (1, [.int 0, .ref (u11 1), .ref (u11 2), .ref (u11 3), .ref (u11 4)])), ((u11 1), .inl (kk 0, 20, .inl (fun _ => 0))), ((u11 2), .inl (kk 0, 20, .inl (fun _ => 0))), ((u11 3), .inl (kk 0, 20, .inl (fun _ => 0))), ((u11 4), .inl (kk 0, 168, .inl (fillF (fun _ => 0) (-1) 168))), (q12, .inr (6, [.int 0, .ref (u13 1), .ref (u13 2), .ref (u13 3), .ref (u13 4), .ref (u13 5)])), ((u13 1), .inl (kk 0, 6, .inl (fun _ => 0))), ((u13 2), .inl (kk 0, 6, .inl (fun _ => 0))), ((u13 3), .inl (kk 0, 6, .inl (fun _ => 0))), ((u13 4), .inl (kk 0, 6, .inl (fun _ => 0))), ((u13 5), .inl (kk 0, 6, .inl (fun _ => 0)))]) rfl dX2_init_98 ?_
  refine j_aload_n C 0 rfl dX2_init_101 ?_
  refine j_get C inX2 gdX2 rfl 5 (by decide) rfl tb_116 0 rfl rfl dX2_init_102 ?_
  refine j_iconst C ((-1)) (by decide) dX2_init_105 ?_
  refine j_perm (w' := [(h, .inr (2, [.int 0, .ref q1, .ref q2, .ref q3, .ref q4, .ref q5, .ref q6, .ref q7, .ref q8, .ref q9, .ref q10, .ref q12])), (q1, .inl (kk 0, 6, .inl (fun _ => 0))), (q2, .inl (kk 0, 6, .inl (fun _ => 0))), (q3, .inl (kk 0, 18, .inl (fun _ => 0))), (q4, .inl (kk 0, 28, .inl (fun _ => 0))), (q6, .inl (kk 0, 168, .inl (fun _ => 0))), (q7, .inl (kk 0, 168, .inl (fun _ => 0))), (q8, .inl (kk 0, 168, .inl (fun _ => 0))), (q9, .inl (kk 0, 4, .inl (fun _ => 0))), (q10, .inr (1, [.int 0, .ref (u11 1), .ref (u11 2), .ref (u11 3), .ref (u11 4)])), ((u11 1), .inl (kk 0, 20, .inl (fun _ => 0))), ((u11 2), .inl (kk 0, 20, .inl (fun _ => 0))), ((u11 3), .inl (kk 0, 20, .inl (fun _ => 0))), ((u11 4), .inl (kk 0, 168, .inl (fillF (fun _ => 0) (-1) 168))), (q12, .inr (6, [.int 0, .ref (u13 1), .ref (u13 2), .ref (u13 3), .ref (u13 4), .ref (u13 5)])), ((u13 1), .inl (kk 0, 6, .inl (fun _ => 0))), ((u13 2), .inl (kk 0, 6, .inl (fun _ => 0))), ((u13 3), .inl (kk 0, 6, .inl (fun _ => 0))), ((u13 4), .inl (kk 0, 6, .inl (fun _ => 0))), ((u13 5), .inl (kk 0, 6, .inl (fun _ => 0))), (q5, .inl (kk 0, 168, .inl (fun _ => 0)))]) [0, 1, 2, 3, 4, 6, 7, 8, 9, 10, 11, 12, 13, 14, 15, 16, 17, 18, 19, 20, 5] rfl rfl ?_
  refine j_w ([(h, .inr (2, [.int 0, .ref q1, .ref q2, .ref q3, .ref q4, .ref q5, .ref q6, .ref q7, .ref q8, .ref q9, .ref q10, .ref q12])), (q1, .inl (kk 0, 6, .inl (fun _ => 0))), (q2, .inl (kk 0, 6, .inl (fun _ => 0))), (q3, .inl (kk 0, 18, .inl (fun _ => 0))), (q4, .inl (kk 0, 28, .inl (fun _ => 0))), (q6, .inl (kk 0, 168, .inl (fun _ => 0))), (q7, .inl (kk 0, 168, .inl (fun _ => 0))), (q8, .inl (kk 0, 168, .inl (fun _ => 0))), (q9, .inl (kk 0, 4, .inl (fun _ => 0))), (q10, .inr (1, [.int 0, .ref (u11 1), .ref (u11 2), .ref (u11 3), .ref (u11 4)])), ((u11 1), .inl (kk 0, 20, .inl (fun _ => 0))), ((u11 2), .inl (kk 0, 20, .inl (fun _ => 0))), ((u11 3), .inl (kk 0, 20, .inl (fun _ => 0))), ((u11 4), .inl (kk 0, 168, .inl (fillF (fun _ => 0) (-1) 168))), (q12, .inr (6, [.int 0, .ref (u13 1), .ref (u13 2), .ref (u13 3), .ref (u13 4), .ref (u13 5)])), ((u13 1), .inl (kk 0, 6, .inl (fun _ => 0))), ((u13 2), .inl (kk 0, 6, .inl (fun _ => 0))), ((u13 3), .inl (kk 0, 6, .inl (fun _ => 0))), ((u13 4), .inl (kk 0, 6, .inl (fun _ => 0))), ((u13 5), .inl (kk 0, 6, .inl (fun _ => 0)))] ++ [(q5, .inl (kk 0, 168, .inl (fun _ => 0)))]) rfl ?_
  refine j_S C [(h, .inr (2, [.int 0, .ref q1, .ref q2, .ref q3, .ref q4, .ref q5, .ref q6, .ref q7, .ref q8, .ref q9, .ref q10, .ref q12])), (q1, .inl (kk 0, 6, .inl (fun _ => 0))), (q2, .inl (kk 0, 6, .inl (fun _ => 0))), (q3, .inl (kk 0, 18, .inl (fun _ => 0))), (q4, .inl (kk 0, 28, .inl (fun _ => 0))), (q6, .inl (kk 0, 168, .inl (fun _ => 0))), (q7, .inl (kk 0, 168, .inl (fun _ => 0))), (q8, .inl (kk 0, 168, .inl (fun _ => 0))), (q9, .inl (kk 0, 4, .inl (fun _ => 0))), (q10, .inr (1, [.int 0, .ref (u11 1), .ref (u11 2), .ref (u11 3), .ref (u11 4)])), ((u11 1), .inl (kk 0, 20, .inl (fun _ => 0))), ((u11 2), .inl (kk 0, 20, .inl (fun _ => 0))), ((u11 3), .inl (kk 0, 20, .inl (fun _ => 0))), ((u11 4), .inl (kk 0, 168, .inl (fillF (fun _ => 0) (-1) 168))), (q12, .inr (6, [.int 0, .ref (u13 1), .ref (u13 2), .ref (u13 3), .ref (u13 4), .ref (u13 5)])), ((u13 1), .inl (kk 0, 6, .inl (fun _ => 0))), ((u13 2), .inl (kk 0, 6, .inl (fun _ => 0))), ((u13 3), .inl (kk 0, 6, .inl (fun _ => 0))), ((u13 4), .inl (kk 0, 6, .inl (fun _ => 0))), ((u13 5), .inl (kk 0, 6, .inl (fun _ => 0)))] (c_fill kk q5 168 (by decide) (fun _ => 0) (-1)) kyJ7_fill_53178 tb_91 tb_37 rfl (Nat.le_of_ble_eq_true rfl) ⟨by decide, by decide⟩ ⟨by decide, by decide⟩ dX2_init_106 rfl (fun vr ur hp => ?_)
  obtain ⟨rfl, -⟩ := hp
  refine j_w [(h, .inr (2, [.int 0, .ref q1, .ref q2, .ref q3, .ref q4, .ref q5, .ref q6, .ref q7, .ref q8, .ref q9, .ref q10, .ref q12])), (q1, .inl (kk 0, 6, .inl (fun _ => 0))), (q2, .inl (kk 0, 6, .inl (fun _ => 0))), (q3, .inl (kk 0, 18, .inl (fun _ => 0))), (q4, .inl (kk 0, 28, .inl (fun _ => 0))), (q6, .inl (kk 0, 168, .inl (fun _ => 0))), (q7, .inl (kk 0, 168, .inl (fun _ => 0))), (q8, .inl (kk 0, 168, .inl (fun _ => 0))), (q9, .inl (kk 0, 4, .inl (fun _ => 0))), (q10, .inr (1, [.int 0, .ref (u11 1), .ref (u11 2), .ref (u11 3), .ref (u11 4)])), ((u11 1), .inl (kk 0, 20, .inl (fun _ => 0))), ((u11 2), .inl (kk 0, 20, .inl (fun _ => 0))), ((u11 3), .inl (kk 0, 20, .inl (fun _ => 0))), ((u11 4), .inl (kk 0, 168, .inl (fillF (fun _ => 0) (-1) 168))), (q12, .inr (6, [.int 0, .ref (u13 1), .ref (u13 2), .ref (u13 3), .ref (u13 4), .ref (u13 5)])), ((u13 1), .inl (kk 0, 6, .inl (fun _ => 0))), ((u13 2), .inl (kk 0, 6, .inl (fun _ => 0))), ((u13 3), .inl (kk 0, 6, .inl (fun _ => 0))), ((u13 4), .inl (kk 0, 6, .inl (fun _ => 0))), ((u13 5), .inl (kk 0, 6, .inl (fun _ => 0))), (q5, .inl (kk 0, 168, .inl (fillF (fun _ => 0) (-1) 168)))] rfl ?_
  refine j_gsN C rfl dX2_init_109 ?_
  refine j_iconst C (nI 0) (by decide) dX2_init_112 ?_
  refine j_aload_n C 0 rfl dX2_init_113 ?_
  refine j_get C inX2 gdX2 rfl 9 (by decide) rfl tb_126 0 rfl rfl dX2_init_114 ?_
  refine j_iconst C (nI 0) (by decide) dX2_init_117 ?_
  refine j_iconst C (nI 4) (by decide) dX2_init_118 ?_
  refine j_copyT C tb_94 tb_96 tb_95 tb_6 8 rfl (by decide) (by decide) (Nat.le_of_ble_eq_true rfl) (w' := [(h, .inr (2, [.int 0, .ref q1, .ref q2, .ref q3, .ref q4, .ref q5, .ref q6, .ref q7, .ref q8, .ref q9, .ref q10, .ref q12])), (q1, .inl (kk 0, 6, .inl (fun _ => 0))), (q2, .inl (kk 0, 6, .inl (fun _ => 0))), (q3, .inl (kk 0, 18, .inl (fun _ => 0))), (q4, .inl (kk 0, 28, .inl (fun _ => 0))), (q6, .inl (kk 0, 168, .inl (fun _ => 0))), (q7, .inl (kk 0, 168, .inl (fun _ => 0))), (q8, .inl (kk 0, 168, .inl (fun _ => 0))), (q9, .inl (kk 0, 4, .inl (va_cpy (jS0 0) (fun _ => 0) 0 0 4))), (q10, .inr (1, [.int 0, .ref (u11 1), .ref (u11 2), .ref (u11 3), .ref (u11 4)])), ((u11 1), .inl (kk 0, 20, .inl (fun _ => 0))), ((u11 2), .inl (kk 0, 20, .inl (fun _ => 0))), ((u11 3), .inl (kk 0, 20, .inl (fun _ => 0))), ((u11 4), .inl (kk 0, 168, .inl (fillF (fun _ => 0) (-1) 168))), (q12, .inr (6, [.int 0, .ref (u13 1), .ref (u13 2), .ref (u13 3), .ref (u13 4), .ref (u13 5)])), ((u13 1), .inl (kk 0, 6, .inl (fun _ => 0))), ((u13 2), .inl (kk 0, 6, .inl (fun _ => 0))), ((u13 3), .inl (kk 0, 6, .inl (fun _ => 0))), ((u13 4), .inl (kk 0, 6, .inl (fun _ => 0))), ((u13 5), .inl (kk 0, 6, .inl (fun _ => 0))), (q5, .inl (kk 0, 168, .inl (fillF (fun _ => 0) (-1) 168)))]) rfl dX2_init_119 ?_
  refine j_perm (w' := [(h, .inr (2, [.int 0, .ref q1, .ref q2, .ref q3, .ref q4, .ref q5, .ref q6, .ref q7, .ref q8, .ref q9, .ref q10, .ref q12])), (q1, .inl (kk 0, 6, .inl (fun _ => 0))), (q2, .inl (kk 0, 6, .inl (fun _ => 0))), (q3, .inl (kk 0, 18, .inl (fun _ => 0))), (q4, .inl (kk 0, 28, .inl (fun _ => 0))), (q5, .inl (kk 0, 168, .inl (fillF (fun _ => 0) (-1) 168))), (q6, .inl (kk 0, 168, .inl (fun _ => 0))), (q7, .inl (kk 0, 168, .inl (fun _ => 0))), (q8, .inl (kk 0, 168, .inl (fun _ => 0))), (q9, .inl (kk 0, 4, .inl (va_cpy (jS0 0) (fun _ => 0) 0 0 4))), (q10, .inr (1, [.int 0, .ref (u11 1), .ref (u11 2), .ref (u11 3), .ref (u11 4)])), ((u11 1), .inl (kk 0, 20, .inl (fun _ => 0))), ((u11 2), .inl (kk 0, 20, .inl (fun _ => 0))), ((u11 3), .inl (kk 0, 20, .inl (fun _ => 0))), ((u11 4), .inl (kk 0, 168, .inl (fillF (fun _ => 0) (-1) 168))), (q12, .inr (6, [.int 0, .ref (u13 1), .ref (u13 2), .ref (u13 3), .ref (u13 4), .ref (u13 5)])), ((u13 1), .inl (kk 0, 6, .inl (fun _ => 0))), ((u13 2), .inl (kk 0, 6, .inl (fun _ => 0))), ((u13 3), .inl (kk 0, 6, .inl (fun _ => 0))), ((u13 4), .inl (kk 0, 6, .inl (fun _ => 0))), ((u13 5), .inl (kk 0, 6, .inl (fun _ => 0)))]) [0, 1, 2, 3, 4, 20, 5, 6, 7, 8, 9, 10, 11, 12, 13, 14, 15, 16, 17, 18, 19] rfl rfl ?_
  exact j_vret C E (fun j => if j = 1 then q1 else if j = 2 then q2 else if j = 3 then q3 else if j = 4 then q4 else if j = 5 then q5 else if j = 6 then q6 else if j = 7 then q7 else if j = 8 then q8 else if j = 9 then q9 else if j = 10 then q10 else if j = 11 then (u11 1) else if j = 12 then (u11 2) else if j = 13 then (u11 3) else if j = 14 then (u11 4) else if j = 15 then q12 else if j = 16 then (u13 1) else if j = 17 then (u13 2) else if j = 18 then (u13 3) else if j = 19 then (u13 4) else if j = 20 then (u13 5) else 0) ⟨rfl, trivial⟩ rfl dX2_init_122
def iPad (kk : Nat → Nat) (h : Nat)  (u : Nat → Nat) : va_W := [(h, .inr (5, [.int 0, .int 0, .ref (u 1), .ref (u 2), .ref (u 3), .ref (u 4)])), ((u 1), .inl (kk 0, 40, .inl (fun _ => 0))), ((u 2), .inl (kk 0, 28, .inl (fun _ => 0))), ((u 3), .inl (kk 0, 28, .inl (fun _ => 0))), ((u 4), .inl (kk 0, 28, .inl (fun _ => 0)))]
set_option maxRecDepth 100000 in
set_option maxHeartbeats 4000000 in
theorem c_Pad_init (kk : Nat → Nat) (h : Nat)  : jM (S := (Nat → Nat)) yX5_init cX5_init 1 none { frames := 1, cells := 4, slots := 124, locals := 20 } kk [(h, .inr (5, [.int 0, .int 0, .null, .null, .null, .null]))] [.ref h] (fun u : Nat → Nat => iPad kk h  u) (rV (fun _ => True)) := by
  refine j_entry [(0, .ref h)] (by decide) (Nat.le_of_ble_eq_true rfl) rfl ?_
  intro X C E HI
  refine j_aload_n C 0 rfl dX5_init_0 ?_
  refine j_obj C tb_167 tb_22 tb_23 (by decide) (Nat.le_of_ble_eq_true rfl) dX5_init_1 ?_
  refine j_aload_n C 0 rfl dX5_init_4 ?_
  refine j_bipush C (nI 40) (by decide) dX5_init_5 ?_
  refine j_newi C 40 tb_58 rfl (by decide) (by decide) (by decide) dX5_init_7 (fun q1 => ?_)
  refine j_w [(h, .inr (5, [.int 0, .int 0, .null, .null, .null, .null])), (q1, .inl (kk 0, 40, .inl (fun _ => 0)))] rfl ?_
  refine j_putF (ty := (.array .int)) C inX5 gdX5 tyX5_ok nmX5 rfl 2 (by decide) rfl tb_172 rfl (HI rfl) rfl (by decide +kernel) 0 rfl rfl rfl (Nat.le_of_ble_eq_true rfl) (w' := [(h, .inr (5, [.int 0, .int 0, .ref q1, .null, .null, .null])), (q1, .inl (kk 0, 40, .inl (fun _ => 0)))]) rfl dX5_init_9 ?_
  refine j_aload_n C 0 rfl dX5_init_12 ?_
  refine j_bipush C (nI 28) (by decide) dX5_init_13 ?_
  refine j_newi C 28 tb_58 rfl (by decide) (by decide) (by decide) dX5_init_15 (fun q2 => ?_)
  refine j_w [(h, .inr (5, [.int 0, .int 0, .ref q1, .null, .null, .null])), (q1, .inl (kk 0, 40, .inl (fun _ => 0))), (q2, .inl (kk 0, 28, .inl (fun _ => 0)))] rfl ?_
  refine j_putF (ty := (.array .int)) C inX5 gdX5 tyX5_ok nmX5 rfl 3 (by decide) rfl tb_173 rfl (HI rfl) rfl (by decide +kernel) 0 rfl rfl rfl (Nat.le_of_ble_eq_true rfl) (w' := [(h, .inr (5, [.int 0, .int 0, .ref q1, .ref q2, .null, .null])), (q1, .inl (kk 0, 40, .inl (fun _ => 0))), (q2, .inl (kk 0, 28, .inl (fun _ => 0)))]) rfl dX5_init_17 ?_
  refine j_aload_n C 0 rfl dX5_init_20 ?_
  refine j_bipush C (nI 28) (by decide) dX5_init_21 ?_
  refine j_newi C 28 tb_58 rfl (by decide) (by decide) (by decide) dX5_init_23 (fun q3 => ?_)
  refine j_w [(h, .inr (5, [.int 0, .int 0, .ref q1, .ref q2, .null, .null])), (q1, .inl (kk 0, 40, .inl (fun _ => 0))), (q2, .inl (kk 0, 28, .inl (fun _ => 0))), (q3, .inl (kk 0, 28, .inl (fun _ => 0)))] rfl ?_
  refine j_putF (ty := (.array .int)) C inX5 gdX5 tyX5_ok nmX5 rfl 4 (by decide) rfl tb_175 rfl (HI rfl) rfl (by decide +kernel) 0 rfl rfl rfl (Nat.le_of_ble_eq_true rfl) (w' := [(h, .inr (5, [.int 0, .int 0, .ref q1, .ref q2, .ref q3, .null])), (q1, .inl (kk 0, 40, .inl (fun _ => 0))), (q2, .inl (kk 0, 28, .inl (fun _ => 0))), (q3, .inl (kk 0, 28, .inl (fun _ => 0)))]) rfl dX5_init_25 ?_
  refine j_aload_n C 0 rfl dX5_init_28 ?_
  refine j_bipush C (nI 28) (by decide) dX5_init_29 ?_
  refine j_newi C 28 tb_58 rfl (by decide) (by decide) (by decide) dX5_init_31 (fun q4 => ?_)
  refine j_w [(h, .inr (5, [.int 0, .int 0, .ref q1, .ref q2, .ref q3, .null])), (q1, .inl (kk 0, 40, .inl (fun _ => 0))), (q2, .inl (kk 0, 28, .inl (fun _ => 0))), (q3, .inl (kk 0, 28, .inl (fun _ => 0))), (q4, .inl (kk 0, 28, .inl (fun _ => 0)))] rfl ?_
  refine j_putF (ty := (.array .int)) C inX5 gdX5 tyX5_ok nmX5 rfl 5 (by decide) rfl tb_177 rfl (HI rfl) rfl (by decide +kernel) 0 rfl rfl rfl (Nat.le_of_ble_eq_true rfl) (w' := [(h, .inr (5, [.int 0, .int 0, .ref q1, .ref q2, .ref q3, .ref q4])), (q1, .inl (kk 0, 40, .inl (fun _ => 0))), (q2, .inl (kk 0, 28, .inl (fun _ => 0))), (q3, .inl (kk 0, 28, .inl (fun _ => 0))), (q4, .inl (kk 0, 28, .inl (fun _ => 0)))]) rfl dX5_init_33 ?_
  exact j_vret C E (fun j => if j = 1 then q1 else if j = 2 then q2 else if j = 3 then q3 else if j = 4 then q4 else 0) ⟨rfl, trivial⟩ rfl dX5_init_36
def iRain (kk : Nat → Nat) (h : Nat) (ga : Nat) (u : Nat → Nat) : va_W := [(h, .inr (7, [.ref ga, .ref (u 1), .ref (u 2), .ref (u 3), .ref (u 4), .int (nI 1)])), ((u 1), .inl (kk 0, 168, .inl (fun _ => 0))), ((u 2), .inl (kk 0, 168, .inl (fun _ => 0))), ((u 3), .inl (kk 0, 168, .inl (fun _ => 0))), ((u 4), .inl (kk 0, 168, .inl (fun _ => 0)))]
set_option maxRecDepth 100000 in
set_option maxHeartbeats 4000000 in
theorem c_Rain_init (kk : Nat → Nat) (h : Nat) (ga : Nat) : jM (S := (Nat → Nat)) yX7_init cX7_init 2 none { frames := 1, cells := 4, slots := 672, locals := 20 } kk [(h, .inr (7, [.null, .null, .null, .null, .null, .int 0]))] [.ref h, .ref ga] (fun u : Nat → Nat => iRain kk h ga u) (rV (fun _ => True)) := by
  refine j_entry [(0, .ref h), (1, .ref ga)] (by decide) (Nat.le_of_ble_eq_true rfl) rfl ?_
  intro X C E HI
  refine j_aload_n C 0 rfl dX7_init_0 ?_
  refine j_obj C tb_197 tb_22 tb_23 (by decide) (Nat.le_of_ble_eq_true rfl) dX7_init_1 ?_
  refine j_aload_n C 0 rfl dX7_init_4 ?_
  refine j_sipush C (nI 168) (by decide) dX7_init_5 ?_
  refine j_newi C 168 tb_58 rfl (by decide) (by decide) (by decide) dX7_init_8 (fun q1 => ?_)
  refine j_w [(h, .inr (7, [.null, .null, .null, .null, .null, .int 0])), (q1, .inl (kk 0, 168, .inl (fun _ => 0)))] rfl ?_
  refine j_putF (ty := (.array .int)) C inX7 gdX7 tyX7_ok nmX7 rfl 1 (by decide) rfl tb_202 rfl (HI rfl) rfl (by decide +kernel) 0 rfl rfl rfl (Nat.le_of_ble_eq_true rfl) (w' := [(h, .inr (7, [.null, .ref q1, .null, .null, .null, .int 0])), (q1, .inl (kk 0, 168, .inl (fun _ => 0)))]) rfl dX7_init_10 ?_
  refine j_aload_n C 0 rfl dX7_init_13 ?_
  refine j_sipush C (nI 168) (by decide) dX7_init_14 ?_
  refine j_newi C 168 tb_58 rfl (by decide) (by decide) (by decide) dX7_init_17 (fun q2 => ?_)
  refine j_w [(h, .inr (7, [.null, .ref q1, .null, .null, .null, .int 0])), (q1, .inl (kk 0, 168, .inl (fun _ => 0))), (q2, .inl (kk 0, 168, .inl (fun _ => 0)))] rfl ?_
  refine j_putF (ty := (.array .int)) C inX7 gdX7 tyX7_ok nmX7 rfl 2 (by decide) rfl tb_203 rfl (HI rfl) rfl (by decide +kernel) 0 rfl rfl rfl (Nat.le_of_ble_eq_true rfl) (w' := [(h, .inr (7, [.null, .ref q1, .ref q2, .null, .null, .int 0])), (q1, .inl (kk 0, 168, .inl (fun _ => 0))), (q2, .inl (kk 0, 168, .inl (fun _ => 0)))]) rfl dX7_init_19 ?_
  refine j_aload_n C 0 rfl dX7_init_22 ?_
  refine j_sipush C (nI 168) (by decide) dX7_init_23 ?_
  refine j_newi C 168 tb_58 rfl (by decide) (by decide) (by decide) dX7_init_26 (fun q3 => ?_)
  refine j_w [(h, .inr (7, [.null, .ref q1, .ref q2, .null, .null, .int 0])), (q1, .inl (kk 0, 168, .inl (fun _ => 0))), (q2, .inl (kk 0, 168, .inl (fun _ => 0))), (q3, .inl (kk 0, 168, .inl (fun _ => 0)))] rfl ?_
  refine j_putF (ty := (.array .int)) C inX7 gdX7 tyX7_ok nmX7 rfl 3 (by decide) rfl tb_204 rfl (HI rfl) rfl (by decide +kernel) 0 rfl rfl rfl (Nat.le_of_ble_eq_true rfl) (w' := [(h, .inr (7, [.null, .ref q1, .ref q2, .ref q3, .null, .int 0])), (q1, .inl (kk 0, 168, .inl (fun _ => 0))), (q2, .inl (kk 0, 168, .inl (fun _ => 0))), (q3, .inl (kk 0, 168, .inl (fun _ => 0)))]) rfl dX7_init_28 ?_
  refine j_aload_n C 0 rfl dX7_init_31 ?_
  refine j_sipush C (nI 168) (by decide) dX7_init_32 ?_
  refine j_newi C 168 tb_58 rfl (by decide) (by decide) (by decide) dX7_init_35 (fun q4 => ?_)
  refine j_w [(h, .inr (7, [.null, .ref q1, .ref q2, .ref q3, .null, .int 0])), (q1, .inl (kk 0, 168, .inl (fun _ => 0))), (q2, .inl (kk 0, 168, .inl (fun _ => 0))), (q3, .inl (kk 0, 168, .inl (fun _ => 0))), (q4, .inl (kk 0, 168, .inl (fun _ => 0)))] rfl ?_
  refine j_putF (ty := (.array .int)) C inX7 gdX7 tyX7_ok nmX7 rfl 4 (by decide) rfl tb_207 rfl (HI rfl) rfl (by decide +kernel) 0 rfl rfl rfl (Nat.le_of_ble_eq_true rfl) (w' := [(h, .inr (7, [.null, .ref q1, .ref q2, .ref q3, .ref q4, .int 0])), (q1, .inl (kk 0, 168, .inl (fun _ => 0))), (q2, .inl (kk 0, 168, .inl (fun _ => 0))), (q3, .inl (kk 0, 168, .inl (fun _ => 0))), (q4, .inl (kk 0, 168, .inl (fun _ => 0)))]) rfl dX7_init_37 ?_
  refine j_aload_n C 0 rfl dX7_init_40 ?_
  refine j_iconst C (nI 1) (by decide) dX7_init_41 ?_
  refine j_put (ty := .boolean) C inX7 gdX7 tyX7_ok nmX7 rfl 5 (by decide) rfl tb_213 rfl (by decide +kernel) 0 rfl rfl rfl (Nat.le_of_ble_eq_true rfl) (w' := [(h, .inr (7, [.null, .ref q1, .ref q2, .ref q3, .ref q4, .int (nI 1)])), (q1, .inl (kk 0, 168, .inl (fun _ => 0))), (q2, .inl (kk 0, 168, .inl (fun _ => 0))), (q3, .inl (kk 0, 168, .inl (fun _ => 0))), (q4, .inl (kk 0, 168, .inl (fun _ => 0)))]) rfl dX7_init_42 ?_
  refine j_aload_n C 0 rfl dX7_init_45 ?_
  refine j_aload_n C 1 rfl dX7_init_46 ?_
  refine j_putF (ty := (.object "RainCans$Garden")) C inX7 gdX7 tyX7_ok nmX7 rfl 0 (by decide) rfl tb_198 rfl (HI rfl) rfl (by decide +kernel) 0 rfl rfl rfl (Nat.le_of_ble_eq_true rfl) (w' := [(h, .inr (7, [.ref ga, .ref q1, .ref q2, .ref q3, .ref q4, .int (nI 1)])), (q1, .inl (kk 0, 168, .inl (fun _ => 0))), (q2, .inl (kk 0, 168, .inl (fun _ => 0))), (q3, .inl (kk 0, 168, .inl (fun _ => 0))), (q4, .inl (kk 0, 168, .inl (fun _ => 0)))]) rfl dX7_init_47 ?_
  exact j_vret C E (fun j => if j = 1 then q1 else if j = 2 then q2 else if j = 3 then q3 else if j = 4 then q4 else 0) ⟨rfl, trivial⟩ rfl dX7_init_50
set_option maxRecDepth 100000 in
set_option maxHeartbeats 4000000 in
theorem c_isMending (a i j : Nat) (ha : a < 100) (hi : i < 100) (hj : j < 100) : jMp yX9_isMending cX9_isMending 3 (some .boolean) { frames := 0, cells := 0, slots := 0, locals := 0 } [.int (nI a), .int (nI i), .int (nI j)] (some (.int (bI (mdB a i j)))) := fun kk => by
  refine j_entry [(0, .int (nI a)), (1, .int (nI i)), (2, .int (nI j))] (by decide) (Nat.le_of_ble_eq_true rfl) rfl ?_
  intro X C E HI
  refine j_iload_n C 0 rfl dX9_isMending_0 ?_
  refine j_if_neN C 20 (by decide) (by omega) dX9_isMending_1 (fun c1 => ?_) (fun c1 => ?_)
  · refine j_iload_n C 0 rfl dX9_isMending_20 ?_
    refine j_iconst C (nI 1) (by decide) dX9_isMending_21 ?_
    refine j_icmp_neN C 47 (by decide) (by omega) (by omega) dX9_isMending_22 (fun c2 => ?_) (fun c2 => ?_)
    · refine j_iload_n C 2 rfl dX9_isMending_47 ?_
      refine j_bipush C (nI 7) (by decide) dX9_isMending_48 ?_
      refine j_icmp_geN C 71 (by decide) (by omega) (by omega) dX9_isMending_50 (fun c3 => ?_) (fun c3 => ?_)
      · refine j_iconst C (nI 0) (by decide) dX9_isMending_71 ?_
        exact j_zret C E (by first | rfl | decide) (()) (congrArg (fun z => some (Value.int z)) (bI_0 (by simp [mdB, *] <;> omega))) rfl dX9_isMending_72
      · refine j_iload_n C 2 rfl dX9_isMending_53 ?_
        refine j_iload_n C 1 rfl dX9_isMending_54 ?_
        refine j_iconst C (nI 1) (by decide) dX9_isMending_55 ?_
        refine j_iaddN C dX9_isMending_56 ?_
        refine j_icmp_eqN C 67 (by decide) (by omega) (by omega) dX9_isMending_57 (fun c4 => ?_) (fun c4 => ?_)
        · refine j_iconst C (nI 1) (by decide) dX9_isMending_67 ?_
          refine j_goto C 72 (by decide) dX9_isMending_68 ?_
          exact j_zret C E (by first | rfl | decide) (()) (congrArg (fun z => some (Value.int z)) (bI_1 (by simp [mdB, *] <;> omega))) rfl dX9_isMending_72
        · refine j_iload_n C 2 rfl dX9_isMending_60 ?_
          refine j_iload_n C 1 rfl dX9_isMending_61 ?_
          refine j_iconst C (nI 2) (by decide) dX9_isMending_62 ?_
          refine j_iaddN C dX9_isMending_63 ?_
          refine j_icmp_neN C 71 (by decide) (by omega) (by omega) dX9_isMending_64 (fun c5 => ?_) (fun c5 => ?_)
          · refine j_iconst C (nI 0) (by decide) dX9_isMending_71 ?_
            exact j_zret C E (by first | rfl | decide) (()) (congrArg (fun z => some (Value.int z)) (bI_0 (by simp [mdB, *] <;> omega))) rfl dX9_isMending_72
          · refine j_iconst C (nI 1) (by decide) dX9_isMending_67 ?_
            refine j_goto C 72 (by decide) dX9_isMending_68 ?_
            exact j_zret C E (by first | rfl | decide) (()) (congrArg (fun z => some (Value.int z)) (bI_1 (by simp [mdB, *] <;> omega))) rfl dX9_isMending_72
    · refine j_iload_n C 1 rfl dX9_isMending_25 ?_
      refine j_iconst C (nI 1) (by decide) dX9_isMending_26 ?_
      refine j_icmp_ltN C 45 (by decide) (by omega) (by omega) dX9_isMending_27 (fun c6 => ?_) (fun c6 => ?_)
      · refine j_iconst C (nI 0) (by decide) dX9_isMending_45 ?_
        exact j_zret C E (by first | rfl | decide) (()) (congrArg (fun z => some (Value.int z)) (bI_0 (by simp [mdB, *] <;> omega))) rfl dX9_isMending_46
      · refine j_iload_n C 2 rfl dX9_isMending_30 ?_
        refine j_iload_n C 1 rfl dX9_isMending_31 ?_
        refine j_icmp_ltN C 45 (by decide) (by omega) (by omega) dX9_isMending_32 (fun c7 => ?_) (fun c7 => ?_)
        · refine j_iconst C (nI 0) (by decide) dX9_isMending_45 ?_
          exact j_zret C E (by first | rfl | decide) (()) (congrArg (fun z => some (Value.int z)) (bI_0 (by simp [mdB, *] <;> omega))) rfl dX9_isMending_46
        · refine j_iload_n C 2 rfl dX9_isMending_35 ?_
          refine j_bipush C (nI 7) (by decide) dX9_isMending_36 ?_
          refine j_icmp_geN C 45 (by decide) (by omega) (by omega) dX9_isMending_38 (fun c8 => ?_) (fun c8 => ?_)
          · refine j_iconst C (nI 0) (by decide) dX9_isMending_45 ?_
            exact j_zret C E (by first | rfl | decide) (()) (congrArg (fun z => some (Value.int z)) (bI_0 (by simp [mdB, *] <;> omega))) rfl dX9_isMending_46
          · refine j_iconst C (nI 1) (by decide) dX9_isMending_41 ?_
            refine j_goto C 46 (by decide) dX9_isMending_42 ?_
            exact j_zret C E (by first | rfl | decide) (()) (congrArg (fun z => some (Value.int z)) (bI_1 (by simp [mdB, *] <;> omega))) rfl dX9_isMending_46
  · refine j_iload_n C 1 rfl dX9_isMending_4 ?_
    refine j_bipush C (nI 6) (by decide) dX9_isMending_5 ?_
    refine j_icmp_geN C 18 (by decide) (by omega) (by omega) dX9_isMending_7 (fun c9 => ?_) (fun c9 => ?_)
    · refine j_iconst C (nI 0) (by decide) dX9_isMending_18 ?_
      exact j_zret C E (by first | rfl | decide) (()) (congrArg (fun z => some (Value.int z)) (bI_0 (by simp [mdB, *] <;> omega))) rfl dX9_isMending_19
    · refine j_iload_n C 2 rfl dX9_isMending_10 ?_
      refine j_if_neN C 18 (by decide) (by omega) dX9_isMending_11 (fun c10 => ?_) (fun c10 => ?_)
      · refine j_iconst C (nI 0) (by decide) dX9_isMending_18 ?_
        exact j_zret C E (by first | rfl | decide) (()) (congrArg (fun z => some (Value.int z)) (bI_0 (by simp [mdB, *] <;> omega))) rfl dX9_isMending_19
      · refine j_iconst C (nI 1) (by decide) dX9_isMending_14 ?_
        refine j_goto C 19 (by decide) dX9_isMending_15 ?_
        exact j_zret C E (by first | rfl | decide) (()) (congrArg (fun z => some (Value.int z)) (bI_1 (by simp [mdB, *] <;> omega))) rfl dX9_isMending_19
def iWeek (kk : Nat → Nat) (h : Nat) (ra : Nat) (u : Nat → Nat) : va_W := [(h, .inr (9, [.ref ra, .ref (u 1), .ref (u 2), .ref (u 3), .ref (u 4), .ref (u 5), .int 0, .int 0, .int 0, .int 0])), ((u 1), .inl (kk 0, 38, .inl (wf 257))), ((u 2), .inl (kk 0, 7, .inl (fun _ => 0))), ((u 3), .inl (kk 0, 7, .inl (fun _ => 0))), ((u 4), .inl (kk 0, 7, .inl (fun _ => 0))), ((u 5), .inl (kk 0, 7, .inl (fun _ => 0)))]
set_option maxRecDepth 100000 in
set_option maxHeartbeats 4000000 in
theorem c_Week_init (kk : Nat → Nat) (h : Nat) (ra : Nat) : jM (S := (Nat → Nat)) yX9_init cX9_init 4 none { frames := 1, cells := 5, slots := 66, locals := 22 } kk [(h, .inr (9, [.null, .null, .null, .null, .null, .null, .int 0, .int 0, .int 0, .int 0]))] [.ref h, .ref ra] (fun u : Nat → Nat => iWeek kk h ra u) (rV (fun _ => True)) := by
  refine j_entry [(0, .ref h), (1, .ref ra)] (by decide) (Nat.le_of_ble_eq_true rfl) rfl ?_
  intro X C E HI
  refine j_aload_n C 0 rfl dX9_init_0 ?_
  refine j_obj C tb_233 tb_22 tb_23 (by decide) (Nat.le_of_ble_eq_true rfl) dX9_init_1 ?_
  refine j_aload_n C 0 rfl dX9_init_4 ?_
  refine j_bipush C (nI 38) (by decide) dX9_init_5 ?_
  refine j_newi C 38 tb_58 rfl (by decide) (by decide) (by decide) dX9_init_7 (fun q1 => ?_)
  refine j_w [(h, .inr (9, [.null, .null, .null, .null, .null, .null, .int 0, .int 0, .int 0, .int 0])), (q1, .inl (kk 0, 38, .inl (fun _ => 0)))] rfl ?_
  refine j_putF (ty := (.array .int)) C inX9 gdX9 tyX9_ok nmX9 rfl 1 (by decide) rfl tb_238 rfl (HI rfl) rfl (by decide +kernel) 0 rfl rfl rfl (Nat.le_of_ble_eq_true rfl) (w' := [(h, .inr (9, [.null, .ref q1, .null, .null, .null, .null, .int 0, .int 0, .int 0, .int 0])), (q1, .inl (kk 0, 38, .inl (fun _ => 0)))]) rfl dX9_init_9 ?_
  refine j_aload_n C 0 rfl dX9_init_12 ?_
  refine j_bipush C (nI 7) (by decide) dX9_init_13 ?_
  refine j_newi C 7 tb_58 rfl (by decide) (by decide) (by decide) dX9_init_15 (fun q2 => ?_)
  refine j_w [(h, .inr (9, [.null, .ref q1, .null, .null, .null, .null, .int 0, .int 0, .int 0, .int 0])), (q1, .inl (kk 0, 38, .inl (fun _ => 0))), (q2, .inl (kk 0, 7, .inl (fun _ => 0)))] rfl ?_
  refine j_putF (ty := (.array .int)) C inX9 gdX9 tyX9_ok nmX9 rfl 2 (by decide) rfl tb_239 rfl (HI rfl) rfl (by decide +kernel) 0 rfl rfl rfl (Nat.le_of_ble_eq_true rfl) (w' := [(h, .inr (9, [.null, .ref q1, .ref q2, .null, .null, .null, .int 0, .int 0, .int 0, .int 0])), (q1, .inl (kk 0, 38, .inl (fun _ => 0))), (q2, .inl (kk 0, 7, .inl (fun _ => 0)))]) rfl dX9_init_17 ?_
  refine j_aload_n C 0 rfl dX9_init_20 ?_
  refine j_bipush C (nI 7) (by decide) dX9_init_21 ?_
  refine j_newi C 7 tb_58 rfl (by decide) (by decide) (by decide) dX9_init_23 (fun q3 => ?_)
  refine j_w [(h, .inr (9, [.null, .ref q1, .ref q2, .null, .null, .null, .int 0, .int 0, .int 0, .int 0])), (q1, .inl (kk 0, 38, .inl (fun _ => 0))), (q2, .inl (kk 0, 7, .inl (fun _ => 0))), (q3, .inl (kk 0, 7, .inl (fun _ => 0)))] rfl ?_
  refine j_putF (ty := (.array .int)) C inX9 gdX9 tyX9_ok nmX9 rfl 3 (by decide) rfl tb_240 rfl (HI rfl) rfl (by decide +kernel) 0 rfl rfl rfl (Nat.le_of_ble_eq_true rfl) (w' := [(h, .inr (9, [.null, .ref q1, .ref q2, .ref q3, .null, .null, .int 0, .int 0, .int 0, .int 0])), (q1, .inl (kk 0, 38, .inl (fun _ => 0))), (q2, .inl (kk 0, 7, .inl (fun _ => 0))), (q3, .inl (kk 0, 7, .inl (fun _ => 0)))]) rfl dX9_init_25 ?_
  refine j_aload_n C 0 rfl dX9_init_28 ?_
  refine j_bipush C (nI 7) (by decide) dX9_init_29 ?_
  refine j_newi C 7 tb_58 rfl (by decide) (by decide) (by decide) dX9_init_31 (fun q4 => ?_)
  refine j_w [(h, .inr (9, [.null, .ref q1, .ref q2, .ref q3, .null, .null, .int 0, .int 0, .int 0, .int 0])), (q1, .inl (kk 0, 38, .inl (fun _ => 0))), (q2, .inl (kk 0, 7, .inl (fun _ => 0))), (q3, .inl (kk 0, 7, .inl (fun _ => 0))), (q4, .inl (kk 0, 7, .inl (fun _ => 0)))] rfl ?_
  refine j_putF (ty := (.array .int)) C inX9 gdX9 tyX9_ok nmX9 rfl 4 (by decide) rfl tb_241 rfl (HI rfl) rfl (by decide +kernel) 0 rfl rfl rfl (Nat.le_of_ble_eq_true rfl) (w' := [(h, .inr (9, [.null, .ref q1, .ref q2, .ref q3, .ref q4, .null, .int 0, .int 0, .int 0, .int 0])), (q1, .inl (kk 0, 38, .inl (fun _ => 0))), (q2, .inl (kk 0, 7, .inl (fun _ => 0))), (q3, .inl (kk 0, 7, .inl (fun _ => 0))), (q4, .inl (kk 0, 7, .inl (fun _ => 0)))]) rfl dX9_init_33 ?_
  refine j_aload_n C 0 rfl dX9_init_36 ?_
  refine j_bipush C (nI 7) (by decide) dX9_init_37 ?_
  refine j_newi C 7 tb_58 rfl (by decide) (by decide) (by decide) dX9_init_39 (fun q5 => ?_)
  refine j_w [(h, .inr (9, [.null, .ref q1, .ref q2, .ref q3, .ref q4, .null, .int 0, .int 0, .int 0, .int 0])), (q1, .inl (kk 0, 38, .inl (fun _ => 0))), (q2, .inl (kk 0, 7, .inl (fun _ => 0))), (q3, .inl (kk 0, 7, .inl (fun _ => 0))), (q4, .inl (kk 0, 7, .inl (fun _ => 0))), (q5, .inl (kk 0, 7, .inl (fun _ => 0)))] rfl ?_
  refine j_putF (ty := (.array .int)) C inX9 gdX9 tyX9_ok nmX9 rfl 5 (by decide) rfl tb_242 rfl (HI rfl) rfl (by decide +kernel) 0 rfl rfl rfl (Nat.le_of_ble_eq_true rfl) (w' := [(h, .inr (9, [.null, .ref q1, .ref q2, .ref q3, .ref q4, .ref q5, .int 0, .int 0, .int 0, .int 0])), (q1, .inl (kk 0, 38, .inl (fun _ => 0))), (q2, .inl (kk 0, 7, .inl (fun _ => 0))), (q3, .inl (kk 0, 7, .inl (fun _ => 0))), (q4, .inl (kk 0, 7, .inl (fun _ => 0))), (q5, .inl (kk 0, 7, .inl (fun _ => 0)))]) rfl dX9_init_41 ?_
  refine j_aload_n C 0 rfl dX9_init_44 ?_
  refine j_aload_n C 1 rfl dX9_init_45 ?_
  refine j_putF (ty := (.object "RainCans$Rain")) C inX9 gdX9 tyX9_ok nmX9 rfl 0 (by decide) rfl tb_237 rfl (HI rfl) rfl (by decide +kernel) 0 rfl rfl rfl (Nat.le_of_ble_eq_true rfl) (w' := [(h, .inr (9, [.ref ra, .ref q1, .ref q2, .ref q3, .ref q4, .ref q5, .int 0, .int 0, .int 0, .int 0])), (q1, .inl (kk 0, 38, .inl (fun _ => 0))), (q2, .inl (kk 0, 7, .inl (fun _ => 0))), (q3, .inl (kk 0, 7, .inl (fun _ => 0))), (q4, .inl (kk 0, 7, .inl (fun _ => 0))), (q5, .inl (kk 0, 7, .inl (fun _ => 0)))]) rfl dX9_init_46 ?_
  refine j_iconst C (nI 0) (by decide) dX9_init_49 ?_
  refine j_istore_n C [(2, .int (nI 0)), (0, .ref h), (1, .ref ra)] rfl (by decide) rfl dX9_init_50 ?_
  refine j_iconst C (nI 0) (by decide) dX9_init_51 ?_
  refine j_istore_n C [(3, .int (nI 0)), (2, .int (nI 0)), (0, .ref h), (1, .ref ra)] rfl (by decide) rfl dX9_init_52 ?_
  have L53 : ∀ (nL53 : Nat) (n c : Nat) (f : Nat → Int32) (hc : c ≤ 257) (h38 : n ≤ 38) (hn : n = wn c) (hf : f = wf c) (hmL53 : 300 - c < nL53), J X 5 66 [(h, .inr (9, [.ref ra, .ref q1, .ref q2, .ref q3, .ref q4, .ref q5, .int 0, .int 0, .int 0, .int 0])), (q1, .inl (kk 0, 38, .inl f)), (q2, .inl (kk 0, 7, .inl (fun _ => 0))), (q3, .inl (kk 0, 7, .inl (fun _ => 0))), (q4, .inl (kk 0, 7, .inl (fun _ => 0))), (q5, .inl (kk 0, 7, .inl (fun _ => 0)))] [(0, .ref h), (1, .ref ra), (2, .int (nI n)), (3, .int (nI c))] 53 [] := by
    intro nL53
    induction nL53 with
    | zero => intro n c f hc h38 hn hf hm; exact absurd hm (Nat.not_lt_zero _)
    | succ nL53 ihL53 =>
      intro n c f hc h38 hn hf hmL53
      refine j_iload_n C 3 rfl dX9_init_53 ?_
      refine j_sipush C (nI 300) (by decide) dX9_init_54 ?_
      refine j_icmp_geN C 103 (by decide) (by omega) (by omega) dX9_init_57 (fun c6 => ?_) (fun c6 => ?_)
      · have hc3 : c = 257 := by
          rcases Nat.lt_or_ge c 257 with h9 | h9
          · have := wn_lt c h9
            omega
          · omega
        subst hc3
        subst hf
        exact j_vret C E (fun j => if j = 1 then q1 else if j = 2 then q2 else if j = 3 then q3 else if j = 4 then q4 else if j = 5 then q5 else 0) ⟨rfl, trivial⟩ rfl dX9_init_103
      · refine j_iload_n C 2 rfl dX9_init_60 ?_
        refine j_bipush C (nI 38) (by decide) dX9_init_61 ?_
        refine j_icmp_geN C 103 (by decide) (by omega) (by omega) dX9_init_63 (fun c7 => ?_) (fun c7 => ?_)
        · have hc3 : c = 257 := by
            rcases Nat.lt_or_ge c 257 with h9 | h9
            · have := wn_lt c h9
              omega
            · omega
          subst hc3
          subst hf
          exact j_vret C E (fun j => if j = 1 then q1 else if j = 2 then q2 else if j = 3 then q3 else if j = 4 then q4 else if j = 5 then q5 else 0) ⟨rfl, trivial⟩ rfl dX9_init_103
        · have hw : wn c < 38 := by omega
          have hc2 : c < 257 := Nat.lt_of_le_of_ne hc (fun e => by subst e; exact absurd hw (by decide +kernel))
          refine j_iload_n C 3 rfl dX9_init_66 ?_
          refine j_bipush C (nI 100) (by decide) dX9_init_67 ?_
          refine j_idivN C (by omega) (by omega) (by omega) dX9_init_69 ?_
          refine j_iload_n C 3 rfl dX9_init_70 ?_
          refine j_bipush C (nI 10) (by decide) dX9_init_71 ?_
          refine j_idivN C (by omega) (by omega) (by omega) dX9_init_73 ?_
          refine j_bipush C (nI 10) (by decide) dX9_init_74 ?_
          refine j_iremN C (by omega) (by omega) (by omega) dX9_init_76 ?_
          refine j_iload_n C 3 rfl dX9_init_77 ?_
          refine j_bipush C (nI 10) (by decide) dX9_init_78 ?_
          refine j_iremN C (by omega) (by omega) (by omega) dX9_init_80 ?_
          refine j_S01 C (c_isMending (c / 100) ((c / 10) % 10) (c % 10) (by omega) (by omega) (by omega)) kyX9_isMending tb_234 tb_235 rfl (Nat.le_of_ble_eq_true rfl) ⟨by decide, by decide⟩ ⟨by decide, by decide⟩ dX9_init_81 rfl ?_
          refine j_if_eq C 97 (by decide) dX9_init_84 (fun c8 => ?_) (fun c8 => ?_)
          · replace c8 := bI_f c8
            have c99 := c8
            refine j_iinc C (nI (c + 1)) [(3, .int (nI (c + 1))), (0, .ref h), (1, .ref ra), (2, .int (nI n))] 3 rfl (by rw [show Int32.ofInt 1 = nI 1 from by decide, nI_add]) (by decide) rfl dX9_init_97 ?_
            refine j_goto C 53 (by decide) dX9_init_100 ?_
            refine j_sub (lv' := [(0, .ref h), (1, .ref ra), (2, .int (nI n)), (3, .int (nI (c + 1)))]) [1, 2, 3, 0] rfl ?_
            exact ihL53 n (c + 1) f (by omega) (by omega) (by subst hn; exact wn_f c99) (by subst hf; exact wf_f c99) (by omega)
          · replace c8 := bI_t c8
            have c99 := c8
            refine j_aload_n C 0 rfl dX9_init_87 ?_
            refine j_get C inX9 gdX9 rfl 1 (by decide) rfl tb_238 0 rfl rfl dX9_init_88 ?_
            refine j_iload_n C 2 rfl dX9_init_91 ?_
            refine j_iload_n C 3 rfl dX9_init_92 ?_
            refine j_iast C 1 rfl (vp_inN rfl (by omega) (by omega)) (w' := [(h, .inr (9, [.ref ra, .ref q1, .ref q2, .ref q3, .ref q4, .ref q5, .int 0, .int 0, .int 0, .int 0])), (q1, .inl (kk 0, 38, .inl (upd f n (nI c)))), (q2, .inl (kk 0, 7, .inl (fun _ => 0))), (q3, .inl (kk 0, 7, .inl (fun _ => 0))), (q4, .inl (kk 0, 7, .inl (fun _ => 0))), (q5, .inl (kk 0, 7, .inl (fun _ => 0)))]) (by rw [nI_clamp (by omega)]; rfl) dX9_init_93 ?_
            refine j_iinc C (nI (n + 1)) [(2, .int (nI (n + 1))), (0, .ref h), (1, .ref ra), (3, .int (nI c))] 2 rfl (by rw [show Int32.ofInt 1 = nI 1 from by decide, nI_add]) (by decide) rfl dX9_init_94 ?_
            refine j_iinc C (nI (c + 1)) [(3, .int (nI (c + 1))), (2, .int (nI (n + 1))), (0, .ref h), (1, .ref ra)] 3 rfl (by rw [show Int32.ofInt 1 = nI 1 from by decide, nI_add]) (by decide) rfl dX9_init_97 ?_
            refine j_goto C 53 (by decide) dX9_init_100 ?_
            refine j_sub (lv' := [(0, .ref h), (1, .ref ra), (2, .int (nI (n + 1))), (3, .int (nI (c + 1)))]) [2, 3, 1, 0] rfl ?_
            exact ihL53 (n + 1) (c + 1) (upd f n (nI c)) (by omega) (by omega) (by subst hn; exact wn_t c99) (by subst hn hf; exact wf_t c99) (by omega)
  refine j_sub (lv' := [(0, .ref h), (1, .ref ra), (2, .int (nI 0)), (3, .int (nI 0))]) [2, 3, 1, 0] rfl ?_
  exact L53 _ 0 0 (fun _ => 0) (by decide) (by decide) rfl rfl (Nat.lt_succ_self _)
def iBreaks (kk : Nat → Nat) (h : Nat) (ra : Nat) (u : Nat → Nat) : va_W := [(h, .inr (0, [.ref ra, .ref (u 1), .ref (u 2), .ref (u 3), .int 0, .int 0, .int 0, .long 0, .int 0])), ((u 1), .inl (kk 0, 28, .inl (fun _ => 0))), ((u 2), .inl (kk 0, 28, .inl (fun _ => 0))), ((u 3), .inl (kk 0, 28, .inl (fun _ => 0)))]
set_option maxRecDepth 100000 in
set_option maxHeartbeats 4000000 in
theorem c_Breaks_init (kk : Nat → Nat) (h : Nat) (ra : Nat) : jM (S := (Nat → Nat)) yX0_init cX0_init 2 none { frames := 1, cells := 3, slots := 84, locals := 20 } kk [(h, .inr (0, [.null, .null, .null, .null, .int 0, .int 0, .int 0, .long 0, .int 0]))] [.ref h, .ref ra] (fun u : Nat → Nat => iBreaks kk h ra u) (rV (fun _ => True)) := by
  refine j_entry [(0, .ref h), (1, .ref ra)] (by decide) (Nat.le_of_ble_eq_true rfl) rfl ?_
  intro X C E HI
  refine j_aload_n C 0 rfl dX0_init_0 ?_
  refine j_obj C tb_277 tb_22 tb_23 (by decide) (Nat.le_of_ble_eq_true rfl) dX0_init_1 ?_
  refine j_aload_n C 0 rfl dX0_init_4 ?_
  refine j_bipush C (nI 28) (by decide) dX0_init_5 ?_
  refine j_newi C 28 tb_58 rfl (by decide) (by decide) (by decide) dX0_init_7 (fun q1 => ?_)
  refine j_w [(h, .inr (0, [.null, .null, .null, .null, .int 0, .int 0, .int 0, .long 0, .int 0])), (q1, .inl (kk 0, 28, .inl (fun _ => 0)))] rfl ?_
  refine j_putF (ty := (.array .int)) C inX0 gdX0 tyX0_ok nmX0 rfl 1 (by decide) rfl tb_279 rfl (HI rfl) rfl (by decide +kernel) 0 rfl rfl rfl (Nat.le_of_ble_eq_true rfl) (w' := [(h, .inr (0, [.null, .ref q1, .null, .null, .int 0, .int 0, .int 0, .long 0, .int 0])), (q1, .inl (kk 0, 28, .inl (fun _ => 0)))]) rfl dX0_init_9 ?_
  refine j_aload_n C 0 rfl dX0_init_12 ?_
  refine j_bipush C (nI 28) (by decide) dX0_init_13 ?_
  refine j_newi C 28 tb_58 rfl (by decide) (by decide) (by decide) dX0_init_15 (fun q2 => ?_)
  refine j_w [(h, .inr (0, [.null, .ref q1, .null, .null, .int 0, .int 0, .int 0, .long 0, .int 0])), (q1, .inl (kk 0, 28, .inl (fun _ => 0))), (q2, .inl (kk 0, 28, .inl (fun _ => 0)))] rfl ?_
  refine j_putF (ty := (.array .int)) C inX0 gdX0 tyX0_ok nmX0 rfl 2 (by decide) rfl tb_280 rfl (HI rfl) rfl (by decide +kernel) 0 rfl rfl rfl (Nat.le_of_ble_eq_true rfl) (w' := [(h, .inr (0, [.null, .ref q1, .ref q2, .null, .int 0, .int 0, .int 0, .long 0, .int 0])), (q1, .inl (kk 0, 28, .inl (fun _ => 0))), (q2, .inl (kk 0, 28, .inl (fun _ => 0)))]) rfl dX0_init_17 ?_
  refine j_aload_n C 0 rfl dX0_init_20 ?_
  refine j_bipush C (nI 28) (by decide) dX0_init_21 ?_
  refine j_newi C 28 tb_58 rfl (by decide) (by decide) (by decide) dX0_init_23 (fun q3 => ?_)
  refine j_w [(h, .inr (0, [.null, .ref q1, .ref q2, .null, .int 0, .int 0, .int 0, .long 0, .int 0])), (q1, .inl (kk 0, 28, .inl (fun _ => 0))), (q2, .inl (kk 0, 28, .inl (fun _ => 0))), (q3, .inl (kk 0, 28, .inl (fun _ => 0)))] rfl ?_
  refine j_putF (ty := (.array .int)) C inX0 gdX0 tyX0_ok nmX0 rfl 3 (by decide) rfl tb_281 rfl (HI rfl) rfl (by decide +kernel) 0 rfl rfl rfl (Nat.le_of_ble_eq_true rfl) (w' := [(h, .inr (0, [.null, .ref q1, .ref q2, .ref q3, .int 0, .int 0, .int 0, .long 0, .int 0])), (q1, .inl (kk 0, 28, .inl (fun _ => 0))), (q2, .inl (kk 0, 28, .inl (fun _ => 0))), (q3, .inl (kk 0, 28, .inl (fun _ => 0)))]) rfl dX0_init_25 ?_
  refine j_aload_n C 0 rfl dX0_init_28 ?_
  refine j_aload_n C 1 rfl dX0_init_29 ?_
  refine j_putF (ty := (.object "RainCans$Rain")) C inX0 gdX0 tyX0_ok nmX0 rfl 0 (by decide) rfl tb_278 rfl (HI rfl) rfl (by decide +kernel) 0 rfl rfl rfl (Nat.le_of_ble_eq_true rfl) (w' := [(h, .inr (0, [.ref ra, .ref q1, .ref q2, .ref q3, .int 0, .int 0, .int 0, .long 0, .int 0])), (q1, .inl (kk 0, 28, .inl (fun _ => 0))), (q2, .inl (kk 0, 28, .inl (fun _ => 0))), (q3, .inl (kk 0, 28, .inl (fun _ => 0)))]) rfl dX0_init_30 ?_
  exact j_vret C E (fun j => if j = 1 then q1 else if j = 2 then q2 else if j = 3 then q3 else 0) ⟨rfl, trivial⟩ rfl dX0_init_33
def iLand (kk : Nat → Nat) (h : Nat) (ra ga r1 r2 r3 r4 : Nat) (z : Int32) (u : Nat → Nat) : va_W := [(ra, .inr (7, [.ref ga, .ref r1, .ref r2, .ref r3, .ref r4, .int z])), (h, .inr (4, [.ref ra, .ref ga, .ref (u 1), .ref (u 2), .ref (u 3), .ref (u 4), .int 0, .int 0, .int 0, .int 0, .int 0, .ref (u 5), .ref (u 6), .ref (u 7), .int 0])), ((u 1), .inl (kk 0, 12, .inl (fun _ => 0))), ((u 2), .inl (kk 0, 12, .inl (fun _ => 0))), ((u 3), .inl (kk 0, 12, .inl (fun _ => 0))), ((u 4), .inl (kk 0, 12, .inl (fun _ => 0))), ((u 5), .inl (kk 0, 441, .inl (fun _ => 0))), ((u 6), .inl (kk 0, 441, .inl (fun _ => 0))), ((u 7), .inl (kk 0, 441, .inl (fun _ => 0)))]
set_option maxRecDepth 100000 in
set_option maxHeartbeats 4000000 in
theorem c_Land_init (kk : Nat → Nat) (h : Nat) (ra ga r1 r2 r3 r4 : Nat) (z : Int32) : jM (S := (Nat → Nat)) yX4_init cX4_init 2 none { frames := 1, cells := 7, slots := 1371, locals := 20 } kk [(ra, .inr (7, [.ref ga, .ref r1, .ref r2, .ref r3, .ref r4, .int z])), (h, .inr (4, [.null, .null, .null, .null, .null, .null, .int 0, .int 0, .int 0, .int 0, .int 0, .null, .null, .null, .int 0]))] [.ref h, .ref ra] (fun u : Nat → Nat => iLand kk h ra ga r1 r2 r3 r4 z u) (rV (fun _ => True)) := by
  refine j_entry [(0, .ref h), (1, .ref ra)] (by decide) (Nat.le_of_ble_eq_true rfl) rfl ?_
  intro X C E HI
  refine j_aload_n C 0 rfl dX4_init_0 ?_
  refine j_obj C tb_311 tb_22 tb_23 (by decide) (Nat.le_of_ble_eq_true rfl) dX4_init_1 ?_
  refine j_aload_n C 0 rfl dX4_init_4 ?_
  refine j_bipush C (nI 12) (by decide) dX4_init_5 ?_
  refine j_newi C 12 tb_58 rfl (by decide) (by decide) (by decide) dX4_init_7 (fun q1 => ?_)
  refine j_w [(ra, .inr (7, [.ref ga, .ref r1, .ref r2, .ref r3, .ref r4, .int z])), (h, .inr (4, [.null, .null, .null, .null, .null, .null, .int 0, .int 0, .int 0, .int 0, .int 0, .null, .null, .null, .int 0])), (q1, .inl (kk 0, 12, .inl (fun _ => 0)))] rfl ?_
  refine j_putF (ty := (.array .int)) C inX4 gdX4 tyX4_ok nmX4 rfl 2 (by decide) rfl tb_314 rfl (HI rfl) rfl (by decide +kernel) 1 rfl rfl rfl (Nat.le_of_ble_eq_true rfl) (w' := [(ra, .inr (7, [.ref ga, .ref r1, .ref r2, .ref r3, .ref r4, .int z])), (h, .inr (4, [.null, .null, .ref q1, .null, .null, .null, .int 0, .int 0, .int 0, .int 0, .int 0, .null, .null, .null, .int 0])), (q1, .inl (kk 0, 12, .inl (fun _ => 0)))]) rfl dX4_init_9 ?_
  refine j_aload_n C 0 rfl dX4_init_12 ?_
  refine j_bipush C (nI 12) (by decide) dX4_init_13 ?_
  refine j_newi C 12 tb_58 rfl (by decide) (by decide) (by decide) dX4_init_15 (fun q2 => ?_)
  refine j_w [(ra, .inr (7, [.ref ga, .ref r1, .ref r2, .ref r3, .ref r4, .int z])), (h, .inr (4, [.null, .null, .ref q1, .null, .null, .null, .int 0, .int 0, .int 0, .int 0, .int 0, .null, .null, .null, .int 0])), (q1, .inl (kk 0, 12, .inl (fun _ => 0))), (q2, .inl (kk 0, 12, .inl (fun _ => 0)))] rfl ?_
  refine j_putF (ty := (.array .int)) C inX4 gdX4 tyX4_ok nmX4 rfl 3 (by decide) rfl tb_315 rfl (HI rfl) rfl (by decide +kernel) 1 rfl rfl rfl (Nat.le_of_ble_eq_true rfl) (w' := [(ra, .inr (7, [.ref ga, .ref r1, .ref r2, .ref r3, .ref r4, .int z])), (h, .inr (4, [.null, .null, .ref q1, .ref q2, .null, .null, .int 0, .int 0, .int 0, .int 0, .int 0, .null, .null, .null, .int 0])), (q1, .inl (kk 0, 12, .inl (fun _ => 0))), (q2, .inl (kk 0, 12, .inl (fun _ => 0)))]) rfl dX4_init_17 ?_
  refine j_aload_n C 0 rfl dX4_init_20 ?_
  refine j_bipush C (nI 12) (by decide) dX4_init_21 ?_
  refine j_newi C 12 tb_58 rfl (by decide) (by decide) (by decide) dX4_init_23 (fun q3 => ?_)
  refine j_w [(ra, .inr (7, [.ref ga, .ref r1, .ref r2, .ref r3, .ref r4, .int z])), (h, .inr (4, [.null, .null, .ref q1, .ref q2, .null, .null, .int 0, .int 0, .int 0, .int 0, .int 0, .null, .null, .null, .int 0])), (q1, .inl (kk 0, 12, .inl (fun _ => 0))), (q2, .inl (kk 0, 12, .inl (fun _ => 0))), (q3, .inl (kk 0, 12, .inl (fun _ => 0)))] rfl ?_
  refine j_putF (ty := (.array .int)) C inX4 gdX4 tyX4_ok nmX4 rfl 4 (by decide) rfl tb_316 rfl (HI rfl) rfl (by decide +kernel) 1 rfl rfl rfl (Nat.le_of_ble_eq_true rfl) (w' := [(ra, .inr (7, [.ref ga, .ref r1, .ref r2, .ref r3, .ref r4, .int z])), (h, .inr (4, [.null, .null, .ref q1, .ref q2, .ref q3, .null, .int 0, .int 0, .int 0, .int 0, .int 0, .null, .null, .null, .int 0])), (q1, .inl (kk 0, 12, .inl (fun _ => 0))), (q2, .inl (kk 0, 12, .inl (fun _ => 0))), (q3, .inl (kk 0, 12, .inl (fun _ => 0)))]) rfl dX4_init_25 ?_
  refine j_aload_n C 0 rfl dX4_init_28 ?_
  refine j_bipush C (nI 12) (by decide) dX4_init_29 ?_
  refine j_newi C 12 tb_58 rfl (by decide) (by decide) (by decide) dX4_init_31 (fun q4 => ?_)
  refine j_w [(ra, .inr (7, [.ref ga, .ref r1, .ref r2, .ref r3, .ref r4, .int z])), (h, .inr (4, [.null, .null, .ref q1, .ref q2, .ref q3, .null, .int 0, .int 0, .int 0, .int 0, .int 0, .null, .null, .null, .int 0])), (q1, .inl (kk 0, 12, .inl (fun _ => 0))), (q2, .inl (kk 0, 12, .inl (fun _ => 0))), (q3, .inl (kk 0, 12, .inl (fun _ => 0))), (q4, .inl (kk 0, 12, .inl (fun _ => 0)))] rfl ?_
  refine j_putF (ty := (.array .int)) C inX4 gdX4 tyX4_ok nmX4 rfl 5 (by decide) rfl tb_317 rfl (HI rfl) rfl (by decide +kernel) 1 rfl rfl rfl (Nat.le_of_ble_eq_true rfl) (w' := [(ra, .inr (7, [.ref ga, .ref r1, .ref r2, .ref r3, .ref r4, .int z])), (h, .inr (4, [.null, .null, .ref q1, .ref q2, .ref q3, .ref q4, .int 0, .int 0, .int 0, .int 0, .int 0, .null, .null, .null, .int 0])), (q1, .inl (kk 0, 12, .inl (fun _ => 0))), (q2, .inl (kk 0, 12, .inl (fun _ => 0))), (q3, .inl (kk 0, 12, .inl (fun _ => 0))), (q4, .inl (kk 0, 12, .inl (fun _ => 0)))]) rfl dX4_init_33 ?_
  refine j_aload_n C 0 rfl dX4_init_36 ?_
  refine j_sipush C (nI 441) (by decide) dX4_init_37 ?_
  refine j_newi C 441 tb_58 rfl (by decide) (by decide) (by decide) dX4_init_40 (fun q5 => ?_)
  refine j_w [(ra, .inr (7, [.ref ga, .ref r1, .ref r2, .ref r3, .ref r4, .int z])), (h, .inr (4, [.null, .null, .ref q1, .ref q2, .ref q3, .ref q4, .int 0, .int 0, .int 0, .int 0, .int 0, .null, .null, .null, .int 0])), (q1, .inl (kk 0, 12, .inl (fun _ => 0))), (q2, .inl (kk 0, 12, .inl (fun _ => 0))), (q3, .inl (kk 0, 12, .inl (fun _ => 0))), (q4, .inl (kk 0, 12, .inl (fun _ => 0))), (q5, .inl (kk 0, 441, .inl (fun _ => 0)))] rfl ?_
  refine j_putF (ty := (.array .int)) C inX4 gdX4 tyX4_ok nmX4 rfl 11 (by decide) rfl tb_327 rfl (HI rfl) rfl (by decide +kernel) 1 rfl rfl rfl (Nat.le_of_ble_eq_true rfl) (w' := [(ra, .inr (7, [.ref ga, .ref r1, .ref r2, .ref r3, .ref r4, .int z])), (h, .inr (4, [.null, .null, .ref q1, .ref q2, .ref q3, .ref q4, .int 0, .int 0, .int 0, .int 0, .int 0, .ref q5, .null, .null, .int 0])), (q1, .inl (kk 0, 12, .inl (fun _ => 0))), (q2, .inl (kk 0, 12, .inl (fun _ => 0))), (q3, .inl (kk 0, 12, .inl (fun _ => 0))), (q4, .inl (kk 0, 12, .inl (fun _ => 0))), (q5, .inl (kk 0, 441, .inl (fun _ => 0)))]) rfl dX4_init_42 ?_
  refine j_aload_n C 0 rfl dX4_init_45 ?_
  refine j_sipush C (nI 441) (by decide) dX4_init_46 ?_
  refine j_newi C 441 tb_58 rfl (by decide) (by decide) (by decide) dX4_init_49 (fun q6 => ?_)
  refine j_w [(ra, .inr (7, [.ref ga, .ref r1, .ref r2, .ref r3, .ref r4, .int z])), (h, .inr (4, [.null, .null, .ref q1, .ref q2, .ref q3, .ref q4, .int 0, .int 0, .int 0, .int 0, .int 0, .ref q5, .null, .null, .int 0])), (q1, .inl (kk 0, 12, .inl (fun _ => 0))), (q2, .inl (kk 0, 12, .inl (fun _ => 0))), (q3, .inl (kk 0, 12, .inl (fun _ => 0))), (q4, .inl (kk 0, 12, .inl (fun _ => 0))), (q5, .inl (kk 0, 441, .inl (fun _ => 0))), (q6, .inl (kk 0, 441, .inl (fun _ => 0)))] rfl ?_
  refine j_putF (ty := (.array .int)) C inX4 gdX4 tyX4_ok nmX4 rfl 12 (by decide) rfl tb_328 rfl (HI rfl) rfl (by decide +kernel) 1 rfl rfl rfl (Nat.le_of_ble_eq_true rfl) (w' := [(ra, .inr (7, [.ref ga, .ref r1, .ref r2, .ref r3, .ref r4, .int z])), (h, .inr (4, [.null, .null, .ref q1, .ref q2, .ref q3, .ref q4, .int 0, .int 0, .int 0, .int 0, .int 0, .ref q5, .ref q6, .null, .int 0])), (q1, .inl (kk 0, 12, .inl (fun _ => 0))), (q2, .inl (kk 0, 12, .inl (fun _ => 0))), (q3, .inl (kk 0, 12, .inl (fun _ => 0))), (q4, .inl (kk 0, 12, .inl (fun _ => 0))), (q5, .inl (kk 0, 441, .inl (fun _ => 0))), (q6, .inl (kk 0, 441, .inl (fun _ => 0)))]) rfl dX4_init_51 ?_
  refine j_aload_n C 0 rfl dX4_init_54 ?_
  refine j_sipush C (nI 441) (by decide) dX4_init_55 ?_
  refine j_newi C 441 tb_58 rfl (by decide) (by decide) (by decide) dX4_init_58 (fun q7 => ?_)
  refine j_w [(ra, .inr (7, [.ref ga, .ref r1, .ref r2, .ref r3, .ref r4, .int z])), (h, .inr (4, [.null, .null, .ref q1, .ref q2, .ref q3, .ref q4, .int 0, .int 0, .int 0, .int 0, .int 0, .ref q5, .ref q6, .null, .int 0])), (q1, .inl (kk 0, 12, .inl (fun _ => 0))), (q2, .inl (kk 0, 12, .inl (fun _ => 0))), (q3, .inl (kk 0, 12, .inl (fun _ => 0))), (q4, .inl (kk 0, 12, .inl (fun _ => 0))), (q5, .inl (kk 0, 441, .inl (fun _ => 0))), (q6, .inl (kk 0, 441, .inl (fun _ => 0))), (q7, .inl (kk 0, 441, .inl (fun _ => 0)))] rfl ?_
  refine j_putF (ty := (.array .int)) C inX4 gdX4 tyX4_ok nmX4 rfl 13 (by decide) rfl tb_329 rfl (HI rfl) rfl (by decide +kernel) 1 rfl rfl rfl (Nat.le_of_ble_eq_true rfl) (w' := [(ra, .inr (7, [.ref ga, .ref r1, .ref r2, .ref r3, .ref r4, .int z])), (h, .inr (4, [.null, .null, .ref q1, .ref q2, .ref q3, .ref q4, .int 0, .int 0, .int 0, .int 0, .int 0, .ref q5, .ref q6, .ref q7, .int 0])), (q1, .inl (kk 0, 12, .inl (fun _ => 0))), (q2, .inl (kk 0, 12, .inl (fun _ => 0))), (q3, .inl (kk 0, 12, .inl (fun _ => 0))), (q4, .inl (kk 0, 12, .inl (fun _ => 0))), (q5, .inl (kk 0, 441, .inl (fun _ => 0))), (q6, .inl (kk 0, 441, .inl (fun _ => 0))), (q7, .inl (kk 0, 441, .inl (fun _ => 0)))]) rfl dX4_init_60 ?_
  refine j_aload_n C 0 rfl dX4_init_63 ?_
  refine j_aload_n C 1 rfl dX4_init_64 ?_
  refine j_putF (ty := (.object "RainCans$Rain")) C inX4 gdX4 tyX4_ok nmX4 rfl 0 (by decide) rfl tb_312 rfl (HI rfl) rfl (by decide +kernel) 1 rfl rfl rfl (Nat.le_of_ble_eq_true rfl) (w' := [(ra, .inr (7, [.ref ga, .ref r1, .ref r2, .ref r3, .ref r4, .int z])), (h, .inr (4, [.ref ra, .null, .ref q1, .ref q2, .ref q3, .ref q4, .int 0, .int 0, .int 0, .int 0, .int 0, .ref q5, .ref q6, .ref q7, .int 0])), (q1, .inl (kk 0, 12, .inl (fun _ => 0))), (q2, .inl (kk 0, 12, .inl (fun _ => 0))), (q3, .inl (kk 0, 12, .inl (fun _ => 0))), (q4, .inl (kk 0, 12, .inl (fun _ => 0))), (q5, .inl (kk 0, 441, .inl (fun _ => 0))), (q6, .inl (kk 0, 441, .inl (fun _ => 0))), (q7, .inl (kk 0, 441, .inl (fun _ => 0)))]) rfl dX4_init_65 ?_
  refine j_aload_n C 0 rfl dX4_init_68 ?_
  refine j_aload_n C 1 rfl dX4_init_69 ?_
  refine j_get C inX7 gdX7 rfl 0 (by decide) rfl tb_199 0 rfl rfl dX4_init_70 ?_
  refine j_putF (ty := (.object "RainCans$Garden")) C inX4 gdX4 tyX4_ok nmX4 rfl 1 (by decide) rfl tb_313 rfl (HI rfl) rfl (by decide +kernel) 1 rfl rfl rfl (Nat.le_of_ble_eq_true rfl) (w' := [(ra, .inr (7, [.ref ga, .ref r1, .ref r2, .ref r3, .ref r4, .int z])), (h, .inr (4, [.ref ra, .ref ga, .ref q1, .ref q2, .ref q3, .ref q4, .int 0, .int 0, .int 0, .int 0, .int 0, .ref q5, .ref q6, .ref q7, .int 0])), (q1, .inl (kk 0, 12, .inl (fun _ => 0))), (q2, .inl (kk 0, 12, .inl (fun _ => 0))), (q3, .inl (kk 0, 12, .inl (fun _ => 0))), (q4, .inl (kk 0, 12, .inl (fun _ => 0))), (q5, .inl (kk 0, 441, .inl (fun _ => 0))), (q6, .inl (kk 0, 441, .inl (fun _ => 0))), (q7, .inl (kk 0, 441, .inl (fun _ => 0)))]) rfl dX4_init_73 ?_
  exact j_vret C E (fun j => if j = 1 then q1 else if j = 2 then q2 else if j = 3 then q3 else if j = 4 then q4 else if j = 5 then q5 else if j = 6 then q6 else if j = 7 then q7 else 0) ⟨rfl, trivial⟩ rfl dX4_init_76
def iRecords (kk : Nat → Nat) (h : Nat) (ra : Nat) (u : Nat → Nat) : va_W := [(h, .inr (8, [.ref ra, .ref (u 1), .ref (u 2), .int 0, .int 0, .int 0])), ((u 1), .inl (kk 0, 6, .inl (fun _ => 0))), ((u 2), .inl (kk 0, 28, .inl (fun _ => 0)))]
set_option maxRecDepth 100000 in
set_option maxHeartbeats 4000000 in
theorem c_Records_init (kk : Nat → Nat) (h : Nat) (ra : Nat) : jM (S := (Nat → Nat)) yX8_init cX8_init 2 none { frames := 1, cells := 2, slots := 34, locals := 20 } kk [(h, .inr (8, [.null, .null, .null, .int 0, .int 0, .int 0]))] [.ref h, .ref ra] (fun u : Nat → Nat => iRecords kk h ra u) (rV (fun _ => True)) := by
  refine j_entry [(0, .ref h), (1, .ref ra)] (by decide) (Nat.le_of_ble_eq_true rfl) rfl ?_
  intro X C E HI
  refine j_aload_n C 0 rfl dX8_init_0 ?_
  refine j_obj C tb_367 tb_22 tb_23 (by decide) (Nat.le_of_ble_eq_true rfl) dX8_init_1 ?_
  refine j_aload_n C 0 rfl dX8_init_4 ?_
  refine j_bipush C (nI 6) (by decide) dX8_init_5 ?_
  refine j_newi C 6 tb_58 rfl (by decide) (by decide) (by decide) dX8_init_7 (fun q1 => ?_)
  refine j_w [(h, .inr (8, [.null, .null, .null, .int 0, .int 0, .int 0])), (q1, .inl (kk 0, 6, .inl (fun _ => 0)))] rfl ?_
  refine j_putF (ty := (.array .int)) C inX8 gdX8 tyX8_ok nmX8 rfl 1 (by decide) rfl tb_369 rfl (HI rfl) rfl (by decide +kernel) 0 rfl rfl rfl (Nat.le_of_ble_eq_true rfl) (w' := [(h, .inr (8, [.null, .ref q1, .null, .int 0, .int 0, .int 0])), (q1, .inl (kk 0, 6, .inl (fun _ => 0)))]) rfl dX8_init_9 ?_
  refine j_aload_n C 0 rfl dX8_init_12 ?_
  refine j_bipush C (nI 28) (by decide) dX8_init_13 ?_
  refine j_newi C 28 tb_58 rfl (by decide) (by decide) (by decide) dX8_init_15 (fun q2 => ?_)
  refine j_w [(h, .inr (8, [.null, .ref q1, .null, .int 0, .int 0, .int 0])), (q1, .inl (kk 0, 6, .inl (fun _ => 0))), (q2, .inl (kk 0, 28, .inl (fun _ => 0)))] rfl ?_
  refine j_putF (ty := (.array .int)) C inX8 gdX8 tyX8_ok nmX8 rfl 2 (by decide) rfl tb_370 rfl (HI rfl) rfl (by decide +kernel) 0 rfl rfl rfl (Nat.le_of_ble_eq_true rfl) (w' := [(h, .inr (8, [.null, .ref q1, .ref q2, .int 0, .int 0, .int 0])), (q1, .inl (kk 0, 6, .inl (fun _ => 0))), (q2, .inl (kk 0, 28, .inl (fun _ => 0)))]) rfl dX8_init_17 ?_
  refine j_aload_n C 0 rfl dX8_init_20 ?_
  refine j_aload_n C 1 rfl dX8_init_21 ?_
  refine j_putF (ty := (.object "RainCans$Rain")) C inX8 gdX8 tyX8_ok nmX8 rfl 0 (by decide) rfl tb_368 rfl (HI rfl) rfl (by decide +kernel) 0 rfl rfl rfl (Nat.le_of_ble_eq_true rfl) (w' := [(h, .inr (8, [.ref ra, .ref q1, .ref q2, .int 0, .int 0, .int 0])), (q1, .inl (kk 0, 6, .inl (fun _ => 0))), (q2, .inl (kk 0, 28, .inl (fun _ => 0)))]) rfl dX8_init_22 ?_
  exact j_vret C E (fun j => if j = 1 then q1 else if j = 2 then q2 else 0) ⟨rfl, trivial⟩ rfl dX8_init_25
def iHabits (kk : Nat → Nat) (h : Nat) (ga : Nat) (u : Nat → Nat) : va_W := [(h, .inr (3, [.ref ga, .ref (u 1), .int 0, .int 0, .long 0, .long 0, .int 0, .int 0])), ((u 1), .inl (kk 0, 7, .inl (fun _ => 0)))]
set_option maxRecDepth 100000 in
set_option maxHeartbeats 4000000 in
theorem c_Habits_init (kk : Nat → Nat) (h : Nat) (ga : Nat) : jM (S := (Nat → Nat)) yX3_init cX3_init 2 none { frames := 1, cells := 1, slots := 7, locals := 20 } kk [(h, .inr (3, [.null, .null, .int 0, .int 0, .long 0, .long 0, .int 0, .int 0]))] [.ref h, .ref ga] (fun u : Nat → Nat => iHabits kk h ga u) (rV (fun _ => True)) := by
  refine j_entry [(0, .ref h), (1, .ref ga)] (by decide) (Nat.le_of_ble_eq_true rfl) rfl ?_
  intro X C E HI
  refine j_aload_n C 0 rfl dX3_init_0 ?_
  refine j_obj C tb_395 tb_22 tb_23 (by decide) (Nat.le_of_ble_eq_true rfl) dX3_init_1 ?_
  refine j_aload_n C 0 rfl dX3_init_4 ?_
  refine j_bipush C (nI 7) (by decide) dX3_init_5 ?_
  refine j_newi C 7 tb_58 rfl (by decide) (by decide) (by decide) dX3_init_7 (fun q1 => ?_)
  refine j_w [(h, .inr (3, [.null, .null, .int 0, .int 0, .long 0, .long 0, .int 0, .int 0])), (q1, .inl (kk 0, 7, .inl (fun _ => 0)))] rfl ?_
  refine j_putF (ty := (.array .int)) C inX3 gdX3 tyX3_ok nmX3 rfl 1 (by decide) rfl tb_397 rfl (HI rfl) rfl (by decide +kernel) 0 rfl rfl rfl (Nat.le_of_ble_eq_true rfl) (w' := [(h, .inr (3, [.null, .ref q1, .int 0, .int 0, .long 0, .long 0, .int 0, .int 0])), (q1, .inl (kk 0, 7, .inl (fun _ => 0)))]) rfl dX3_init_9 ?_
  refine j_aload_n C 0 rfl dX3_init_12 ?_
  refine j_aload_n C 1 rfl dX3_init_13 ?_
  refine j_putF (ty := (.object "RainCans$Garden")) C inX3 gdX3 tyX3_ok nmX3 rfl 0 (by decide) rfl tb_396 rfl (HI rfl) rfl (by decide +kernel) 0 rfl rfl rfl (Nat.le_of_ble_eq_true rfl) (w' := [(h, .inr (3, [.ref ga, .ref q1, .int 0, .int 0, .long 0, .long 0, .int 0, .int 0])), (q1, .inl (kk 0, 7, .inl (fun _ => 0)))]) rfl dX3_init_14 ?_
  exact j_vret C E (fun j => if j = 1 then q1 else 0) ⟨rfl, trivial⟩ rfl dX3_init_17
