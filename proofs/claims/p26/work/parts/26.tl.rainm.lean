def fxR (f6 f7 f8 : Nat → Int32) (c d : Nat) (v : Int32) : Nat → Int32
  | 0 => v
  | i + 1 => if f6 i = nI c ∧ f7 i = nI d then f8 i else fxR f6 f7 f8 c d v i
theorem fxR_y {f6 f7 f8 : Nat → Int32} {c d i : Nat} {v : Int32} (h1 : f6 i = nI c) (h2 : f7 i = nI d) : f8 i = fxR f6 f7 f8 c d v (i + 1) := (if_pos ⟨h1, h2⟩).symm
theorem fxR_n {f6 f7 f8 : Nat → Int32} {c d i : Nat} {v y : Int32} (h : y = fxR f6 f7 f8 c d v i) (q : ¬ (f6 i = nI c ∧ f7 i = nI d)) : y = fxR f6 f7 f8 c d v (i + 1) := h.trans (if_neg q).symm
/-- the reference holds G -/
def HM (G : GD) (k n : Nat) (σ : St) : Prop := WG G k ∧ (∀ c d : Nat, c < k → d < 28 → fxR (σ.2.1 6) (σ.2.1 7) (σ.2.1 8) c d (σ.2.1 5 (28 * c + d)) n = tr (zC G c d) ∧ σ.2.1 10 (28 * c + d) = nI (zK G c d) ∧ (zK G c d = 3 → σ.2.1 11 (28 * c + d) = nI (zF G c d) ∧ σ.2.1 12 (28 * c + d) = nI (zL G c d)) ∧ ∃ w : Nat, w ≤ 2 ∧ σ.2.1 4 d = nI w ∧ σ.2.1 3 (3 * c + w) = nI (zM G c d)) ∧ (∀ c : Nat, c < k → σ.2.1 1 c = nI (zX G c) ∧ σ.2.1 2 c = nI (zY G c)) ∧ (σ.1 10 = nI (zS G 0) ∧ σ.1 11 = nI (zS G 1) ∧ σ.1 12 = nI (zS G 2) ∧ σ.1 13 = nI (zS G 3))
theorem HM.W {G : GD} {k n : Nat} {σ : St} (h : HM G k n σ) : WG G k := h.1
theorem HM.C {G : GD} {k n : Nat} {σ : St} (h : HM G k n σ) {c d : Nat} (hc : c < k) (hd : d < 28) : fxR (σ.2.1 6) (σ.2.1 7) (σ.2.1 8) c d (σ.2.1 5 (28 * c + d)) n = tr (zC G c d) := (h.2.1 c d hc hd).1
theorem HM.K {G : GD} {k n : Nat} {σ : St} (h : HM G k n σ) {c d : Nat} (hc : c < k) (hd : d < 28) : σ.2.1 10 (28 * c + d) = nI (zK G c d) := (h.2.1 c d hc hd).2.1
theorem HM.F {G : GD} {k n : Nat} {σ : St} (h : HM G k n σ) {c d : Nat} (hc : c < k) (hd : d < 28) (q : zK G c d = 3) : σ.2.1 11 (28 * c + d) = nI (zF G c d) := ((h.2.1 c d hc hd).2.2.1 q).1
theorem HM.L {G : GD} {k n : Nat} {σ : St} (h : HM G k n σ) {c d : Nat} (hc : c < k) (hd : d < 28) (q : zK G c d = 3) : σ.2.1 12 (28 * c + d) = nI (zL G c d) := ((h.2.1 c d hc hd).2.2.1 q).2
theorem HM.M {G : GD} {k n : Nat} {σ : St} (h : HM G k n σ) {c d : Nat} (hc : c < k) (hd : d < 28) : ∃ w : Nat, w ≤ 2 ∧ σ.2.1 4 d = nI w ∧ σ.2.1 3 (3 * c + w) = nI (zM G c d) := (h.2.1 c d hc hd).2.2.2
theorem HM.P {G : GD} {k n : Nat} {σ : St} (h : HM G k n σ) {c : Nat} (hc : c < k) : σ.2.1 1 c = nI (zX G c) ∧ σ.2.1 2 c = nI (zY G c) := h.2.2.1 c hc
theorem HM.S0 {G : GD} {k n : Nat} {σ : St} (h : HM G k n σ) : σ.1 10 = nI (zS G 0) := h.2.2.2.1
theorem HM.S1 {G : GD} {k n : Nat} {σ : St} (h : HM G k n σ) : σ.1 11 = nI (zS G 1) := h.2.2.2.2.1
theorem HM.S2 {G : GD} {k n : Nat} {σ : St} (h : HM G k n σ) : σ.1 12 = nI (zS G 2) := h.2.2.2.2.2.1
theorem HM.S3 {G : GD} {k n : Nat} {σ : St} (h : HM G k n σ) : σ.1 13 = nI (zS G 3) := h.2.2.2.2.2.2
theorem tr_m : tr (-1) = -6 := rfl
theorem tr_n {m : Nat} (h : m < 2 ^ 31) : tr (nI m) = nI m := tr_ge (nI_pos' h)
theorem tr_neg {b : Nat} {v : Int32} (hb : b < 2 ^ 31) (h : lm_ b v) (q : v = -1) : tr v < 0 := by rw [q]; decide
set_option maxRecDepth 100000 in
set_option maxHeartbeats 4000000 in
theorem o_fixed (g kk : Nat → Nat) (σ : St) (k : Nat) (hk : σ.1 3 = nI k) (hk6 : k ≤ 6) (hI : iM σ) (nf : Nat) (hnf : σ.1 9 = nI nf) (hnfb : nf ≤ 20) (G : GD) (hM : HM G k nf σ)  (c : Nat) (hc0 : c < k) (d : Nat) (hd0 : d < 28) : jM (S := St) yX11_fixed cX11_fixed 5 (some .int) { frames := 1, cells := 0, slots := 0, locals := 21 } kk (cM g kk σ) [.ref (g 0), .int (nI c), .int (nI d)] (cM g kk) (rI (fun (r : Int32) (u : St) => u = σ ∧ (r = tr (zC G c d)))) := by
  refine j_entry [(0, .ref (g 0)), (1, .int (nI c)), (2, .int (nI d))] (by decide) (Nat.le_of_ble_eq_true rfl) rfl ?_
  intro X C E HI
  refine j_aload_n C 0 rfl dX11_fixed_0 ?_
  refine gM_0_5 C tb_878 dX11_fixed_1 ?_
  refine j_iload_n C 1 rfl dX11_fixed_4 ?_
  refine j_iload_n C 2 rfl dX11_fixed_5 ?_
  refine j_S01 C (m_at c d) kyX11_at tb_1060 tb_1061 rfl (Nat.le_of_ble_eq_true rfl) ⟨by decide, by decide⟩ ⟨by decide, by decide⟩ dX11_fixed_6 rfl ?_
  refine rM_5 C (28 * c + d) rfl (by omega) ((σ.2.1 5) (28 * c + d)) rfl dX11_fixed_9 ?_
  refine j_istore_n C [(3, .int ((σ.2.1 5) (28 * c + d))), (0, .ref (g 0)), (1, .int (nI c)), (2, .int (nI d))] rfl (by decide) rfl dX11_fixed_10 ?_
  refine j_iconst C (nI 0) (by decide) dX11_fixed_11 ?_
  refine j_istore C [(4, .int (nI 0)), (3, .int ((σ.2.1 5) (28 * c + d))), (0, .ref (g 0)), (1, .int (nI c)), (2, .int (nI d))] (by decide) rfl dX11_fixed_12 ?_
  have L14 : ∀ (n14 : Nat) (i : Nat) (y14_3 : Int32) (i14_0 : i ≤ nf) (hv : y14_3 = fxR (σ.2.1 6) (σ.2.1 7) (σ.2.1 8) c d (σ.2.1 5 (28 * c + d)) i) (hm14 : nf - i < n14), J X 0 0 (cM g kk σ) [(4, .int (nI i)), (3, .int y14_3), (0, .ref (g 0)), (1, .int (nI c)), (2, .int (nI d))] 14 [] := by
    intro n14
    induction n14 with
    | zero => intro i y14_3 i14_0 hv hm; exact absurd hm (Nat.not_lt_zero _)
    | succ n14 ih14 =>
      intro i y14_3 i14_0 hv hm14
      refine j_iload C 0 rfl dX11_fixed_14 ?_
      refine j_aload_n C 2 rfl dX11_fixed_16 ?_
      refine gM_0_9 C tb_882 (nI nf) hnf dX11_fixed_17 ?_
      refine j_icmp_geN C 63 (by decide) (by omega) (by omega) dX11_fixed_20 (fun c1 => ?_) (fun c1 => ?_)
      · refine j_iload_n C 1 rfl dX11_fixed_63 ?_
        exact j_iret C E (σ) ⟨_, rfl, ⟨rfl, (by have z := hv; rw [show i = nf by omega] at z; exact z.trans (hM.C hc0 hd0))⟩⟩ rfl dX11_fixed_64
      · refine j_aload_n C 2 rfl dX11_fixed_23 ?_
        refine gM_0_6 C tb_879 dX11_fixed_24 ?_
        refine j_iload C 0 rfl dX11_fixed_27 ?_
        refine rM_6 C i rfl (by omega) ((σ.2.1 6) i) rfl dX11_fixed_29 ?_
        refine j_iload_n C 3 rfl dX11_fixed_30 ?_
        refine j_icmp_ne C 55 (by decide) dX11_fixed_31 (fun c2 => ?_) (fun c2 => ?_)
        · refine j_iload_n C 1 rfl dX11_fixed_55 ?_
          refine j_istore_n C [(3, .int y14_3), (4, .int (nI i)), (0, .ref (g 0)), (1, .int (nI c)), (2, .int (nI d))] rfl (by decide) rfl dX11_fixed_56 ?_
          refine j_iinc C (nI (i + 1)) [(4, .int (nI (i + 1))), (3, .int y14_3), (0, .ref (g 0)), (1, .int (nI c)), (2, .int (nI d))] 1 rfl (by rw [show Int32.ofInt 1 = nI 1 from by decide, nI_add]) (by decide) rfl dX11_fixed_57 ?_
          refine j_goto C 14 (by decide) dX11_fixed_60 ?_
          exact ih14 (i + 1) y14_3 (by omega) (fxR_n hv (fun w => c2 w.1)) (by omega)
        · refine j_aload_n C 2 rfl dX11_fixed_34 ?_
          refine gM_0_7 C tb_880 dX11_fixed_35 ?_
          refine j_iload C 0 rfl dX11_fixed_38 ?_
          refine rM_7 C i rfl (by omega) ((σ.2.1 7) i) rfl dX11_fixed_40 ?_
          refine j_iload_n C 4 rfl dX11_fixed_41 ?_
          refine j_icmp_ne C 55 (by decide) dX11_fixed_42 (fun c3 => ?_) (fun c3 => ?_)
          · refine j_iload_n C 1 rfl dX11_fixed_55 ?_
            refine j_istore_n C [(3, .int y14_3), (4, .int (nI i)), (0, .ref (g 0)), (1, .int (nI c)), (2, .int (nI d))] rfl (by decide) rfl dX11_fixed_56 ?_
            refine j_iinc C (nI (i + 1)) [(4, .int (nI (i + 1))), (3, .int y14_3), (0, .ref (g 0)), (1, .int (nI c)), (2, .int (nI d))] 1 rfl (by rw [show Int32.ofInt 1 = nI 1 from by decide, nI_add]) (by decide) rfl dX11_fixed_57 ?_
            refine j_goto C 14 (by decide) dX11_fixed_60 ?_
            exact ih14 (i + 1) y14_3 (by omega) (fxR_n hv (fun w => c3 w.2)) (by omega)
          · refine j_aload_n C 2 rfl dX11_fixed_45 ?_
            refine gM_0_8 C tb_881 dX11_fixed_46 ?_
            refine j_iload C 0 rfl dX11_fixed_49 ?_
            refine rM_8 C i rfl (by omega) ((σ.2.1 8) i) rfl dX11_fixed_51 ?_
            refine j_goto C 56 (by decide) dX11_fixed_52 ?_
            refine j_istore_n C [(3, .int ((σ.2.1 8) i)), (4, .int (nI i)), (0, .ref (g 0)), (1, .int (nI c)), (2, .int (nI d))] rfl (by decide) rfl dX11_fixed_56 ?_
            refine j_iinc C (nI (i + 1)) [(4, .int (nI (i + 1))), (3, .int ((σ.2.1 8) i)), (0, .ref (g 0)), (1, .int (nI c)), (2, .int (nI d))] 1 rfl (by rw [show Int32.ofInt 1 = nI 1 from by decide, nI_add]) (by decide) rfl dX11_fixed_57 ?_
            refine j_goto C 14 (by decide) dX11_fixed_60 ?_
            exact ih14 (i + 1) ((σ.2.1 8) i) (by omega) (fxR_y c2 c3) (by omega)
  exact L14 _ 0 ((σ.2.1 5) (28 * c + d)) (by omega) rfl (Nat.lt_succ_self _)
set_option maxRecDepth 100000 in
set_option maxHeartbeats 4000000 in
theorem o_readOf (g kk : Nat → Nat) (σ : St) (k : Nat) (hk : σ.1 3 = nI k) (hk6 : k ≤ 6) (hI : iM σ) (nf : Nat) (hnf : σ.1 9 = nI nf) (hnfb : nf ≤ 20) (G : GD) (hM : HM G k nf σ)  (c : Nat) (hc0 : c < k) (d : Nat) (hd0 : d < 28) : jM (S := St) yX11_readOf cX11_readOf 4 (some .int) { frames := 2, cells := 0, slots := 0, locals := 45 } kk (cM g kk σ) [.ref (g 0), .int (nI c), .int (nI d)] (cM g kk) (rI (fun (r : Int32) (u : St) => u = σ ∧ (r = tr (rdV G c d)))) := by
  refine j_entry [(0, .ref (g 0)), (1, .int (nI c)), (2, .int (nI d))] (by decide) (Nat.le_of_ble_eq_true rfl) rfl ?_
  intro X C E HI
  have hk3 := hM.W.K3 hc0 hd0
  refine j_aload_n C 0 rfl dX11_readOf_0 ?_
  refine gM_0_16 C tb_889 dX11_readOf_1 ?_
  refine j_iload_n C 1 rfl dX11_readOf_4 ?_
  refine j_iload_n C 2 rfl dX11_readOf_5 ?_
  refine j_S01 C (m_at c d) kyX11_at tb_1060 tb_1061 rfl (Nat.le_of_ble_eq_true rfl) ⟨by decide, by decide⟩ ⟨by decide, by decide⟩ dX11_readOf_6 rfl ?_
  refine rM_10 C (28 * c + d) rfl (by omega) (nI (zK G c d)) (hM.K hc0 hd0) dX11_readOf_9 ?_
  refine j_istore_n C [(3, .int (nI (zK G c d))), (0, .ref (g 0)), (1, .int (nI c)), (2, .int (nI d))] rfl (by decide) rfl dX11_readOf_10 ?_
  refine j_iload_n C 0 rfl dX11_readOf_11 ?_
  refine j_iconst C (nI 1) (by decide) dX11_readOf_12 ?_
  refine j_icmp_eqN C 35 (by decide) (by omega) (by omega) dX11_readOf_13 (fun c1 => ?_) (fun c1 => ?_)
  · refine j_bipush C ((-6)) (by decide) dX11_readOf_35 ?_
    exact j_iret C E (σ) ⟨_, rfl, ⟨rfl, (by rw [show rdV G c d = -1 from by unfold rdV; first | rw [if_pos (by omega)] | rw [if_neg (by omega), if_pos (by omega)] | rw [if_neg (by omega), if_neg (by omega), if_pos (by omega)] | rw [if_neg (by omega), if_neg (by omega), if_neg (by omega)]]; rfl)⟩⟩ rfl dX11_readOf_37
  · refine j_iload_n C 0 rfl dX11_readOf_16 ?_
    refine j_iconst C (nI 3) (by decide) dX11_readOf_17 ?_
    refine j_icmp_neN C 38 (by decide) (by omega) (by omega) dX11_readOf_18 (fun c2 => ?_) (fun c2 => ?_)
    · refine j_iload_n C 3 rfl dX11_readOf_38 ?_
      refine j_bipush C (nI 27) (by decide) dX11_readOf_39 ?_
      refine j_icmp_geN C 69 (by decide) (by omega) (by omega) dX11_readOf_41 (fun c3 => ?_) (fun c3 => ?_)
      · refine j_iload_n C 0 rfl dX11_readOf_69 ?_
        refine j_iconst C (nI 2) (by decide) dX11_readOf_70 ?_
        refine j_icmp_neN C 79 (by decide) (by omega) (by omega) dX11_readOf_71 (fun c4 => ?_) (fun c4 => ?_)
        · refine j_aload_n C 1 rfl dX11_readOf_79 ?_
          refine j_iload_n C 2 rfl dX11_readOf_80 ?_
          refine j_iload_n C 3 rfl dX11_readOf_81 ?_
          refine j_V1 C (o_fixed g kk σ k hk hk6 hI nf hnf (by omega) G hM c (by first | assumption | omega) d (by first | assumption | omega)) kyX11_fixed tb_1143 tb_1145 sp_27 0 rfl (eM_0 g kk _) rfl (Nat.le_of_ble_eq_true rfl) ⟨by decide, by decide⟩ dX11_readOf_82 rfl (fun vr ur hp => ?_)
          obtain ⟨r6, rfl, hu, g5⟩ := hp
          replace hu := hu.symm
          subst hu
          subst g5
          exact j_iret C E (σ) ⟨_, rfl, ⟨rfl, (by rw [show rdV G c d = zC G c d from by unfold rdV; first | rw [if_pos (by omega)] | rw [if_neg (by omega), if_pos (by omega)] | rw [if_neg (by omega), if_neg (by omega), if_pos (by omega)] | rw [if_neg (by omega), if_neg (by omega), if_neg (by omega)]])⟩⟩ rfl dX11_readOf_85
        · refine j_bipush C ((-6)) (by decide) dX11_readOf_74 ?_
          refine j_goto C 85 (by decide) dX11_readOf_76 ?_
          exact j_iret C E (σ) ⟨_, rfl, ⟨rfl, (by rw [show rdV G c d = -1 from by unfold rdV; first | rw [if_pos (by omega)] | rw [if_neg (by omega), if_pos (by omega)] | rw [if_neg (by omega), if_neg (by omega), if_pos (by omega)] | rw [if_neg (by omega), if_neg (by omega), if_neg (by omega)]]; rfl)⟩⟩ rfl dX11_readOf_85
      · have hk4 := hM.W.K3 hc0 (show d + 1 < 28 by omega)
        refine j_aload_n C 1 rfl dX11_readOf_44 ?_
        refine gM_0_16 C tb_889 dX11_readOf_45 ?_
        refine j_iload_n C 2 rfl dX11_readOf_48 ?_
        refine j_iload_n C 3 rfl dX11_readOf_49 ?_
        refine j_iconst C (nI 1) (by decide) dX11_readOf_50 ?_
        refine j_iaddN C dX11_readOf_51 ?_
        refine j_S01 C (m_at c (d + 1)) kyX11_at tb_1060 tb_1061 rfl (Nat.le_of_ble_eq_true rfl) ⟨by decide, by decide⟩ ⟨by decide, by decide⟩ dX11_readOf_52 rfl ?_
        refine rM_10 C (28 * c + (d + 1)) rfl (by omega) (nI (zK G c (d + 1))) (hM.K hc0 (show d + 1 < 28 by omega)) dX11_readOf_55 ?_
        refine j_iconst C (nI 2) (by decide) dX11_readOf_56 ?_
        refine j_icmp_neN C 69 (by decide) (by omega) (by omega) dX11_readOf_57 (fun c7 => ?_) (fun c7 => ?_)
        · refine j_iload_n C 0 rfl dX11_readOf_69 ?_
          refine j_iconst C (nI 2) (by decide) dX11_readOf_70 ?_
          refine j_icmp_neN C 79 (by decide) (by omega) (by omega) dX11_readOf_71 (fun c8 => ?_) (fun c8 => ?_)
          · refine j_aload_n C 1 rfl dX11_readOf_79 ?_
            refine j_iload_n C 2 rfl dX11_readOf_80 ?_
            refine j_iload_n C 3 rfl dX11_readOf_81 ?_
            refine j_V1 C (o_fixed g kk σ k hk hk6 hI nf hnf (by omega) G hM c (by first | assumption | omega) d (by first | assumption | omega)) kyX11_fixed tb_1143 tb_1145 sp_27 0 rfl (eM_0 g kk _) rfl (Nat.le_of_ble_eq_true rfl) ⟨by decide, by decide⟩ dX11_readOf_82 rfl (fun vr ur hp => ?_)
            obtain ⟨r10, rfl, hu, g9⟩ := hp
            replace hu := hu.symm
            subst hu
            subst g9
            exact j_iret C E (σ) ⟨_, rfl, ⟨rfl, (by rw [show rdV G c d = zC G c d from by unfold rdV; first | rw [if_pos (by omega)] | rw [if_neg (by omega), if_pos (by omega)] | rw [if_neg (by omega), if_neg (by omega), if_pos (by omega)] | rw [if_neg (by omega), if_neg (by omega), if_neg (by omega)]])⟩⟩ rfl dX11_readOf_85
          · refine j_bipush C ((-6)) (by decide) dX11_readOf_74 ?_
            refine j_goto C 85 (by decide) dX11_readOf_76 ?_
            exact j_iret C E (σ) ⟨_, rfl, ⟨rfl, (by rw [show rdV G c d = -1 from by unfold rdV; first | rw [if_pos (by omega)] | rw [if_neg (by omega), if_pos (by omega)] | rw [if_neg (by omega), if_neg (by omega), if_pos (by omega)] | rw [if_neg (by omega), if_neg (by omega), if_neg (by omega)]]; rfl)⟩⟩ rfl dX11_readOf_85
        · refine j_aload_n C 1 rfl dX11_readOf_60 ?_
          refine j_iload_n C 2 rfl dX11_readOf_61 ?_
          refine j_iload_n C 3 rfl dX11_readOf_62 ?_
          refine j_iconst C (nI 1) (by decide) dX11_readOf_63 ?_
          refine j_iaddN C dX11_readOf_64 ?_
          refine j_V1 C (o_fixed g kk σ k hk hk6 hI nf hnf (by omega) G hM c (by first | assumption | omega) (d + 1) (by first | assumption | omega)) kyX11_fixed tb_1143 tb_1145 sp_27 0 rfl (eM_0 g kk _) rfl (Nat.le_of_ble_eq_true rfl) ⟨by decide, by decide⟩ dX11_readOf_65 rfl (fun vr ur hp => ?_)
          obtain ⟨r12, rfl, hu, g11⟩ := hp
          replace hu := hu.symm
          subst hu
          subst g11
          exact j_iret C E (σ) ⟨_, rfl, ⟨rfl, (by rw [show rdV G c d = zC G c (d + 1) from by unfold rdV; first | rw [if_pos (by omega)] | rw [if_neg (by omega), if_pos (by omega)] | rw [if_neg (by omega), if_neg (by omega), if_pos (by omega)] | rw [if_neg (by omega), if_neg (by omega), if_neg (by omega)]])⟩⟩ rfl dX11_readOf_68
    · have hl9 := hM.W.R hc0 hd0 (by omega)
      refine j_aload_n C 1 rfl dX11_readOf_21 ?_
      refine gM_0_18 C tb_891 dX11_readOf_22 ?_
      refine j_iload_n C 2 rfl dX11_readOf_25 ?_
      refine j_iload_n C 3 rfl dX11_readOf_26 ?_
      refine j_S01 C (m_at c d) kyX11_at tb_1060 tb_1061 rfl (Nat.le_of_ble_eq_true rfl) ⟨by decide, by decide⟩ ⟨by decide, by decide⟩ dX11_readOf_27 rfl ?_
      refine rM_12 C (28 * c + d) rfl (by omega) (nI (zL G c d)) (hM.L hc0 hd0 (by omega)) dX11_readOf_30 ?_
      refine j_iload_n C 3 rfl dX11_readOf_31 ?_
      refine j_icmp_eqN C 38 (by decide) (by omega) (by omega) dX11_readOf_32 (fun c13 => ?_) (fun c13 => ?_)
      · refine j_iload_n C 3 rfl dX11_readOf_38 ?_
        refine j_bipush C (nI 27) (by decide) dX11_readOf_39 ?_
        refine j_icmp_geN C 69 (by decide) (by omega) (by omega) dX11_readOf_41 (fun c14 => ?_) (fun c14 => ?_)
        · refine j_iload_n C 0 rfl dX11_readOf_69 ?_
          refine j_iconst C (nI 2) (by decide) dX11_readOf_70 ?_
          refine j_icmp_neN C 79 (by decide) (by omega) (by omega) dX11_readOf_71 (fun c15 => ?_) (fun c15 => ?_)
          · refine j_aload_n C 1 rfl dX11_readOf_79 ?_
            refine j_iload_n C 2 rfl dX11_readOf_80 ?_
            refine j_iload_n C 3 rfl dX11_readOf_81 ?_
            refine j_V1 C (o_fixed g kk σ k hk hk6 hI nf hnf (by omega) G hM c (by first | assumption | omega) d (by first | assumption | omega)) kyX11_fixed tb_1143 tb_1145 sp_27 0 rfl (eM_0 g kk _) rfl (Nat.le_of_ble_eq_true rfl) ⟨by decide, by decide⟩ dX11_readOf_82 rfl (fun vr ur hp => ?_)
            obtain ⟨r17, rfl, hu, g16⟩ := hp
            replace hu := hu.symm
            subst hu
            subst g16
            exact j_iret C E (σ) ⟨_, rfl, ⟨rfl, (by rw [show rdV G c d = zC G c d from by unfold rdV; first | rw [if_pos (by omega)] | rw [if_neg (by omega), if_pos (by omega)] | rw [if_neg (by omega), if_neg (by omega), if_pos (by omega)] | rw [if_neg (by omega), if_neg (by omega), if_neg (by omega)]])⟩⟩ rfl dX11_readOf_85
          · refine j_bipush C ((-6)) (by decide) dX11_readOf_74 ?_
            refine j_goto C 85 (by decide) dX11_readOf_76 ?_
            exact j_iret C E (σ) ⟨_, rfl, ⟨rfl, (by rw [show rdV G c d = -1 from by unfold rdV; first | rw [if_pos (by omega)] | rw [if_neg (by omega), if_pos (by omega)] | rw [if_neg (by omega), if_neg (by omega), if_pos (by omega)] | rw [if_neg (by omega), if_neg (by omega), if_neg (by omega)]]; rfl)⟩⟩ rfl dX11_readOf_85
        · have hk4 := hM.W.K3 hc0 (show d + 1 < 28 by omega)
          refine j_aload_n C 1 rfl dX11_readOf_44 ?_
          refine gM_0_16 C tb_889 dX11_readOf_45 ?_
          refine j_iload_n C 2 rfl dX11_readOf_48 ?_
          refine j_iload_n C 3 rfl dX11_readOf_49 ?_
          refine j_iconst C (nI 1) (by decide) dX11_readOf_50 ?_
          refine j_iaddN C dX11_readOf_51 ?_
          refine j_S01 C (m_at c (d + 1)) kyX11_at tb_1060 tb_1061 rfl (Nat.le_of_ble_eq_true rfl) ⟨by decide, by decide⟩ ⟨by decide, by decide⟩ dX11_readOf_52 rfl ?_
          refine rM_10 C (28 * c + (d + 1)) rfl (by omega) (nI (zK G c (d + 1))) (hM.K hc0 (show d + 1 < 28 by omega)) dX11_readOf_55 ?_
          refine j_iconst C (nI 2) (by decide) dX11_readOf_56 ?_
          refine j_icmp_neN C 69 (by decide) (by omega) (by omega) dX11_readOf_57 (fun c18 => ?_) (fun c18 => ?_)
          · refine j_iload_n C 0 rfl dX11_readOf_69 ?_
            refine j_iconst C (nI 2) (by decide) dX11_readOf_70 ?_
            refine j_icmp_neN C 79 (by decide) (by omega) (by omega) dX11_readOf_71 (fun c19 => ?_) (fun c19 => ?_)
            · refine j_aload_n C 1 rfl dX11_readOf_79 ?_
              refine j_iload_n C 2 rfl dX11_readOf_80 ?_
              refine j_iload_n C 3 rfl dX11_readOf_81 ?_
              refine j_V1 C (o_fixed g kk σ k hk hk6 hI nf hnf (by omega) G hM c (by first | assumption | omega) d (by first | assumption | omega)) kyX11_fixed tb_1143 tb_1145 sp_27 0 rfl (eM_0 g kk _) rfl (Nat.le_of_ble_eq_true rfl) ⟨by decide, by decide⟩ dX11_readOf_82 rfl (fun vr ur hp => ?_)
              obtain ⟨r21, rfl, hu, g20⟩ := hp
              replace hu := hu.symm
              subst hu
              subst g20
              exact j_iret C E (σ) ⟨_, rfl, ⟨rfl, (by rw [show rdV G c d = zC G c d from by unfold rdV; first | rw [if_pos (by omega)] | rw [if_neg (by omega), if_pos (by omega)] | rw [if_neg (by omega), if_neg (by omega), if_pos (by omega)] | rw [if_neg (by omega), if_neg (by omega), if_neg (by omega)]])⟩⟩ rfl dX11_readOf_85
            · refine j_bipush C ((-6)) (by decide) dX11_readOf_74 ?_
              refine j_goto C 85 (by decide) dX11_readOf_76 ?_
              exact j_iret C E (σ) ⟨_, rfl, ⟨rfl, (by rw [show rdV G c d = -1 from by unfold rdV; first | rw [if_pos (by omega)] | rw [if_neg (by omega), if_pos (by omega)] | rw [if_neg (by omega), if_neg (by omega), if_pos (by omega)] | rw [if_neg (by omega), if_neg (by omega), if_neg (by omega)]]; rfl)⟩⟩ rfl dX11_readOf_85
          · refine j_aload_n C 1 rfl dX11_readOf_60 ?_
            refine j_iload_n C 2 rfl dX11_readOf_61 ?_
            refine j_iload_n C 3 rfl dX11_readOf_62 ?_
            refine j_iconst C (nI 1) (by decide) dX11_readOf_63 ?_
            refine j_iaddN C dX11_readOf_64 ?_
            refine j_V1 C (o_fixed g kk σ k hk hk6 hI nf hnf (by omega) G hM c (by first | assumption | omega) (d + 1) (by first | assumption | omega)) kyX11_fixed tb_1143 tb_1145 sp_27 0 rfl (eM_0 g kk _) rfl (Nat.le_of_ble_eq_true rfl) ⟨by decide, by decide⟩ dX11_readOf_65 rfl (fun vr ur hp => ?_)
            obtain ⟨r23, rfl, hu, g22⟩ := hp
            replace hu := hu.symm
            subst hu
            subst g22
            exact j_iret C E (σ) ⟨_, rfl, ⟨rfl, (by rw [show rdV G c d = zC G c (d + 1) from by unfold rdV; first | rw [if_pos (by omega)] | rw [if_neg (by omega), if_pos (by omega)] | rw [if_neg (by omega), if_neg (by omega), if_pos (by omega)] | rw [if_neg (by omega), if_neg (by omega), if_neg (by omega)]])⟩⟩ rfl dX11_readOf_68
      · refine j_bipush C ((-6)) (by decide) dX11_readOf_35 ?_
        exact j_iret C E (σ) ⟨_, rfl, ⟨rfl, (by rw [show rdV G c d = -1 from by unfold rdV; first | rw [if_pos (by omega)] | rw [if_neg (by omega), if_pos (by omega)] | rw [if_neg (by omega), if_neg (by omega), if_pos (by omega)] | rw [if_neg (by omega), if_neg (by omega), if_neg (by omega)]]; rfl)⟩⟩ rfl dX11_readOf_37
set_option maxRecDepth 100000 in
set_option maxHeartbeats 4000000 in
theorem o_caught (g kk : Nat → Nat) (σ : St) (k : Nat) (hk : σ.1 3 = nI k) (hk6 : k ≤ 6) (hI : iM σ) (nf : Nat) (hnf : σ.1 9 = nI nf) (hnfb : nf ≤ 20) (G : GD) (hM : HM G k nf σ)  (c : Nat) (hc0 : c < k) (d : Nat) (hd0 : d < 28) : jM (S := St) yX11_caught cX11_caught 4 (some .int) { frames := 3, cells := 0, slots := 0, locals := 68 } kk (cM g kk σ) [.ref (g 0), .int (nI c), .int (nI d)] (cM g kk) (rI (fun (r : Int32) (u : St) => u = σ ∧ (r = tr (flV G c d (rdV G c d))))) := by
  refine j_entry [(0, .ref (g 0)), (1, .int (nI c)), (2, .int (nI d))] (by decide) (Nat.le_of_ble_eq_true rfl) rfl ?_
  intro X C E HI
  refine j_aload_n C 0 rfl dX11_caught_0 ?_
  refine j_iload_n C 1 rfl dX11_caught_1 ?_
  refine j_iload_n C 2 rfl dX11_caught_2 ?_
  refine j_V1 C (o_readOf g kk σ k hk hk6 hI nf hnf (by omega) G hM c (by first | assumption | omega) d (by first | assumption | omega)) kyX11_readOf tb_1139 tb_1141 sp_26 0 rfl (eM_0 g kk _) rfl (Nat.le_of_ble_eq_true rfl) ⟨by decide, by decide⟩ dX11_caught_3 rfl (fun vr ur hp => ?_)
  obtain ⟨r2, rfl, hu, g1⟩ := hp
  replace hu := hu.symm
  subst hu
  rcases rd_lm hM.W (show c < k by omega) (show d < 28 by omega) with q9 | ⟨m9, hm9, q9⟩
  · rw [q9, tr_m] at g1
    subst g1
    refine j_istore_n C [(3, .int (-6)), (0, .ref (g 0)), (1, .int (nI c)), (2, .int (nI d))] rfl (by decide) rfl dX11_caught_6 ?_
    refine j_iload_n C 0 rfl dX11_caught_7 ?_
    refine j_if_ge C 16 (by decide) dX11_caught_8 (fun c3 => ?_) (fun c3 => ?_)
    · exact absurd c3 (by decide)
    · refine j_bipush C ((-6)) (by decide) dX11_caught_11 ?_
      refine j_goto C 39 (by decide) dX11_caught_13 ?_
      exact j_iret C E (σ) ⟨_, rfl, ⟨rfl, (by rw [q9, fl_1]; rfl)⟩⟩ rfl dX11_caught_39
  · rw [q9, tr_n (by omega)] at g1
    subst g1
    refine j_istore_n C [(3, .int (nI m9)), (0, .ref (g 0)), (1, .int (nI c)), (2, .int (nI d))] rfl (by decide) rfl dX11_caught_6 ?_
    refine j_iload_n C 0 rfl dX11_caught_7 ?_
    refine j_if_geN C 16 (by decide) (by omega) dX11_caught_8 (fun c4 => ?_) (fun c4 => ?_)
    · have hfb := fl_b hm9 (hM.W.M9 hc0 hd0)
      refine j_iload_n C 0 rfl dX11_caught_16 ?_
      refine j_bipush C (nI 10) (by decide) dX11_caught_17 ?_
      refine j_imulN C dX11_caught_19 ?_
      refine j_bipush C (nI 10) (by decide) dX11_caught_20 ?_
      refine j_aload_n C 1 rfl dX11_caught_22 ?_
      refine gM_0_2 C tb_875 dX11_caught_23 ?_
      refine j_iconst C (nI 3) (by decide) dX11_caught_26 ?_
      refine j_iload_n C 2 rfl dX11_caught_27 ?_
      refine j_imulN C dX11_caught_28 ?_
      refine j_aload_n C 1 rfl dX11_caught_29 ?_
      refine gM_0_4 C tb_877 dX11_caught_30 ?_
      refine j_iload_n C 3 rfl dX11_caught_33 ?_
      obtain ⟨w9, hw9, ew1, ew2⟩ := hM.M hc0 hd0
      have hmm := hM.W.M9 hc0 hd0
      refine rM_4 C d rfl (by omega) (nI w9) ew1 dX11_caught_34 ?_
      refine j_iaddN C dX11_caught_35 ?_
      refine rM_3 C ((3 * c) + w9) rfl (by omega) (nI (zM G c d)) ew2 dX11_caught_36 ?_
      refine j_isubN C (by omega) dX11_caught_37 ?_
      have hq5 := Nat.div_le_self (m9 * 10) (10 - (zM G c d))
      refine j_idivN C (by omega) (by omega) (by omega) dX11_caught_38 ?_
      exact j_iret C E (σ) ⟨_, rfl, ⟨rfl, (by rw [q9, fl_n (by omega), tr_n (by omega)])⟩⟩ rfl dX11_caught_39
    · exact absurd c4 (Nat.not_lt_zero _)
set_option maxRecDepth 100000 in
set_option maxHeartbeats 4000000 in
theorem o_areNear (g kk : Nat → Nat) (σ : St) (k : Nat) (hk : σ.1 3 = nI k) (hk6 : k ≤ 6) (hI : iM σ) (nf : Nat) (hnf : σ.1 9 = nI nf) (hnfb : nf ≤ 20) (G : GD) (hM : HM G k nf σ)  (c : Nat) (hc0 : c < k) (d : Nat) (hd0 : d < k) : jM (S := St) yX11_areNear cX11_areNear 3 (some .boolean) { frames := 1, cells := 0, slots := 0, locals := 21 } kk (cM g kk σ) [.ref (g 0), .int (nI c), .int (nI d)] (cM g kk) (rI (fun (r : Int32) (u : St) => u = σ ∧ (r = bI (nbV G c d)))) := by
  refine j_entry [(0, .ref (g 0)), (1, .int (nI c)), (2, .int (nI d))] (by decide) (Nat.le_of_ble_eq_true rfl) rfl ?_
  intro X C E HI
  have hs9 := hM.W.2.2
  have hx1 := hM.W.XY hc0
  have hx2 := hM.W.XY hd0
  refine j_iload_n C 1 rfl dX11_areNear_0 ?_
  refine j_iload_n C 2 rfl dX11_areNear_1 ?_
  refine j_icmp_eqN C 47 (by decide) (by omega) (by omega) dX11_areNear_2 (fun c1 => ?_) (fun c1 => ?_)
  · refine j_iconst C (nI 0) (by decide) dX11_areNear_47 ?_
    exact j_zret C E (by first | rfl | decide) (σ) ⟨_, rfl, ⟨rfl, (bI_0 (decide_eq_false (by unfold frN; omega)))⟩⟩ rfl dX11_areNear_48
  · refine j_aload_n C 0 rfl dX11_areNear_5 ?_
    refine gM_0_0 C tb_873 dX11_areNear_6 ?_
    refine j_iload_n C 1 rfl dX11_areNear_9 ?_
    refine rM_1 C c rfl (by omega) (nI (zX G c)) (hM.P hc0).1 dX11_areNear_10 ?_
    refine j_aload_n C 0 rfl dX11_areNear_11 ?_
    refine gM_0_0 C tb_873 dX11_areNear_12 ?_
    refine j_iload_n C 2 rfl dX11_areNear_15 ?_
    refine rM_1 C d rfl (by omega) (nI (zX G d)) (hM.P hd0).1 dX11_areNear_16 ?_
    refine j_S01 C (m_off (nI (zX G c)) (nI (zX G d))) kyX11_off tb_1155 tb_1156 rfl (Nat.le_of_ble_eq_true rfl) ⟨by decide, by decide⟩ ⟨by decide, by decide⟩ dX11_areNear_17 rfl ?_
    rw [off_n (hM.W.XY hc0).1 (hM.W.XY hd0).1]
    refine j_aload_n C 0 rfl dX11_areNear_20 ?_
    refine gM_0_1 C tb_874 dX11_areNear_21 ?_
    refine j_iload_n C 1 rfl dX11_areNear_24 ?_
    refine rM_2 C c rfl (by omega) (nI (zY G c)) (hM.P hc0).2 dX11_areNear_25 ?_
    refine j_aload_n C 0 rfl dX11_areNear_26 ?_
    refine gM_0_1 C tb_874 dX11_areNear_27 ?_
    refine j_iload_n C 2 rfl dX11_areNear_30 ?_
    refine rM_2 C d rfl (by omega) (nI (zY G d)) (hM.P hd0).2 dX11_areNear_31 ?_
    refine j_S01 C (m_off (nI (zY G c)) (nI (zY G d))) kyX11_off tb_1155 tb_1156 rfl (Nat.le_of_ble_eq_true rfl) ⟨by decide, by decide⟩ ⟨by decide, by decide⟩ dX11_areNear_32 rfl ?_
    rw [off_n (hM.W.XY hc0).2 (hM.W.XY hd0).2]
    refine j_iaddN C dX11_areNear_35 ?_
    refine j_aload_n C 0 rfl dX11_areNear_36 ?_
    refine gM_0_10 C tb_883 (nI (zS G 0)) hM.S0 dX11_areNear_37 ?_
    refine j_icmp_gtN C 47 (by decide) (by omega) (by omega) dX11_areNear_40 (fun c2 => ?_) (fun c2 => ?_)
    · refine j_iconst C (nI 0) (by decide) dX11_areNear_47 ?_
      exact j_zret C E (by first | rfl | decide) (σ) ⟨_, rfl, ⟨rfl, (bI_0 (decide_eq_false (by unfold frN; omega)))⟩⟩ rfl dX11_areNear_48
    · refine j_iconst C (nI 1) (by decide) dX11_areNear_43 ?_
      refine j_goto C 48 (by decide) dX11_areNear_44 ?_
      exact j_zret C E (by first | rfl | decide) (σ) ⟨_, rfl, ⟨rfl, (bI_1 (decide_eq_true ⟨by omega, by unfold frN; omega⟩))⟩⟩ rfl dX11_areNear_48
set_option maxRecDepth 100000 in
set_option maxHeartbeats 4000000 in
theorem o_expectOf (g kk : Nat → Nat) (σ : St) (k : Nat) (hk : σ.1 3 = nI k) (hk6 : k ≤ 6) (hI : iM σ) (nf : Nat) (hnf : σ.1 9 = nI nf) (hnfb : nf ≤ 20) (G : GD) (hM : HM G k nf σ) (hP : ∀ o d : Nat, o < k → d < 28 → σ.2.1 16 (28 * o + d) = tr (plV G o d)) (c : Nat) (hc0 : c < k) (d : Nat) (hd0 : d < 28) : jM (S := St) yX11_expectOf cX11_expectOf 7 (some .int) { frames := 2, cells := 0, slots := 0, locals := 43 } kk (cM g kk σ) [.ref (g 0), .int (nI c), .int (nI d)] (cM g kk) (rI (fun (r : Int32) (u : St) => u = σ ∧ (r = tr (exV G k c d)))) := by
  refine j_entry [(0, .ref (g 0)), (1, .int (nI c)), (2, .int (nI d))] (by decide) (Nat.le_of_ble_eq_true rfl) rfl ?_
  intro X C E HI
  refine j_iconst C (nI 0) (by decide) dX11_expectOf_0 ?_
  refine j_istore_n C [(3, .int (nI 0)), (0, .ref (g 0)), (1, .int (nI c)), (2, .int (nI d))] rfl (by decide) rfl dX11_expectOf_1 ?_
  refine j_iconst C (nI 0) (by decide) dX11_expectOf_2 ?_
  refine j_istore C [(4, .int (nI 0)), (3, .int (nI 0)), (0, .ref (g 0)), (1, .int (nI c)), (2, .int (nI d))] (by decide) rfl dX11_expectOf_3 ?_
  refine j_iconst C (nI 0) (by decide) dX11_expectOf_5 ?_
  refine j_istore C [(5, .int (nI 0)), (4, .int (nI 0)), (3, .int (nI 0)), (0, .ref (g 0)), (1, .int (nI c)), (2, .int (nI d))] (by decide) rfl dX11_expectOf_6 ?_
  have L8 : ∀ (n8 : Nat) (o : Nat) (mv9 : Nat) (sv : Nat) (i8_0 : o ≤ k) (i8_1 : mv9 ≤ o) (i8_2 : sv ≤ 9990 * o) (he : (sv, mv9) = exS G c d o) (hm8 : k - o < n8), J X 0 0 (cM g kk σ) [(5, .int (nI o)), (4, .int (nI mv9)), (3, .int (nI sv)), (0, .ref (g 0)), (1, .int (nI c)), (2, .int (nI d))] 8 [] := by
    intro n8
    induction n8 with
    | zero => intro o mv9 sv i8_0 i8_1 i8_2 he hm; exact absurd hm (Nat.not_lt_zero _)
    | succ n8 ih8 =>
      intro o mv9 sv i8_0 i8_1 i8_2 he hm8
      refine j_iload C 0 rfl dX11_expectOf_8 ?_
      refine j_aload_n C 3 rfl dX11_expectOf_10 ?_
      refine gM_0_3 C tb_876 (nI k) hk dX11_expectOf_11 ?_
      refine j_icmp_geN C 59 (by decide) (by omega) (by omega) dX11_expectOf_14 (fun c1 => ?_) (fun c1 => ?_)
      · refine j_iload C 1 rfl dX11_expectOf_59 ?_
        refine j_if_neN C 69 (by decide) (by omega) dX11_expectOf_61 (fun c2 => ?_) (fun c2 => ?_)
        · refine j_iload_n C 2 rfl dX11_expectOf_69 ?_
          refine j_iload C 1 rfl dX11_expectOf_70 ?_
          have hq3 := Nat.div_le_self sv mv9
          refine j_idivN C (by omega) (by omega) (by omega) dX11_expectOf_72 ?_
          exact j_iret C E (σ) ⟨_, rfl, ⟨rfl, (by rw [← ex_1 (s := sv) (m := mv9) (by have z := he; rw [show o = k by omega] at z; exact z) (by omega), tr_n (by have := Nat.div_le_self sv mv9; omega)])⟩⟩ rfl dX11_expectOf_73
        · refine j_bipush C ((-6)) (by decide) dX11_expectOf_64 ?_
          refine j_goto C 73 (by decide) dX11_expectOf_66 ?_
          exact j_iret C E (σ) ⟨_, rfl, ⟨rfl, (by rw [← ex_0 (s := sv) (m := mv9) (by have z := he; rw [show o = k by omega] at z; exact z) (by omega)]; rfl)⟩⟩ rfl dX11_expectOf_73
      · refine j_aload_n C 3 rfl dX11_expectOf_17 ?_
        refine gM_0_22 C tb_895 dX11_expectOf_18 ?_
        refine j_iload C 0 rfl dX11_expectOf_21 ?_
        refine j_iload_n C 5 rfl dX11_expectOf_23 ?_
        refine j_S01 C (m_at o d) kyX11_at tb_1060 tb_1061 rfl (Nat.le_of_ble_eq_true rfl) ⟨by decide, by decide⟩ ⟨by decide, by decide⟩ dX11_expectOf_24 rfl ?_
        refine rM_16 C (28 * o + d) rfl (by omega) (tr (plV G o d)) (hP o d (by omega) (by omega)) dX11_expectOf_27 ?_
        refine j_istore C [(6, .int (tr (plV G o d))), (5, .int (nI o)), (4, .int (nI mv9)), (3, .int (nI sv)), (0, .ref (g 0)), (1, .int (nI c)), (2, .int (nI d))] (by decide) rfl dX11_expectOf_28 ?_
        rcases pl_lm hM.W (show o < k by omega) (show d < 28 by omega) with ep9 | ⟨p9, hp9, ep9⟩
        · rw [ep9, tr_m]
          refine j_aload_n C 4 rfl dX11_expectOf_30 ?_
          refine j_iload_n C 5 rfl dX11_expectOf_31 ?_
          refine j_iload C 1 rfl dX11_expectOf_32 ?_
          refine j_V1 C (o_areNear g kk σ k hk hk6 hI nf hnf (by omega) G hM c (by first | assumption | omega) o (by first | assumption | omega)) kyX11_areNear tb_1151 tb_1153 sp_29 0 rfl (eM_0 g kk _) rfl (Nat.le_of_ble_eq_true rfl) ⟨by decide, by decide⟩ dX11_expectOf_34 rfl (fun vr ur hp => ?_)
          obtain ⟨r5, rfl, hu, g4⟩ := hp
          replace hu := hu.symm
          subst hu
          subst g4
          refine j_if_eq C 53 (by decide) dX11_expectOf_37 (fun c6 => ?_) (fun c6 => ?_)
          · replace c6 := bI_f c6
            refine j_iinc C (nI (o + 1)) [(5, .int (nI (o + 1))), (6, .int (-6)), (4, .int (nI mv9)), (3, .int (nI sv)), (0, .ref (g 0)), (1, .int (nI c)), (2, .int (nI d))] 1 rfl (by rw [show Int32.ofInt 1 = nI 1 from by decide, nI_add]) (by decide) rfl dX11_expectOf_53 ?_
            refine j_goto C 8 (by decide) dX11_expectOf_56 ?_
            refine j_sub (lv' := [(5, .int (nI (o + 1))), (4, .int (nI mv9)), (3, .int (nI sv)), (0, .ref (g 0)), (1, .int (nI c)), (2, .int (nI d))]) [0, 2, 3, 4, 5, 6] rfl ?_
            exact ih8 (o + 1) mv9 sv (by omega) (by omega) (by omega) (exS_n he (Or.inl ep9)) (by omega)
          · replace c6 := bI_t c6
            refine j_iload C 0 rfl dX11_expectOf_40 ?_
            refine j_if_lt C 53 (by decide) dX11_expectOf_42 (fun c7 => ?_) (fun c7 => ?_)
            · refine j_iinc C (nI (o + 1)) [(5, .int (nI (o + 1))), (6, .int (-6)), (4, .int (nI mv9)), (3, .int (nI sv)), (0, .ref (g 0)), (1, .int (nI c)), (2, .int (nI d))] 1 rfl (by rw [show Int32.ofInt 1 = nI 1 from by decide, nI_add]) (by decide) rfl dX11_expectOf_53 ?_
              refine j_goto C 8 (by decide) dX11_expectOf_56 ?_
              refine j_sub (lv' := [(5, .int (nI (o + 1))), (4, .int (nI mv9)), (3, .int (nI sv)), (0, .ref (g 0)), (1, .int (nI c)), (2, .int (nI d))]) [0, 2, 3, 4, 5, 6] rfl ?_
              exact ih8 (o + 1) mv9 sv (by omega) (by omega) (by omega) (exS_n he (Or.inl ep9)) (by omega)
            · exact absurd c7 (by decide)
        · rw [ep9, tr_n (by omega)]
          refine j_aload_n C 4 rfl dX11_expectOf_30 ?_
          refine j_iload_n C 5 rfl dX11_expectOf_31 ?_
          refine j_iload C 1 rfl dX11_expectOf_32 ?_
          refine j_V1 C (o_areNear g kk σ k hk hk6 hI nf hnf (by omega) G hM c (by first | assumption | omega) o (by first | assumption | omega)) kyX11_areNear tb_1151 tb_1153 sp_29 0 rfl (eM_0 g kk _) rfl (Nat.le_of_ble_eq_true rfl) ⟨by decide, by decide⟩ dX11_expectOf_34 rfl (fun vr ur hp => ?_)
          obtain ⟨r9, rfl, hu, g8⟩ := hp
          replace hu := hu.symm
          subst hu
          subst g8
          refine j_if_eq C 53 (by decide) dX11_expectOf_37 (fun c10 => ?_) (fun c10 => ?_)
          · replace c10 := bI_f c10
            refine j_iinc C (nI (o + 1)) [(5, .int (nI (o + 1))), (6, .int (nI p9)), (4, .int (nI mv9)), (3, .int (nI sv)), (0, .ref (g 0)), (1, .int (nI c)), (2, .int (nI d))] 1 rfl (by rw [show Int32.ofInt 1 = nI 1 from by decide, nI_add]) (by decide) rfl dX11_expectOf_53 ?_
            refine j_goto C 8 (by decide) dX11_expectOf_56 ?_
            refine j_sub (lv' := [(5, .int (nI (o + 1))), (4, .int (nI mv9)), (3, .int (nI sv)), (0, .ref (g 0)), (1, .int (nI c)), (2, .int (nI d))]) [0, 2, 3, 4, 5, 6] rfl ?_
            exact ih8 (o + 1) mv9 sv (by omega) (by omega) (by omega) (exS_n he (Or.inr c10)) (by omega)
          · replace c10 := bI_t c10
            refine j_iload C 0 rfl dX11_expectOf_40 ?_
            refine j_if_ltN C 53 (by decide) (by omega) dX11_expectOf_42 (fun c11 => ?_) (fun c11 => ?_)
            · exact absurd c11 (Nat.not_lt_zero _)
            · refine j_iload_n C 3 rfl dX11_expectOf_45 ?_
              refine j_iload C 0 rfl dX11_expectOf_46 ?_
              refine j_iaddN C dX11_expectOf_48 ?_
              refine j_istore_n C [(3, .int (nI (sv + p9))), (6, .int (nI p9)), (5, .int (nI o)), (4, .int (nI mv9)), (0, .ref (g 0)), (1, .int (nI c)), (2, .int (nI d))] rfl (by decide) rfl dX11_expectOf_49 ?_
              refine j_iinc C (nI (mv9 + 1)) [(4, .int (nI (mv9 + 1))), (3, .int (nI (sv + p9))), (6, .int (nI p9)), (5, .int (nI o)), (0, .ref (g 0)), (1, .int (nI c)), (2, .int (nI d))] 3 rfl (by rw [show Int32.ofInt 1 = nI 1 from by decide, nI_add]) (by decide) rfl dX11_expectOf_50 ?_
              refine j_iinc C (nI (o + 1)) [(5, .int (nI (o + 1))), (4, .int (nI (mv9 + 1))), (3, .int (nI (sv + p9))), (6, .int (nI p9)), (0, .ref (g 0)), (1, .int (nI c)), (2, .int (nI d))] 3 rfl (by rw [show Int32.ofInt 1 = nI 1 from by decide, nI_add]) (by decide) rfl dX11_expectOf_53 ?_
              refine j_goto C 8 (by decide) dX11_expectOf_56 ?_
              refine j_sub (lv' := [(5, .int (nI (o + 1))), (4, .int (nI (mv9 + 1))), (3, .int (nI (sv + p9))), (0, .ref (g 0)), (1, .int (nI c)), (2, .int (nI d))]) [0, 1, 2, 4, 5, 6] rfl ?_
              exact ih8 (o + 1) (mv9 + 1) (sv + p9) (by omega) (by omega) (by omega) (exS_y he (by omega) ep9 c10) (by omega)
  exact L8 _ 0 0 0 (by omega) (by omega) (by omega) rfl (Nat.lt_succ_self _)
theorem al0 {b : Nat} {v : Int32} (hb : b < 2 ^ 31) (h : lm_ b v) : (if tr v < 0 then 0 else tr v) = nI v.toNatClampNeg := by
  rcases h with rfl | ⟨m, m1, rfl⟩
  · decide
  · rw [tr_n (by omega), if_neg (nI_nlt0 (by omega)), nI_clamp (by omega)]
theorem al_n {m : Nat} (h : m < 2 ^ 31) : (if nI m < 0 then 0 else nI m) = nI m := if_neg (nI_nlt0 h)
theorem ldv {t e T : Nat} (ht : t ≤ 9990) (he : e ≤ 9990) (hT : 0 < T) (hT2 : T < 2 ^ 31) : ((nI t).toInt64 * (nI e).toInt64 / (nI T).toInt64).toInt32 = nI (t * e / T) := by
  have hm := mulb ht he
  have hd := Nat.div_le_self (t * e) T
  rw [nI_l (by omega), nI_l (by omega), nI_l hT2, lN_mul]
  have : lN (t * e) / lN T = lN (t * e / T) := by
    apply Int64.toInt_inj.mp
    have e1 : ((t * e : Nat) : Int).tdiv (T : Int) = ((t * e / T : Nat) : Int) := by
      rw [← Int.ofNat_tdiv]
    rw [Int64.toInt_div, lN_toInt (by omega), lN_toInt hT2, lN_toInt (Nat.lt_of_le_of_lt hd (by omega)), e1]
    clear e1
    generalize t * e / T = q at hd ⊢
    exact Int.bmod_eq_of_le (by omega) (by omega)
  rw [this, lN_i]
def ptG (f : Nat → Int32) (c t : Nat) (E : Nat → Nat) (a b : Nat) : Nat → Int32 := fun j => if 28 * c + a ≤ j ∧ j ≤ 28 * c + b then nI (ptV t E a b (j - 28 * c)) else f j
def PQ (f g : Nat → Int32) (c t T : Nat) (E : Nat → Nat) (a j : Nat) : Prop := (∀ i : Nat, a ≤ i → i < j → f (28 * c + i) = nI (shV t T (E i))) ∧ ∀ i : Nat, ¬ (28 * c + a ≤ i ∧ i < 28 * c + j) → f i = g i
theorem PQ_0 {g : Nat → Int32} {c t T a : Nat} {E : Nat → Nat} : PQ g g c t T E a a := ⟨fun i h1 h2 => absurd h2 (by omega), fun _ _ => rfl⟩
theorem PQ_s {f g : Nat → Int32} {c t T a j : Nat} {E : Nat → Nat} (h : PQ f g c t T E a j) (ha : a ≤ j) : PQ (upd f (28 * c + j) (nI (shV t T (E j)))) g c t T E a (j + 1) := by
  refine ⟨fun i h1 h2 => ?_, fun i hi => ?_⟩
  · by_cases q : i = j
    · rw [q, pk_us]
    · rw [pk_un (by omega)]; exact h.1 i h1 (by omega)
  · rw [pk_un (by omega)]; exact h.2 i (by omega)
theorem PQ_e {f g : Nat → Int32} {c t lf a b : Nat} {E : Nat → Nat} (h : PQ f g c t (sm E a (b + 1 - a)) E a b) (hl : lf = t - sm (fun i => shV t (sm E a (b + 1 - a)) (E i)) a (b - a)) (hab : a ≤ b) : upd f (28 * c + b) (nI lf) = ptG g c t E a b := by
  funext j
  unfold ptG
  by_cases q : j = 28 * c + b
  · rw [q, pk_us, if_pos (by omega), show 28 * c + b - 28 * c = b by omega]
    unfold ptV
    rw [if_neg (by omega), hl]
  · rw [pk_un q]
    by_cases w : 28 * c + a ≤ j ∧ j < 28 * c + b
    · have e := h.1 (j - 28 * c) (by omega) (by omega)
      rw [show 28 * c + (j - 28 * c) = j by omega] at e
      rw [if_pos (by omega), e]
      unfold ptV
      rw [if_pos (by omega)]
    · rw [if_neg (by omega), h.2 j w]
set_option maxRecDepth 100000 in
set_option maxHeartbeats 4000000 in
theorem o_part0 (g kk : Nat → Nat) (σ : St) (k : Nat) (hk : σ.1 3 = nI k) (hk6 : k ≤ 6) (hI : iM σ) (nf : Nat) (hnf : σ.1 9 = nI nf) (hnfb : nf ≤ 20) (G : GD) (hM : HM G k nf σ)  (c : Nat) (hc0 : c < k) (hc1 : ∀ i : Nat, i < 28 → σ.2.1 17 (28 * c + i) = tr (exV G k c i)) (a : Nat) (ha0 : a < 28) (b : Nat) (hb0 : a ≤ b) (hb1 : b < 28) (hb2 : rdV G c b = -1) : jM (S := St) yX11_part cX11_part 9 none { frames := 4, cells := 0, slots := 0, locals := 91 } kk (cM g kk σ) [.ref (g 0), .int (nI c), .int (nI a), .int (nI b)] (cM g kk) (rV (fun u : St => ∃ (pF18 : Nat → Int32), u = sF σ 18 pF18 ∧ (pF18 = fillR (σ.2.1 18) (28 * c + a) (b + 1 - a) (-6)))) := by
  refine j_entry [(0, .ref (g 0)), (1, .int (nI c)), (2, .int (nI a)), (3, .int (nI b))] (by decide) (Nat.le_of_ble_eq_true rfl) rfl ?_
  intro X C E HI
  have hr9 := hb2
  refine j_aload_n C 0 rfl dX11_part_0 ?_
  refine j_iload_n C 1 rfl dX11_part_1 ?_
  refine j_iload_n C 3 rfl dX11_part_2 ?_
  refine j_V1 C (o_caught g kk σ k hk hk6 hI nf hnf (by omega) G hM c (by first | assumption | omega) b (by first | assumption | omega)) kyX11_caught tb_1135 tb_1137 sp_25 0 rfl (eM_0 g kk _) rfl (Nat.le_of_ble_eq_true rfl) ⟨by decide, by decide⟩ dX11_part_3 rfl (fun vr ur hp => ?_)
  obtain ⟨r2, rfl, hu, g1⟩ := hp
  replace hu := hu.symm
  subst hu
  rw [hr9, fl_1, tr_m] at g1
  subst g1
  refine j_istore C [(4, .int (-6)), (0, .ref (g 0)), (1, .int (nI c)), (2, .int (nI a)), (3, .int (nI b))] (by decide) rfl dX11_part_6 ?_
  refine j_iconst C (nI 0) (by decide) dX11_part_8 ?_
  refine j_istore C [(5, .int (nI 0)), (4, .int (-6)), (0, .ref (g 0)), (1, .int (nI c)), (2, .int (nI a)), (3, .int (nI b))] (by decide) rfl dX11_part_9 ?_
  refine j_iload_n C 4 rfl dX11_part_11 ?_
  refine j_istore C [(6, .int (nI a)), (5, .int (nI 0)), (4, .int (-6)), (0, .ref (g 0)), (1, .int (nI c)), (2, .int (nI a)), (3, .int (nI b))] (by decide) rfl dX11_part_12 ?_
  have L14 : ∀ (n14 : Nat) (i : Nat) (T : Nat) (i14_0 : a ≤ i) (i14_1 : i ≤ b + 1) (i14_2 : T ≤ 9990 * (i - a)) (hm14 : b + 1 - i < n14), J X 0 0 (cM g kk σ) [(6, .int (nI i)), (5, .int (nI T)), (4, .int (-6)), (0, .ref (g 0)), (1, .int (nI c)), (2, .int (nI a)), (3, .int (nI b))] 14 [] := by
    intro n14
    induction n14 with
    | zero => intro i T i14_0 i14_1 i14_2 hm; exact absurd hm (Nat.not_lt_zero _)
    | succ n14 ih14 =>
      intro i T i14_0 i14_1 i14_2 hm14
      refine j_iload C 0 rfl dX11_part_14 ?_
      refine j_iload_n C 6 rfl dX11_part_16 ?_
      refine j_icmp_gtN C 45 (by decide) (by omega) (by omega) dX11_part_17 (fun c3 => ?_) (fun c3 => ?_)
      · refine j_iload C 2 rfl dX11_part_45 ?_
        refine j_istore C [(6, .int (-6)), (5, .int (nI T)), (4, .int (-6)), (0, .ref (g 0)), (1, .int (nI c)), (2, .int (nI a)), (3, .int (nI b))] (by decide) rfl dX11_part_47 ?_
        refine j_iload_n C 5 rfl dX11_part_49 ?_
        refine j_istore C [(7, .int (nI a)), (6, .int (-6)), (5, .int (nI T)), (4, .int (-6)), (0, .ref (g 0)), (1, .int (nI c)), (2, .int (nI a)), (3, .int (nI b))] (by decide) rfl dX11_part_50 ?_
        have L52 : ∀ (n52 : Nat) (j : Nat) (y52_6 : Int32) (fr9 : Nat → Int32) (i52_0 : a ≤ j) (i52_1 : j ≤ b) (hp : fr9 = fillR (σ.2.1 18) (28 * c + a) (j - a) (-6)) (hm52 : b - j < n52), J X 0 0 (cM g kk (sF σ 18 fr9)) [(7, .int (nI j)), (6, .int y52_6), (5, .int (nI T)), (4, .int (-6)), (0, .ref (g 0)), (1, .int (nI c)), (2, .int (nI a)), (3, .int (nI b))] 52 [] := by
          intro n52
          induction n52 with
          | zero => intro j y52_6 fr9 i52_0 i52_1 hp hm; exact absurd hm (Nat.not_lt_zero _)
          | succ n52 ih52 =>
            intro j y52_6 fr9 i52_0 i52_1 hp hm52
            refine j_iload C 0 rfl dX11_part_52 ?_
            refine j_iload_n C 7 rfl dX11_part_54 ?_
            refine j_icmp_geN C 132 (by decide) (by omega) (by omega) dX11_part_55 (fun c4 => ?_) (fun c4 => ?_)
            · refine j_aload_n C 4 rfl dX11_part_132 ?_
              refine gM_0_24 C tb_897 dX11_part_133 ?_
              refine j_iload_n C 5 rfl dX11_part_136 ?_
              refine j_iload_n C 7 rfl dX11_part_137 ?_
              refine j_S01 C (m_at c b) kyX11_at tb_1060 tb_1061 rfl (Nat.le_of_ble_eq_true rfl) ⟨by decide, by decide⟩ ⟨by decide, by decide⟩ dX11_part_138 rfl ?_
              refine j_iload C 3 rfl dX11_part_141 ?_
              refine j_if_ge C 151 (by decide) dX11_part_143 (fun c5 => ?_) (fun c5 => ?_)
              · exact absurd c5 (by decide)
              · refine j_bipush C ((-6)) (by decide) dX11_part_146 ?_
                refine j_goto C 153 (by decide) dX11_part_148 ?_
                refine tM_18 C (28 * c + b) rfl (by omega) dX11_part_153 ?_
                refine j_w (cM g kk (sF σ 18 (upd fr9 (28 * c + b) (-6)))) (congrArg (cM g kk) (show sF (sF σ 18 fr9) 18 (upd fr9 (28 * c + b) (-6)) = sF σ 18 (upd fr9 (28 * c + b) (-6)) from wrFs)) ?_
                exact j_vret C E (sF σ 18 (upd fr9 (28 * c + b) (-6))) ⟨rfl, ⟨(upd fr9 (28 * c + b) (-6)), rfl, (by have z := fillR_s hp; rw [show 28 * c + a + (j - a) = 28 * c + b by omega, show j - a + 1 = b + 1 - a by omega] at z; exact z)⟩⟩ rfl dX11_part_154
            · refine j_iload C 3 rfl dX11_part_58 ?_
              refine j_if_ge C 68 (by decide) dX11_part_60 (fun c6 => ?_) (fun c6 => ?_)
              · exact absurd c6 (by decide)
              · refine j_bipush C ((-6)) (by decide) dX11_part_63 ?_
                refine j_goto C 101 (by decide) dX11_part_65 ?_
                refine j_istore C [(8, .int (-6)), (7, .int (nI j)), (6, .int y52_6), (5, .int (nI T)), (4, .int (-6)), (0, .ref (g 0)), (1, .int (nI c)), (2, .int (nI a)), (3, .int (nI b))] (by decide) rfl dX11_part_101 ?_
                refine j_aload_n C 5 rfl dX11_part_103 ?_
                refine gM_0_24 C tb_897 dX11_part_104 ?_
                refine j_iload_n C 6 rfl dX11_part_107 ?_
                refine j_iload C 1 rfl dX11_part_108 ?_
                refine j_S01 C (m_at c j) kyX11_at tb_1060 tb_1061 rfl (Nat.le_of_ble_eq_true rfl) ⟨by decide, by decide⟩ ⟨by decide, by decide⟩ dX11_part_110 rfl ?_
                refine j_iload C 0 rfl dX11_part_113 ?_
                refine tM_18 C (28 * c + j) rfl (by omega) dX11_part_115 ?_
                refine j_iload C 2 rfl dX11_part_116 ?_
                refine j_iload C 0 rfl dX11_part_118 ?_
                refine j_S01 C (m_atLeast (-6)) kyX11_atLeast tb_1162 tb_1163 rfl (Nat.le_of_ble_eq_true rfl) ⟨by decide, by decide⟩ ⟨by decide, by decide⟩ dX11_part_120 rfl ?_
                refine j_isub C dX11_part_123 ?_
                refine j_istore C [(6, .int (y52_6 - (if (-6) < 0 then 0 else (-6)))), (8, .int (-6)), (7, .int (nI j)), (5, .int (nI T)), (4, .int (-6)), (0, .ref (g 0)), (1, .int (nI c)), (2, .int (nI a)), (3, .int (nI b))] (by decide) rfl dX11_part_124 ?_
                refine j_iinc C (nI (j + 1)) [(7, .int (nI (j + 1))), (6, .int (y52_6 - (if (-6) < 0 then 0 else (-6)))), (8, .int (-6)), (5, .int (nI T)), (4, .int (-6)), (0, .ref (g 0)), (1, .int (nI c)), (2, .int (nI a)), (3, .int (nI b))] 2 rfl (by rw [show Int32.ofInt 1 = nI 1 from by decide, nI_add]) (by decide) rfl dX11_part_126 ?_
                refine j_goto C 52 (by decide) dX11_part_129 ?_
                refine j_sub (lv' := [(7, .int (nI (j + 1))), (6, .int (y52_6 - (if (-6) < 0 then 0 else (-6)))), (5, .int (nI T)), (4, .int (-6)), (0, .ref (g 0)), (1, .int (nI c)), (2, .int (nI a)), (3, .int (nI b))]) [0, 1, 3, 4, 5, 6, 7, 8] rfl ?_
                refine j_w (cM g kk (sF σ 18 (upd fr9 (28 * c + j) (-6)))) (congrArg (cM g kk) (show sF (sF σ 18 fr9) 18 (upd fr9 (28 * c + j) (-6)) = sF σ 18 (upd fr9 (28 * c + j) (-6)) from wrFs)) ?_
                exact ih52 (j + 1) (y52_6 - (if (-6) < 0 then 0 else (-6))) (upd fr9 (28 * c + j) (-6)) (by omega) (by omega) (by have z := fillR_s hp; rw [show 28 * c + a + (j - a) = 28 * c + j by omega, show j - a + 1 = j + 1 - a by omega] at z; exact z) (by omega)
        refine j_w (cM g kk (sF σ 18 (σ.2.1 18))) (congrArg (cM g kk) (wrFi (S := σ) (c := 18) (v := σ.2.1 18) rfl)) ?_
        exact L52 _ a (-6) (σ.2.1 18) (by omega) (by omega) (by rw [Nat.sub_self]; exact fillR_0 _ _ _) (Nat.lt_succ_self _)
      · refine j_iload C 1 rfl dX11_part_20 ?_
        refine j_aload_n C 3 rfl dX11_part_22 ?_
        refine gM_0_23 C tb_896 dX11_part_23 ?_
        refine j_iload_n C 4 rfl dX11_part_26 ?_
        refine j_iload C 0 rfl dX11_part_27 ?_
        refine j_S01 C (m_at c i) kyX11_at tb_1060 tb_1061 rfl (Nat.le_of_ble_eq_true rfl) ⟨by decide, by decide⟩ ⟨by decide, by decide⟩ dX11_part_29 rfl ?_
        refine rM_17 C (28 * c + i) rfl (by omega) (tr (exV G k c i)) (hc1 i (by omega)) dX11_part_32 ?_
        refine j_S01 C (m_atLeast (tr (exV G k c i))) kyX11_atLeast tb_1162 tb_1163 rfl (Nat.le_of_ble_eq_true rfl) ⟨by decide, by decide⟩ ⟨by decide, by decide⟩ dX11_part_33 rfl ?_
        rw [al0 (by decide) (ex_lm (c := c) hM.W (show i < 28 by omega))]
        have hci9 := xe_le (c := c) hM.W (show i < 28 by omega)
        refine j_teq (show nI (exV G k c i).toNatClampNeg = nI (xe G k c i) from rfl) ?_
        refine j_iaddN C dX11_part_36 ?_
        refine j_istore C [(5, .int (nI (T + (xe G k c i)))), (6, .int (nI i)), (4, .int (-6)), (0, .ref (g 0)), (1, .int (nI c)), (2, .int (nI a)), (3, .int (nI b))] (by decide) rfl dX11_part_37 ?_
        refine j_iinc C (nI (i + 1)) [(6, .int (nI (i + 1))), (5, .int (nI (T + (xe G k c i)))), (4, .int (-6)), (0, .ref (g 0)), (1, .int (nI c)), (2, .int (nI a)), (3, .int (nI b))] 1 rfl (by rw [show Int32.ofInt 1 = nI 1 from by decide, nI_add]) (by decide) rfl dX11_part_39 ?_
        refine j_goto C 14 (by decide) dX11_part_42 ?_
        exact ih14 (i + 1) (T + (xe G k c i)) (by omega) (by omega) (by omega) (by omega)
  exact L14 _ a 0 (by omega) (by omega) (by omega) (Nat.lt_succ_self _)
set_option maxRecDepth 100000 in
set_option maxHeartbeats 4000000 in
theorem o_part1 (g kk : Nat → Nat) (σ : St) (k : Nat) (hk : σ.1 3 = nI k) (hk6 : k ≤ 6) (hI : iM σ) (nf : Nat) (hnf : σ.1 9 = nI nf) (hnfb : nf ≤ 20) (G : GD) (hM : HM G k nf σ) (m9 t : Nat) (hm9 : m9 ≤ 999) (c : Nat) (hc0 : c < k) (hc1 : ∀ i : Nat, i < 28 → σ.2.1 17 (28 * c + i) = tr (exV G k c i)) (a : Nat) (ha0 : a < 28) (b : Nat) (hb0 : a ≤ b) (hb1 : b < 28) (hb2 : rdV G c b = nI m9) (hb3 : t = m9 * 10 / (10 - zM G c b)) : jM (S := St) yX11_part cX11_part 9 none { frames := 4, cells := 0, slots := 0, locals := 91 } kk (cM g kk σ) [.ref (g 0), .int (nI c), .int (nI a), .int (nI b)] (cM g kk) (rV (fun u : St => ∃ (pF18 : Nat → Int32), u = sF σ 18 pF18 ∧ (pF18 = ptG (σ.2.1 18) c t (xe G k c) a b))) := by
  refine j_entry [(0, .ref (g 0)), (1, .int (nI c)), (2, .int (nI a)), (3, .int (nI b))] (by decide) (Nat.le_of_ble_eq_true rfl) rfl ?_
  intro X C E HI
  have hr9 := hb2
  have ht0 : t ≤ 9990 := by rw [hb3]; exact fl_b hm9 (hM.W.M9 hc0 hb1)
  have ht9 : flV G c b (nI m9) = nI t := by rw [fl_n (by omega), hb3]
  refine j_aload_n C 0 rfl dX11_part_0 ?_
  refine j_iload_n C 1 rfl dX11_part_1 ?_
  refine j_iload_n C 3 rfl dX11_part_2 ?_
  refine j_V1 C (o_caught g kk σ k hk hk6 hI nf hnf (by omega) G hM c (by first | assumption | omega) b (by first | assumption | omega)) kyX11_caught tb_1135 tb_1137 sp_25 0 rfl (eM_0 g kk _) rfl (Nat.le_of_ble_eq_true rfl) ⟨by decide, by decide⟩ dX11_part_3 rfl (fun vr ur hp => ?_)
  obtain ⟨r2, rfl, hu, g1⟩ := hp
  replace hu := hu.symm
  subst hu
  rw [hr9, ht9, tr_n (by omega)] at g1
  subst g1
  refine j_istore C [(4, .int (nI t)), (0, .ref (g 0)), (1, .int (nI c)), (2, .int (nI a)), (3, .int (nI b))] (by decide) rfl dX11_part_6 ?_
  refine j_iconst C (nI 0) (by decide) dX11_part_8 ?_
  refine j_istore C [(5, .int (nI 0)), (4, .int (nI t)), (0, .ref (g 0)), (1, .int (nI c)), (2, .int (nI a)), (3, .int (nI b))] (by decide) rfl dX11_part_9 ?_
  refine j_iload_n C 4 rfl dX11_part_11 ?_
  refine j_istore C [(6, .int (nI a)), (5, .int (nI 0)), (4, .int (nI t)), (0, .ref (g 0)), (1, .int (nI c)), (2, .int (nI a)), (3, .int (nI b))] (by decide) rfl dX11_part_12 ?_
  have L14 : ∀ (n14 : Nat) (i : Nat) (T : Nat) (i14_0 : a ≤ i) (i14_1 : i ≤ b + 1) (i14_2 : T ≤ 9990 * (i - a)) (hT : T = sm (xe G k c) a (i - a)) (hm14 : b + 1 - i < n14), J X 0 0 (cM g kk σ) [(6, .int (nI i)), (5, .int (nI T)), (4, .int (nI t)), (0, .ref (g 0)), (1, .int (nI c)), (2, .int (nI a)), (3, .int (nI b))] 14 [] := by
    intro n14
    induction n14 with
    | zero => intro i T i14_0 i14_1 i14_2 hT hm; exact absurd hm (Nat.not_lt_zero _)
    | succ n14 ih14 =>
      intro i T i14_0 i14_1 i14_2 hT hm14
      refine j_iload C 0 rfl dX11_part_14 ?_
      refine j_iload_n C 6 rfl dX11_part_16 ?_
      refine j_icmp_gtN C 45 (by decide) (by omega) (by omega) dX11_part_17 (fun c3 => ?_) (fun c3 => ?_)
      · refine j_iload C 2 rfl dX11_part_45 ?_
        refine j_istore C [(6, .int (nI t)), (5, .int (nI T)), (4, .int (nI t)), (0, .ref (g 0)), (1, .int (nI c)), (2, .int (nI a)), (3, .int (nI b))] (by decide) rfl dX11_part_47 ?_
        refine j_iload_n C 5 rfl dX11_part_49 ?_
        refine j_istore C [(7, .int (nI a)), (6, .int (nI t)), (5, .int (nI T)), (4, .int (nI t)), (0, .ref (g 0)), (1, .int (nI c)), (2, .int (nI a)), (3, .int (nI b))] (by decide) rfl dX11_part_50 ?_
        have L52 : ∀ (n52 : Nat) (j : Nat) (lf : Nat) (fr9 : Nat → Int32) (i52_0 : a ≤ j) (i52_1 : j ≤ b) (i52_2 : lf ≤ t) (hl : lf = t - sm (fun i => shV t (sm (xe G k c) a (b + 1 - a)) (xe G k c i)) a (j - a)) (hp : PQ fr9 (σ.2.1 18) c t (sm (xe G k c) a (b + 1 - a)) (xe G k c) a j) (hm52 : b - j < n52), J X 0 0 (cM g kk (sF σ 18 fr9)) [(7, .int (nI j)), (6, .int (nI lf)), (5, .int (nI T)), (4, .int (nI t)), (0, .ref (g 0)), (1, .int (nI c)), (2, .int (nI a)), (3, .int (nI b))] 52 [] := by
          intro n52
          induction n52 with
          | zero => intro j lf fr9 i52_0 i52_1 i52_2 hl hp hm; exact absurd hm (Nat.not_lt_zero _)
          | succ n52 ih52 =>
            intro j lf fr9 i52_0 i52_1 i52_2 hl hp hm52
            refine j_iload C 0 rfl dX11_part_52 ?_
            refine j_iload_n C 7 rfl dX11_part_54 ?_
            refine j_icmp_geN C 132 (by decide) (by omega) (by omega) dX11_part_55 (fun c4 => ?_) (fun c4 => ?_)
            · refine j_aload_n C 4 rfl dX11_part_132 ?_
              refine gM_0_24 C tb_897 dX11_part_133 ?_
              refine j_iload_n C 5 rfl dX11_part_136 ?_
              refine j_iload_n C 7 rfl dX11_part_137 ?_
              refine j_S01 C (m_at c b) kyX11_at tb_1060 tb_1061 rfl (Nat.le_of_ble_eq_true rfl) ⟨by decide, by decide⟩ ⟨by decide, by decide⟩ dX11_part_138 rfl ?_
              refine j_iload C 3 rfl dX11_part_141 ?_
              refine j_if_geN C 151 (by decide) (by omega) dX11_part_143 (fun c5 => ?_) (fun c5 => ?_)
              · refine j_iload C 1 rfl dX11_part_151 ?_
                refine tM_18 C (28 * c + b) rfl (by omega) dX11_part_153 ?_
                refine j_w (cM g kk (sF σ 18 (upd fr9 (28 * c + b) (nI lf)))) (congrArg (cM g kk) (show sF (sF σ 18 fr9) 18 (upd fr9 (28 * c + b) (nI lf)) = sF σ 18 (upd fr9 (28 * c + b) (nI lf)) from wrFs)) ?_
                exact j_vret C E (sF σ 18 (upd fr9 (28 * c + b) (nI lf))) ⟨rfl, ⟨(upd fr9 (28 * c + b) (nI lf)), rfl, (PQ_e (by have z := hp; rw [show j = b by omega] at z; exact z) (by have z := hl; rw [show j = b by omega] at z; exact z) (by omega))⟩⟩ rfl dX11_part_154
              · exact absurd c5 (Nat.not_lt_zero _)
            · refine j_iload C 3 rfl dX11_part_58 ?_
              refine j_if_geN C 68 (by decide) (by omega) dX11_part_60 (fun c6 => ?_) (fun c6 => ?_)
              · refine j_iload C 2 rfl dX11_part_68 ?_
                refine j_if_neN C 77 (by decide) (by omega) dX11_part_70 (fun c7 => ?_) (fun c7 => ?_)
                · refine j_iload C 3 rfl dX11_part_77 ?_
                  refine j_i2l C dX11_part_79 ?_
                  refine j_aload_n C 4 rfl dX11_part_80 ?_
                  refine gM_0_23 C tb_896 dX11_part_81 ?_
                  refine j_iload_n C 5 rfl dX11_part_84 ?_
                  refine j_iload C 0 rfl dX11_part_85 ?_
                  refine j_S01 C (m_at c j) kyX11_at tb_1060 tb_1061 rfl (Nat.le_of_ble_eq_true rfl) ⟨by decide, by decide⟩ ⟨by decide, by decide⟩ dX11_part_87 rfl ?_
                  refine rM_17 C (28 * c + j) rfl (by omega) (tr (exV G k c j)) (hc1 j (by omega)) dX11_part_90 ?_
                  refine j_S01 C (m_atLeast (tr (exV G k c j))) kyX11_atLeast tb_1162 tb_1163 rfl (Nat.le_of_ble_eq_true rfl) ⟨by decide, by decide⟩ ⟨by decide, by decide⟩ dX11_part_91 rfl ?_
                  rw [al0 (by decide) (ex_lm (c := c) hM.W (show j < 28 by omega))]
                  have hcj9 := xe_le (c := c) hM.W (show j < 28 by omega)
                  refine j_teq (show nI (exV G k c j).toNatClampNeg = nI (xe G k c j) from rfl) ?_
                  refine j_i2l C dX11_part_94 ?_
                  refine j_lmul C dX11_part_95 ?_
                  refine j_iload C 2 rfl dX11_part_96 ?_
                  refine j_i2l C dX11_part_98 ?_
                  refine j_ldiv C (by first | decide | assumption | exact nI_ne0 (by omega) (by omega) | exact i64ne (by assumption) | exact i64ne (nI_ne0 (by omega) (by omega))) dX11_part_99 ?_
                  refine j_l2i C dX11_part_100 ?_
                  have hTe : T = (sm (xe G k c) a (b + 1 - a)) := by rw [hT, show i = b + 1 by omega]
                  have hsb := sb_le hl (by omega) (by omega)
                  refine j_teq (show ((((nI t).toInt64) * ((nI (xe G k c j)).toInt64)) / ((nI T).toInt64)).toInt32 = nI (shV t (sm (xe G k c) a (b + 1 - a)) (xe G k c j)) from (ldv (by omega) (by omega) (by omega) (by omega)).trans (congrArg nI (by unfold shV; rw [← hTe, if_neg (by omega)]))) ?_
                  refine j_istore C [(8, .int (nI (shV t (sm (xe G k c) a (b + 1 - a)) (xe G k c j)))), (7, .int (nI j)), (6, .int (nI lf)), (5, .int (nI T)), (4, .int (nI t)), (0, .ref (g 0)), (1, .int (nI c)), (2, .int (nI a)), (3, .int (nI b))] (by decide) rfl dX11_part_101 ?_
                  refine j_aload_n C 5 rfl dX11_part_103 ?_
                  refine gM_0_24 C tb_897 dX11_part_104 ?_
                  refine j_iload_n C 6 rfl dX11_part_107 ?_
                  refine j_iload C 1 rfl dX11_part_108 ?_
                  refine j_S01 C (m_at c j) kyX11_at tb_1060 tb_1061 rfl (Nat.le_of_ble_eq_true rfl) ⟨by decide, by decide⟩ ⟨by decide, by decide⟩ dX11_part_110 rfl ?_
                  refine j_iload C 0 rfl dX11_part_113 ?_
                  refine tM_18 C (28 * c + j) rfl (by omega) dX11_part_115 ?_
                  refine j_iload C 2 rfl dX11_part_116 ?_
                  refine j_iload C 0 rfl dX11_part_118 ?_
                  refine j_S01 C (m_atLeast (nI (shV t (sm (xe G k c) a (b + 1 - a)) (xe G k c j)))) kyX11_atLeast tb_1162 tb_1163 rfl (Nat.le_of_ble_eq_true rfl) ⟨by decide, by decide⟩ ⟨by decide, by decide⟩ dX11_part_120 rfl ?_
                  rw [al_n (show shV t (sm (xe G k c) a (b + 1 - a)) (xe G k c j) < 2 ^ 31 by omega)]
                  refine j_isubN C (by omega) dX11_part_123 ?_
                  refine j_istore C [(6, .int (nI (lf - (shV t (sm (xe G k c) a (b + 1 - a)) (xe G k c j))))), (8, .int (nI (shV t (sm (xe G k c) a (b + 1 - a)) (xe G k c j)))), (7, .int (nI j)), (5, .int (nI T)), (4, .int (nI t)), (0, .ref (g 0)), (1, .int (nI c)), (2, .int (nI a)), (3, .int (nI b))] (by decide) rfl dX11_part_124 ?_
                  refine j_iinc C (nI (j + 1)) [(7, .int (nI (j + 1))), (6, .int (nI (lf - (shV t (sm (xe G k c) a (b + 1 - a)) (xe G k c j))))), (8, .int (nI (shV t (sm (xe G k c) a (b + 1 - a)) (xe G k c j)))), (5, .int (nI T)), (4, .int (nI t)), (0, .ref (g 0)), (1, .int (nI c)), (2, .int (nI a)), (3, .int (nI b))] 2 rfl (by rw [show Int32.ofInt 1 = nI 1 from by decide, nI_add]) (by decide) rfl dX11_part_126 ?_
                  refine j_goto C 52 (by decide) dX11_part_129 ?_
                  refine j_sub (lv' := [(7, .int (nI (j + 1))), (6, .int (nI (lf - (shV t (sm (xe G k c) a (b + 1 - a)) (xe G k c j))))), (5, .int (nI T)), (4, .int (nI t)), (0, .ref (g 0)), (1, .int (nI c)), (2, .int (nI a)), (3, .int (nI b))]) [0, 1, 3, 4, 5, 6, 7, 8] rfl ?_
                  refine j_w (cM g kk (sF σ 18 (upd fr9 (28 * c + j) (nI (shV t (sm (xe G k c) a (b + 1 - a)) (xe G k c j)))))) (congrArg (cM g kk) (show sF (sF σ 18 fr9) 18 (upd fr9 (28 * c + j) (nI (shV t (sm (xe G k c) a (b + 1 - a)) (xe G k c j)))) = sF σ 18 (upd fr9 (28 * c + j) (nI (shV t (sm (xe G k c) a (b + 1 - a)) (xe G k c j)))) from wrFs)) ?_
                  exact ih52 (j + 1) (lf - (shV t (sm (xe G k c) a (b + 1 - a)) (xe G k c j))) (upd fr9 (28 * c + j) (nI (shV t (sm (xe G k c) a (b + 1 - a)) (xe G k c j)))) (by omega) (by omega) (by omega) hsb.2 (PQ_s hp (by omega)) (by omega)
                · refine j_iconst C (nI 0) (by decide) dX11_part_73 ?_
                  refine j_goto C 101 (by decide) dX11_part_74 ?_
                  have hTe : T = (sm (xe G k c) a (b + 1 - a)) := by rw [hT, show i = b + 1 by omega]
                  have hsb := sb_le hl (by omega) (by omega)
                  refine j_teq (show nI 0 = nI (shV t (sm (xe G k c) a (b + 1 - a)) (xe G k c j)) from congrArg nI (by unfold shV; rw [← hTe, if_pos (by omega)])) ?_
                  refine j_istore C [(8, .int (nI (shV t (sm (xe G k c) a (b + 1 - a)) (xe G k c j)))), (7, .int (nI j)), (6, .int (nI lf)), (5, .int (nI T)), (4, .int (nI t)), (0, .ref (g 0)), (1, .int (nI c)), (2, .int (nI a)), (3, .int (nI b))] (by decide) rfl dX11_part_101 ?_
                  refine j_aload_n C 5 rfl dX11_part_103 ?_
                  refine gM_0_24 C tb_897 dX11_part_104 ?_
                  refine j_iload_n C 6 rfl dX11_part_107 ?_
                  refine j_iload C 1 rfl dX11_part_108 ?_
                  refine j_S01 C (m_at c j) kyX11_at tb_1060 tb_1061 rfl (Nat.le_of_ble_eq_true rfl) ⟨by decide, by decide⟩ ⟨by decide, by decide⟩ dX11_part_110 rfl ?_
                  refine j_iload C 0 rfl dX11_part_113 ?_
                  refine tM_18 C (28 * c + j) rfl (by omega) dX11_part_115 ?_
                  refine j_iload C 2 rfl dX11_part_116 ?_
                  refine j_iload C 0 rfl dX11_part_118 ?_
                  refine j_S01 C (m_atLeast (nI (shV t (sm (xe G k c) a (b + 1 - a)) (xe G k c j)))) kyX11_atLeast tb_1162 tb_1163 rfl (Nat.le_of_ble_eq_true rfl) ⟨by decide, by decide⟩ ⟨by decide, by decide⟩ dX11_part_120 rfl ?_
                  rw [al_n (show shV t (sm (xe G k c) a (b + 1 - a)) (xe G k c j) < 2 ^ 31 by omega)]
                  refine j_isubN C (by omega) dX11_part_123 ?_
                  refine j_istore C [(6, .int (nI (lf - (shV t (sm (xe G k c) a (b + 1 - a)) (xe G k c j))))), (8, .int (nI (shV t (sm (xe G k c) a (b + 1 - a)) (xe G k c j)))), (7, .int (nI j)), (5, .int (nI T)), (4, .int (nI t)), (0, .ref (g 0)), (1, .int (nI c)), (2, .int (nI a)), (3, .int (nI b))] (by decide) rfl dX11_part_124 ?_
                  refine j_iinc C (nI (j + 1)) [(7, .int (nI (j + 1))), (6, .int (nI (lf - (shV t (sm (xe G k c) a (b + 1 - a)) (xe G k c j))))), (8, .int (nI (shV t (sm (xe G k c) a (b + 1 - a)) (xe G k c j)))), (5, .int (nI T)), (4, .int (nI t)), (0, .ref (g 0)), (1, .int (nI c)), (2, .int (nI a)), (3, .int (nI b))] 2 rfl (by rw [show Int32.ofInt 1 = nI 1 from by decide, nI_add]) (by decide) rfl dX11_part_126 ?_
                  refine j_goto C 52 (by decide) dX11_part_129 ?_
                  refine j_sub (lv' := [(7, .int (nI (j + 1))), (6, .int (nI (lf - (shV t (sm (xe G k c) a (b + 1 - a)) (xe G k c j))))), (5, .int (nI T)), (4, .int (nI t)), (0, .ref (g 0)), (1, .int (nI c)), (2, .int (nI a)), (3, .int (nI b))]) [0, 1, 3, 4, 5, 6, 7, 8] rfl ?_
                  refine j_w (cM g kk (sF σ 18 (upd fr9 (28 * c + j) (nI (shV t (sm (xe G k c) a (b + 1 - a)) (xe G k c j)))))) (congrArg (cM g kk) (show sF (sF σ 18 fr9) 18 (upd fr9 (28 * c + j) (nI (shV t (sm (xe G k c) a (b + 1 - a)) (xe G k c j)))) = sF σ 18 (upd fr9 (28 * c + j) (nI (shV t (sm (xe G k c) a (b + 1 - a)) (xe G k c j)))) from wrFs)) ?_
                  exact ih52 (j + 1) (lf - (shV t (sm (xe G k c) a (b + 1 - a)) (xe G k c j))) (upd fr9 (28 * c + j) (nI (shV t (sm (xe G k c) a (b + 1 - a)) (xe G k c j)))) (by omega) (by omega) (by omega) hsb.2 (PQ_s hp (by omega)) (by omega)
              · exact absurd c6 (Nat.not_lt_zero _)
        refine j_w (cM g kk (sF σ 18 (σ.2.1 18))) (congrArg (cM g kk) (wrFi (S := σ) (c := 18) (v := σ.2.1 18) rfl)) ?_
        exact L52 _ a t (σ.2.1 18) (by omega) (by omega) (by omega) (by rw [Nat.sub_self]; rfl) PQ_0 (Nat.lt_succ_self _)
      · refine j_iload C 1 rfl dX11_part_20 ?_
        refine j_aload_n C 3 rfl dX11_part_22 ?_
        refine gM_0_23 C tb_896 dX11_part_23 ?_
        refine j_iload_n C 4 rfl dX11_part_26 ?_
        refine j_iload C 0 rfl dX11_part_27 ?_
        refine j_S01 C (m_at c i) kyX11_at tb_1060 tb_1061 rfl (Nat.le_of_ble_eq_true rfl) ⟨by decide, by decide⟩ ⟨by decide, by decide⟩ dX11_part_29 rfl ?_
        refine rM_17 C (28 * c + i) rfl (by omega) (tr (exV G k c i)) (hc1 i (by omega)) dX11_part_32 ?_
        refine j_S01 C (m_atLeast (tr (exV G k c i))) kyX11_atLeast tb_1162 tb_1163 rfl (Nat.le_of_ble_eq_true rfl) ⟨by decide, by decide⟩ ⟨by decide, by decide⟩ dX11_part_33 rfl ?_
        rw [al0 (by decide) (ex_lm (c := c) hM.W (show i < 28 by omega))]
        have hci9 := xe_le (c := c) hM.W (show i < 28 by omega)
        refine j_teq (show nI (exV G k c i).toNatClampNeg = nI (xe G k c i) from rfl) ?_
        refine j_iaddN C dX11_part_36 ?_
        refine j_istore C [(5, .int (nI (T + (xe G k c i)))), (6, .int (nI i)), (4, .int (nI t)), (0, .ref (g 0)), (1, .int (nI c)), (2, .int (nI a)), (3, .int (nI b))] (by decide) rfl dX11_part_37 ?_
        refine j_iinc C (nI (i + 1)) [(6, .int (nI (i + 1))), (5, .int (nI (T + (xe G k c i)))), (4, .int (nI t)), (0, .ref (g 0)), (1, .int (nI c)), (2, .int (nI a)), (3, .int (nI b))] 1 rfl (by rw [show Int32.ofInt 1 = nI 1 from by decide, nI_add]) (by decide) rfl dX11_part_39 ?_
        refine j_goto C 14 (by decide) dX11_part_42 ?_
        exact ih14 (i + 1) (T + (xe G k c i)) (by omega) (by omega) (by omega) (sm_s hT (by omega)) (by omega)
  exact L14 _ a 0 (by omega) (by omega) (by omega) (by rw [Nat.sub_self]; rfl) (Nat.lt_succ_self _)
def rwM (f g : Nat → Int32) (V : Nat → Int32) (c d : Nat) : Prop := (∀ e : Nat, e < d → f (28 * c + e) = V e) ∧ ∀ j : Nat, ¬ (28 * c ≤ j ∧ j < 28 * c + 28) → f j = g j
theorem rwM_0 {g : Nat → Int32} {V : Nat → Int32} {c : Nat} : rwM g g V c 0 := ⟨fun e he => absurd he (by omega), fun _ _ => rfl⟩
theorem rwM_s {f g : Nat → Int32} {V : Nat → Int32} {c d : Nat} {v : Int32} (h : rwM f g V c d) (hd : d < 28) (hv : v = V d) : rwM (upd f (28 * c + d) v) g V c (d + 1) := by
  subst hv
  refine ⟨fun e he => ?_, fun j hj => ?_⟩
  · by_cases q : e = d
    · rw [q, pk_us]
    · rw [pk_un (by omega)]; exact h.1 e (by omega)
  · rw [pk_un (by omega)]; exact h.2 j hj
theorem R3_row {f f' : Nat → Int32} {V : Nat → Nat → Int32} {a d : Nat} (hd : 28 ≤ d) (h : R3 f V a 0) (r : rwM f' f (V a) a d) : R3 f' V (a + 1) 0 := fun c e he q => by
  by_cases w : c = a
  · rw [w]; exact r.1 e (by omega)
  · rw [r.2 _ (by omega)]; exact h c e he (by omega)
theorem R3_all {f : Nat → Int32} {V : Nat → Nat → Int32} {a k : Nat} (h : R3 f V a 0) (hk : k ≤ a) {c d : Nat} (hc : c < k) (hd : d < 28) : f (28 * c + d) = V c d := h c d hd (by omega)
def VQ (f g : Nat → Int32) (G : GD) (k c e : Nat) : Prop := (∀ x : Nat, x < 28 → f (28 * c + x) = if zK G c x = 3 ∧ e ≤ zL G c x then -6 else tr (vaV G k c x)) ∧ ∀ j : Nat, ¬ (28 * c ≤ j ∧ j < 28 * c + 28) → f j = g j
theorem VQ_0 {f g : Nat → Int32} {G : GD} {k c d : Nat} (hd : 28 ≤ d) (h : rwM f g (fun d => tr (plV G c d)) c d) : VQ f g G k c 0 := by
  refine ⟨fun x hx => ?_, h.2⟩
  rw [h.1 x (by omega)]
  by_cases q : zK G c x = 3
  · show tr (plV G c x) = _
    rw [if_pos ⟨q, Nat.zero_le _⟩, pl_1 (Or.inr q)]; rfl
  · show tr (plV G c x) = _
    rw [if_neg (fun w => q w.1)]; unfold vaV; rw [if_neg q]
theorem VQ_x {f g : Nat → Int32} {G : GD} {k c e : Nat} (h : VQ f g G k c e) (hn : ∀ x, x < 28 → zK G c x = 3 → ¬ zL G c x = e) : VQ f g G k c (e + 1) := by
  refine ⟨fun x hx => ?_, h.2⟩
  rw [h.1 x hx]
  have := hn x hx
  by_cases w : zK G c x = 3 ∧ e ≤ zL G c x
  · rw [if_pos w, if_pos ⟨w.1, by have := this w.1; omega⟩]
  · rw [if_neg w, if_neg (fun z => w ⟨z.1, by omega⟩)]
theorem VQ_n {f g : Nat → Int32} {G : GD} {k c e : Nat} (hW : WG G k) (hc : c < k) (h : VQ f g G k c e) (he : e < 28) (hk : ¬ zK G c e = 3) : VQ f g G k c (e + 1) := VQ_x h (fun x hx h3 hl => by
  obtain ⟨w1, w2, w3, w4⟩ := hW.R hc hx h3
  exact hk (w4 e (by omega) (by omega)).1)
theorem VQ_l {f g : Nat → Int32} {G : GD} {k c e : Nat} (hW : WG G k) (hc : c < k) (h : VQ f g G k c e) (he : e < 28) (hk : zK G c e = 3) (hl : ¬ zL G c e = e) : VQ f g G k c (e + 1) := VQ_x h (fun x hx h3 hl2 => by
  obtain ⟨w1, w2, w3, w4⟩ := hW.R hc hx h3
  exact hl ((w4 e (by omega) (by omega)).2.2.trans hl2))
theorem VQ_z {f g : Nat → Int32} {G : GD} {k c e : Nat} (hW : WG G k) (hc : c < k) (h : VQ f g G k c e) (he : e < 28) (hk : zK G c e = 3) (hl : zL G c e = e) {f' : Nat → Int32} (h1 : ∀ x, zF G c e ≤ x → x ≤ e → f' (28 * c + x) = tr (vaV G k c x)) (h2 : ∀ j, ¬ (28 * c + zF G c e ≤ j ∧ j ≤ 28 * c + e) → f' j = f j) : VQ f' g G k c (e + 1) := by
  obtain ⟨r1, r2, r3, r4⟩ := hW.R hc he hk
  refine ⟨fun x hx => ?_, fun j hj => by rw [h2 j (by omega)]; exact h.2 j hj⟩
  by_cases q : zF G c e ≤ x ∧ x ≤ e
  · rw [h1 x q.1 q.2, if_neg (fun z => by have := (r4 x q.1 (by omega)).2.2; omega)]
  · rw [h2 _ (by omega), h.1 x hx]
    by_cases w : zK G c x = 3 ∧ e ≤ zL G c x
    · by_cases v : zL G c x = e
      · exfalso
        obtain ⟨w1, w2, w3, w4⟩ := hW.R hc hx w.1
        have := (w4 e (by omega) (by omega)).2.1
        omega
      · rw [if_pos w, if_pos ⟨w.1, by omega⟩]
    · rw [if_neg w, if_neg (fun z => w ⟨z.1, by omega⟩)]
theorem VQ_r {f g f' : Nat → Int32} {G : GD} {k c e : Nat} (hW : WG G k) (hc : c < k) (h : VQ f g G k c e) (he : e < 28) (hk : zK G c e = 3) (hl : zL G c e = e) (hr : rdV G c e = -1) (e' : f' = fillR f (28 * c + zF G c e) (e + 1 - zF G c e) (-6)) : VQ f' g G k c (e + 1) := by
  subst e'
  refine VQ_z hW hc h he hk hl (fun x h1 h2 => ?_) (fun j hj => fR_out (by omega))
  rw [va_1 hW hc he hk hl h1 h2 hr, fR_in (by omega)]; rfl
theorem VQ_p {f g f' : Nat → Int32} {G : GD} {k c e m : Nat} (hW : WG G k) (hc : c < k) (h : VQ f g G k c e) (he : e < 28) (hk : zK G c e = 3) (hl : zL G c e = e) (hm : m ≤ 999) (hr : rdV G c e = nI m) (e' : f' = ptG f c (m * 10 / (10 - zM G c e)) (xe G k c) (zF G c e) e) : VQ f' g G k c (e + 1) := by
  subst e'
  refine VQ_z hW hc h he hk hl (fun x h1 h2 => ?_) (fun j hj => if_neg hj)
  have hb := fl_b hm (hW.M9 hc he)
  have hp := pt_le (t := m * 10 / (10 - zM G c e)) (E := xe G k c) h1 h2
  rw [va_2 hW hc he hk hl h1 h2 hm hr, tr_n (by omega)]
  unfold ptG
  rw [if_pos (by omega), show 28 * c + x - 28 * c = x by omega]
theorem VQ_e {f g : Nat → Int32} {G : GD} {k c e : Nat} (hW : WG G k) (hc : c < k) (h : VQ f g G k c e) (he : 28 ≤ e) : rwM f g (fun d => tr (vaV G k c d)) c 28 := by
  refine ⟨fun x hx => ?_, h.2⟩
  rw [h.1 x hx]
  by_cases q : zK G c x = 3 ∧ e ≤ zL G c x
  · have := (hW.R hc hx q.1).2.2.1; omega
  · rw [if_neg q]
def CMf (G : GD) (k : Nat) (f1 f2 f3 : Nat → Int32) : Prop := ∀ c d : Nat, c < k → d < 28 → f1 (28 * c + d) = tr (plV G c d) ∧ f2 (28 * c + d) = tr (exV G k c d) ∧ f3 (28 * c + d) = tr (vaV G k c d)
set_option maxRecDepth 100000 in
set_option maxHeartbeats 4000000 in
theorem o_findAll (g kk : Nat → Nat) (σ : St) (k : Nat) (hk : σ.1 3 = nI k) (hk6 : k ≤ 6) (hI : iM σ) (nf : Nat) (hnf : σ.1 9 = nI nf) (hnfb : nf ≤ 20) (G : GD) (hM : HM G k nf σ)   : jM (S := St) yX11_findAll cX11_findAll 3 none { frames := 5, cells := 0, slots := 0, locals := 119 } kk (cM g kk σ) [.ref (g 0)] (cM g kk) (rV (fun u : St => ∃ (pF16 : Nat → Int32) (pF17 : Nat → Int32) (pF18 : Nat → Int32), u = sF (sF (sF σ 16 pF16) 17 pF17) 18 pF18 ∧ (CMf G k pF16 pF17 pF18))) := by
  refine j_entry [(0, .ref (g 0))] (by decide) (Nat.le_of_ble_eq_true rfl) rfl ?_
  intro X C E HI
  refine j_iconst C (nI 0) (by decide) dX11_findAll_0 ?_
  refine j_istore_n C [(1, .int (nI 0)), (0, .ref (g 0))] rfl (by decide) rfl dX11_findAll_1 ?_
  have L2 : ∀ (n2 : Nat) (a : Nat) (f16 : Nat → Int32) (i2_0 : a ≤ k) (h16 : R3 f16 (fun c d => tr (plV G c d)) a 0) (hm2 : k - a < n2), J X 0 0 (cM g kk (sF σ 16 f16)) [(1, .int (nI a)), (0, .ref (g 0))] 2 [] := by
    intro n2
    induction n2 with
    | zero => intro a f16 i2_0 h16 hm; exact absurd hm (Nat.not_lt_zero _)
    | succ n2 ih2 =>
      intro a f16 i2_0 h16 hm2
      refine j_iload_n C 0 rfl dX11_findAll_2 ?_
      refine j_aload_n C 1 rfl dX11_findAll_3 ?_
      refine gM_0_3 C tb_876 (nI k) hk dX11_findAll_4 ?_
      refine j_icmp_geN C 65 (by decide) (by omega) (by omega) dX11_findAll_7 (fun c1 => ?_) (fun c1 => ?_)
      · have k16 : R3 f16 (fun c d => tr (plV G c d)) k 0 := by rw [show k = a by omega]; exact h16
        refine j_iconst C (nI 0) (by decide) dX11_findAll_65 ?_
        refine j_istore_n C [(1, .int (nI 0)), (0, .ref (g 0))] rfl (by decide) rfl dX11_findAll_66 ?_
        have L67 : ∀ (n67 : Nat) (c : Nat) (f17 : Nat → Int32) (f18 : Nat → Int32) (i67_0 : c ≤ k) (h17 : R3 f17 (fun c d => tr (exV G k c d)) c 0) (h18 : R3 f18 (fun c d => tr (vaV G k c d)) c 0) (hm67 : k - c < n67), J X 0 0 (cM g kk (sF (sF (sF σ 16 f16) 17 f17) 18 f18)) [(1, .int (nI c)), (0, .ref (g 0))] 67 [] := by
          intro n67
          induction n67 with
          | zero => intro c f17 f18 i67_0 h17 h18 hm; exact absurd hm (Nat.not_lt_zero _)
          | succ n67 ih67 =>
            intro c f17 f18 i67_0 h17 h18 hm67
            refine j_iload_n C 0 rfl dX11_findAll_67 ?_
            refine j_aload_n C 1 rfl dX11_findAll_68 ?_
            refine gM_0_3 C tb_876 (nI k) hk dX11_findAll_69 ?_
            refine j_icmp_geN C 189 (by decide) (by omega) (by omega) dX11_findAll_72 (fun c2 => ?_) (fun c2 => ?_)
            · exact j_vret C E (sF (sF (sF σ 16 f16) 17 f17) 18 f18) ⟨rfl, ⟨f16, f17, f18, rfl, (fun c9 d9 h1 h2 => ⟨R3_all k16 (Nat.le_refl _) h1 h2, R3_all h17 (by omega) h1 h2, R3_all h18 (by omega) h1 h2⟩)⟩⟩ rfl dX11_findAll_189
            · refine j_iconst C (nI 0) (by decide) dX11_findAll_75 ?_
              refine j_istore_n C [(2, .int (nI 0)), (1, .int (nI c)), (0, .ref (g 0))] rfl (by decide) rfl dX11_findAll_76 ?_
              have L77 : ∀ (n77 : Nat) (d : Nat) (e17 : Nat → Int32) (e18 : Nat → Int32) (i77_0 : d ≤ 28) (g17 : rwM e17 f17 (fun d => tr (exV G k c d)) c d) (g18 : rwM e18 f18 (fun d => tr (plV G c d)) c d) (hm77 : 28 - d < n77), J X 0 0 (cM g kk (sF (sF (sF σ 16 f16) 17 e17) 18 e18)) [(2, .int (nI d)), (1, .int (nI c)), (0, .ref (g 0))] 77 [] := by
                intro n77
                induction n77 with
                | zero => intro d e17 e18 i77_0 g17 g18 hm; exact absurd hm (Nat.not_lt_zero _)
                | succ n77 ih77 =>
                  intro d e17 e18 i77_0 g17 g18 hm77
                  refine j_iload_n C 0 rfl dX11_findAll_77 ?_
                  refine j_bipush C (nI 28) (by decide) dX11_findAll_78 ?_
                  refine j_icmp_geN C 125 (by decide) (by omega) (by omega) dX11_findAll_80 (fun c3 => ?_) (fun c3 => ?_)
                  · refine j_iconst C (nI 0) (by decide) dX11_findAll_125 ?_
                    refine j_istore_n C [(2, .int (nI 0)), (1, .int (nI c)), (0, .ref (g 0))] rfl (by decide) rfl dX11_findAll_126 ?_
                    have L127 : ∀ (n127 : Nat) (e : Nat) (q18 : Nat → Int32) (i127_0 : e ≤ 28) (hq : VQ q18 f18 G k c e) (hm127 : 28 - e < n127), J X 0 0 (cM g kk (sF (sF (sF σ 16 f16) 17 e17) 18 q18)) [(2, .int (nI e)), (1, .int (nI c)), (0, .ref (g 0))] 127 [] := by
                      intro n127
                      induction n127 with
                      | zero => intro e q18 i127_0 hq hm; exact absurd hm (Nat.not_lt_zero _)
                      | succ n127 ih127 =>
                        intro e q18 i127_0 hq hm127
                        refine j_iload_n C 0 rfl dX11_findAll_127 ?_
                        refine j_bipush C (nI 28) (by decide) dX11_findAll_128 ?_
                        refine j_icmp_geN C 183 (by decide) (by omega) (by omega) dX11_findAll_130 (fun c4 => ?_) (fun c4 => ?_)
                        · refine j_iinc C (nI (c + 1)) [(1, .int (nI (c + 1))), (2, .int (nI e)), (0, .ref (g 0))] 1 rfl (by rw [show Int32.ofInt 1 = nI 1 from by decide, nI_add]) (by decide) rfl dX11_findAll_183 ?_
                          refine j_goto C 67 (by decide) dX11_findAll_186 ?_
                          refine j_sub (lv' := [(1, .int (nI (c + 1))), (0, .ref (g 0))]) [0, 2] rfl ?_
                          exact ih67 (c + 1) e17 q18 (by omega) (R3_row (by omega) h17 g17) (R3_row (Nat.le_refl _) h18 (VQ_e hM.W (by omega) hq (by omega))) (by omega)
                        · refine j_aload_n C 2 rfl dX11_findAll_133 ?_
                          refine gM_0_16 C tb_889 dX11_findAll_134 ?_
                          have hk4 := hM.W.K3 (show c < k by omega) (show e < 28 by omega)
                          refine j_iload_n C 1 rfl dX11_findAll_137 ?_
                          refine j_iload_n C 0 rfl dX11_findAll_138 ?_
                          refine j_S01 C (m_at c e) kyX11_at tb_1060 tb_1061 rfl (Nat.le_of_ble_eq_true rfl) ⟨by decide, by decide⟩ ⟨by decide, by decide⟩ dX11_findAll_139 rfl ?_
                          refine rM_10 C (28 * c + e) rfl (by omega) (nI (zK G c e)) (hM.K (by omega) (by omega)) dX11_findAll_142 ?_
                          refine j_iconst C (nI 3) (by decide) dX11_findAll_143 ?_
                          refine j_icmp_neN C 177 (by decide) (by omega) (by omega) dX11_findAll_144 (fun c5 => ?_) (fun c5 => ?_)
                          · refine j_iinc C (nI (e + 1)) [(2, .int (nI (e + 1))), (1, .int (nI c)), (0, .ref (g 0))] 0 rfl (by rw [show Int32.ofInt 1 = nI 1 from by decide, nI_add]) (by decide) rfl dX11_findAll_177 ?_
                            refine j_goto C 127 (by decide) dX11_findAll_180 ?_
                            exact ih127 (e + 1) q18 (by omega) (VQ_n hM.W (show c < k by omega) hq (by omega) (by omega)) (by omega)
                          · refine j_aload_n C 2 rfl dX11_findAll_147 ?_
                            refine gM_0_18 C tb_891 dX11_findAll_148 ?_
                            have hr7 := hM.W.R (show c < k by omega) (show e < 28 by omega) (by omega)
                            refine j_iload_n C 1 rfl dX11_findAll_151 ?_
                            refine j_iload_n C 0 rfl dX11_findAll_152 ?_
                            refine j_S01 C (m_at c e) kyX11_at tb_1060 tb_1061 rfl (Nat.le_of_ble_eq_true rfl) ⟨by decide, by decide⟩ ⟨by decide, by decide⟩ dX11_findAll_153 rfl ?_
                            refine rM_12 C (28 * c + e) rfl (by omega) (nI (zL G c e)) (hM.L (by omega) (by omega) (by omega)) dX11_findAll_156 ?_
                            refine j_iload_n C 0 rfl dX11_findAll_157 ?_
                            refine j_icmp_neN C 177 (by decide) (by omega) (by omega) dX11_findAll_158 (fun c6 => ?_) (fun c6 => ?_)
                            · refine j_iinc C (nI (e + 1)) [(2, .int (nI (e + 1))), (1, .int (nI c)), (0, .ref (g 0))] 0 rfl (by rw [show Int32.ofInt 1 = nI 1 from by decide, nI_add]) (by decide) rfl dX11_findAll_177 ?_
                              refine j_goto C 127 (by decide) dX11_findAll_180 ?_
                              exact ih127 (e + 1) q18 (by omega) (VQ_l hM.W (show c < k by omega) hq (by omega) (by omega) (by omega)) (by omega)
                            · have hr8 := hM.W.R (show c < k by omega) (show e < 28 by omega) (by omega)
                              refine j_aload_n C 2 rfl dX11_findAll_161 ?_
                              refine j_iload_n C 1 rfl dX11_findAll_162 ?_
                              refine j_aload_n C 2 rfl dX11_findAll_163 ?_
                              refine gM_0_17 C tb_890 dX11_findAll_164 ?_
                              refine j_iload_n C 1 rfl dX11_findAll_167 ?_
                              refine j_iload_n C 0 rfl dX11_findAll_168 ?_
                              refine j_S01 C (m_at c e) kyX11_at tb_1060 tb_1061 rfl (Nat.le_of_ble_eq_true rfl) ⟨by decide, by decide⟩ ⟨by decide, by decide⟩ dX11_findAll_169 rfl ?_
                              refine rM_11 C (28 * c + e) rfl (by omega) (nI (zF G c e)) (hM.F (by omega) (by omega) (by omega)) dX11_findAll_172 ?_
                              refine j_iload_n C 0 rfl dX11_findAll_173 ?_
                              rcases rd_lm hM.W (show c < k by omega) (show e < 28 by omega) with q9 | ⟨m9, hm9, q9⟩
                              · refine j_V1 C (o_part0 g kk (sF (sF (sF σ 16 f16) 17 e17) 18 q18) k hk hk6 hI nf hnf (by omega) G hM c (by first | assumption | omega) (fun i h2 => g17.1 i (by omega)) (zF G c e) (by first | assumption | omega) e (by have z := hM.W.R (show c < k by omega) (show e < 28 by omega) (by omega); omega) (by omega) q9) kyX11_part tb_1158 tb_1160 sp_30 0 rfl (eM_0 g kk _) rfl (Nat.le_of_ble_eq_true rfl) ⟨by decide, by decide⟩ dX11_findAll_174 rfl (fun vr ur hp => ?_)
                                obtain ⟨rfl, w7, hu, g8⟩ := hp
                                replace hu := hu.symm
                                subst hu
                                refine j_iinc C (nI (e + 1)) [(2, .int (nI (e + 1))), (1, .int (nI c)), (0, .ref (g 0))] 0 rfl (by rw [show Int32.ofInt 1 = nI 1 from by decide, nI_add]) (by decide) rfl dX11_findAll_177 ?_
                                refine j_goto C 127 (by decide) dX11_findAll_180 ?_
                                refine j_w (cM g kk (sF (sF (sF σ 16 f16) 17 e17) 18 w7)) (congrArg (cM g kk) (show sF (sF (sF (sF σ 16 f16) 17 e17) 18 q18) 18 w7 = sF (sF (sF σ 16 f16) 17 e17) 18 w7 from wrFs)) ?_
                                exact ih127 (e + 1) w7 (by omega) (VQ_r hM.W (show c < k by omega) hq (by omega) (by omega) (by omega) q9 g8) (by omega)
                              · refine j_V1 C (o_part1 g kk (sF (sF (sF σ 16 f16) 17 e17) 18 q18) k hk hk6 hI nf hnf (by omega) G hM m9 (m9 * 10 / (10 - zM G c e)) hm9 c (by first | assumption | omega) (fun i h2 => g17.1 i (by omega)) (zF G c e) (by first | assumption | omega) e (by have z := hM.W.R (show c < k by omega) (show e < 28 by omega) (by omega); omega) (by omega) q9 rfl) kyX11_part tb_1158 tb_1160 sp_30 0 rfl (eM_0 g kk _) rfl (Nat.le_of_ble_eq_true rfl) ⟨by decide, by decide⟩ dX11_findAll_174 rfl (fun vr ur hp => ?_)
                                obtain ⟨rfl, w9, hu, g10⟩ := hp
                                replace hu := hu.symm
                                subst hu
                                refine j_iinc C (nI (e + 1)) [(2, .int (nI (e + 1))), (1, .int (nI c)), (0, .ref (g 0))] 0 rfl (by rw [show Int32.ofInt 1 = nI 1 from by decide, nI_add]) (by decide) rfl dX11_findAll_177 ?_
                                refine j_goto C 127 (by decide) dX11_findAll_180 ?_
                                refine j_w (cM g kk (sF (sF (sF σ 16 f16) 17 e17) 18 w9)) (congrArg (cM g kk) (show sF (sF (sF (sF σ 16 f16) 17 e17) 18 q18) 18 w9 = sF (sF (sF σ 16 f16) 17 e17) 18 w9 from wrFs)) ?_
                                exact ih127 (e + 1) w9 (by omega) (VQ_p hM.W (show c < k by omega) hq (by omega) (by omega) (by omega) hm9 q9 g10) (by omega)
                    exact L127 _ 0 e18 (by omega) (VQ_0 (by omega) g18) (Nat.lt_succ_self _)
                  · refine j_aload_n C 2 rfl dX11_findAll_83 ?_
                    refine gM_0_23 C tb_896 dX11_findAll_84 ?_
                    refine j_iload_n C 1 rfl dX11_findAll_87 ?_
                    refine j_iload_n C 0 rfl dX11_findAll_88 ?_
                    refine j_S01 C (m_at c d) kyX11_at tb_1060 tb_1061 rfl (Nat.le_of_ble_eq_true rfl) ⟨by decide, by decide⟩ ⟨by decide, by decide⟩ dX11_findAll_89 rfl ?_
                    refine j_aload_n C 2 rfl dX11_findAll_92 ?_
                    refine j_iload_n C 1 rfl dX11_findAll_93 ?_
                    refine j_iload_n C 0 rfl dX11_findAll_94 ?_
                    refine j_V1 C (o_expectOf g kk (sF (sF (sF σ 16 f16) 17 e17) 18 e18) k hk hk6 hI nf hnf (by omega) G hM (fun c9 d9 h1 h2 => R3_all k16 (Nat.le_refl _) h1 h2) c (by first | assumption | omega) d (by first | assumption | omega)) kyX11_expectOf tb_1147 tb_1149 sp_28 0 rfl (eM_0 g kk _) rfl (Nat.le_of_ble_eq_true rfl) ⟨by decide, by decide⟩ dX11_findAll_95 rfl (fun vr ur hp => ?_)
                    obtain ⟨r12, rfl, hu, g11⟩ := hp
                    replace hu := hu.symm
                    subst hu
                    subst g11
                    refine tM_17 C (28 * c + d) rfl (by omega) dX11_findAll_98 ?_
                    refine j_aload_n C 2 rfl dX11_findAll_99 ?_
                    refine gM_0_24 C tb_897 dX11_findAll_100 ?_
                    refine j_iload_n C 1 rfl dX11_findAll_103 ?_
                    refine j_iload_n C 0 rfl dX11_findAll_104 ?_
                    refine j_S01 C (m_at c d) kyX11_at tb_1060 tb_1061 rfl (Nat.le_of_ble_eq_true rfl) ⟨by decide, by decide⟩ ⟨by decide, by decide⟩ dX11_findAll_105 rfl ?_
                    refine j_aload_n C 2 rfl dX11_findAll_108 ?_
                    refine gM_0_22 C tb_895 dX11_findAll_109 ?_
                    refine j_iload_n C 1 rfl dX11_findAll_112 ?_
                    refine j_iload_n C 0 rfl dX11_findAll_113 ?_
                    refine j_S01 C (m_at c d) kyX11_at tb_1060 tb_1061 rfl (Nat.le_of_ble_eq_true rfl) ⟨by decide, by decide⟩ ⟨by decide, by decide⟩ dX11_findAll_114 rfl ?_
                    refine rM_16 C (28 * c + d) rfl (by omega) (tr (plV G c d)) (R3_all k16 (Nat.le_refl _) (show c < k by omega) (show d < 28 by omega)) dX11_findAll_117 ?_
                    refine tM_18 C (28 * c + d) rfl (by omega) dX11_findAll_118 ?_
                    refine j_iinc C (nI (d + 1)) [(2, .int (nI (d + 1))), (1, .int (nI c)), (0, .ref (g 0))] 0 rfl (by rw [show Int32.ofInt 1 = nI 1 from by decide, nI_add]) (by decide) rfl dX11_findAll_119 ?_
                    refine j_goto C 77 (by decide) dX11_findAll_122 ?_
                    refine j_w (cM g kk (sF (sF (sF σ 16 f16) 17 (upd e17 (28 * c + d) (tr (exV G k c d)))) 18 (upd e18 (28 * c + d) (tr (plV G c d))))) (congrArg (cM g kk) (show sF (sF (sF (sF (sF σ 16 f16) 17 e17) 18 e18) 17 (upd e17 (28 * c + d) (tr (exV G k c d)))) 18 (upd e18 (28 * c + d) (tr (plV G c d))) = sF (sF (sF σ 16 f16) 17 (upd e17 (28 * c + d) (tr (exV G k c d)))) 18 (upd e18 (28 * c + d) (tr (plV G c d))) from (Eq.trans (wrF (Eq.trans (wrFc (by decide)) (wrF wrFs))) wrFs))) ?_
                    exact ih77 (d + 1) (upd e17 (28 * c + d) (tr (exV G k c d))) (upd e18 (28 * c + d) (tr (plV G c d))) (by omega) (rwM_s g17 (by omega) rfl) (rwM_s g18 (by omega) rfl) (by omega)
              exact L77 _ 0 f17 f18 (by omega) rwM_0 rwM_0 (Nat.lt_succ_self _)
        refine j_w (cM g kk (sF (sF σ 16 f16) 17 (σ.2.1 17))) (congrArg (cM g kk) (wrFi (S := (sF σ 16 f16)) (c := 17) (v := σ.2.1 17) (gtFF (by decide) rfl))) ?_
        refine j_w (cM g kk (sF (sF (sF σ 16 f16) 17 (σ.2.1 17)) 18 (σ.2.1 18))) (congrArg (cM g kk) (wrFi (S := (sF (sF σ 16 f16) 17 (σ.2.1 17))) (c := 18) (v := σ.2.1 18) (gtFF (by decide) (gtFF (by decide) rfl)))) ?_
        exact L67 _ 0 (σ.2.1 17) (σ.2.1 18) (by omega) R3_0 R3_0 (Nat.lt_succ_self _)
      · refine j_iconst C (nI 0) (by decide) dX11_findAll_10 ?_
        refine j_istore_n C [(2, .int (nI 0)), (1, .int (nI a)), (0, .ref (g 0))] rfl (by decide) rfl dX11_findAll_11 ?_
        have L12 : ∀ (n12 : Nat) (b : Nat) (e16 : Nat → Int32) (i12_0 : b ≤ 28) (g16 : R3 e16 (fun c d => tr (plV G c d)) a b) (hm12 : 28 - b < n12), J X 0 0 (cM g kk (sF σ 16 e16)) [(2, .int (nI b)), (1, .int (nI a)), (0, .ref (g 0))] 12 [] := by
          intro n12
          induction n12 with
          | zero => intro b e16 i12_0 g16 hm; exact absurd hm (Nat.not_lt_zero _)
          | succ n12 ih12 =>
            intro b e16 i12_0 g16 hm12
            refine j_iload_n C 0 rfl dX11_findAll_12 ?_
            refine j_bipush C (nI 28) (by decide) dX11_findAll_13 ?_
            refine j_icmp_geN C 59 (by decide) (by omega) (by omega) dX11_findAll_15 (fun c13 => ?_) (fun c13 => ?_)
            · refine j_iinc C (nI (a + 1)) [(1, .int (nI (a + 1))), (2, .int (nI b)), (0, .ref (g 0))] 1 rfl (by rw [show Int32.ofInt 1 = nI 1 from by decide, nI_add]) (by decide) rfl dX11_findAll_59 ?_
              refine j_goto C 2 (by decide) dX11_findAll_62 ?_
              refine j_sub (lv' := [(1, .int (nI (a + 1))), (0, .ref (g 0))]) [0, 2] rfl ?_
              exact ih2 (a + 1) e16 (by omega) (R3_r (by omega) g16) (by omega)
            · refine j_aload_n C 2 rfl dX11_findAll_18 ?_
              refine gM_0_22 C tb_895 dX11_findAll_19 ?_
              refine j_iload_n C 1 rfl dX11_findAll_22 ?_
              refine j_iload_n C 0 rfl dX11_findAll_23 ?_
              refine j_S01 C (m_at a b) kyX11_at tb_1060 tb_1061 rfl (Nat.le_of_ble_eq_true rfl) ⟨by decide, by decide⟩ ⟨by decide, by decide⟩ dX11_findAll_24 rfl ?_
              refine j_aload_n C 2 rfl dX11_findAll_27 ?_
              refine gM_0_16 C tb_889 dX11_findAll_28 ?_
              have hk3 := hM.W.K3 (show a < k by omega) (show b < 28 by omega)
              refine j_iload_n C 1 rfl dX11_findAll_31 ?_
              refine j_iload_n C 0 rfl dX11_findAll_32 ?_
              refine j_S01 C (m_at a b) kyX11_at tb_1060 tb_1061 rfl (Nat.le_of_ble_eq_true rfl) ⟨by decide, by decide⟩ ⟨by decide, by decide⟩ dX11_findAll_33 rfl ?_
              refine rM_10 C (28 * a + b) rfl (by omega) (nI (zK G a b)) (hM.K (by omega) (by omega)) dX11_findAll_36 ?_
              refine j_iconst C (nI 3) (by decide) dX11_findAll_37 ?_
              refine j_icmp_neN C 46 (by decide) (by omega) (by omega) dX11_findAll_38 (fun c14 => ?_) (fun c14 => ?_)
              · refine j_aload_n C 2 rfl dX11_findAll_46 ?_
                refine j_iload_n C 1 rfl dX11_findAll_47 ?_
                refine j_iload_n C 0 rfl dX11_findAll_48 ?_
                refine j_V1 C (o_caught g kk (sF σ 16 e16) k hk hk6 hI nf hnf (by omega) G hM a (by first | assumption | omega) b (by first | assumption | omega)) kyX11_caught tb_1135 tb_1137 sp_25 0 rfl (eM_0 g kk _) rfl (Nat.le_of_ble_eq_true rfl) ⟨by decide, by decide⟩ dX11_findAll_49 rfl (fun vr ur hp => ?_)
                obtain ⟨r16, rfl, hu, g15⟩ := hp
                replace hu := hu.symm
                subst hu
                subst g15
                refine tM_16 C (28 * a + b) rfl (by omega) dX11_findAll_52 ?_
                refine j_iinc C (nI (b + 1)) [(2, .int (nI (b + 1))), (1, .int (nI a)), (0, .ref (g 0))] 0 rfl (by rw [show Int32.ofInt 1 = nI 1 from by decide, nI_add]) (by decide) rfl dX11_findAll_53 ?_
                refine j_goto C 12 (by decide) dX11_findAll_56 ?_
                refine j_w (cM g kk (sF σ 16 (upd e16 (28 * a + b) (tr (flV G a b (rdV G a b)))))) (congrArg (cM g kk) (show sF (sF σ 16 e16) 16 (upd e16 (28 * a + b) (tr (flV G a b (rdV G a b)))) = sF σ 16 (upd e16 (28 * a + b) (tr (flV G a b (rdV G a b)))) from wrFs)) ?_
                exact ih12 (b + 1) (upd e16 (28 * a + b) (tr (flV G a b (rdV G a b)))) (by omega) (R3_s g16 (by unfold plV; rw [if_neg (by omega)])) (by omega)
              · refine j_bipush C ((-6)) (by decide) dX11_findAll_41 ?_
                refine j_goto C 52 (by decide) dX11_findAll_43 ?_
                refine tM_16 C (28 * a + b) rfl (by omega) dX11_findAll_52 ?_
                refine j_iinc C (nI (b + 1)) [(2, .int (nI (b + 1))), (1, .int (nI a)), (0, .ref (g 0))] 0 rfl (by rw [show Int32.ofInt 1 = nI 1 from by decide, nI_add]) (by decide) rfl dX11_findAll_53 ?_
                refine j_goto C 12 (by decide) dX11_findAll_56 ?_
                refine j_w (cM g kk (sF σ 16 (upd e16 (28 * a + b) (-6)))) (congrArg (cM g kk) (show sF (sF σ 16 e16) 16 (upd e16 (28 * a + b) (-6)) = sF σ 16 (upd e16 (28 * a + b) (-6)) from wrFs)) ?_
                exact ih12 (b + 1) (upd e16 (28 * a + b) (-6)) (by omega) (R3_s g16 (by rw [pl_1 (Or.inr (by omega))]; rfl)) (by omega)
        exact L12 _ 0 f16 (by omega) h16 (Nat.lt_succ_self _)
  refine j_w (cM g kk (sF σ 16 (σ.2.1 16))) (congrArg (cM g kk) (wrFi (S := σ) (c := 16) (v := σ.2.1 16) rfl)) ?_
  exact L2 _ 0 (σ.2.1 16) (by omega) R3_0 (Nat.lt_succ_self _)
