/-- the table of mendings, up to n -/
def TB (f g h : Nat → Int32) (n : Nat) : Prop := ∀ a : Nat, a < n → f a = nI (mdC a / 100) ∧ g a = nI (mdC a / 10 % 10) ∧ h a = nI (mdC a % 10)
theorem TB_0 {f g h : Nat → Int32} : TB f g h 0 := fun a ha => absurd ha (by omega)
theorem TB_s {f g h : Nat → Int32} {n x y z : Nat} (H : TB f g h n) (e : mdC n = 100 * x + 10 * y + z) (hy : y ≤ 9) (hz : z ≤ 9) : TB (upd f n (nI x)) (upd g n (nI y)) (upd h n (nI z)) (n + 1) := fun a ha => by
  by_cases q : a = n
  · rw [q, pk_us, pk_us, pk_us, e, show (100 * x + 10 * y + z) / 100 = x by omega, show (100 * x + 10 * y + z) / 10 % 10 = y by omega, show (100 * x + 10 * y + z) % 10 = z by omega]
    exact ⟨rfl, rfl, rfl⟩
  · rw [pk_un q, pk_un q, pk_un q]; exact H a (by omega)
theorem tb0 : ∀ i : Fin 6, mdC i.val = 100 * 0 + 10 * i.val + 0 := by decide +kernel
theorem tb1 : ∀ i j : Fin 7, 1 ≤ i.val → i.val ≤ j.val → mdC ((if i.val = 1 then 6 else if i.val = 2 then 12 else if i.val = 3 then 17 else if i.val = 4 then 21 else if i.val = 5 then 24 else 26) + (j.val - i.val)) = 100 * 1 + 10 * i.val + j.val := by decide +kernel
theorem tb2 : ∀ i j : Fin 7, i.val < j.val → j.val < i.val + 3 → mdC (27 + 2 * i.val + (j.val - i.val - 1)) = 100 * 2 + 10 * i.val + j.val := by decide +kernel
theorem tb1n {i j n : Nat} (h : Tp i n) (hi : i < 7) (hij : i ≤ j) (hj : j < 7) : mdC (n + (j - i)) = 100 * 1 + 10 * i + j := by
  have e := tb1 ⟨i, hi⟩ ⟨j, hj⟩ (Tp_le h).1 hij
  simp only at e
  rw [← e]
  congr 2
  unfold Tp at h
  rcases h with ⟨rfl, rfl⟩ | ⟨rfl, rfl⟩ | ⟨rfl, rfl⟩ | ⟨rfl, rfl⟩ | ⟨rfl, rfl⟩ | ⟨rfl, rfl⟩ | ⟨rfl, rfl⟩ <;> first | rfl | omega
theorem Tp_7 {i n : Nat} (h : Tp i n) (hi : 7 ≤ i) : n = 27 := by unfold Tp at h; omega
theorem tb2n {i j n : Nat} (hn : n = 27 + 2 * i + (j - i - 1)) (hij : i < j) (hj3 : j < i + 3) (hj : j < 7) : mdC n = 100 * 2 + 10 * i + j := by
  rw [hn]; exact tb2 ⟨i, by omega⟩ ⟨j, hj⟩ hij hj3
set_option maxRecDepth 100000 in
set_option maxHeartbeats 4000000 in
theorem o_putMend (g kk : Nat → Nat) (σ : St) (k : Nat) (hk : σ.1 3 = nI k) (hk6 : k ≤ 6) (hI : iM σ) (n : Nat) (hn0 : n < 38) (x : Nat) (y : Nat) (z : Nat) : jM (S := St) yX11_putMend cX11_putMend 5 (some .int) { frames := 0, cells := 0, slots := 0, locals := 0 } kk (cM g kk σ) [.ref (g 0), .int (nI n), .int (nI x), .int (nI y), .int (nI z)] (cM g kk) (rI (fun (r : Int32) (u : St) => ∃ (pF21 : Nat → Int32) (pF22 : Nat → Int32) (pF23 : Nat → Int32), u = sF (sF (sF σ 21 pF21) 22 pF22) 23 pF23 ∧ (pF21 = upd (σ.2.1 21) n (nI x) ∧ pF22 = upd (σ.2.1 22) n (nI y) ∧ pF23 = upd (σ.2.1 23) n (nI z)) ∧ (r = nI (n + 1)))) := by
  refine j_entry [(0, .ref (g 0)), (1, .int (nI n)), (2, .int (nI x)), (3, .int (nI y)), (4, .int (nI z))] (by decide) (Nat.le_of_ble_eq_true rfl) rfl ?_
  intro X C E HI
  refine j_aload_n C 0 rfl dX11_putMend_0 ?_
  refine gM_0_27 C tb_900 dX11_putMend_1 ?_
  refine j_iload_n C 1 rfl dX11_putMend_4 ?_
  refine j_iload_n C 2 rfl dX11_putMend_5 ?_
  refine tM_21 C n rfl (by omega) dX11_putMend_6 ?_
  refine j_aload_n C 0 rfl dX11_putMend_7 ?_
  refine gM_0_28 C tb_901 dX11_putMend_8 ?_
  refine j_iload_n C 1 rfl dX11_putMend_11 ?_
  refine j_iload_n C 3 rfl dX11_putMend_12 ?_
  refine tM_22 C n rfl (by omega) dX11_putMend_13 ?_
  refine j_aload_n C 0 rfl dX11_putMend_14 ?_
  refine gM_0_29 C tb_902 dX11_putMend_15 ?_
  refine j_iload_n C 1 rfl dX11_putMend_18 ?_
  refine j_iload C 4 rfl dX11_putMend_19 ?_
  refine tM_23 C n rfl (by omega) dX11_putMend_21 ?_
  refine j_iload_n C 1 rfl dX11_putMend_22 ?_
  refine j_iconst C (nI 1) (by decide) dX11_putMend_23 ?_
  refine j_iaddN C dX11_putMend_24 ?_
  exact j_iret C E (sF (sF (sF σ 21 (upd (σ.2.1 21) n (nI x))) 22 (upd (σ.2.1 22) n (nI y))) 23 (upd (σ.2.1 23) n (nI z))) ⟨_, rfl, ⟨(upd (σ.2.1 21) n (nI x)), (upd (σ.2.1 22) n (nI y)), (upd (σ.2.1 23) n (nI z)), rfl, ⟨rfl, rfl, rfl⟩, rfl⟩⟩ rfl dX11_putMend_25
set_option maxRecDepth 100000 in
set_option maxHeartbeats 4000000 in
theorem o_findMends (g kk : Nat → Nat) (σ : St) (k : Nat) (hk : σ.1 3 = nI k) (hk6 : k ≤ 6) (hI : iM σ)  : jM (S := St) yX11_findMends cX11_findMends 4 none { frames := 1, cells := 0, slots := 0, locals := 24 } kk (cM g kk σ) [.ref (g 0)] (cM g kk) (rV (fun u : St => ∃ (pF21 : Nat → Int32) (pF22 : Nat → Int32) (pF23 : Nat → Int32), u = sF (sF (sF σ 21 pF21) 22 pF22) 23 pF23 ∧ (TB pF21 pF22 pF23 38))) := by
  refine j_entry [(0, .ref (g 0))] (by decide) (Nat.le_of_ble_eq_true rfl) rfl ?_
  intro X C E HI
  refine j_iconst C (nI 0) (by decide) dX11_findMends_0 ?_
  refine j_istore_n C [(1, .int (nI 0)), (0, .ref (g 0))] rfl (by decide) rfl dX11_findMends_1 ?_
  refine j_iconst C (nI 0) (by decide) dX11_findMends_2 ?_
  refine j_istore_n C [(2, .int (nI 0)), (1, .int (nI 0)), (0, .ref (g 0))] rfl (by decide) rfl dX11_findMends_3 ?_
  have L4 : ∀ (n4 : Nat) (i : Nat) (n : Nat) (fa4 : Nat → Int32) (fb4 : Nat → Int32) (fc4 : Nat → Int32) (i4_0 : i ≤ 6) (i4_1 : n = i) (t4 : TB fa4 fb4 fc4 n) (hm4 : 6 - i < n4), J X 0 0 (cM g kk (sF (sF (sF σ 21 fa4) 22 fb4) 23 fc4)) [(2, .int (nI i)), (1, .int (nI n)), (0, .ref (g 0))] 4 [] := by
    intro n4
    induction n4 with
    | zero => intro i n fa4 fb4 fc4 i4_0 i4_1 t4 hm; exact absurd hm (Nat.not_lt_zero _)
    | succ n4 ih4 =>
      intro i n fa4 fb4 fc4 i4_0 i4_1 t4 hm4
      refine j_iload_n C 0 rfl dX11_findMends_4 ?_
      refine j_bipush C (nI 6) (by decide) dX11_findMends_5 ?_
      refine j_icmp_geN C 25 (by decide) (by omega) (by omega) dX11_findMends_7 (fun c1 => ?_) (fun c1 => ?_)
      · refine j_iconst C (nI 1) (by decide) dX11_findMends_25 ?_
        refine j_istore_n C [(2, .int (nI 1)), (1, .int (nI n)), (0, .ref (g 0))] rfl (by decide) rfl dX11_findMends_26 ?_
        have L27 : ∀ (n27 : Nat) (i : Nat) (n : Nat) (fa27 : Nat → Int32) (fb27 : Nat → Int32) (fc27 : Nat → Int32) (hT : Tp i n) (t27 : TB fa27 fb27 fc27 n) (hm27 : 7 - i < n27), J X 0 0 (cM g kk (sF (sF (sF σ 21 fa27) 22 fb27) 23 fc27)) [(2, .int (nI i)), (1, .int (nI n)), (0, .ref (g 0))] 27 [] := by
          intro n27
          induction n27 with
          | zero => intro i n fa27 fb27 fc27 hT t27 hm; exact absurd hm (Nat.not_lt_zero _)
          | succ n27 ih27 =>
            intro i n fa27 fb27 fc27 hT t27 hm27
            have hTl := Tp_le hT
            refine j_iload_n C 0 rfl dX11_findMends_27 ?_
            refine j_bipush C (nI 7) (by decide) dX11_findMends_28 ?_
            refine j_icmp_geN C 62 (by decide) (by omega) (by omega) dX11_findMends_30 (fun c2 => ?_) (fun c2 => ?_)
            · have hn27 := Tp_7 hT (by omega)
              refine j_iconst C (nI 0) (by decide) dX11_findMends_62 ?_
              refine j_istore_n C [(2, .int (nI 0)), (1, .int (nI n)), (0, .ref (g 0))] rfl (by decide) rfl dX11_findMends_63 ?_
              have L64 : ∀ (n64 : Nat) (a : Nat) (q : Nat) (fa64 : Nat → Int32) (fb64 : Nat → Int32) (fc64 : Nat → Int32) (i64_0 : a ≤ 6) (i64_1 : (a ≤ 5 → q = 27 + 2 * a) ∧ (a = 6 → q = 38)) (t64 : TB fa64 fb64 fc64 q) (hm64 : 6 - a < n64), J X 0 0 (cM g kk (sF (sF (sF σ 21 fa64) 22 fb64) 23 fc64)) [(2, .int (nI a)), (1, .int (nI q)), (0, .ref (g 0))] 64 [] := by
                intro n64
                induction n64 with
                | zero => intro a q fa64 fb64 fc64 i64_0 i64_1 t64 hm; exact absurd hm (Nat.not_lt_zero _)
                | succ n64 ih64 =>
                  intro a q fa64 fb64 fc64 i64_0 i64_1 t64 hm64
                  refine j_iload_n C 0 rfl dX11_findMends_64 ?_
                  refine j_bipush C (nI 6) (by decide) dX11_findMends_65 ?_
                  refine j_icmp_geN C 108 (by decide) (by omega) (by omega) dX11_findMends_67 (fun c3 => ?_) (fun c3 => ?_)
                  · exact j_vret C E (sF (sF (sF σ 21 fa64) 22 fb64) 23 fc64) ⟨rfl, ⟨fa64, fb64, fc64, rfl, (by have z := t64; rw [show q = 38 by omega] at z; exact z)⟩⟩ rfl dX11_findMends_108
                  · refine j_iload_n C 0 rfl dX11_findMends_70 ?_
                    refine j_iconst C (nI 1) (by decide) dX11_findMends_71 ?_
                    refine j_iaddN C dX11_findMends_72 ?_
                    refine j_istore_n C [(3, .int (nI (a + 1))), (2, .int (nI a)), (1, .int (nI q)), (0, .ref (g 0))] rfl (by decide) rfl dX11_findMends_73 ?_
                    have L74 : ∀ (n74 : Nat) (b : Nat) (q2 : Nat) (fa74 : Nat → Int32) (fb74 : Nat → Int32) (fc74 : Nat → Int32) (i74_0 : a < b) (i74_1 : b ≤ 7) (i74_2 : b ≤ a + 3) (i74_3 : q2 = 27 + 2 * a + (b - a - 1)) (t74 : TB fa74 fb74 fc74 q2) (hm74 : 7 - b < n74), J X 0 0 (cM g kk (sF (sF (sF σ 21 fa74) 22 fb74) 23 fc74)) [(3, .int (nI b)), (2, .int (nI a)), (1, .int (nI q2)), (0, .ref (g 0))] 74 [] := by
                      intro n74
                      induction n74 with
                      | zero => intro b q2 fa74 fb74 fc74 i74_0 i74_1 i74_2 i74_3 t74 hm; exact absurd hm (Nat.not_lt_zero _)
                      | succ n74 ih74 =>
                        intro b q2 fa74 fb74 fc74 i74_0 i74_1 i74_2 i74_3 t74 hm74
                        refine j_iload_n C 0 rfl dX11_findMends_74 ?_
                        refine j_bipush C (nI 7) (by decide) dX11_findMends_75 ?_
                        refine j_icmp_geN C 102 (by decide) (by omega) (by omega) dX11_findMends_77 (fun c4 => ?_) (fun c4 => ?_)
                        · refine j_iinc C (nI (a + 1)) [(2, .int (nI (a + 1))), (3, .int (nI b)), (1, .int (nI q2)), (0, .ref (g 0))] 1 rfl (by rw [show Int32.ofInt 1 = nI 1 from by decide, nI_add]) (by decide) rfl dX11_findMends_102 ?_
                          refine j_goto C 64 (by decide) dX11_findMends_105 ?_
                          refine j_sub (lv' := [(2, .int (nI (a + 1))), (1, .int (nI q2)), (0, .ref (g 0))]) [0, 2, 3] rfl ?_
                          exact ih64 (a + 1) q2 fa74 fb74 fc74 (by omega) (by omega) t74 (by omega)
                        · refine j_iload_n C 0 rfl dX11_findMends_80 ?_
                          refine j_iload_n C 1 rfl dX11_findMends_81 ?_
                          refine j_iconst C (nI 3) (by decide) dX11_findMends_82 ?_
                          refine j_iaddN C dX11_findMends_83 ?_
                          refine j_icmp_geN C 102 (by decide) (by omega) (by omega) dX11_findMends_84 (fun c5 => ?_) (fun c5 => ?_)
                          · refine j_iinc C (nI (a + 1)) [(2, .int (nI (a + 1))), (3, .int (nI b)), (1, .int (nI q2)), (0, .ref (g 0))] 1 rfl (by rw [show Int32.ofInt 1 = nI 1 from by decide, nI_add]) (by decide) rfl dX11_findMends_102 ?_
                            refine j_goto C 64 (by decide) dX11_findMends_105 ?_
                            refine j_sub (lv' := [(2, .int (nI (a + 1))), (1, .int (nI q2)), (0, .ref (g 0))]) [0, 2, 3] rfl ?_
                            exact ih64 (a + 1) q2 fa74 fb74 fc74 (by omega) (by omega) t74 (by omega)
                          · refine j_aload_n C 3 rfl dX11_findMends_87 ?_
                            refine j_iload_n C 2 rfl dX11_findMends_88 ?_
                            refine j_iconst C (nI 2) (by decide) dX11_findMends_89 ?_
                            refine j_iload_n C 1 rfl dX11_findMends_90 ?_
                            refine j_iload_n C 0 rfl dX11_findMends_91 ?_
                            refine j_V1 C (o_putMend g kk (sF (sF (sF σ 21 fa74) 22 fb74) 23 fc74) k hk hk6 hI q2 (by first | assumption | omega) 2 a b) kyX11_putMend tb_1189 tb_1191 sp_34 0 rfl (eM_0 g kk _) rfl (Nat.le_of_ble_eq_true rfl) ⟨by decide, by decide⟩ dX11_findMends_92 rfl (fun vr ur hp => ?_)
                            obtain ⟨r11, rfl, w6, w7, w8, hu, g9, g10⟩ := hp
                            replace hu := hu.symm
                            subst hu
                            have er11 := g10
                            subst er11
                            refine j_istore_n C [(1, .int (nI (q2 + 1))), (3, .int (nI b)), (2, .int (nI a)), (0, .ref (g 0))] rfl (by decide) rfl dX11_findMends_95 ?_
                            refine j_iinc C (nI (b + 1)) [(3, .int (nI (b + 1))), (1, .int (nI (q2 + 1))), (2, .int (nI a)), (0, .ref (g 0))] 1 rfl (by rw [show Int32.ofInt 1 = nI 1 from by decide, nI_add]) (by decide) rfl dX11_findMends_96 ?_
                            refine j_goto C 74 (by decide) dX11_findMends_99 ?_
                            refine j_sub (lv' := [(3, .int (nI (b + 1))), (2, .int (nI a)), (1, .int (nI (q2 + 1))), (0, .ref (g 0))]) [0, 2, 1, 3] rfl ?_
                            refine j_w (cM g kk (sF (sF (sF σ 21 w6) 22 w7) 23 w8)) (congrArg (cM g kk) (show sF (sF (sF (sF (sF (sF σ 21 fa74) 22 fb74) 23 fc74) 21 w6) 22 w7) 23 w8 = sF (sF (sF σ 21 w6) 22 w7) 23 w8 from (Eq.trans (wrF (Eq.trans (wrF (Eq.trans (wrFc (by decide)) (wrF (Eq.trans (wrFc (by decide)) (wrF wrFs))))) (Eq.trans (wrFc (by decide)) (wrF wrFs)))) wrFs))) ?_
                            exact ih74 (b + 1) (q2 + 1) w6 w7 w8 (by omega) (by omega) (by omega) (by omega) (by rw [g9.1, g9.2.1, g9.2.2]; exact TB_s t74 (tb2n (by omega) (by omega) (by omega) (by omega)) (by omega) (by omega)) (by omega)
                    exact L74 _ (a + 1) q fa64 fb64 fc64 (by omega) (by omega) (by omega) (by omega) t64 (Nat.lt_succ_self _)
              exact L64 _ 0 n fa27 fb27 fc27 (by omega) (by omega) t27 (Nat.lt_succ_self _)
            · refine j_iload_n C 0 rfl dX11_findMends_33 ?_
              refine j_istore_n C [(3, .int (nI i)), (2, .int (nI i)), (1, .int (nI n)), (0, .ref (g 0))] rfl (by decide) rfl dX11_findMends_34 ?_
              have L35 : ∀ (n35 : Nat) (j : Nat) (n2 : Nat) (fa35 : Nat → Int32) (fb35 : Nat → Int32) (fc35 : Nat → Int32) (i35_0 : i ≤ j) (i35_1 : j ≤ 7) (i35_2 : n2 = n + (j - i)) (t35 : TB fa35 fb35 fc35 n2) (hm35 : 7 - j < n35), J X 0 0 (cM g kk (sF (sF (sF σ 21 fa35) 22 fb35) 23 fc35)) [(3, .int (nI j)), (2, .int (nI i)), (1, .int (nI n2)), (0, .ref (g 0))] 35 [] := by
                intro n35
                induction n35 with
                | zero => intro j n2 fa35 fb35 fc35 i35_0 i35_1 i35_2 t35 hm; exact absurd hm (Nat.not_lt_zero _)
                | succ n35 ih35 =>
                  intro j n2 fa35 fb35 fc35 i35_0 i35_1 i35_2 t35 hm35
                  refine j_iload_n C 0 rfl dX11_findMends_35 ?_
                  refine j_bipush C (nI 7) (by decide) dX11_findMends_36 ?_
                  refine j_icmp_geN C 56 (by decide) (by omega) (by omega) dX11_findMends_38 (fun c12 => ?_) (fun c12 => ?_)
                  · refine j_iinc C (nI (i + 1)) [(2, .int (nI (i + 1))), (3, .int (nI j)), (1, .int (nI n2)), (0, .ref (g 0))] 1 rfl (by rw [show Int32.ofInt 1 = nI 1 from by decide, nI_add]) (by decide) rfl dX11_findMends_56 ?_
                    refine j_goto C 27 (by decide) dX11_findMends_59 ?_
                    refine j_sub (lv' := [(2, .int (nI (i + 1))), (1, .int (nI n2)), (0, .ref (g 0))]) [0, 2, 3] rfl ?_
                    exact ih27 (i + 1) n2 fa35 fb35 fc35 (Tp_s hT (by omega) (by omega)) t35 (by omega)
                  · refine j_aload_n C 3 rfl dX11_findMends_41 ?_
                    refine j_iload_n C 2 rfl dX11_findMends_42 ?_
                    refine j_iconst C (nI 1) (by decide) dX11_findMends_43 ?_
                    refine j_iload_n C 1 rfl dX11_findMends_44 ?_
                    refine j_iload_n C 0 rfl dX11_findMends_45 ?_
                    refine j_V1 C (o_putMend g kk (sF (sF (sF σ 21 fa35) 22 fb35) 23 fc35) k hk hk6 hI n2 (by first | assumption | omega) 1 i j) kyX11_putMend tb_1189 tb_1191 sp_34 0 rfl (eM_0 g kk _) rfl (Nat.le_of_ble_eq_true rfl) ⟨by decide, by decide⟩ dX11_findMends_46 rfl (fun vr ur hp => ?_)
                    obtain ⟨r18, rfl, w13, w14, w15, hu, g16, g17⟩ := hp
                    replace hu := hu.symm
                    subst hu
                    have er18 := g17
                    subst er18
                    refine j_istore_n C [(1, .int (nI (n2 + 1))), (3, .int (nI j)), (2, .int (nI i)), (0, .ref (g 0))] rfl (by decide) rfl dX11_findMends_49 ?_
                    refine j_iinc C (nI (j + 1)) [(3, .int (nI (j + 1))), (1, .int (nI (n2 + 1))), (2, .int (nI i)), (0, .ref (g 0))] 1 rfl (by rw [show Int32.ofInt 1 = nI 1 from by decide, nI_add]) (by decide) rfl dX11_findMends_50 ?_
                    refine j_goto C 35 (by decide) dX11_findMends_53 ?_
                    refine j_sub (lv' := [(3, .int (nI (j + 1))), (2, .int (nI i)), (1, .int (nI (n2 + 1))), (0, .ref (g 0))]) [0, 2, 1, 3] rfl ?_
                    refine j_w (cM g kk (sF (sF (sF σ 21 w13) 22 w14) 23 w15)) (congrArg (cM g kk) (show sF (sF (sF (sF (sF (sF σ 21 fa35) 22 fb35) 23 fc35) 21 w13) 22 w14) 23 w15 = sF (sF (sF σ 21 w13) 22 w14) 23 w15 from (Eq.trans (wrF (Eq.trans (wrF (Eq.trans (wrFc (by decide)) (wrF (Eq.trans (wrFc (by decide)) (wrF wrFs))))) (Eq.trans (wrFc (by decide)) (wrF wrFs)))) wrFs))) ?_
                    exact ih35 (j + 1) (n2 + 1) w13 w14 w15 (by omega) (by omega) (by omega) (by rw [g16.1, g16.2.1, g16.2.2]; exact TB_s t35 (by rw [show n2 = n + (j - i) by omega]; exact tb1n hT (by omega) (by omega) (by omega)) (by omega) (by omega)) (by omega)
              exact L35 _ i n fa27 fb27 fc27 (by omega) (by omega) (by omega) t27 (Nat.lt_succ_self _)
        exact L27 _ 1 n fa4 fb4 fc4 (show Tp 1 n from by rw [show n = 6 by omega]; exact Tp_1) t4 (Nat.lt_succ_self _)
      · refine j_aload_n C 2 rfl dX11_findMends_10 ?_
        refine j_iload_n C 1 rfl dX11_findMends_11 ?_
        refine j_iconst C (nI 0) (by decide) dX11_findMends_12 ?_
        refine j_iload_n C 0 rfl dX11_findMends_13 ?_
        refine j_iconst C (nI 0) (by decide) dX11_findMends_14 ?_
        refine j_V1 C (o_putMend g kk (sF (sF (sF σ 21 fa4) 22 fb4) 23 fc4) k hk hk6 hI n (by first | assumption | omega) 0 i 0) kyX11_putMend tb_1189 tb_1191 sp_34 0 rfl (eM_0 g kk _) rfl (Nat.le_of_ble_eq_true rfl) ⟨by decide, by decide⟩ dX11_findMends_15 rfl (fun vr ur hp => ?_)
        obtain ⟨r24, rfl, w19, w20, w21, hu, g22, g23⟩ := hp
        replace hu := hu.symm
        subst hu
        have er24 := g23
        subst er24
        refine j_istore_n C [(1, .int (nI (n + 1))), (2, .int (nI i)), (0, .ref (g 0))] rfl (by decide) rfl dX11_findMends_18 ?_
        refine j_iinc C (nI (i + 1)) [(2, .int (nI (i + 1))), (1, .int (nI (n + 1))), (0, .ref (g 0))] 1 rfl (by rw [show Int32.ofInt 1 = nI 1 from by decide, nI_add]) (by decide) rfl dX11_findMends_19 ?_
        refine j_goto C 4 (by decide) dX11_findMends_22 ?_
        refine j_w (cM g kk (sF (sF (sF σ 21 w19) 22 w20) 23 w21)) (congrArg (cM g kk) (show sF (sF (sF (sF (sF (sF σ 21 fa4) 22 fb4) 23 fc4) 21 w19) 22 w20) 23 w21 = sF (sF (sF σ 21 w19) 22 w20) 23 w21 from (Eq.trans (wrF (Eq.trans (wrF (Eq.trans (wrFc (by decide)) (wrF (Eq.trans (wrFc (by decide)) (wrF wrFs))))) (Eq.trans (wrFc (by decide)) (wrF wrFs)))) wrFs))) ?_
        exact ih4 (i + 1) (n + 1) w19 w20 w21 (by omega) (by omega) (by rw [g22.1, g22.2.1, g22.2.2]; exact TB_s t4 (by rw [show n = i by omega]; exact tb0 ⟨i, by omega⟩) (by omega) (by omega)) (by omega)
  refine j_w (cM g kk (sF σ 21 (σ.2.1 21))) (congrArg (cM g kk) (wrFi (S := σ) (c := 21) (v := σ.2.1 21) rfl)) ?_
  refine j_w (cM g kk (sF (sF σ 21 (σ.2.1 21)) 22 (σ.2.1 22))) (congrArg (cM g kk) (wrFi (S := (sF σ 21 (σ.2.1 21))) (c := 22) (v := σ.2.1 22) (gtFF (by decide) rfl))) ?_
  refine j_w (cM g kk (sF (sF (sF σ 21 (σ.2.1 21)) 22 (σ.2.1 22)) 23 (σ.2.1 23))) (congrArg (cM g kk) (wrFi (S := (sF (sF σ 21 (σ.2.1 21)) 22 (σ.2.1 22))) (c := 23) (v := σ.2.1 23) (gtFF (by decide) (gtFF (by decide) rfl)))) ?_
  exact L4 _ 0 0 (σ.2.1 21) (σ.2.1 22) (σ.2.1 23) (by omega) (by omega) TB_0 (Nat.lt_succ_self _)
set_option maxRecDepth 100000 in
set_option maxHeartbeats 4000000 in
theorem o_misfit (g kk : Nat → Nat) (σ : St) (k : Nat) (hk : σ.1 3 = nI k) (hk6 : k ≤ 6) (hI : iM σ) (Ew r0 : Nat → Nat) (hE7 : R7 (σ.2.1 20) 0 Ew) (w : Nat) (hw0 : w ≤ 2) (hw1 : R7 (σ.2.1 19) (7 * w) r0) : jM (S := St) yX11_misfit cX11_misfit 4 (some .int) { frames := 1, cells := 0, slots := 0, locals := 21 } kk (cM g kk σ) [.ref (g 0), .int (nI w)] (cM g kk) (rI (fun (r : Int32) (u : St) => u = σ ∧ (r = nI (mis Ew r0)))) := by
  refine j_entry [(0, .ref (g 0)), (1, .int (nI w))] (by decide) (Nat.le_of_ble_eq_true rfl) rfl ?_
  intro X C E HI
  refine j_iconst C (nI 0) (by decide) dX11_misfit_0 ?_
  refine j_istore_n C [(2, .int (nI 0)), (0, .ref (g 0)), (1, .int (nI w))] rfl (by decide) rfl dX11_misfit_1 ?_
  refine j_iconst C (nI 0) (by decide) dX11_misfit_2 ?_
  refine j_istore_n C [(3, .int (nI 0)), (2, .int (nI 0)), (0, .ref (g 0)), (1, .int (nI w))] rfl (by decide) rfl dX11_misfit_3 ?_
  have L4 : ∀ (n4 : Nat) (i : Nat) (s : Nat) (i4_0 : i ≤ 7) (i4_1 : s ≤ 9990 * i) (hs : s = sm (fun x => (r0 x - Ew x) + (Ew x - r0 x)) 0 i) (hm4 : 7 - i < n4), J X 0 0 (cM g kk σ) [(3, .int (nI i)), (2, .int (nI s)), (0, .ref (g 0)), (1, .int (nI w))] 4 [] := by
    intro n4
    induction n4 with
    | zero => intro i s i4_0 i4_1 hs hm; exact absurd hm (Nat.not_lt_zero _)
    | succ n4 ih4 =>
      intro i s i4_0 i4_1 hs hm4
      refine j_iload_n C 0 rfl dX11_misfit_4 ?_
      refine j_bipush C (nI 7) (by decide) dX11_misfit_5 ?_
      refine j_icmp_geN C 39 (by decide) (by omega) (by omega) dX11_misfit_7 (fun c1 => ?_) (fun c1 => ?_)
      · refine j_iload_n C 1 rfl dX11_misfit_39 ?_
        exact j_iret C E (σ) ⟨_, rfl, ⟨rfl, (by rw [hs, show i = 7 by omega]; rfl)⟩⟩ rfl dX11_misfit_40
      · refine j_iload_n C 1 rfl dX11_misfit_10 ?_
        refine j_aload_n C 2 rfl dX11_misfit_11 ?_
        refine gM_0_25 C tb_898 dX11_misfit_12 ?_
        refine j_bipush C (nI 7) (by decide) dX11_misfit_15 ?_
        refine j_iload_n C 3 rfl dX11_misfit_17 ?_
        refine j_imulN C dX11_misfit_18 ?_
        refine j_iload_n C 0 rfl dX11_misfit_19 ?_
        refine j_iaddN C dX11_misfit_20 ?_
        refine rM_19 C ((7 * w) + i) rfl (by omega) (nI (r0 i)) (hw1 i (by omega)).1 dX11_misfit_21 ?_
        refine j_aload_n C 2 rfl dX11_misfit_22 ?_
        refine gM_0_26 C tb_899 dX11_misfit_23 ?_
        refine j_iload_n C 0 rfl dX11_misfit_26 ?_
        refine rM_20 C i rfl (by omega) (nI (Ew i)) (r7_v hE7 (show i < 7 by omega)) dX11_misfit_27 ?_
        refine j_S01 C (m_off (nI (r0 i)) (nI (Ew i))) kyX11_off tb_1155 tb_1156 rfl (Nat.le_of_ble_eq_true rfl) ⟨by decide, by decide⟩ ⟨by decide, by decide⟩ dX11_misfit_28 rfl ?_
        rw [off_g (hw1 i (by omega)).2 (hE7 i (by omega)).2]
        have ha9 := (hw1 i (by omega)).2
        have hb9 := (hE7 i (by omega)).2
        refine j_iaddN C dX11_misfit_31 ?_
        refine j_istore_n C [(2, .int (nI (s + ((r0 i - Ew i) + (Ew i - r0 i))))), (3, .int (nI i)), (0, .ref (g 0)), (1, .int (nI w))] rfl (by decide) rfl dX11_misfit_32 ?_
        refine j_iinc C (nI (i + 1)) [(3, .int (nI (i + 1))), (2, .int (nI (s + ((r0 i - Ew i) + (Ew i - r0 i))))), (0, .ref (g 0)), (1, .int (nI w))] 1 rfl (by rw [show Int32.ofInt 1 = nI 1 from by decide, nI_add]) (by decide) rfl dX11_misfit_33 ?_
        refine j_goto C 4 (by decide) dX11_misfit_36 ?_
        exact ih4 (i + 1) (s + ((r0 i - Ew i) + (Ew i - r0 i))) (by omega) (by omega) (mis_s hs) (by omega)
  exact L4 _ 0 0 (by omega) (by omega) rfl (Nat.lt_succ_self _)
def RM (f g : Nat → Int32) (o : Nat) (r : Nat → Nat) (n : Nat) : Prop := (∀ j : Nat, j < o → f j = g j) ∧ ∀ x : Nat, x < n → f (o + x) = nI (r x)
theorem RM_0 {g : Nat → Int32} {o : Nat} {r : Nat → Nat} : RM g g o r 0 := ⟨fun _ _ => rfl, fun x hx => absurd hx (by omega)⟩
theorem RM_s {f g : Nat → Int32} {o i : Nat} {r : Nat → Nat} (h : RM f g o r i) : RM (upd f (o + i) (nI (r i))) g o r (i + 1) := by
  refine ⟨fun j hj => by rw [pk_un (by omega)]; exact h.1 j hj, fun x hx => ?_⟩
  by_cases q : x = i
  · rw [q, pk_us]
  · rw [pk_un (by omega)]; exact h.2 x (by omega)
/-- one place of the row is new -/
theorem RM_u {f g : Nat → Int32} {o i v : Nat} {r q : Nat → Nat} (h : RM f g o r 7) (hq : ∀ x, x < 7 → q x = if x = i then v else r x) : RM (upd f (o + i) (nI v)) g o q 7 := by
  refine ⟨fun j hj => by rw [pk_un (by omega)]; exact h.1 j hj, fun x hx => ?_⟩
  rw [hq x hx]
  by_cases w : x = i
  · rw [w, pk_us, if_pos rfl]
  · rw [pk_un (by omega), if_neg w]; exact h.2 x hx
theorem mdC_Q {a : Nat} (h : a < 38) : (mdC a / 100 = 0 ∧ mdC a / 10 % 10 ≤ 5 ∧ mdC a % 10 = 0) ∨ (mdC a / 100 = 1 ∧ 1 ≤ mdC a / 10 % 10 ∧ mdC a / 10 % 10 ≤ mdC a % 10 ∧ mdC a % 10 ≤ 6) ∨ (mdC a / 100 = 2 ∧ mdC a / 10 % 10 < mdC a % 10 ∧ mdC a % 10 ≤ 6) := mdC_P ⟨a, h⟩
theorem RM_r {f g : Nat → Int32} {o : Nat} {r : Nat → Nat} (h : RM f g o r 7) (hb : B7 r) : R7 f o r := fun x hx => ⟨h.2 x hx, hb x hx⟩
def sh1 (r : Nat → Nat) (i d x : Nat) : Nat := if i - 1 ≤ x ∧ x < d - 1 then r (x + 1) else r x
def pq2 (Ew r : Nat → Nat) (i j d x : Nat) : Nat := if i ≤ x ∧ x < d then shV (r j) (sm Ew i (j + 1 - i)) (Ew x) else r x
theorem sh1_0 {r : Nat → Nat} {i : Nat} : sh1 r i i = r := by funext x; unfold sh1; rw [if_neg (by omega)]
theorem pq2_0 {E r : Nat → Nat} {i j : Nat} : pq2 E r i j i = r := by funext x; unfold pq2; rw [if_neg (by omega)]
theorem md0_u {r : Nat → Nat} {i x : Nat} : md0 r i x = if x = i + 1 then r i else (if x = i then r (i + 1) else r x) := rfl
theorem sh1_u {r : Nat → Nat} {i d x : Nat} (hi : 1 ≤ i) (hd : i ≤ d) : sh1 r i (d + 1) x = if x = d - 1 then r d else sh1 r i d x := by
  unfold sh1
  by_cases q : x = d - 1
  · rw [if_pos q, if_pos (by omega), q, show d - 1 + 1 = d by omega]
  · rw [if_neg q]
    by_cases w : i - 1 ≤ x ∧ x < d - 1
    · rw [if_pos w, if_pos (by omega)]
    · rw [if_neg w, if_neg (by omega)]
theorem md1_u {r : Nat → Nat} {i j x : Nat} (hi : 1 ≤ i) (hij : i ≤ j) : md1 r i j x = if x = j then 0 else sh1 r i (j + 1) x := by
  unfold md1 sh1
  by_cases q : x = j
  · rw [if_pos q, if_pos q]
  · rw [if_neg q, if_neg q]
    by_cases w : i - 1 ≤ x ∧ x < i - 1 + (j - i + 1)
    · rw [if_pos w, if_pos (by omega), show i + (x - (i - 1)) = x + 1 by omega]
    · rw [if_neg w, if_neg (by omega)]
theorem pq2_u {Ew r : Nat → Nat} {i j d x : Nat} (hd : i ≤ d) : pq2 Ew r i j (d + 1) x = if x = d then shV (r j) (sm Ew i (j + 1 - i)) (Ew d) else pq2 Ew r i j d x := by
  unfold pq2
  by_cases q : x = d
  · rw [if_pos q, if_pos (by omega), q]
  · rw [if_neg q]
    by_cases w : i ≤ x ∧ x < d
    · rw [if_pos w, if_pos (by omega)]
    · rw [if_neg w, if_neg (by omega)]
theorem md2_u {Ew r : Nat → Nat} {i j x lf : Nat} (hij : i ≤ j) (hl : lf = r j - sm (fun x => shV (r j) (sm Ew i (j + 1 - i)) (Ew x)) i (j - i)) : md2 Ew r i j x = if x = j then lf else pq2 Ew r i j j x := by
  unfold md2 pq2 ptV
  by_cases q : x = j
  · rw [if_pos q, if_pos (by omega), if_neg (by omega), hl]
  · rw [if_neg q]
    by_cases w : i ≤ x ∧ x < j
    · rw [if_pos w, if_pos (by omega), if_pos w.2]
    · rw [if_neg w, if_neg (by omega)]
theorem smj {Ew : Nat → Nat} {i j s : Nat} (h : s = Ew j + sm Ew i (j - i)) (hij : i ≤ j) : s = sm Ew i (j + 1 - i) := by
  rw [← sm_s (T := sm Ew i (j - i)) rfl hij, h, Nat.add_comm]
set_option maxRecDepth 100000 in
set_option maxHeartbeats 4000000 in
theorem o_mend (g kk : Nat → Nat) (σ : St) (k : Nat) (hk : σ.1 3 = nI k) (hk6 : k ≤ 6) (hI : iM σ) (Ew r0 : Nat → Nat) (hE7 : R7 (σ.2.1 20) 0 Ew) (hT : TB (σ.2.1 21) (σ.2.1 22) (σ.2.1 23) 38) (w : Nat) (hw0 : w ≤ 1) (q : Nat) (hq0 : q < 38) (hq1 : R7 (σ.2.1 19) (7 * w) r0) : jM (S := St) yX11_mend cX11_mend 11 (some .boolean) { frames := 0, cells := 0, slots := 0, locals := 0 } kk (cM g kk σ) [.ref (g 0), .int (nI w), .int (nI q)] (cM g kk) (rI (fun (r : Int32) (u : St) => ∃ (pF19 : Nat → Int32), u = sF σ 19 pF19 ∧ ((∃ p : Nat → Nat, mdV Ew r0 (mdC q) = some p ∧ r = nI 1 ∧ RM pF19 (σ.2.1 19) (7 * w + 7) p 7) ∨ (mdV Ew r0 (mdC q) = none ∧ r = nI 0)) ∧ (∀ j : Nat, j < (7 * w + 7) → pF19 j = σ.2.1 19 j))) := by
  refine j_entry [(0, .ref (g 0)), (1, .int (nI w)), (2, .int (nI q))] (by decide) (Nat.le_of_ble_eq_true rfl) rfl ?_
  intro X C E HI
  refine j_bipush C (nI 7) (by decide) dX11_mend_0 ?_
  refine j_iload_n C 1 rfl dX11_mend_2 ?_
  refine j_imulN C dX11_mend_3 ?_
  refine j_istore_n C [(3, .int (nI (7 * w))), (0, .ref (g 0)), (1, .int (nI w)), (2, .int (nI q))] rfl (by decide) rfl dX11_mend_4 ?_
  refine j_bipush C (nI 7) (by decide) dX11_mend_5 ?_
  refine j_iload_n C 2 rfl dX11_mend_7 ?_
  refine j_imulN C dX11_mend_8 ?_
  refine j_bipush C (nI 7) (by decide) dX11_mend_9 ?_
  refine j_iaddN C dX11_mend_11 ?_
  refine j_istore C [(4, .int (nI ((7 * w) + 7))), (3, .int (nI (7 * w))), (0, .ref (g 0)), (1, .int (nI w)), (2, .int (nI q))] (by decide) rfl dX11_mend_12 ?_
  refine j_iconst C (nI 0) (by decide) dX11_mend_14 ?_
  refine j_istore C [(5, .int (nI 0)), (4, .int (nI ((7 * w) + 7))), (3, .int (nI (7 * w))), (0, .ref (g 0)), (1, .int (nI w)), (2, .int (nI q))] (by decide) rfl dX11_mend_15 ?_
  have L17 : ∀ (n17 : Nat) (i : Nat) (fm : Nat → Int32) (i17_0 : i ≤ 7) (hm : RM fm (σ.2.1 19) (7 * w + 7) r0 i) (hm17 : 7 - i < n17), J X 0 0 (cM g kk (sF σ 19 fm)) [(5, .int (nI i)), (4, .int (nI ((7 * w) + 7))), (3, .int (nI (7 * w))), (0, .ref (g 0)), (1, .int (nI w)), (2, .int (nI q))] 17 [] := by
    intro n17
    induction n17 with
    | zero => intro i fm i17_0 hm hm; exact absurd hm (Nat.not_lt_zero _)
    | succ n17 ih17 =>
      intro i fm i17_0 hm hm17
      refine j_iload C 0 rfl dX11_mend_17 ?_
      refine j_bipush C (nI 7) (by decide) dX11_mend_19 ?_
      refine j_icmp_geN C 49 (by decide) (by omega) (by omega) dX11_mend_21 (fun c1 => ?_) (fun c1 => ?_)
      · have hP9 := mdC_Q hq0
        have hm9 : RM fm (σ.2.1 19) (7 * w + 7) r0 7 := by have z := hm; rw [show i = 7 by omega] at z; exact z
        refine j_aload_n C 3 rfl dX11_mend_49 ?_
        refine gM_0_28 C tb_901 dX11_mend_50 ?_
        refine j_iload_n C 5 rfl dX11_mend_53 ?_
        refine rM_22 C q rfl (by omega) (nI (mdC q / 10 % 10)) (hT q hq0).2.1 dX11_mend_54 ?_
        refine j_istore C [(5, .int (nI (mdC q / 10 % 10))), (4, .int (nI ((7 * w) + 7))), (3, .int (nI (7 * w))), (0, .ref (g 0)), (1, .int (nI w)), (2, .int (nI q))] (by decide) rfl dX11_mend_55 ?_
        refine j_aload_n C 3 rfl dX11_mend_57 ?_
        refine gM_0_29 C tb_902 dX11_mend_58 ?_
        refine j_iload_n C 5 rfl dX11_mend_61 ?_
        refine rM_23 C q rfl (by omega) (nI (mdC q % 10)) (hT q hq0).2.2 dX11_mend_62 ?_
        refine j_istore C [(6, .int (nI (mdC q % 10))), (5, .int (nI (mdC q / 10 % 10))), (4, .int (nI ((7 * w) + 7))), (3, .int (nI (7 * w))), (0, .ref (g 0)), (1, .int (nI w)), (2, .int (nI q))] (by decide) rfl dX11_mend_63 ?_
        refine j_aload_n C 4 rfl dX11_mend_65 ?_
        refine gM_0_27 C tb_900 dX11_mend_66 ?_
        refine j_iload_n C 6 rfl dX11_mend_69 ?_
        refine rM_21 C q rfl (by omega) (nI (mdC q / 100)) (hT q hq0).1 dX11_mend_70 ?_
        refine j_if_neN C 118 (by decide) (by omega) dX11_mend_71 (fun c2 => ?_) (fun c2 => ?_)
        · refine j_aload_n C 4 rfl dX11_mend_118 ?_
          refine gM_0_27 C tb_900 dX11_mend_119 ?_
          refine j_iload_n C 6 rfl dX11_mend_122 ?_
          refine rM_21 C q rfl (by omega) (nI (mdC q / 100)) (hT q hq0).1 dX11_mend_123 ?_
          refine j_iconst C (nI 1) (by decide) dX11_mend_124 ?_
          refine j_icmp_neN C 179 (by decide) (by omega) (by omega) dX11_mend_125 (fun c3 => ?_) (fun c3 => ?_)
          · refine j_aload_n C 4 rfl dX11_mend_179 ?_
            refine gM_0_26 C tb_899 dX11_mend_180 ?_
            refine j_iload C 0 rfl dX11_mend_183 ?_
            refine rM_20 C (mdC q % 10) rfl (by omega) (nI (Ew (mdC q % 10))) (r7_v hE7 (show mdC q % 10 < 7 by omega)) dX11_mend_185 ?_
            have hx4 := (hE7 (mdC q % 10) (by omega)).2
            refine j_istore C [(7, .int (nI (Ew (mdC q % 10)))), (6, .int (nI (mdC q % 10))), (5, .int (nI (mdC q / 10 % 10))), (4, .int (nI ((7 * w) + 7))), (3, .int (nI (7 * w))), (0, .ref (g 0)), (1, .int (nI w)), (2, .int (nI q))] (by decide) rfl dX11_mend_186 ?_
            refine j_iload C 2 rfl dX11_mend_188 ?_
            refine j_istore C [(8, .int (nI (mdC q / 10 % 10))), (7, .int (nI (Ew (mdC q % 10)))), (6, .int (nI (mdC q % 10))), (5, .int (nI (mdC q / 10 % 10))), (4, .int (nI ((7 * w) + 7))), (3, .int (nI (7 * w))), (0, .ref (g 0)), (1, .int (nI w)), (2, .int (nI q))] (by decide) rfl dX11_mend_190 ?_
            have L192 : ∀ (n192 : Nat) (d : Nat) (sv : Nat) (i192_0 : mdC q / 10 % 10 ≤ d) (i192_1 : d ≤ mdC q % 10) (i192_2 : sv ≤ 9990 * (d - (mdC q / 10 % 10)) + 9990) (hsv : sv = Ew (mdC q % 10) + sm Ew (mdC q / 10 % 10) (d - (mdC q / 10 % 10))) (hz : ∀ x, mdC q / 10 % 10 ≤ x → x < d → r0 x = 0) (hm192 : 7 - d < n192), J X 0 0 (cM g kk (sF σ 19 fm)) [(8, .int (nI d)), (7, .int (nI sv)), (6, .int (nI (mdC q % 10))), (5, .int (nI (mdC q / 10 % 10))), (4, .int (nI ((7 * w) + 7))), (3, .int (nI (7 * w))), (0, .ref (g 0)), (1, .int (nI w)), (2, .int (nI q))] 192 [] := by
              intro n192
              induction n192 with
              | zero => intro d sv i192_0 i192_1 i192_2 hsv hz hm; exact absurd hm (Nat.not_lt_zero _)
              | succ n192 ih192 =>
                intro d sv i192_0 i192_1 i192_2 hsv hz hm192
                refine j_iload C 0 rfl dX11_mend_192 ?_
                refine j_iload C 2 rfl dX11_mend_194 ?_
                refine j_icmp_geN C 231 (by decide) (by omega) (by omega) dX11_mend_196 (fun c4 => ?_) (fun c4 => ?_)
                · refine j_aload_n C 6 rfl dX11_mend_231 ?_
                  refine gM_0_25 C tb_898 dX11_mend_232 ?_
                  refine j_iload_n C 5 rfl dX11_mend_235 ?_
                  refine j_iload C 2 rfl dX11_mend_236 ?_
                  refine j_iaddN C dX11_mend_238 ?_
                  refine rM_19 C ((7 * w) + (mdC q % 10)) rfl (by omega) (nI (r0 (mdC q % 10))) ((hm9.1 _ (by omega)).trans (hq1 (mdC q % 10) (by omega)).1) dX11_mend_239 ?_
                  refine j_istore C [(8, .int (nI (r0 (mdC q % 10)))), (7, .int (nI sv)), (6, .int (nI (mdC q % 10))), (5, .int (nI (mdC q / 10 % 10))), (4, .int (nI ((7 * w) + 7))), (3, .int (nI (7 * w))), (0, .ref (g 0)), (1, .int (nI w)), (2, .int (nI q))] (by decide) rfl dX11_mend_240 ?_
                  have hx5 := (hq1 (mdC q % 10) (by omega)).2
                  refine j_iload C 0 rfl dX11_mend_242 ?_
                  refine j_istore C [(9, .int (nI (r0 (mdC q % 10)))), (8, .int (nI (r0 (mdC q % 10)))), (7, .int (nI sv)), (6, .int (nI (mdC q % 10))), (5, .int (nI (mdC q / 10 % 10))), (4, .int (nI ((7 * w) + 7))), (3, .int (nI (7 * w))), (0, .ref (g 0)), (1, .int (nI w)), (2, .int (nI q))] (by decide) rfl dX11_mend_244 ?_
                  refine j_iload C 4 rfl dX11_mend_246 ?_
                  refine j_istore C [(10, .int (nI (mdC q / 10 % 10))), (9, .int (nI (r0 (mdC q % 10)))), (8, .int (nI (r0 (mdC q % 10)))), (7, .int (nI sv)), (6, .int (nI (mdC q % 10))), (5, .int (nI (mdC q / 10 % 10))), (4, .int (nI ((7 * w) + 7))), (3, .int (nI (7 * w))), (0, .ref (g 0)), (1, .int (nI w)), (2, .int (nI q))] (by decide) rfl dX11_mend_248 ?_
                  have L250 : ∀ (n250 : Nat) (e9 : Nat) (lf : Nat) (f2 : Nat → Int32) (i250_0 : mdC q / 10 % 10 ≤ e9) (i250_1 : e9 ≤ mdC q % 10) (i250_2 : lf ≤ r0 (mdC q % 10)) (hl : lf = r0 (mdC q % 10) - sm (fun x => shV (r0 (mdC q % 10)) (sm Ew (mdC q / 10 % 10) (mdC q % 10 + 1 - (mdC q / 10 % 10))) (Ew x)) (mdC q / 10 % 10) (e9 - (mdC q / 10 % 10))) (h2 : RM f2 (σ.2.1 19) (7 * w + 7) (pq2 Ew r0 (mdC q / 10 % 10) (mdC q % 10) e9) 7) (hm250 : 7 - e9 < n250), J X 0 0 (cM g kk (sF σ 19 f2)) [(10, .int (nI e9)), (9, .int (nI lf)), (8, .int (nI (r0 (mdC q % 10)))), (7, .int (nI sv)), (6, .int (nI (mdC q % 10))), (5, .int (nI (mdC q / 10 % 10))), (4, .int (nI ((7 * w) + 7))), (3, .int (nI (7 * w))), (0, .ref (g 0)), (1, .int (nI w)), (2, .int (nI q))] 250 [] := by
                    intro n250
                    induction n250 with
                    | zero => intro e9 lf f2 i250_0 i250_1 i250_2 hl h2 hm; exact absurd hm (Nat.not_lt_zero _)
                    | succ n250 ih250 =>
                      intro e9 lf f2 i250_0 i250_1 i250_2 hl h2 hm250
                      refine j_iload C 0 rfl dX11_mend_250 ?_
                      refine j_iload C 4 rfl dX11_mend_252 ?_
                      refine j_icmp_geN C 314 (by decide) (by omega) (by omega) dX11_mend_254 (fun c5 => ?_) (fun c5 => ?_)
                      · refine j_aload_n C 8 rfl dX11_mend_314 ?_
                        refine gM_0_25 C tb_898 dX11_mend_315 ?_
                        refine j_iload C 6 rfl dX11_mend_318 ?_
                        refine j_iload C 4 rfl dX11_mend_320 ?_
                        refine j_iaddN C dX11_mend_322 ?_
                        refine j_iload C 1 rfl dX11_mend_323 ?_
                        refine tM_19 C (((7 * w) + 7) + (mdC q % 10)) rfl (by omega) dX11_mend_325 ?_
                        refine j_iconst C (nI 1) (by decide) dX11_mend_326 ?_
                        refine j_w (cM g kk (sF σ 19 (upd f2 (((7 * w) + 7) + (mdC q % 10)) (nI lf)))) (congrArg (cM g kk) (show sF (sF σ 19 f2) 19 (upd f2 (((7 * w) + 7) + (mdC q % 10)) (nI lf)) = sF σ 19 (upd f2 (((7 * w) + 7) + (mdC q % 10)) (nI lf)) from wrFs)) ?_
                        exact j_zret C E (by first | rfl | decide) (sF σ 19 (upd f2 (((7 * w) + 7) + (mdC q % 10)) (nI lf))) ⟨_, rfl, ⟨(upd f2 (((7 * w) + 7) + (mdC q % 10)) (nI lf)), rfl, (Or.inl ⟨_, mdV_2 (by omega) (fun x x1 x2 => hz x x1 (by omega)), rfl, RM_u (by have z := h2; rw [show e9 = mdC q % 10 by omega] at z; exact z) (fun x hx => md2_u (by omega) (by have z := hl; rw [show e9 = mdC q % 10 by omega] at z; exact z))⟩), (fun j hj => by rw [pk_un (by omega)]; exact h2.1 j hj)⟩⟩ rfl dX11_mend_327
                      · refine j_aload_n C 8 rfl dX11_mend_257 ?_
                        refine gM_0_25 C tb_898 dX11_mend_258 ?_
                        refine j_iload C 6 rfl dX11_mend_261 ?_
                        refine j_iload C 0 rfl dX11_mend_263 ?_
                        refine j_iaddN C dX11_mend_265 ?_
                        refine j_iload C 3 rfl dX11_mend_266 ?_
                        refine j_if_neN C 275 (by decide) (by omega) dX11_mend_268 (fun c6 => ?_) (fun c6 => ?_)
                        · refine j_iload C 2 rfl dX11_mend_275 ?_
                          refine j_i2l C dX11_mend_277 ?_
                          refine j_aload_n C 8 rfl dX11_mend_278 ?_
                          refine gM_0_26 C tb_899 dX11_mend_279 ?_
                          refine j_iload C 0 rfl dX11_mend_282 ?_
                          refine rM_20 C e9 rfl (by omega) (nI (Ew e9)) (r7_v hE7 (show e9 < 7 by omega)) dX11_mend_284 ?_
                          refine j_i2l C dX11_mend_285 ?_
                          have hx1 := (hq1 (mdC q % 10) (by omega)).2
                          have hx2 := (hE7 e9 (by omega)).2
                          refine j_lmul C dX11_mend_286 ?_
                          refine j_iload C 3 rfl dX11_mend_287 ?_
                          refine j_i2l C dX11_mend_289 ?_
                          refine j_ldiv C (by first | decide | assumption | exact nI_ne0 (by omega) (by omega) | exact i64ne (by assumption) | exact i64ne (nI_ne0 (by omega) (by omega))) dX11_mend_290 ?_
                          refine j_l2i C dX11_mend_291 ?_
                          have hTe : sv = (sm Ew (mdC q / 10 % 10) (mdC q % 10 + 1 - (mdC q / 10 % 10))) := smj (by have z := hsv; rw [show d = mdC q % 10 by omega] at z; exact z) (by omega)
                          have hsb := sb_le hl (by omega) (by omega)
                          refine j_teq (show ((((nI (r0 (mdC q % 10))).toInt64) * ((nI (Ew e9)).toInt64)) / ((nI sv).toInt64)).toInt32 = nI (shV (r0 (mdC q % 10)) (sm Ew (mdC q / 10 % 10) (mdC q % 10 + 1 - (mdC q / 10 % 10))) (Ew e9)) from (ldv (hq1 _ (by omega)).2 (hE7 _ (by omega)).2 (by omega) (by omega)).trans (congrArg nI (by unfold shV; rw [← hTe, if_neg (by omega)]))) ?_
                          refine tM_19 C (((7 * w) + 7) + e9) rfl (by omega) dX11_mend_292 ?_
                          refine j_iload C 1 rfl dX11_mend_293 ?_
                          refine j_aload_n C 8 rfl dX11_mend_295 ?_
                          refine gM_0_25 C tb_898 dX11_mend_296 ?_
                          refine j_iload C 6 rfl dX11_mend_299 ?_
                          refine j_iload C 0 rfl dX11_mend_301 ?_
                          refine j_iaddN C dX11_mend_303 ?_
                          refine rM_19 C (((7 * w) + 7) + e9) rfl (by omega) (nI (shV (r0 (mdC q % 10)) (sm Ew (mdC q / 10 % 10) (mdC q % 10 + 1 - (mdC q / 10 % 10))) (Ew e9))) pk_us dX11_mend_304 ?_
                          refine j_isubN C (by omega) dX11_mend_305 ?_
                          refine j_istore C [(9, .int (nI (lf - (shV (r0 (mdC q % 10)) (sm Ew (mdC q / 10 % 10) (mdC q % 10 + 1 - (mdC q / 10 % 10))) (Ew e9))))), (10, .int (nI e9)), (8, .int (nI (r0 (mdC q % 10)))), (7, .int (nI sv)), (6, .int (nI (mdC q % 10))), (5, .int (nI (mdC q / 10 % 10))), (4, .int (nI ((7 * w) + 7))), (3, .int (nI (7 * w))), (0, .ref (g 0)), (1, .int (nI w)), (2, .int (nI q))] (by decide) rfl dX11_mend_306 ?_
                          refine j_iinc C (nI (e9 + 1)) [(10, .int (nI (e9 + 1))), (9, .int (nI (lf - (shV (r0 (mdC q % 10)) (sm Ew (mdC q / 10 % 10) (mdC q % 10 + 1 - (mdC q / 10 % 10))) (Ew e9))))), (8, .int (nI (r0 (mdC q % 10)))), (7, .int (nI sv)), (6, .int (nI (mdC q % 10))), (5, .int (nI (mdC q / 10 % 10))), (4, .int (nI ((7 * w) + 7))), (3, .int (nI (7 * w))), (0, .ref (g 0)), (1, .int (nI w)), (2, .int (nI q))] 1 rfl (by rw [show Int32.ofInt 1 = nI 1 from by decide, nI_add]) (by decide) rfl dX11_mend_308 ?_
                          refine j_goto C 250 (by decide) dX11_mend_311 ?_
                          refine j_w (cM g kk (sF σ 19 (upd f2 (((7 * w) + 7) + e9) (nI (shV (r0 (mdC q % 10)) (sm Ew (mdC q / 10 % 10) (mdC q % 10 + 1 - (mdC q / 10 % 10))) (Ew e9)))))) (congrArg (cM g kk) (show sF (sF σ 19 f2) 19 (upd f2 (((7 * w) + 7) + e9) (nI (shV (r0 (mdC q % 10)) (sm Ew (mdC q / 10 % 10) (mdC q % 10 + 1 - (mdC q / 10 % 10))) (Ew e9)))) = sF σ 19 (upd f2 (((7 * w) + 7) + e9) (nI (shV (r0 (mdC q % 10)) (sm Ew (mdC q / 10 % 10) (mdC q % 10 + 1 - (mdC q / 10 % 10))) (Ew e9)))) from wrFs)) ?_
                          exact ih250 (e9 + 1) (lf - (shV (r0 (mdC q % 10)) (sm Ew (mdC q / 10 % 10) (mdC q % 10 + 1 - (mdC q / 10 % 10))) (Ew e9))) (upd f2 (((7 * w) + 7) + e9) (nI (shV (r0 (mdC q % 10)) (sm Ew (mdC q / 10 % 10) (mdC q % 10 + 1 - (mdC q / 10 % 10))) (Ew e9)))) (by omega) (by omega) (by omega) hsb.2 (RM_u h2 (fun x hx => pq2_u (by omega))) (by omega)
                        · refine j_iconst C (nI 0) (by decide) dX11_mend_271 ?_
                          refine j_goto C 292 (by decide) dX11_mend_272 ?_
                          have hTe : sv = (sm Ew (mdC q / 10 % 10) (mdC q % 10 + 1 - (mdC q / 10 % 10))) := smj (by have z := hsv; rw [show d = mdC q % 10 by omega] at z; exact z) (by omega)
                          have hsb := sb_le hl (by omega) (by omega)
                          refine j_teq (show nI 0 = nI (shV (r0 (mdC q % 10)) (sm Ew (mdC q / 10 % 10) (mdC q % 10 + 1 - (mdC q / 10 % 10))) (Ew e9)) from congrArg nI (by unfold shV; rw [← hTe, if_pos (by omega)])) ?_
                          refine tM_19 C (((7 * w) + 7) + e9) rfl (by omega) dX11_mend_292 ?_
                          refine j_iload C 1 rfl dX11_mend_293 ?_
                          refine j_aload_n C 8 rfl dX11_mend_295 ?_
                          refine gM_0_25 C tb_898 dX11_mend_296 ?_
                          refine j_iload C 6 rfl dX11_mend_299 ?_
                          refine j_iload C 0 rfl dX11_mend_301 ?_
                          refine j_iaddN C dX11_mend_303 ?_
                          refine rM_19 C (((7 * w) + 7) + e9) rfl (by omega) (nI (shV (r0 (mdC q % 10)) (sm Ew (mdC q / 10 % 10) (mdC q % 10 + 1 - (mdC q / 10 % 10))) (Ew e9))) pk_us dX11_mend_304 ?_
                          refine j_isubN C (by omega) dX11_mend_305 ?_
                          refine j_istore C [(9, .int (nI (lf - (shV (r0 (mdC q % 10)) (sm Ew (mdC q / 10 % 10) (mdC q % 10 + 1 - (mdC q / 10 % 10))) (Ew e9))))), (10, .int (nI e9)), (8, .int (nI (r0 (mdC q % 10)))), (7, .int (nI sv)), (6, .int (nI (mdC q % 10))), (5, .int (nI (mdC q / 10 % 10))), (4, .int (nI ((7 * w) + 7))), (3, .int (nI (7 * w))), (0, .ref (g 0)), (1, .int (nI w)), (2, .int (nI q))] (by decide) rfl dX11_mend_306 ?_
                          refine j_iinc C (nI (e9 + 1)) [(10, .int (nI (e9 + 1))), (9, .int (nI (lf - (shV (r0 (mdC q % 10)) (sm Ew (mdC q / 10 % 10) (mdC q % 10 + 1 - (mdC q / 10 % 10))) (Ew e9))))), (8, .int (nI (r0 (mdC q % 10)))), (7, .int (nI sv)), (6, .int (nI (mdC q % 10))), (5, .int (nI (mdC q / 10 % 10))), (4, .int (nI ((7 * w) + 7))), (3, .int (nI (7 * w))), (0, .ref (g 0)), (1, .int (nI w)), (2, .int (nI q))] 1 rfl (by rw [show Int32.ofInt 1 = nI 1 from by decide, nI_add]) (by decide) rfl dX11_mend_308 ?_
                          refine j_goto C 250 (by decide) dX11_mend_311 ?_
                          refine j_w (cM g kk (sF σ 19 (upd f2 (((7 * w) + 7) + e9) (nI (shV (r0 (mdC q % 10)) (sm Ew (mdC q / 10 % 10) (mdC q % 10 + 1 - (mdC q / 10 % 10))) (Ew e9)))))) (congrArg (cM g kk) (show sF (sF σ 19 f2) 19 (upd f2 (((7 * w) + 7) + e9) (nI (shV (r0 (mdC q % 10)) (sm Ew (mdC q / 10 % 10) (mdC q % 10 + 1 - (mdC q / 10 % 10))) (Ew e9)))) = sF σ 19 (upd f2 (((7 * w) + 7) + e9) (nI (shV (r0 (mdC q % 10)) (sm Ew (mdC q / 10 % 10) (mdC q % 10 + 1 - (mdC q / 10 % 10))) (Ew e9)))) from wrFs)) ?_
                          exact ih250 (e9 + 1) (lf - (shV (r0 (mdC q % 10)) (sm Ew (mdC q / 10 % 10) (mdC q % 10 + 1 - (mdC q / 10 % 10))) (Ew e9))) (upd f2 (((7 * w) + 7) + e9) (nI (shV (r0 (mdC q % 10)) (sm Ew (mdC q / 10 % 10) (mdC q % 10 + 1 - (mdC q / 10 % 10))) (Ew e9)))) (by omega) (by omega) (by omega) hsb.2 (RM_u h2 (fun x hx => pq2_u (by omega))) (by omega)
                  exact L250 _ (mdC q / 10 % 10) (r0 (mdC q % 10)) fm (by omega) (by omega) (by omega) (by rw [Nat.sub_self]; rfl) (by rw [pq2_0]; exact hm9) (Nat.lt_succ_self _)
                · refine j_aload_n C 6 rfl dX11_mend_199 ?_
                  refine gM_0_25 C tb_898 dX11_mend_200 ?_
                  refine j_iload_n C 5 rfl dX11_mend_203 ?_
                  refine j_iload C 0 rfl dX11_mend_204 ?_
                  refine j_iaddN C dX11_mend_206 ?_
                  refine rM_19 C ((7 * w) + d) rfl (by omega) (nI (r0 d)) ((hm9.1 _ (by omega)).trans (hq1 (d) (by omega)).1) dX11_mend_207 ?_
                  have hrd := (hq1 d (by omega)).2
                  refine j_if_eqN C 213 (by decide) (by omega) dX11_mend_208 (fun c7 => ?_) (fun c7 => ?_)
                  · refine j_iload C 1 rfl dX11_mend_213 ?_
                    refine j_aload_n C 6 rfl dX11_mend_215 ?_
                    refine gM_0_26 C tb_899 dX11_mend_216 ?_
                    refine j_iload C 0 rfl dX11_mend_219 ?_
                    refine rM_20 C d rfl (by omega) (nI (Ew d)) (r7_v hE7 (show d < 7 by omega)) dX11_mend_221 ?_
                    have hx3 := (hE7 d (by omega)).2
                    refine j_iaddN C dX11_mend_222 ?_
                    refine j_istore C [(7, .int (nI (sv + (Ew d)))), (8, .int (nI d)), (6, .int (nI (mdC q % 10))), (5, .int (nI (mdC q / 10 % 10))), (4, .int (nI ((7 * w) + 7))), (3, .int (nI (7 * w))), (0, .ref (g 0)), (1, .int (nI w)), (2, .int (nI q))] (by decide) rfl dX11_mend_223 ?_
                    refine j_iinc C (nI (d + 1)) [(8, .int (nI (d + 1))), (7, .int (nI (sv + (Ew d)))), (6, .int (nI (mdC q % 10))), (5, .int (nI (mdC q / 10 % 10))), (4, .int (nI ((7 * w) + 7))), (3, .int (nI (7 * w))), (0, .ref (g 0)), (1, .int (nI w)), (2, .int (nI q))] 1 rfl (by rw [show Int32.ofInt 1 = nI 1 from by decide, nI_add]) (by decide) rfl dX11_mend_225 ?_
                    refine j_goto C 192 (by decide) dX11_mend_228 ?_
                    exact ih192 (d + 1) (sv + (Ew d)) (by omega) (by omega) (by omega) (by rw [← sm_s (T := sm Ew (mdC q / 10 % 10) (d - mdC q / 10 % 10)) rfl (by omega), hsv]; omega) (fun x x1 x2 => by by_cases v : x = d; (rw [v]; omega); exact hz x x1 (by omega)) (by omega)
                  · refine j_iconst C (nI 0) (by decide) dX11_mend_211 ?_
                    exact j_zret C E (by first | rfl | decide) (sF σ 19 fm) ⟨_, rfl, ⟨fm, rfl, (Or.inr ⟨mdV_n (x := d) (by omega) (by omega) (by omega) (by omega), rfl⟩), hm9.1⟩⟩ rfl dX11_mend_212
            exact L192 _ (mdC q / 10 % 10) (Ew (mdC q % 10)) (by omega) (by omega) (by omega) (by rw [Nat.sub_self]; rfl) (fun x x1 x2 => absurd x2 (by omega)) (Nat.lt_succ_self _)
          · refine j_iload C 1 rfl dX11_mend_128 ?_
            refine j_istore C [(7, .int (nI (mdC q / 10 % 10))), (6, .int (nI (mdC q % 10))), (5, .int (nI (mdC q / 10 % 10))), (4, .int (nI ((7 * w) + 7))), (3, .int (nI (7 * w))), (0, .ref (g 0)), (1, .int (nI w)), (2, .int (nI q))] (by decide) rfl dX11_mend_130 ?_
            have L132 : ∀ (n132 : Nat) (d : Nat) (f1 : Nat → Int32) (i132_0 : mdC q / 10 % 10 ≤ d) (i132_1 : d ≤ mdC q % 10 + 1) (h1 : RM f1 (σ.2.1 19) (7 * w + 7) (sh1 r0 (mdC q / 10 % 10) d) 7) (hm132 : 7 - d < n132), J X 0 0 (cM g kk (sF σ 19 f1)) [(7, .int (nI d)), (6, .int (nI (mdC q % 10))), (5, .int (nI (mdC q / 10 % 10))), (4, .int (nI ((7 * w) + 7))), (3, .int (nI (7 * w))), (0, .ref (g 0)), (1, .int (nI w)), (2, .int (nI q))] 132 [] := by
              intro n132
              induction n132 with
              | zero => intro d f1 i132_0 i132_1 h1 hm; exact absurd hm (Nat.not_lt_zero _)
              | succ n132 ih132 =>
                intro d f1 i132_0 i132_1 h1 hm132
                refine j_iload C 0 rfl dX11_mend_132 ?_
                refine j_iload C 1 rfl dX11_mend_134 ?_
                refine j_icmp_gtN C 166 (by decide) (by omega) (by omega) dX11_mend_136 (fun c8 => ?_) (fun c8 => ?_)
                · refine j_aload_n C 5 rfl dX11_mend_166 ?_
                  refine gM_0_25 C tb_898 dX11_mend_167 ?_
                  refine j_iload C 3 rfl dX11_mend_170 ?_
                  refine j_iload C 1 rfl dX11_mend_172 ?_
                  refine j_iaddN C dX11_mend_174 ?_
                  refine j_iconst C (nI 0) (by decide) dX11_mend_175 ?_
                  refine tM_19 C (((7 * w) + 7) + (mdC q % 10)) rfl (by omega) dX11_mend_176 ?_
                  refine j_iconst C (nI 1) (by decide) dX11_mend_177 ?_
                  refine j_w (cM g kk (sF σ 19 (upd f1 (((7 * w) + 7) + (mdC q % 10)) (nI 0)))) (congrArg (cM g kk) (show sF (sF σ 19 f1) 19 (upd f1 (((7 * w) + 7) + (mdC q % 10)) (nI 0)) = sF σ 19 (upd f1 (((7 * w) + 7) + (mdC q % 10)) (nI 0)) from wrFs)) ?_
                  exact j_zret C E (by first | rfl | decide) (sF σ 19 (upd f1 (((7 * w) + 7) + (mdC q % 10)) (nI 0))) ⟨_, rfl, ⟨(upd f1 (((7 * w) + 7) + (mdC q % 10)) (nI 0)), rfl, (Or.inl ⟨_, mdV_1 (by omega), rfl, RM_u (v := 0) (by have z := h1; rw [show d = mdC q % 10 + 1 by omega] at z; exact z) (fun x hx => md1_u (by omega) (by omega))⟩), (fun j hj => by rw [pk_un (by omega)]; exact h1.1 j hj)⟩⟩ rfl dX11_mend_178
                · refine j_aload_n C 5 rfl dX11_mend_139 ?_
                  refine gM_0_25 C tb_898 dX11_mend_140 ?_
                  refine j_iload C 3 rfl dX11_mend_143 ?_
                  refine j_iload C 0 rfl dX11_mend_145 ?_
                  refine j_iaddN C dX11_mend_147 ?_
                  refine j_iconst C (nI 1) (by decide) dX11_mend_148 ?_
                  refine j_isubN C (by omega) dX11_mend_149 ?_
                  refine j_aload_n C 5 rfl dX11_mend_150 ?_
                  refine gM_0_25 C tb_898 dX11_mend_151 ?_
                  refine j_iload_n C 4 rfl dX11_mend_154 ?_
                  refine j_iload C 0 rfl dX11_mend_155 ?_
                  refine j_iaddN C dX11_mend_157 ?_
                  refine rM_19 C ((7 * w) + d) rfl (by omega) (nI (r0 d)) ((h1.1 _ (by omega)).trans (hq1 (d) (by omega)).1) dX11_mend_158 ?_
                  refine tM_19 C ((((7 * w) + 7) + d) - 1) rfl (by omega) dX11_mend_159 ?_
                  refine j_iinc C (nI (d + 1)) [(7, .int (nI (d + 1))), (6, .int (nI (mdC q % 10))), (5, .int (nI (mdC q / 10 % 10))), (4, .int (nI ((7 * w) + 7))), (3, .int (nI (7 * w))), (0, .ref (g 0)), (1, .int (nI w)), (2, .int (nI q))] 0 rfl (by rw [show Int32.ofInt 1 = nI 1 from by decide, nI_add]) (by decide) rfl dX11_mend_160 ?_
                  refine j_goto C 132 (by decide) dX11_mend_163 ?_
                  refine j_w (cM g kk (sF σ 19 (upd f1 ((((7 * w) + 7) + d) - 1) (nI (r0 d))))) (congrArg (cM g kk) (show sF (sF σ 19 f1) 19 (upd f1 ((((7 * w) + 7) + d) - 1) (nI (r0 d))) = sF σ 19 (upd f1 ((((7 * w) + 7) + d) - 1) (nI (r0 d))) from wrFs)) ?_
                  exact ih132 (d + 1) (upd f1 ((((7 * w) + 7) + d) - 1) (nI (r0 d))) (by omega) (by omega) (by have z := RM_u (v := r0 d) (i := d - 1) h1 (q := sh1 r0 (mdC q / 10 % 10) (d + 1)) (fun x hx => sh1_u (by omega) (by omega)); rw [show (7 * w + 7) + (d - 1) = 7 * w + 7 + d - 1 by omega] at z; exact z) (by omega)
            exact L132 _ (mdC q / 10 % 10) fm (by omega) (by omega) (by rw [sh1_0]; exact hm9) (Nat.lt_succ_self _)
        · refine j_aload_n C 4 rfl dX11_mend_74 ?_
          refine gM_0_25 C tb_898 dX11_mend_75 ?_
          refine j_iload C 2 rfl dX11_mend_78 ?_
          refine j_iload C 1 rfl dX11_mend_80 ?_
          refine j_iaddN C dX11_mend_82 ?_
          refine j_aload_n C 4 rfl dX11_mend_83 ?_
          refine gM_0_25 C tb_898 dX11_mend_84 ?_
          refine j_iload_n C 3 rfl dX11_mend_87 ?_
          refine j_iload C 1 rfl dX11_mend_88 ?_
          refine j_iaddN C dX11_mend_90 ?_
          refine j_iconst C (nI 1) (by decide) dX11_mend_91 ?_
          refine j_iaddN C dX11_mend_92 ?_
          refine rM_19 C (((7 * w) + (mdC q / 10 % 10)) + 1) rfl (by omega) (nI (r0 (mdC q / 10 % 10 + 1))) ((hm9.1 _ (by omega)).trans (by have z := (hq1 (mdC q / 10 % 10 + 1) (by omega)).1; rw [← Nat.add_assoc] at z; exact z)) dX11_mend_93 ?_
          refine tM_19 C (((7 * w) + 7) + (mdC q / 10 % 10)) rfl (by omega) dX11_mend_94 ?_
          refine j_aload_n C 4 rfl dX11_mend_95 ?_
          refine gM_0_25 C tb_898 dX11_mend_96 ?_
          refine j_iload C 2 rfl dX11_mend_99 ?_
          refine j_iload C 1 rfl dX11_mend_101 ?_
          refine j_iaddN C dX11_mend_103 ?_
          refine j_iconst C (nI 1) (by decide) dX11_mend_104 ?_
          refine j_iaddN C dX11_mend_105 ?_
          refine j_aload_n C 4 rfl dX11_mend_106 ?_
          refine gM_0_25 C tb_898 dX11_mend_107 ?_
          refine j_iload_n C 3 rfl dX11_mend_110 ?_
          refine j_iload C 1 rfl dX11_mend_111 ?_
          refine j_iaddN C dX11_mend_113 ?_
          refine rM_19 C ((7 * w) + (mdC q / 10 % 10)) rfl (by omega) (nI (r0 (mdC q / 10 % 10))) ((pk_un (by omega)).trans ((hm9.1 _ (by omega)).trans (hq1 (mdC q / 10 % 10) (by omega)).1)) dX11_mend_114 ?_
          refine tM_19 C ((((7 * w) + 7) + (mdC q / 10 % 10)) + 1) rfl (by omega) dX11_mend_115 ?_
          refine j_iconst C (nI 1) (by decide) dX11_mend_116 ?_
          refine j_w (cM g kk (sF σ 19 (upd (upd fm (((7 * w) + 7) + (mdC q / 10 % 10)) (nI (r0 (mdC q / 10 % 10 + 1)))) ((((7 * w) + 7) + (mdC q / 10 % 10)) + 1) (nI (r0 (mdC q / 10 % 10)))))) (congrArg (cM g kk) (show sF (sF (sF σ 19 fm) 19 (upd fm (((7 * w) + 7) + (mdC q / 10 % 10)) (nI (r0 (mdC q / 10 % 10 + 1))))) 19 (upd (upd fm (((7 * w) + 7) + (mdC q / 10 % 10)) (nI (r0 (mdC q / 10 % 10 + 1)))) ((((7 * w) + 7) + (mdC q / 10 % 10)) + 1) (nI (r0 (mdC q / 10 % 10)))) = sF σ 19 (upd (upd fm (((7 * w) + 7) + (mdC q / 10 % 10)) (nI (r0 (mdC q / 10 % 10 + 1)))) ((((7 * w) + 7) + (mdC q / 10 % 10)) + 1) (nI (r0 (mdC q / 10 % 10)))) from (Eq.trans (wrF wrFs) wrFs))) ?_
          exact j_zret C E (by first | rfl | decide) (sF σ 19 (upd (upd fm (((7 * w) + 7) + (mdC q / 10 % 10)) (nI (r0 (mdC q / 10 % 10 + 1)))) ((((7 * w) + 7) + (mdC q / 10 % 10)) + 1) (nI (r0 (mdC q / 10 % 10))))) ⟨_, rfl, ⟨(upd (upd fm (((7 * w) + 7) + (mdC q / 10 % 10)) (nI (r0 (mdC q / 10 % 10 + 1)))) ((((7 * w) + 7) + (mdC q / 10 % 10)) + 1) (nI (r0 (mdC q / 10 % 10)))), rfl, (Or.inl ⟨_, mdV_0 (by omega), rfl, RM_u (RM_u hm9 (q := fun x => if x = mdC q / 10 % 10 then r0 (mdC q / 10 % 10 + 1) else r0 x) (fun x hx => rfl)) (i := mdC q / 10 % 10 + 1) (fun x hx => md0_u)⟩), (fun j hj => by rw [pk_un (by omega), pk_un (by omega)]; exact hm9.1 j hj)⟩⟩ rfl dX11_mend_117
      · refine j_aload_n C 3 rfl dX11_mend_24 ?_
        refine gM_0_25 C tb_898 dX11_mend_25 ?_
        refine j_iload C 1 rfl dX11_mend_28 ?_
        refine j_iload C 0 rfl dX11_mend_30 ?_
        refine j_iaddN C dX11_mend_32 ?_
        refine j_aload_n C 3 rfl dX11_mend_33 ?_
        refine gM_0_25 C tb_898 dX11_mend_34 ?_
        refine j_iload_n C 2 rfl dX11_mend_37 ?_
        refine j_iload C 0 rfl dX11_mend_38 ?_
        refine j_iaddN C dX11_mend_40 ?_
        refine rM_19 C ((7 * w) + i) rfl (by omega) (nI (r0 i)) ((hm.1 _ (by omega)).trans (hq1 (i) (by omega)).1) dX11_mend_41 ?_
        refine tM_19 C (((7 * w) + 7) + i) rfl (by omega) dX11_mend_42 ?_
        refine j_iinc C (nI (i + 1)) [(5, .int (nI (i + 1))), (4, .int (nI ((7 * w) + 7))), (3, .int (nI (7 * w))), (0, .ref (g 0)), (1, .int (nI w)), (2, .int (nI q))] 0 rfl (by rw [show Int32.ofInt 1 = nI 1 from by decide, nI_add]) (by decide) rfl dX11_mend_43 ?_
        refine j_goto C 17 (by decide) dX11_mend_46 ?_
        refine j_w (cM g kk (sF σ 19 (upd fm (((7 * w) + 7) + i) (nI (r0 i))))) (congrArg (cM g kk) (show sF (sF σ 19 fm) 19 (upd fm (((7 * w) + 7) + i) (nI (r0 i))) = sF σ 19 (upd fm (((7 * w) + 7) + i) (nI (r0 i))) from wrFs)) ?_
        exact ih17 (i + 1) (upd fm (((7 * w) + 7) + i) (nI (r0 i))) (by omega) (RM_s hm) (by omega)
  refine j_w (cM g kk (sF σ 19 (σ.2.1 19))) (congrArg (cM g kk) (wrFi (S := σ) (c := 19) (v := σ.2.1 19) rfl)) ?_
  exact L17 _ 0 (σ.2.1 19) (by omega) RM_0 (Nat.lt_succ_self _)
/-- the best so far, as the reference holds it -/
def KM4 (p : BW) (co : Nat) (n f s : Int32) : Prop := co = p.1 ∧ n = nI p.2.1 ∧ f = encM p.2.2.1 ∧ s = encM p.2.2.2
theorem KM_e {p q : BW} {co : Nat} {n f s : Int32} (h : KM4 p co n f s) (e : q = p) : KM4 q co n f s := by rw [e]; exact h
theorem KM_y {p : BW} {co m n : Nat} {a b : Option Nat} {n1 f s : Int32} (h : KM4 p co n1 f s) (q : m < co) : KM4 (bwk p m n a b) m (nI n) (encM a) (encM b) := by
  unfold bwk
  rw [if_pos (by rw [← h.1]; exact q)]
  exact ⟨rfl, rfl, rfl, rfl⟩
theorem KM_n {p : BW} {co m n : Nat} {a b : Option Nat} {n1 f s : Int32} (h : KM4 p co n1 f s) (q : ¬ m < co) : KM4 (bwk p m n a b) co n1 f s := by
  unfold bwk
  rw [if_neg (by rw [← h.1]; exact q)]
  exact h
theorem R7_k {f g : Nat → Int32} {o : Nat} {r : Nat → Nat} (h : R7 g o r) (e : ∀ j : Nat, j < o + 7 → f j = g j) : R7 f o r := fun x hx => ⟨(e _ (by omega)).trans (h x hx).1, (h x hx).2⟩
theorem fw_7 {f : Nat → Int32} {r : Nat → Nat} {i : Nat} (h : ∀ x, x < i → f x = nI (r x)) : ∀ x, x < i + 1 → upd f i (nI (r i)) x = nI (r x) := fun x hx => by
  by_cases q : x = i
  · rw [q, pk_us]
  · rw [pk_un q]; exact h x (by omega)
theorem md_all {a : Nat} : 100 * (mdC a / 100) + 10 * (mdC a / 10 % 10) + mdC a % 10 = mdC a := by omega
set_option maxRecDepth 100000 in
set_option maxHeartbeats 4000000 in
theorem o_findWeek (g kk : Nat → Nat) (σ : St) (k : Nat) (hk : σ.1 3 = nI k) (hk6 : k ≤ 6) (hI : iM σ) (nf : Nat) (hnf : σ.1 9 = nI nf) (hnfb : nf ≤ 20) (G : GD) (hM : HM G k nf σ) (c : Nat) (hc0 : c < k) (d : Nat) (hd0 : d ≤ 21) : jM (S := St) yX11_findWeek cX11_findWeek 5 none { frames := 6, cells := 0, slots := 0, locals := 141 } kk (cM g kk σ) [.ref (g 0), .int (nI c), .int (nI d)] (cM g kk) (rV (fun u : St => ∃ (pF16 : Nat → Int32) (pF17 : Nat → Int32) (pF18 : Nat → Int32) (pF19 : Nat → Int32) (pF20 : Nat → Int32) (pF21 : Nat → Int32) (pF22 : Nat → Int32) (pF23 : Nat → Int32) (co2 : Nat) (pI31 : Int32) (pI32 : Int32) (pI33 : Int32), u = sI (sI (sI (sI (sF (sF (sF (sF (sF (sF (sF (sF σ 16 pF16) 17 pF17) 18 pF18) 19 pF19) 20 pF20) 21 pF21) 22 pF22) 23 pF23) 30 (nI co2)) 31 pI31) 32 pI32) 33 pI33 ∧ (co2 ≤ 100000 ∧ KM4 (wkV (fun x => xe G k c (d + x)) (fun x => (vaV G k c (d + x)).toNatClampNeg) (zS G 1)) co2 pI31 pI32 pI33) ∧ (TB pF21 pF22 pF23 38))) := by
  refine j_entry [(0, .ref (g 0)), (1, .int (nI c)), (2, .int (nI d))] (by decide) (Nat.le_of_ble_eq_true rfl) rfl ?_
  intro X C E HI
  refine j_aload_n C 0 rfl dX11_findWeek_0 ?_
  refine j_V1 C (o_findAll g kk σ k hk hk6 hI nf hnf (by omega) G hM ) kyX11_findAll tb_1131 tb_1133 sp_24 0 rfl (eM_0 g kk _) rfl (Nat.le_of_ble_eq_true rfl) ⟨by decide, by decide⟩ dX11_findWeek_1 rfl (fun vr ur hp => ?_)
  obtain ⟨rfl, w1, w2, w3, hu, g4⟩ := hp
  replace hu := hu.symm
  subst hu
  refine j_aload_n C 0 rfl dX11_findWeek_4 ?_
  refine j_V1 C (o_findMends g kk (sF (sF (sF σ 16 w1) 17 w2) 18 w3) k hk hk6 hI ) kyX11_findMends tb_1185 tb_1187 sp_33 0 rfl (eM_0 g kk _) rfl (Nat.le_of_ble_eq_true rfl) ⟨by decide, by decide⟩ dX11_findWeek_5 rfl (fun vr ur hp => ?_)
  obtain ⟨rfl, w5, w6, w7, hu, g8⟩ := hp
  replace hu := hu.symm
  subst hu
  refine j_iconst C (nI 0) (by decide) dX11_findWeek_8 ?_
  refine j_istore_n C [(3, .int (nI 0)), (0, .ref (g 0)), (1, .int (nI c)), (2, .int (nI d))] rfl (by decide) rfl dX11_findWeek_9 ?_
  have L10 : ∀ (n10 : Nat) (i : Nat) (fv : Nat → Int32) (fe : Nat → Int32) (i10_0 : i ≤ 7) (hv : ∀ x, x < i → fv x = nI ((fun x => (vaV G k c (d + x)).toNatClampNeg) x)) (he : ∀ x, x < i → fe x = nI ((fun x => xe G k c (d + x)) x)) (hm10 : 7 - i < n10), J X 0 0 (cM g kk (sF (sF (sF (sF (sF (sF (sF (sF σ 16 w1) 17 w2) 18 w3) 19 fv) 20 fe) 21 w5) 22 w6) 23 w7)) [(3, .int (nI i)), (0, .ref (g 0)), (1, .int (nI c)), (2, .int (nI d))] 10 [] := by
    intro n10
    induction n10 with
    | zero => intro i fv fe i10_0 hv he hm; exact absurd hm (Nat.not_lt_zero _)
    | succ n10 ih10 =>
      intro i fv fe i10_0 hv he hm10
      refine j_iload_n C 0 rfl dX11_findWeek_10 ?_
      refine j_bipush C (nI 7) (by decide) dX11_findWeek_11 ?_
      refine j_icmp_geN C 64 (by decide) (by omega) (by omega) dX11_findWeek_13 (fun c9 => ?_) (fun c9 => ?_)
      · have h19 : R7 fv 0 (fun x => (vaV G k c (d + x)).toNatClampNeg) := r7_of hv (by omega) (fun x hx => cl_le (by decide) (va_lm hM.W hc0 (by omega)))
        have h20 : R7 fe 0 (fun x => xe G k c (d + x)) := r7_of he (by omega) (fun x hx => xe_le hM.W (by omega))
        have hEb : B7 (fun x => xe G k c (d + x)) := fun x hx => (h20 x hx).2
        have hRb : B7 (fun x => (vaV G k c (d + x)).toNatClampNeg) := fun x hx => (h19 x hx).2
        have hB0 := h19
        have hs9 : zS G 1 ≤ 999 := hM.W.2.2.2.2.1
        refine j_aload_n C 1 rfl dX11_findWeek_64 ?_
        refine j_aload_n C 1 rfl dX11_findWeek_65 ?_
        refine j_iconst C (nI 0) (by decide) dX11_findWeek_66 ?_
        refine j_V1 C (o_misfit g kk (sF (sF (sF (sF (sF (sF (sF (sF σ 16 w1) 17 w2) 18 w3) 19 fv) 20 fe) 21 w5) 22 w6) 23 w7) k hk hk6 hI (fun x => xe G k c (d + x)) (fun x => (vaV G k c (d + x)).toNatClampNeg) h20 0 (by first | assumption | omega) h19) kyX11_misfit tb_1193 tb_1195 sp_35 0 rfl (eM_0 g kk _) rfl (Nat.le_of_ble_eq_true rfl) ⟨by decide, by decide⟩ dX11_findWeek_67 rfl (fun vr ur hp => ?_)
        obtain ⟨r11, rfl, hu, g10⟩ := hp
        replace hu := hu.symm
        subst hu
        subst g10
        have hm_fu := mis_b (E := (fun x => xe G k c (d + x))) (r := (fun x => (vaV G k c (d + x)).toNatClampNeg)) hEb hRb
        refine pM_0_30 C tb_903 dX11_findWeek_70 ?_
        refine j_aload_n C 1 rfl dX11_findWeek_73 ?_
        refine j_iconst C (nI 0) (by decide) dX11_findWeek_74 ?_
        refine pM_0_31 C tb_904 dX11_findWeek_75 ?_
        refine j_aload_n C 1 rfl dX11_findWeek_78 ?_
        refine j_bipush C ((-6)) (by decide) dX11_findWeek_79 ?_
        refine pM_0_32 C tb_905 dX11_findWeek_81 ?_
        refine j_aload_n C 1 rfl dX11_findWeek_84 ?_
        refine j_bipush C ((-6)) (by decide) dX11_findWeek_85 ?_
        refine pM_0_33 C tb_906 dX11_findWeek_87 ?_
        refine j_iconst C (nI 0) (by decide) dX11_findWeek_90 ?_
        refine j_istore_n C [(3, .int (nI 0)), (0, .ref (g 0)), (1, .int (nI c)), (2, .int (nI d))] rfl (by decide) rfl dX11_findWeek_91 ?_
        have L92 : ∀ (n92 : Nat) (a : Nat) (fr1 : Nat → Int32) (co3 : Nat) (z92_I31 : Int32) (z92_I32 : Int32) (i92_0 : a ≤ 38) (i92_1 : co3 ≤ 100000) (hr1 : R7 fr1 0 (fun x => (vaV G k c (d + x)).toNatClampNeg)) (hk1 : KM4 (bw1 (fun x => xe G k c (d + x)) (fun x => (vaV G k c (d + x)).toNatClampNeg) (zS G 1) a) co3 z92_I31 z92_I32 (-6)) (hm92 : 38 - a < n92), J X 0 0 (cM g kk (sI (sI (sI (sI (sF (sF (sF (sF (sF (sF (sF (sF σ 16 w1) 17 w2) 18 w3) 19 fr1) 20 fe) 21 w5) 22 w6) 23 w7) 30 (nI co3)) 31 z92_I31) 32 z92_I32) 33 (-6))) [(3, .int (nI a)), (0, .ref (g 0)), (1, .int (nI c)), (2, .int (nI d))] 92 [] := by
          intro n92
          induction n92 with
          | zero => intro a fr1 co3 z92_I31 z92_I32 i92_0 i92_1 hr1 hk1 hm; exact absurd hm (Nat.not_lt_zero _)
          | succ n92 ih92 =>
            intro a fr1 co3 z92_I31 z92_I32 i92_0 i92_1 hr1 hk1 hm92
            refine j_iload_n C 0 rfl dX11_findWeek_92 ?_
            refine j_bipush C (nI 38) (by decide) dX11_findWeek_93 ?_
            refine j_icmp_geN C 154 (by decide) (by omega) (by omega) dX11_findWeek_95 (fun c12 => ?_) (fun c12 => ?_)
            · refine j_iconst C (nI 0) (by decide) dX11_findWeek_154 ?_
              refine j_istore_n C [(3, .int (nI 0)), (0, .ref (g 0)), (1, .int (nI c)), (2, .int (nI d))] rfl (by decide) rfl dX11_findWeek_155 ?_
              have L156 : ∀ (n156 : Nat) (b : Nat) (fr2 : Nat → Int32) (co4 : Nat) (z156_I31 : Int32) (z156_I32 : Int32) (z156_I33 : Int32) (i156_0 : b ≤ 38) (i156_1 : co4 ≤ 100000) (hr2 : R7 fr2 0 (fun x => (vaV G k c (d + x)).toNatClampNeg)) (hk2 : KM4 (bw2 (fun x => xe G k c (d + x)) (fun x => (vaV G k c (d + x)).toNatClampNeg) (zS G 1) (bw1 (fun x => xe G k c (d + x)) (fun x => (vaV G k c (d + x)).toNatClampNeg) (zS G 1) 38) b) co4 z156_I31 z156_I32 z156_I33) (hm156 : 38 - b < n156), J X 0 0 (cM g kk (sI (sI (sI (sI (sF (sF (sF (sF (sF (sF (sF (sF σ 16 w1) 17 w2) 18 w3) 19 fr2) 20 fe) 21 w5) 22 w6) 23 w7) 30 (nI co4)) 31 z156_I31) 32 z156_I32) 33 z156_I33)) [(3, .int (nI b)), (0, .ref (g 0)), (1, .int (nI c)), (2, .int (nI d))] 156 [] := by
                intro n156
                induction n156 with
                | zero => intro b fr2 co4 z156_I31 z156_I32 z156_I33 i156_0 i156_1 hr2 hk2 hm; exact absurd hm (Nat.not_lt_zero _)
                | succ n156 ih156 =>
                  intro b fr2 co4 z156_I31 z156_I32 z156_I33 i156_0 i156_1 hr2 hk2 hm156
                  refine j_iload_n C 0 rfl dX11_findWeek_156 ?_
                  refine j_bipush C (nI 38) (by decide) dX11_findWeek_157 ?_
                  refine j_icmp_geN C 254 (by decide) (by omega) (by omega) dX11_findWeek_159 (fun c13 => ?_) (fun c13 => ?_)
                  · exact j_vret C E (sI (sI (sI (sI (sF (sF (sF (sF (sF (sF (sF (sF σ 16 w1) 17 w2) 18 w3) 19 fr2) 20 fe) 21 w5) 22 w6) 23 w7) 30 (nI co4)) 31 z156_I31) 32 z156_I32) 33 z156_I33) ⟨rfl, ⟨w1, w2, w3, fr2, fe, w5, w6, w7, co4, z156_I31, z156_I32, z156_I33, rfl, ⟨by omega, by have z := hk2; rw [show b = 38 by omega] at z; exact z⟩, g8⟩⟩ rfl dX11_findWeek_254
                  · refine j_aload_n C 1 rfl dX11_findWeek_162 ?_
                    refine j_iconst C (nI 0) (by decide) dX11_findWeek_163 ?_
                    refine j_iload_n C 0 rfl dX11_findWeek_164 ?_
                    refine j_V1 C (o_mend g kk (sI (sI (sI (sI (sF (sF (sF (sF (sF (sF (sF (sF σ 16 w1) 17 w2) 18 w3) 19 fr2) 20 fe) 21 w5) 22 w6) 23 w7) 30 (nI co4)) 31 z156_I31) 32 z156_I32) 33 z156_I33) k hk hk6 hI (fun x => xe G k c (d + x)) (fun x => (vaV G k c (d + x)).toNatClampNeg) h20 g8 0 (by first | assumption | omega) b (by first | assumption | omega) hr2) kyX11_mend tb_1197 tb_1199 sp_36 0 rfl (eM_0 g kk _) rfl (Nat.le_of_ble_eq_true rfl) ⟨by decide, by decide⟩ dX11_findWeek_165 rfl (fun vr ur hp => ?_)
                    obtain ⟨r17, rfl, w14, hu, g15, g16⟩ := hp
                    replace hu := hu.symm
                    subst hu
                    rcases g15 with ⟨q9, hq9, hr9, hMq⟩ | ⟨hq9, hr9⟩
                    · subst hr9
                      have hRq : R7 w14 7 q9 := RM_r hMq (mdV_b (by omega) (fun x hx => (hB0 x hx).2) hq9)
                      refine j_if_eqN C 248 (by decide) (by omega) dX11_findWeek_168 (fun c18 => ?_) (fun c18 => ?_)
                      · exact absurd c18 (by decide)
                      · refine j_iconst C (nI 0) (by decide) dX11_findWeek_171 ?_
                        refine j_istore C [(4, .int (nI 0)), (3, .int (nI b)), (0, .ref (g 0)), (1, .int (nI c)), (2, .int (nI d))] (by decide) rfl dX11_findWeek_172 ?_
                        have L174 : ∀ (n174 : Nat) (e9 : Nat) (fr3 : Nat → Int32) (co5 : Nat) (z174_I31 : Int32) (z174_I32 : Int32) (z174_I33 : Int32) (i174_0 : e9 ≤ 38) (i174_1 : co5 ≤ 100000) (hr3 : R7 fr3 0 (fun x => (vaV G k c (d + x)).toNatClampNeg)) (hRq2 : R7 fr3 7 q9) (hk3 : KM4 (bwi (fun x => xe G k c (d + x)) q9 (zS G 1) b (bw2 (fun x => xe G k c (d + x)) (fun x => (vaV G k c (d + x)).toNatClampNeg) (zS G 1) (bw1 (fun x => xe G k c (d + x)) (fun x => (vaV G k c (d + x)).toNatClampNeg) (zS G 1) 38) b) e9) co5 z174_I31 z174_I32 z174_I33) (hm174 : 38 - e9 < n174), J X 0 0 (cM g kk (sI (sI (sI (sI (sF (sF (sF (sF (sF (sF (sF (sF σ 16 w1) 17 w2) 18 w3) 19 fr3) 20 fe) 21 w5) 22 w6) 23 w7) 30 (nI co5)) 31 z174_I31) 32 z174_I32) 33 z174_I33)) [(4, .int (nI e9)), (3, .int (nI b)), (0, .ref (g 0)), (1, .int (nI c)), (2, .int (nI d))] 174 [] := by
                          intro n174
                          induction n174 with
                          | zero => intro e9 fr3 co5 z174_I31 z174_I32 z174_I33 i174_0 i174_1 hr3 hRq2 hk3 hm; exact absurd hm (Nat.not_lt_zero _)
                          | succ n174 ih174 =>
                            intro e9 fr3 co5 z174_I31 z174_I32 z174_I33 i174_0 i174_1 hr3 hRq2 hk3 hm174
                            refine j_iload C 0 rfl dX11_findWeek_174 ?_
                            refine j_bipush C (nI 38) (by decide) dX11_findWeek_176 ?_
                            refine j_icmp_geN C 248 (by decide) (by omega) (by omega) dX11_findWeek_178 (fun c19 => ?_) (fun c19 => ?_)
                            · refine j_iinc C (nI (b + 1)) [(3, .int (nI (b + 1))), (4, .int (nI e9)), (0, .ref (g 0)), (1, .int (nI c)), (2, .int (nI d))] 1 rfl (by rw [show Int32.ofInt 1 = nI 1 from by decide, nI_add]) (by decide) rfl dX11_findWeek_248 ?_
                              refine j_goto C 156 (by decide) dX11_findWeek_251 ?_
                              refine j_sub (lv' := [(3, .int (nI (b + 1))), (0, .ref (g 0)), (1, .int (nI c)), (2, .int (nI d))]) [0, 2, 3, 4] rfl ?_
                              exact ih156 (b + 1) fr3 co5 z174_I31 z174_I32 z174_I33 (by omega) (by omega) hr3 (KM_e (by have z := hk3; rw [show e9 = 38 by omega] at z; exact z) (bw2_y hq9)) (by omega)
                            · refine j_aload_n C 2 rfl dX11_findWeek_181 ?_
                              refine j_iconst C (nI 1) (by decide) dX11_findWeek_182 ?_
                              refine j_iload C 0 rfl dX11_findWeek_183 ?_
                              refine j_V1 C (o_mend g kk (sI (sI (sI (sI (sF (sF (sF (sF (sF (sF (sF (sF σ 16 w1) 17 w2) 18 w3) 19 fr3) 20 fe) 21 w5) 22 w6) 23 w7) 30 (nI co5)) 31 z174_I31) 32 z174_I32) 33 z174_I33) k hk hk6 hI (fun x => xe G k c (d + x)) q9 h20 g8 1 (by first | assumption | omega) e9 (by first | assumption | omega) hRq2) kyX11_mend tb_1197 tb_1199 sp_36 0 rfl (eM_0 g kk _) rfl (Nat.le_of_ble_eq_true rfl) ⟨by decide, by decide⟩ dX11_findWeek_185 rfl (fun vr ur hp => ?_)
                              obtain ⟨r23, rfl, w20, hu, g21, g22⟩ := hp
                              replace hu := hu.symm
                              subst hu
                              rcases g21 with ⟨t9, ht9, hr9, hMt⟩ | ⟨ht9, hr9⟩
                              · subst hr9
                                have hRt : R7 w20 14 t9 := RM_r hMt (mdV_b (by omega) (fun x hx => (hRq2 x hx).2) ht9)
                                refine j_if_eqN C 242 (by decide) (by omega) dX11_findWeek_188 (fun c24 => ?_) (fun c24 => ?_)
                                · exact absurd c24 (by decide)
                                · refine j_aload_n C 2 rfl dX11_findWeek_191 ?_
                                  refine j_iconst C (nI 2) (by decide) dX11_findWeek_192 ?_
                                  refine j_V1 C (o_misfit g kk (sF (sI (sI (sI (sI (sF (sF (sF (sF (sF (sF (sF (sF σ 16 w1) 17 w2) 18 w3) 19 fr3) 20 fe) 21 w5) 22 w6) 23 w7) 30 (nI co5)) 31 z174_I31) 32 z174_I32) 33 z174_I33) 19 w20) k hk hk6 hI (fun x => xe G k c (d + x)) t9 h20 2 (by first | assumption | omega) hRt) kyX11_misfit tb_1193 tb_1195 sp_35 0 rfl (eM_0 g kk _) rfl (Nat.le_of_ble_eq_true rfl) ⟨by decide, by decide⟩ dX11_findWeek_193 rfl (fun vr ur hp => ?_)
                                  obtain ⟨r26, rfl, hu, g25⟩ := hp
                                  replace hu := hu.symm
                                  subst hu
                                  subst g25
                                  have hm_t9 := mis_b (E := (fun x => xe G k c (d + x))) (r := t9) hEb (fun x hx => (hRt x hx).2)
                                  refine j_iconst C (nI 2) (by decide) dX11_findWeek_196 ?_
                                  refine j_aload_n C 2 rfl dX11_findWeek_197 ?_
                                  refine gM_0_11 C tb_884 (nI (zS G 1)) hM.S1 dX11_findWeek_198 ?_
                                  refine j_imulN C dX11_findWeek_201 ?_
                                  refine j_iaddN C dX11_findWeek_202 ?_
                                  refine j_aload_n C 2 rfl dX11_findWeek_203 ?_
                                  refine gM_0_30 C tb_903 (nI co5) rfl dX11_findWeek_204 ?_
                                  refine j_icmp_geN C 242 (by decide) (by omega) (by omega) dX11_findWeek_207 (fun c27 => ?_) (fun c27 => ?_)
                                  · refine j_iinc C (nI (e9 + 1)) [(4, .int (nI (e9 + 1))), (3, .int (nI b)), (0, .ref (g 0)), (1, .int (nI c)), (2, .int (nI d))] 0 rfl (by rw [show Int32.ofInt 1 = nI 1 from by decide, nI_add]) (by decide) rfl dX11_findWeek_242 ?_
                                    refine j_goto C 174 (by decide) dX11_findWeek_245 ?_
                                    refine j_w (cM g kk (sI (sI (sI (sI (sF (sF (sF (sF (sF (sF (sF (sF σ 16 w1) 17 w2) 18 w3) 19 w20) 20 fe) 21 w5) 22 w6) 23 w7) 30 (nI co5)) 31 z174_I31) 32 z174_I32) 33 z174_I33)) (congrArg (cM g kk) (show sF (sI (sI (sI (sI (sF (sF (sF (sF (sF (sF (sF (sF σ 16 w1) 17 w2) 18 w3) 19 fr3) 20 fe) 21 w5) 22 w6) 23 w7) 30 (nI co5)) 31 z174_I31) 32 z174_I32) 33 z174_I33) 19 w20 = sI (sI (sI (sI (sF (sF (sF (sF (sF (sF (sF (sF σ 16 w1) 17 w2) 18 w3) 19 w20) 20 fe) 21 w5) 22 w6) 23 w7) 30 (nI co5)) 31 z174_I31) 32 z174_I32) 33 z174_I33 from (Eq.trans wrFI (wrI (Eq.trans wrFI (wrI (Eq.trans wrFI (wrI (Eq.trans wrFI (wrI (Eq.trans (wrFc (by decide)) (wrF (Eq.trans (wrFc (by decide)) (wrF (Eq.trans (wrFc (by decide)) (wrF (Eq.trans (wrFc (by decide)) (wrF wrFs)))))))))))))))))) ?_
                                    exact ih174 (e9 + 1) w20 co5 z174_I31 z174_I32 z174_I33 (by omega) (by omega) (R7_k hr3 (fun j hj => g22 j (by omega))) (R7_k hRq2 (fun j hj => g22 j (by omega))) (KM_e (KM_n hk3 (by omega)) (bwi_y ht9)) (by omega)
                                  · refine j_aload_n C 2 rfl dX11_findWeek_210 ?_
                                    refine j_aload_n C 2 rfl dX11_findWeek_211 ?_
                                    refine j_iconst C (nI 2) (by decide) dX11_findWeek_212 ?_
                                    refine j_V1 C (o_misfit g kk (sF (sI (sI (sI (sI (sF (sF (sF (sF (sF (sF (sF (sF σ 16 w1) 17 w2) 18 w3) 19 fr3) 20 fe) 21 w5) 22 w6) 23 w7) 30 (nI co5)) 31 z174_I31) 32 z174_I32) 33 z174_I33) 19 w20) k hk hk6 hI (fun x => xe G k c (d + x)) t9 h20 2 (by first | assumption | omega) hRt) kyX11_misfit tb_1193 tb_1195 sp_35 0 rfl (eM_0 g kk _) rfl (Nat.le_of_ble_eq_true rfl) ⟨by decide, by decide⟩ dX11_findWeek_213 rfl (fun vr ur hp => ?_)
                                    obtain ⟨r29, rfl, hu, g28⟩ := hp
                                    replace hu := hu.symm
                                    subst hu
                                    subst g28
                                    have hm_t9 := mis_b (E := (fun x => xe G k c (d + x))) (r := t9) hEb (fun x hx => (hRt x hx).2)
                                    refine j_iconst C (nI 2) (by decide) dX11_findWeek_216 ?_
                                    refine j_aload_n C 2 rfl dX11_findWeek_217 ?_
                                    refine gM_0_11 C tb_884 (nI (zS G 1)) hM.S1 dX11_findWeek_218 ?_
                                    refine j_imulN C dX11_findWeek_221 ?_
                                    refine j_iaddN C dX11_findWeek_222 ?_
                                    refine pM_0_30 C tb_903 dX11_findWeek_223 ?_
                                    refine j_aload_n C 2 rfl dX11_findWeek_226 ?_
                                    refine j_iconst C (nI 2) (by decide) dX11_findWeek_227 ?_
                                    refine pM_0_31 C tb_904 dX11_findWeek_228 ?_
                                    refine j_aload_n C 2 rfl dX11_findWeek_231 ?_
                                    refine j_iload_n C 1 rfl dX11_findWeek_232 ?_
                                    refine pM_0_32 C tb_905 dX11_findWeek_233 ?_
                                    refine j_aload_n C 2 rfl dX11_findWeek_236 ?_
                                    refine j_iload C 0 rfl dX11_findWeek_237 ?_
                                    refine pM_0_33 C tb_906 dX11_findWeek_239 ?_
                                    refine j_iinc C (nI (e9 + 1)) [(4, .int (nI (e9 + 1))), (3, .int (nI b)), (0, .ref (g 0)), (1, .int (nI c)), (2, .int (nI d))] 0 rfl (by rw [show Int32.ofInt 1 = nI 1 from by decide, nI_add]) (by decide) rfl dX11_findWeek_242 ?_
                                    refine j_goto C 174 (by decide) dX11_findWeek_245 ?_
                                    refine j_w (cM g kk (sI (sI (sI (sI (sF (sF (sF (sF (sF (sF (sF (sF σ 16 w1) 17 w2) 18 w3) 19 w20) 20 fe) 21 w5) 22 w6) 23 w7) 30 (nI ((mis (fun x => xe G k c (d + x)) t9) + (2 * (zS G 1))))) 31 (nI 2)) 32 (nI b)) 33 (nI e9))) (congrArg (cM g kk) (show sI (sI (sI (sI (sF (sI (sI (sI (sI (sF (sF (sF (sF (sF (sF (sF (sF σ 16 w1) 17 w2) 18 w3) 19 fr3) 20 fe) 21 w5) 22 w6) 23 w7) 30 (nI co5)) 31 z174_I31) 32 z174_I32) 33 z174_I33) 19 w20) 30 (nI ((mis (fun x => xe G k c (d + x)) t9) + (2 * (zS G 1))))) 31 (nI 2)) 32 (nI b)) 33 (nI e9) = sI (sI (sI (sI (sF (sF (sF (sF (sF (sF (sF (sF σ 16 w1) 17 w2) 18 w3) 19 w20) 20 fe) 21 w5) 22 w6) 23 w7) 30 (nI ((mis (fun x => xe G k c (d + x)) t9) + (2 * (zS G 1))))) 31 (nI 2)) 32 (nI b)) 33 (nI e9) from (Eq.trans (wrI (Eq.trans (wrI (Eq.trans (wrI (Eq.trans (wrI (Eq.trans wrFI (wrI (Eq.trans wrFI (wrI (Eq.trans wrFI (wrI (Eq.trans wrFI (wrI (Eq.trans (wrFc (by decide)) (wrF (Eq.trans (wrFc (by decide)) (wrF (Eq.trans (wrFc (by decide)) (wrF (Eq.trans (wrFc (by decide)) (wrF wrFs))))))))))))))))) (Eq.trans (wrIc (by decide)) (wrI (Eq.trans (wrIc (by decide)) (wrI (Eq.trans (wrIc (by decide)) (wrI wrIs)))))))) (Eq.trans (wrIc (by decide)) (wrI (Eq.trans (wrIc (by decide)) (wrI wrIs)))))) (Eq.trans (wrIc (by decide)) (wrI wrIs)))) wrIs))) ?_
                                    exact ih174 (e9 + 1) w20 ((mis (fun x => xe G k c (d + x)) t9) + (2 * (zS G 1))) (nI 2) (nI b) (nI e9) (by omega) (by omega) (R7_k hr3 (fun j hj => g22 j (by omega))) (R7_k hRq2 (fun j hj => g22 j (by omega))) (KM_e (KM_y (n := 2) (a := some b) (b := some e9) hk3 (by omega)) (bwi_y ht9)) (by omega)
                              · subst hr9
                                refine j_if_eqN C 242 (by decide) (by omega) dX11_findWeek_188 (fun c30 => ?_) (fun c30 => ?_)
                                · refine j_iinc C (nI (e9 + 1)) [(4, .int (nI (e9 + 1))), (3, .int (nI b)), (0, .ref (g 0)), (1, .int (nI c)), (2, .int (nI d))] 0 rfl (by rw [show Int32.ofInt 1 = nI 1 from by decide, nI_add]) (by decide) rfl dX11_findWeek_242 ?_
                                  refine j_goto C 174 (by decide) dX11_findWeek_245 ?_
                                  refine j_w (cM g kk (sI (sI (sI (sI (sF (sF (sF (sF (sF (sF (sF (sF σ 16 w1) 17 w2) 18 w3) 19 w20) 20 fe) 21 w5) 22 w6) 23 w7) 30 (nI co5)) 31 z174_I31) 32 z174_I32) 33 z174_I33)) (congrArg (cM g kk) (show sF (sI (sI (sI (sI (sF (sF (sF (sF (sF (sF (sF (sF σ 16 w1) 17 w2) 18 w3) 19 fr3) 20 fe) 21 w5) 22 w6) 23 w7) 30 (nI co5)) 31 z174_I31) 32 z174_I32) 33 z174_I33) 19 w20 = sI (sI (sI (sI (sF (sF (sF (sF (sF (sF (sF (sF σ 16 w1) 17 w2) 18 w3) 19 w20) 20 fe) 21 w5) 22 w6) 23 w7) 30 (nI co5)) 31 z174_I31) 32 z174_I32) 33 z174_I33 from (Eq.trans wrFI (wrI (Eq.trans wrFI (wrI (Eq.trans wrFI (wrI (Eq.trans wrFI (wrI (Eq.trans (wrFc (by decide)) (wrF (Eq.trans (wrFc (by decide)) (wrF (Eq.trans (wrFc (by decide)) (wrF (Eq.trans (wrFc (by decide)) (wrF wrFs)))))))))))))))))) ?_
                                  exact ih174 (e9 + 1) w20 co5 z174_I31 z174_I32 z174_I33 (by omega) (by omega) (R7_k hr3 (fun j hj => g22 j (by omega))) (R7_k hRq2 (fun j hj => g22 j (by omega))) (KM_e hk3 (bwi_n ht9)) (by omega)
                                · exact absurd c30 (by decide)
                        refine j_w (cM g kk (sI (sI (sI (sI (sF (sF (sF (sF (sF (sF (sF (sF σ 16 w1) 17 w2) 18 w3) 19 w14) 20 fe) 21 w5) 22 w6) 23 w7) 30 (nI co4)) 31 z156_I31) 32 z156_I32) 33 z156_I33)) (congrArg (cM g kk) (show sF (sI (sI (sI (sI (sF (sF (sF (sF (sF (sF (sF (sF σ 16 w1) 17 w2) 18 w3) 19 fr2) 20 fe) 21 w5) 22 w6) 23 w7) 30 (nI co4)) 31 z156_I31) 32 z156_I32) 33 z156_I33) 19 w14 = sI (sI (sI (sI (sF (sF (sF (sF (sF (sF (sF (sF σ 16 w1) 17 w2) 18 w3) 19 w14) 20 fe) 21 w5) 22 w6) 23 w7) 30 (nI co4)) 31 z156_I31) 32 z156_I32) 33 z156_I33 from (Eq.trans wrFI (wrI (Eq.trans wrFI (wrI (Eq.trans wrFI (wrI (Eq.trans wrFI (wrI (Eq.trans (wrFc (by decide)) (wrF (Eq.trans (wrFc (by decide)) (wrF (Eq.trans (wrFc (by decide)) (wrF (Eq.trans (wrFc (by decide)) (wrF wrFs)))))))))))))))))) ?_
                        exact L174 _ 0 w14 co4 z156_I31 z156_I32 z156_I33 (by omega) (by omega) (R7_k hr2 (fun j hj => g16 j (by omega))) hRq hk2 (Nat.lt_succ_self _)
                    · subst hr9
                      refine j_if_eqN C 248 (by decide) (by omega) dX11_findWeek_168 (fun c31 => ?_) (fun c31 => ?_)
                      · refine j_iinc C (nI (b + 1)) [(3, .int (nI (b + 1))), (0, .ref (g 0)), (1, .int (nI c)), (2, .int (nI d))] 0 rfl (by rw [show Int32.ofInt 1 = nI 1 from by decide, nI_add]) (by decide) rfl dX11_findWeek_248 ?_
                        refine j_goto C 156 (by decide) dX11_findWeek_251 ?_
                        refine j_w (cM g kk (sI (sI (sI (sI (sF (sF (sF (sF (sF (sF (sF (sF σ 16 w1) 17 w2) 18 w3) 19 w14) 20 fe) 21 w5) 22 w6) 23 w7) 30 (nI co4)) 31 z156_I31) 32 z156_I32) 33 z156_I33)) (congrArg (cM g kk) (show sF (sI (sI (sI (sI (sF (sF (sF (sF (sF (sF (sF (sF σ 16 w1) 17 w2) 18 w3) 19 fr2) 20 fe) 21 w5) 22 w6) 23 w7) 30 (nI co4)) 31 z156_I31) 32 z156_I32) 33 z156_I33) 19 w14 = sI (sI (sI (sI (sF (sF (sF (sF (sF (sF (sF (sF σ 16 w1) 17 w2) 18 w3) 19 w14) 20 fe) 21 w5) 22 w6) 23 w7) 30 (nI co4)) 31 z156_I31) 32 z156_I32) 33 z156_I33 from (Eq.trans wrFI (wrI (Eq.trans wrFI (wrI (Eq.trans wrFI (wrI (Eq.trans wrFI (wrI (Eq.trans (wrFc (by decide)) (wrF (Eq.trans (wrFc (by decide)) (wrF (Eq.trans (wrFc (by decide)) (wrF (Eq.trans (wrFc (by decide)) (wrF wrFs)))))))))))))))))) ?_
                        exact ih156 (b + 1) w14 co4 z156_I31 z156_I32 z156_I33 (by omega) (by omega) (R7_k hr2 (fun j hj => g16 j (by omega))) (KM_e hk2 (bw2_n hq9)) (by omega)
                      · exact absurd c31 (by decide)
              exact L156 _ 0 fr1 co3 z92_I31 z92_I32 (-6) (by omega) (by omega) hr1 (by have z := hk1; rw [show a = 38 by omega] at z; exact z) (Nat.lt_succ_self _)
            · refine j_aload_n C 1 rfl dX11_findWeek_98 ?_
              refine j_iconst C (nI 0) (by decide) dX11_findWeek_99 ?_
              refine j_iload_n C 0 rfl dX11_findWeek_100 ?_
              refine j_V1 C (o_mend g kk (sI (sI (sI (sI (sF (sF (sF (sF (sF (sF (sF (sF σ 16 w1) 17 w2) 18 w3) 19 fr1) 20 fe) 21 w5) 22 w6) 23 w7) 30 (nI co3)) 31 z92_I31) 32 z92_I32) 33 (-6)) k hk hk6 hI (fun x => xe G k c (d + x)) (fun x => (vaV G k c (d + x)).toNatClampNeg) h20 g8 0 (by first | assumption | omega) a (by first | assumption | omega) hr1) kyX11_mend tb_1197 tb_1199 sp_36 0 rfl (eM_0 g kk _) rfl (Nat.le_of_ble_eq_true rfl) ⟨by decide, by decide⟩ dX11_findWeek_101 rfl (fun vr ur hp => ?_)
              obtain ⟨r35, rfl, w32, hu, g33, g34⟩ := hp
              replace hu := hu.symm
              subst hu
              rcases g33 with ⟨q9, hq9, hr9, hMq⟩ | ⟨hq9, hr9⟩
              · subst hr9
                have hRq : R7 w32 7 q9 := RM_r hMq (mdV_b (by omega) (fun x hx => (hB0 x hx).2) hq9)
                refine j_if_eqN C 148 (by decide) (by omega) dX11_findWeek_104 (fun c36 => ?_) (fun c36 => ?_)
                · exact absurd c36 (by decide)
                · have hRqq := hRq
                  refine j_aload_n C 1 rfl dX11_findWeek_107 ?_
                  refine j_iconst C (nI 1) (by decide) dX11_findWeek_108 ?_
                  refine j_V1 C (o_misfit g kk (sF (sI (sI (sI (sI (sF (sF (sF (sF (sF (sF (sF (sF σ 16 w1) 17 w2) 18 w3) 19 fr1) 20 fe) 21 w5) 22 w6) 23 w7) 30 (nI co3)) 31 z92_I31) 32 z92_I32) 33 (-6)) 19 w32) k hk hk6 hI (fun x => xe G k c (d + x)) q9 h20 1 (by first | assumption | omega) hRq) kyX11_misfit tb_1193 tb_1195 sp_35 0 rfl (eM_0 g kk _) rfl (Nat.le_of_ble_eq_true rfl) ⟨by decide, by decide⟩ dX11_findWeek_109 rfl (fun vr ur hp => ?_)
                  obtain ⟨r38, rfl, hu, g37⟩ := hp
                  replace hu := hu.symm
                  subst hu
                  subst g37
                  have hm_q9 := mis_b (E := (fun x => xe G k c (d + x))) (r := q9) hEb (fun x hx => (hRqq x hx).2)
                  refine j_aload_n C 1 rfl dX11_findWeek_112 ?_
                  refine gM_0_11 C tb_884 (nI (zS G 1)) hM.S1 dX11_findWeek_113 ?_
                  refine j_iaddN C dX11_findWeek_116 ?_
                  refine j_aload_n C 1 rfl dX11_findWeek_117 ?_
                  refine gM_0_30 C tb_903 (nI co3) rfl dX11_findWeek_118 ?_
                  refine j_icmp_geN C 148 (by decide) (by omega) (by omega) dX11_findWeek_121 (fun c39 => ?_) (fun c39 => ?_)
                  · refine j_iinc C (nI (a + 1)) [(3, .int (nI (a + 1))), (0, .ref (g 0)), (1, .int (nI c)), (2, .int (nI d))] 0 rfl (by rw [show Int32.ofInt 1 = nI 1 from by decide, nI_add]) (by decide) rfl dX11_findWeek_148 ?_
                    refine j_goto C 92 (by decide) dX11_findWeek_151 ?_
                    refine j_w (cM g kk (sI (sI (sI (sI (sF (sF (sF (sF (sF (sF (sF (sF σ 16 w1) 17 w2) 18 w3) 19 w32) 20 fe) 21 w5) 22 w6) 23 w7) 30 (nI co3)) 31 z92_I31) 32 z92_I32) 33 (-6))) (congrArg (cM g kk) (show sF (sI (sI (sI (sI (sF (sF (sF (sF (sF (sF (sF (sF σ 16 w1) 17 w2) 18 w3) 19 fr1) 20 fe) 21 w5) 22 w6) 23 w7) 30 (nI co3)) 31 z92_I31) 32 z92_I32) 33 (-6)) 19 w32 = sI (sI (sI (sI (sF (sF (sF (sF (sF (sF (sF (sF σ 16 w1) 17 w2) 18 w3) 19 w32) 20 fe) 21 w5) 22 w6) 23 w7) 30 (nI co3)) 31 z92_I31) 32 z92_I32) 33 (-6) from (Eq.trans wrFI (wrI (Eq.trans wrFI (wrI (Eq.trans wrFI (wrI (Eq.trans wrFI (wrI (Eq.trans (wrFc (by decide)) (wrF (Eq.trans (wrFc (by decide)) (wrF (Eq.trans (wrFc (by decide)) (wrF (Eq.trans (wrFc (by decide)) (wrF wrFs)))))))))))))))))) ?_
                    exact ih92 (a + 1) w32 co3 z92_I31 z92_I32 (by omega) (by omega) (R7_k hr1 (fun j hj => g34 j (by omega))) (KM_e (KM_n hk1 (by omega)) (bw1_y hq9)) (by omega)
                  · refine j_aload_n C 1 rfl dX11_findWeek_124 ?_
                    refine j_aload_n C 1 rfl dX11_findWeek_125 ?_
                    refine j_iconst C (nI 1) (by decide) dX11_findWeek_126 ?_
                    refine j_V1 C (o_misfit g kk (sF (sI (sI (sI (sI (sF (sF (sF (sF (sF (sF (sF (sF σ 16 w1) 17 w2) 18 w3) 19 fr1) 20 fe) 21 w5) 22 w6) 23 w7) 30 (nI co3)) 31 z92_I31) 32 z92_I32) 33 (-6)) 19 w32) k hk hk6 hI (fun x => xe G k c (d + x)) q9 h20 1 (by first | assumption | omega) hRq) kyX11_misfit tb_1193 tb_1195 sp_35 0 rfl (eM_0 g kk _) rfl (Nat.le_of_ble_eq_true rfl) ⟨by decide, by decide⟩ dX11_findWeek_127 rfl (fun vr ur hp => ?_)
                    obtain ⟨r41, rfl, hu, g40⟩ := hp
                    replace hu := hu.symm
                    subst hu
                    subst g40
                    have hm_q9 := mis_b (E := (fun x => xe G k c (d + x))) (r := q9) hEb (fun x hx => (hRqq x hx).2)
                    refine j_aload_n C 1 rfl dX11_findWeek_130 ?_
                    refine gM_0_11 C tb_884 (nI (zS G 1)) hM.S1 dX11_findWeek_131 ?_
                    refine j_iaddN C dX11_findWeek_134 ?_
                    refine pM_0_30 C tb_903 dX11_findWeek_135 ?_
                    refine j_aload_n C 1 rfl dX11_findWeek_138 ?_
                    refine j_iconst C (nI 1) (by decide) dX11_findWeek_139 ?_
                    refine pM_0_31 C tb_904 dX11_findWeek_140 ?_
                    refine j_aload_n C 1 rfl dX11_findWeek_143 ?_
                    refine j_iload_n C 0 rfl dX11_findWeek_144 ?_
                    refine pM_0_32 C tb_905 dX11_findWeek_145 ?_
                    refine j_iinc C (nI (a + 1)) [(3, .int (nI (a + 1))), (0, .ref (g 0)), (1, .int (nI c)), (2, .int (nI d))] 0 rfl (by rw [show Int32.ofInt 1 = nI 1 from by decide, nI_add]) (by decide) rfl dX11_findWeek_148 ?_
                    refine j_goto C 92 (by decide) dX11_findWeek_151 ?_
                    refine j_w (cM g kk (sI (sI (sI (sI (sF (sF (sF (sF (sF (sF (sF (sF σ 16 w1) 17 w2) 18 w3) 19 w32) 20 fe) 21 w5) 22 w6) 23 w7) 30 (nI ((mis (fun x => xe G k c (d + x)) q9) + (zS G 1)))) 31 (nI 1)) 32 (nI a)) 33 (-6))) (congrArg (cM g kk) (show sI (sI (sI (sF (sI (sI (sI (sI (sF (sF (sF (sF (sF (sF (sF (sF σ 16 w1) 17 w2) 18 w3) 19 fr1) 20 fe) 21 w5) 22 w6) 23 w7) 30 (nI co3)) 31 z92_I31) 32 z92_I32) 33 (-6)) 19 w32) 30 (nI ((mis (fun x => xe G k c (d + x)) q9) + (zS G 1)))) 31 (nI 1)) 32 (nI a) = sI (sI (sI (sI (sF (sF (sF (sF (sF (sF (sF (sF σ 16 w1) 17 w2) 18 w3) 19 w32) 20 fe) 21 w5) 22 w6) 23 w7) 30 (nI ((mis (fun x => xe G k c (d + x)) q9) + (zS G 1)))) 31 (nI 1)) 32 (nI a)) 33 (-6) from (Eq.trans (wrI (Eq.trans (wrI (Eq.trans (wrI (Eq.trans wrFI (wrI (Eq.trans wrFI (wrI (Eq.trans wrFI (wrI (Eq.trans wrFI (wrI (Eq.trans (wrFc (by decide)) (wrF (Eq.trans (wrFc (by decide)) (wrF (Eq.trans (wrFc (by decide)) (wrF (Eq.trans (wrFc (by decide)) (wrF wrFs))))))))))))))))) (Eq.trans (wrIc (by decide)) (wrI (Eq.trans (wrIc (by decide)) (wrI (Eq.trans (wrIc (by decide)) (wrI wrIs)))))))) (Eq.trans (wrIc (by decide)) (wrI (Eq.trans (wrIc (by decide)) (wrI wrIs)))))) (Eq.trans (wrIc (by decide)) (wrI wrIs))))) ?_
                    exact ih92 (a + 1) w32 ((mis (fun x => xe G k c (d + x)) q9) + (zS G 1)) (nI 1) (nI a) (by omega) (by omega) (R7_k hr1 (fun j hj => g34 j (by omega))) (KM_e (KM_y (n := 1) (a := some a) (b := none) hk1 (by omega)) (bw1_y hq9)) (by omega)
              · subst hr9
                refine j_if_eqN C 148 (by decide) (by omega) dX11_findWeek_104 (fun c42 => ?_) (fun c42 => ?_)
                · refine j_iinc C (nI (a + 1)) [(3, .int (nI (a + 1))), (0, .ref (g 0)), (1, .int (nI c)), (2, .int (nI d))] 0 rfl (by rw [show Int32.ofInt 1 = nI 1 from by decide, nI_add]) (by decide) rfl dX11_findWeek_148 ?_
                  refine j_goto C 92 (by decide) dX11_findWeek_151 ?_
                  refine j_w (cM g kk (sI (sI (sI (sI (sF (sF (sF (sF (sF (sF (sF (sF σ 16 w1) 17 w2) 18 w3) 19 w32) 20 fe) 21 w5) 22 w6) 23 w7) 30 (nI co3)) 31 z92_I31) 32 z92_I32) 33 (-6))) (congrArg (cM g kk) (show sF (sI (sI (sI (sI (sF (sF (sF (sF (sF (sF (sF (sF σ 16 w1) 17 w2) 18 w3) 19 fr1) 20 fe) 21 w5) 22 w6) 23 w7) 30 (nI co3)) 31 z92_I31) 32 z92_I32) 33 (-6)) 19 w32 = sI (sI (sI (sI (sF (sF (sF (sF (sF (sF (sF (sF σ 16 w1) 17 w2) 18 w3) 19 w32) 20 fe) 21 w5) 22 w6) 23 w7) 30 (nI co3)) 31 z92_I31) 32 z92_I32) 33 (-6) from (Eq.trans wrFI (wrI (Eq.trans wrFI (wrI (Eq.trans wrFI (wrI (Eq.trans wrFI (wrI (Eq.trans (wrFc (by decide)) (wrF (Eq.trans (wrFc (by decide)) (wrF (Eq.trans (wrFc (by decide)) (wrF (Eq.trans (wrFc (by decide)) (wrF wrFs)))))))))))))))))) ?_
                  exact ih92 (a + 1) w32 co3 z92_I31 z92_I32 (by omega) (by omega) (R7_k hr1 (fun j hj => g34 j (by omega))) (KM_e hk1 (bw1_n hq9)) (by omega)
                · exact absurd c42 (by decide)
        exact L92 _ 0 fv (mis (fun x => xe G k c (d + x)) (fun x => (vaV G k c (d + x)).toNatClampNeg)) (nI 0) (-6) (by omega) (by omega) h19 ⟨rfl, rfl, rfl, rfl⟩ (Nat.lt_succ_self _)
      · refine j_aload_n C 1 rfl dX11_findWeek_16 ?_
        refine gM_0_25 C tb_898 dX11_findWeek_17 ?_
        refine j_iload_n C 0 rfl dX11_findWeek_20 ?_
        refine j_aload_n C 1 rfl dX11_findWeek_21 ?_
        refine gM_0_24 C tb_897 dX11_findWeek_22 ?_
        refine j_iload_n C 2 rfl dX11_findWeek_25 ?_
        refine j_iload_n C 3 rfl dX11_findWeek_26 ?_
        refine j_iload_n C 0 rfl dX11_findWeek_27 ?_
        refine j_iaddN C dX11_findWeek_28 ?_
        refine j_S01 C (m_at c (d + i)) kyX11_at tb_1060 tb_1061 rfl (Nat.le_of_ble_eq_true rfl) ⟨by decide, by decide⟩ ⟨by decide, by decide⟩ dX11_findWeek_29 rfl ?_
        refine rM_18 C (28 * c + (d + i)) rfl (by omega) (tr (vaV G k c (d + i))) (g4 c (d + i) hc0 (by omega)).2.2 dX11_findWeek_32 ?_
        refine j_S01 C (m_atLeast (tr (vaV G k c (d + i)))) kyX11_atLeast tb_1162 tb_1163 rfl (Nat.le_of_ble_eq_true rfl) ⟨by decide, by decide⟩ ⟨by decide, by decide⟩ dX11_findWeek_33 rfl ?_
        rw [al0 (by decide) (va_lm hM.W hc0 (show d + i < 28 by omega))]
        refine tM_19 C i rfl (by omega) dX11_findWeek_36 ?_
        refine j_aload_n C 1 rfl dX11_findWeek_37 ?_
        refine gM_0_26 C tb_899 dX11_findWeek_38 ?_
        refine j_iload_n C 0 rfl dX11_findWeek_41 ?_
        refine j_aload_n C 1 rfl dX11_findWeek_42 ?_
        refine gM_0_23 C tb_896 dX11_findWeek_43 ?_
        refine j_iload_n C 2 rfl dX11_findWeek_46 ?_
        refine j_iload_n C 3 rfl dX11_findWeek_47 ?_
        refine j_iload_n C 0 rfl dX11_findWeek_48 ?_
        refine j_iaddN C dX11_findWeek_49 ?_
        refine j_S01 C (m_at c (d + i)) kyX11_at tb_1060 tb_1061 rfl (Nat.le_of_ble_eq_true rfl) ⟨by decide, by decide⟩ ⟨by decide, by decide⟩ dX11_findWeek_50 rfl ?_
        refine rM_17 C (28 * c + (d + i)) rfl (by omega) (tr (exV G k c (d + i))) (g4 c (d + i) hc0 (by omega)).2.1 dX11_findWeek_53 ?_
        refine j_S01 C (m_atLeast (tr (exV G k c (d + i)))) kyX11_atLeast tb_1162 tb_1163 rfl (Nat.le_of_ble_eq_true rfl) ⟨by decide, by decide⟩ ⟨by decide, by decide⟩ dX11_findWeek_54 rfl ?_
        rw [al0 (by decide) (ex_lm (c := c) hM.W (show d + i < 28 by omega))]
        refine tM_20 C i rfl (by omega) dX11_findWeek_57 ?_
        refine j_iinc C (nI (i + 1)) [(3, .int (nI (i + 1))), (0, .ref (g 0)), (1, .int (nI c)), (2, .int (nI d))] 0 rfl (by rw [show Int32.ofInt 1 = nI 1 from by decide, nI_add]) (by decide) rfl dX11_findWeek_58 ?_
        refine j_goto C 10 (by decide) dX11_findWeek_61 ?_
        refine j_w (cM g kk (sF (sF (sF (sF (sF (sF (sF (sF σ 16 w1) 17 w2) 18 w3) 19 (upd fv i (nI ((vaV G k c (d + i)).toNatClampNeg)))) 20 (upd fe i (nI ((exV G k c (d + i)).toNatClampNeg)))) 21 w5) 22 w6) 23 w7)) (congrArg (cM g kk) (show sF (sF (sF (sF (sF (sF (sF (sF (sF (sF σ 16 w1) 17 w2) 18 w3) 19 fv) 20 fe) 21 w5) 22 w6) 23 w7) 19 (upd fv i (nI ((vaV G k c (d + i)).toNatClampNeg)))) 20 (upd fe i (nI ((exV G k c (d + i)).toNatClampNeg))) = sF (sF (sF (sF (sF (sF (sF (sF σ 16 w1) 17 w2) 18 w3) 19 (upd fv i (nI ((vaV G k c (d + i)).toNatClampNeg)))) 20 (upd fe i (nI ((exV G k c (d + i)).toNatClampNeg)))) 21 w5) 22 w6) 23 w7 from (Eq.trans (wrF (Eq.trans (wrFc (by decide)) (wrF (Eq.trans (wrFc (by decide)) (wrF (Eq.trans (wrFc (by decide)) (wrF (Eq.trans (wrFc (by decide)) (wrF wrFs))))))))) (Eq.trans (wrFc (by decide)) (wrF (Eq.trans (wrFc (by decide)) (wrF (Eq.trans (wrFc (by decide)) (wrF wrFs))))))))) ?_
        exact ih10 (i + 1) (upd fv i (nI ((vaV G k c (d + i)).toNatClampNeg))) (upd fe i (nI ((exV G k c (d + i)).toNatClampNeg))) (by omega) (fw_7 hv) (fw_7 he) (by omega)
  refine j_w (cM g kk (sF (sF (sF (sF (sF (sF (sF σ 16 w1) 17 w2) 18 w3) 21 w5) 22 w6) 23 w7) 19 (σ.2.1 19))) (congrArg (cM g kk) (wrFi (S := (sF (sF (sF (sF (sF (sF σ 16 w1) 17 w2) 18 w3) 21 w5) 22 w6) 23 w7)) (c := 19) (v := σ.2.1 19) (gtFF (by decide) (gtFF (by decide) (gtFF (by decide) (gtFF (by decide) (gtFF (by decide) (gtFF (by decide) rfl)))))))) ?_
  refine j_w (cM g kk (sF (sF (sF (sF (sF (sF (sF (sF σ 16 w1) 17 w2) 18 w3) 21 w5) 22 w6) 23 w7) 19 (σ.2.1 19)) 20 (σ.2.1 20))) (congrArg (cM g kk) (wrFi (S := (sF (sF (sF (sF (sF (sF (sF σ 16 w1) 17 w2) 18 w3) 21 w5) 22 w6) 23 w7) 19 (σ.2.1 19))) (c := 20) (v := σ.2.1 20) (gtFF (by decide) (gtFF (by decide) (gtFF (by decide) (gtFF (by decide) (gtFF (by decide) (gtFF (by decide) (gtFF (by decide) rfl))))))))) ?_
  refine j_w (cM g kk (sF (sF (sF (sF (sF (sF (sF (sF σ 16 w1) 17 w2) 18 w3) 19 (σ.2.1 19)) 20 (σ.2.1 20)) 21 w5) 22 w6) 23 w7)) (congrArg (cM g kk) (show sF (sF (sF (sF (sF (sF (sF (sF σ 16 w1) 17 w2) 18 w3) 21 w5) 22 w6) 23 w7) 19 (σ.2.1 19)) 20 (σ.2.1 20) = sF (sF (sF (sF (sF (sF (sF (sF σ 16 w1) 17 w2) 18 w3) 19 (σ.2.1 19)) 20 (σ.2.1 20)) 21 w5) 22 w6) 23 w7 from (Eq.trans (wrF (Eq.trans (wrFc (by decide)) (wrF (Eq.trans (wrFc (by decide)) (wrF (wrFc (by decide))))))) (Eq.trans (wrFc (by decide)) (wrF (Eq.trans (wrFc (by decide)) (wrF (wrFc (by decide))))))))) ?_
  exact L10 _ 0 (σ.2.1 19) (σ.2.1 20) (by omega) (fun x hx => absurd hx (by omega)) (fun x hx => absurd hx (by omega)) (Nat.lt_succ_self _)
theorem TB_mM {f g h : Nat → Int32} (H : TB f g h 38) : mM f g h := fun n hn => ⟨_, _, _, mdC_Q hn, (H n hn).1, (H n hn).2.1, (H n hn).2.2⟩
def lt38 (p : BW) : Prop := (∀ a, p.2.2.1 = some a → a < 38) ∧ ∀ a, p.2.2.2 = some a → a < 38
theorem lt38_k {p : BW} {c n : Nat} {a b : Option Nat} (h : lt38 p) (ha : ∀ x, a = some x → x < 38) (hb : ∀ x, b = some x → x < 38) : lt38 (bwk p c n a b) := by
  unfold bwk
  split
  · exact ⟨ha, hb⟩
  · exact h
theorem lt38_1 {Ew r : Nat → Nat} {pr : Nat} : ∀ a : Nat, a ≤ 38 → lt38 (bw1 Ew r pr a)
  | 0, _ => ⟨(fun a h => by cases h), (fun a h => by cases h)⟩
  | a + 1, ha => by
    rcases opt (mdV Ew r (mdC a)) with h | ⟨q, h⟩
    · rw [bw1_n h]; exact lt38_1 a (by omega)
    · rw [bw1_y h]; exact lt38_k (lt38_1 a (by omega)) (fun x hx => by cases hx; omega) (fun x hx => by cases hx)
theorem lt38_i {Ew q : Nat → Nat} {pr a : Nat} {p : BW} (ha : a < 38) (hp : lt38 p) : ∀ b : Nat, b ≤ 38 → lt38 (bwi Ew q pr a p b)
  | 0, _ => hp
  | b + 1, hb => by
    rcases opt (mdV Ew q (mdC b)) with h | ⟨z, h⟩
    · rw [bwi_n h]; exact lt38_i ha hp b (by omega)
    · rw [bwi_y h]; exact lt38_k (lt38_i ha hp b (by omega)) (fun x hx => by cases hx; omega) (fun x hx => by cases hx; omega)
theorem lt38_2 {Ew r : Nat → Nat} {pr : Nat} {p : BW} (hp : lt38 p) : ∀ a : Nat, a ≤ 38 → lt38 (bw2 Ew r pr p a)
  | 0, _ => hp
  | a + 1, ha => by
    rcases opt (mdV Ew r (mdC a)) with h | ⟨q, h⟩
    · rw [bw2_n h]; exact lt38_2 hp a (by omega)
    · rw [bw2_y h]; exact lt38_i (by omega) (lt38_2 hp a (by omega)) 38 (Nat.le_refl _)
theorem wk_lt1 {Ew r : Nat → Nat} {pr b : Nat} (h : (wkV Ew r pr).2.2.1 = some b) : b < 38 := (lt38_2 (lt38_1 38 (Nat.le_refl _)) 38 (Nat.le_refl _)).1 b h
theorem wk_lt2 {Ew r : Nat → Nat} {pr b : Nat} (h : (wkV Ew r pr).2.2.2 = some b) : b < 38 := (lt38_2 (lt38_1 38 (Nat.le_refl _)) 38 (Nat.le_refl _)).2 b h
theorem wk_t0 {o : Option Nat} (h : o = none) : -6 = tr (eco o) := by rw [h]; rfl
theorem wk_t1 {o : Option Nat} {b : Nat} (hb : b < 38) (h : o = some b) : nI (100 * (mdC b / 100) + 10 * (mdC b / 10 % 10) + mdC b % 10) = tr (eco o) := by
  rw [h, md_all]
  show _ = tr (nI (mdC b))
  rw [tr_n (by have := mdC_lt ⟨b, hb⟩; simp only at this; omega)]
set_option maxRecDepth 100000 in
set_option maxHeartbeats 4000000 in
theorem o_week (g kk : Nat → Nat) (σ : St) (k : Nat) (hk : σ.1 3 = nI k) (hk6 : k ≤ 6) (hI : iM σ) (nf : Nat) (hnf : σ.1 9 = nI nf) (hnfb : nf ≤ 20) (G : GD) (hM : HM G k nf σ) (hmm : mM (σ.2.1 21) (σ.2.1 22) (σ.2.1 23)) (x : Int32) (y : Int32) (z : Int32) : jM (S := St) yX11_week cX11_week 5 (some .int) { frames := 7, cells := 0, slots := 0, locals := 165 } kk (cM g kk σ) [.ref (g 0), .int x, .int y, .int z] (cM g kk) (rI (fun (r : Int32) (u : St) => ∃ (pF16 : Nat → Int32) (pF17 : Nat → Int32) (pF18 : Nat → Int32) (pF19 : Nat → Int32) (pF20 : Nat → Int32) (pF21 : Nat → Int32) (pF22 : Nat → Int32) (pF23 : Nat → Int32) (pI30 : Int32) (pI31 : Int32) (pI32 : Int32) (pI33 : Int32), u = sI (sI (sI (sI (sF (sF (sF (sF (sF (sF (sF (sF σ 16 pF16) 17 pF17) 18 pF18) 19 pF19) 20 pF20) 21 pF21) 22 pF22) 23 pF23) 30 pI30) 31 pI31) 32 pI32) 33 pI33 ∧ (r = wkF G k x y z) ∧ (mM pF21 pF22 pF23))) := by
  refine j_entry [(0, .ref (g 0)), (1, .int x), (2, .int y), (3, .int z)] (by decide) (Nat.le_of_ble_eq_true rfl) rfl ?_
  intro X C E HI
  refine j_aload_n C 0 rfl dX11_week_0 ?_
  refine j_iload_n C 1 rfl dX11_week_1 ?_
  refine j_V1 C (m_isCan g kk σ k hk hk6 x) kyX11_isCan tb_1067 tb_1069 sp_21 0 rfl (eM_0 g kk _) rfl (Nat.le_of_ble_eq_true rfl) ⟨by decide, by decide⟩ dX11_week_2 rfl (fun vr ur hp => ?_)
  obtain ⟨r, rfl, rfl, hu⟩ := hp
  replace hu := hu.symm
  subst hu
  refine j_if_eq C 20 (by decide) dX11_week_5 (fun c1 => ?_) (fun c1 => ?_)
  · replace c1 := bI_f c1
    refine j_iconst C ((-1)) (by decide) dX11_week_20 ?_
    refine j_w (cM g kk (sF σ 16 (σ.2.1 16))) (congrArg (cM g kk) (wrFi (S := σ) (c := 16) (v := σ.2.1 16) rfl)) ?_
    refine j_w (cM g kk (sF (sF σ 16 (σ.2.1 16)) 17 (σ.2.1 17))) (congrArg (cM g kk) (wrFi (S := (sF σ 16 (σ.2.1 16))) (c := 17) (v := σ.2.1 17) (gtFF (by decide) rfl))) ?_
    refine j_w (cM g kk (sF (sF (sF σ 16 (σ.2.1 16)) 17 (σ.2.1 17)) 18 (σ.2.1 18))) (congrArg (cM g kk) (wrFi (S := (sF (sF σ 16 (σ.2.1 16)) 17 (σ.2.1 17))) (c := 18) (v := σ.2.1 18) (gtFF (by decide) (gtFF (by decide) rfl)))) ?_
    refine j_w (cM g kk (sF (sF (sF (sF σ 16 (σ.2.1 16)) 17 (σ.2.1 17)) 18 (σ.2.1 18)) 19 (σ.2.1 19))) (congrArg (cM g kk) (wrFi (S := (sF (sF (sF σ 16 (σ.2.1 16)) 17 (σ.2.1 17)) 18 (σ.2.1 18))) (c := 19) (v := σ.2.1 19) (gtFF (by decide) (gtFF (by decide) (gtFF (by decide) rfl))))) ?_
    refine j_w (cM g kk (sF (sF (sF (sF (sF σ 16 (σ.2.1 16)) 17 (σ.2.1 17)) 18 (σ.2.1 18)) 19 (σ.2.1 19)) 20 (σ.2.1 20))) (congrArg (cM g kk) (wrFi (S := (sF (sF (sF (sF σ 16 (σ.2.1 16)) 17 (σ.2.1 17)) 18 (σ.2.1 18)) 19 (σ.2.1 19))) (c := 20) (v := σ.2.1 20) (gtFF (by decide) (gtFF (by decide) (gtFF (by decide) (gtFF (by decide) rfl)))))) ?_
    refine j_w (cM g kk (sF (sF (sF (sF (sF (sF σ 16 (σ.2.1 16)) 17 (σ.2.1 17)) 18 (σ.2.1 18)) 19 (σ.2.1 19)) 20 (σ.2.1 20)) 21 (σ.2.1 21))) (congrArg (cM g kk) (wrFi (S := (sF (sF (sF (sF (sF σ 16 (σ.2.1 16)) 17 (σ.2.1 17)) 18 (σ.2.1 18)) 19 (σ.2.1 19)) 20 (σ.2.1 20))) (c := 21) (v := σ.2.1 21) (gtFF (by decide) (gtFF (by decide) (gtFF (by decide) (gtFF (by decide) (gtFF (by decide) rfl))))))) ?_
    refine j_w (cM g kk (sF (sF (sF (sF (sF (sF (sF σ 16 (σ.2.1 16)) 17 (σ.2.1 17)) 18 (σ.2.1 18)) 19 (σ.2.1 19)) 20 (σ.2.1 20)) 21 (σ.2.1 21)) 22 (σ.2.1 22))) (congrArg (cM g kk) (wrFi (S := (sF (sF (sF (sF (sF (sF σ 16 (σ.2.1 16)) 17 (σ.2.1 17)) 18 (σ.2.1 18)) 19 (σ.2.1 19)) 20 (σ.2.1 20)) 21 (σ.2.1 21))) (c := 22) (v := σ.2.1 22) (gtFF (by decide) (gtFF (by decide) (gtFF (by decide) (gtFF (by decide) (gtFF (by decide) (gtFF (by decide) rfl)))))))) ?_
    refine j_w (cM g kk (sF (sF (sF (sF (sF (sF (sF (sF σ 16 (σ.2.1 16)) 17 (σ.2.1 17)) 18 (σ.2.1 18)) 19 (σ.2.1 19)) 20 (σ.2.1 20)) 21 (σ.2.1 21)) 22 (σ.2.1 22)) 23 (σ.2.1 23))) (congrArg (cM g kk) (wrFi (S := (sF (sF (sF (sF (sF (sF (sF σ 16 (σ.2.1 16)) 17 (σ.2.1 17)) 18 (σ.2.1 18)) 19 (σ.2.1 19)) 20 (σ.2.1 20)) 21 (σ.2.1 21)) 22 (σ.2.1 22))) (c := 23) (v := σ.2.1 23) (gtFF (by decide) (gtFF (by decide) (gtFF (by decide) (gtFF (by decide) (gtFF (by decide) (gtFF (by decide) (gtFF (by decide) rfl))))))))) ?_
    refine j_w (cM g kk (sI (sF (sF (sF (sF (sF (sF (sF (sF σ 16 (σ.2.1 16)) 17 (σ.2.1 17)) 18 (σ.2.1 18)) 19 (σ.2.1 19)) 20 (σ.2.1 20)) 21 (σ.2.1 21)) 22 (σ.2.1 22)) 23 (σ.2.1 23)) 30 (σ.1 30))) (congrArg (cM g kk) (wrIi (S := (sF (sF (sF (sF (sF (sF (sF (sF σ 16 (σ.2.1 16)) 17 (σ.2.1 17)) 18 (σ.2.1 18)) 19 (σ.2.1 19)) 20 (σ.2.1 20)) 21 (σ.2.1 21)) 22 (σ.2.1 22)) 23 (σ.2.1 23))) (c := 30) (v := σ.1 30) (gtIF (gtIF (gtIF (gtIF (gtIF (gtIF (gtIF (gtIF rfl)))))))))) ?_
    refine j_w (cM g kk (sI (sI (sF (sF (sF (sF (sF (sF (sF (sF σ 16 (σ.2.1 16)) 17 (σ.2.1 17)) 18 (σ.2.1 18)) 19 (σ.2.1 19)) 20 (σ.2.1 20)) 21 (σ.2.1 21)) 22 (σ.2.1 22)) 23 (σ.2.1 23)) 30 (σ.1 30)) 31 (σ.1 31))) (congrArg (cM g kk) (wrIi (S := (sI (sF (sF (sF (sF (sF (sF (sF (sF σ 16 (σ.2.1 16)) 17 (σ.2.1 17)) 18 (σ.2.1 18)) 19 (σ.2.1 19)) 20 (σ.2.1 20)) 21 (σ.2.1 21)) 22 (σ.2.1 22)) 23 (σ.2.1 23)) 30 (σ.1 30))) (c := 31) (v := σ.1 31) (gtII (by decide) (gtIF (gtIF (gtIF (gtIF (gtIF (gtIF (gtIF (gtIF rfl))))))))))) ?_
    refine j_w (cM g kk (sI (sI (sI (sF (sF (sF (sF (sF (sF (sF (sF σ 16 (σ.2.1 16)) 17 (σ.2.1 17)) 18 (σ.2.1 18)) 19 (σ.2.1 19)) 20 (σ.2.1 20)) 21 (σ.2.1 21)) 22 (σ.2.1 22)) 23 (σ.2.1 23)) 30 (σ.1 30)) 31 (σ.1 31)) 32 (σ.1 32))) (congrArg (cM g kk) (wrIi (S := (sI (sI (sF (sF (sF (sF (sF (sF (sF (sF σ 16 (σ.2.1 16)) 17 (σ.2.1 17)) 18 (σ.2.1 18)) 19 (σ.2.1 19)) 20 (σ.2.1 20)) 21 (σ.2.1 21)) 22 (σ.2.1 22)) 23 (σ.2.1 23)) 30 (σ.1 30)) 31 (σ.1 31))) (c := 32) (v := σ.1 32) (gtII (by decide) (gtII (by decide) (gtIF (gtIF (gtIF (gtIF (gtIF (gtIF (gtIF (gtIF rfl)))))))))))) ?_
    refine j_w (cM g kk (sI (sI (sI (sI (sF (sF (sF (sF (sF (sF (sF (sF σ 16 (σ.2.1 16)) 17 (σ.2.1 17)) 18 (σ.2.1 18)) 19 (σ.2.1 19)) 20 (σ.2.1 20)) 21 (σ.2.1 21)) 22 (σ.2.1 22)) 23 (σ.2.1 23)) 30 (σ.1 30)) 31 (σ.1 31)) 32 (σ.1 32)) 33 (σ.1 33))) (congrArg (cM g kk) (wrIi (S := (sI (sI (sI (sF (sF (sF (sF (sF (sF (sF (sF σ 16 (σ.2.1 16)) 17 (σ.2.1 17)) 18 (σ.2.1 18)) 19 (σ.2.1 19)) 20 (σ.2.1 20)) 21 (σ.2.1 21)) 22 (σ.2.1 22)) 23 (σ.2.1 23)) 30 (σ.1 30)) 31 (σ.1 31)) 32 (σ.1 32))) (c := 33) (v := σ.1 33) (gtII (by decide) (gtII (by decide) (gtII (by decide) (gtIF (gtIF (gtIF (gtIF (gtIF (gtIF (gtIF (gtIF rfl))))))))))))) ?_
    exact j_iret C E (sI (sI (sI (sI (sF (sF (sF (sF (sF (sF (sF (sF σ 16 (σ.2.1 16)) 17 (σ.2.1 17)) 18 (σ.2.1 18)) 19 (σ.2.1 19)) 20 (σ.2.1 20)) 21 (σ.2.1 21)) 22 (σ.2.1 22)) 23 (σ.2.1 23)) 30 (σ.1 30)) 31 (σ.1 31)) 32 (σ.1 32)) 33 (σ.1 33)) ⟨_, rfl, ⟨(σ.2.1 16), (σ.2.1 17), (σ.2.1 18), (σ.2.1 19), (σ.2.1 20), (σ.2.1 21), (σ.2.1 22), (σ.2.1 23), (σ.1 30), (σ.1 31), (σ.1 32), (σ.1 33), rfl, (wkF_1 (Or.inl c1)), hmm⟩⟩ rfl dX11_week_21
  · replace c1 := bI_t c1
    obtain ⟨xn, xn1, rfl⟩ := cB_nat (by omega) c1
    refine j_iload_n C 2 rfl dX11_week_8 ?_
    refine j_i2l C dX11_week_9 ?_
    refine j_lconst C 0 (by decide) dX11_week_10 ?_
    refine j_ldc2 C tb_1180 dX11_week_11 ?_
    refine j_S01 C (m_inB y (nI 0) (nI 21) 0 (21) (by decide) (by decide)) kyX11_in tb_1057 tb_1058 rfl (Nat.le_of_ble_eq_true rfl) ⟨by decide, by decide⟩ ⟨by decide, by decide⟩ dX11_week_14 rfl ?_
    refine j_if_ne C 22 (by decide) dX11_week_17 (fun c2 => ?_) (fun c2 => ?_)
    · replace c2 := bI_t c2
      obtain ⟨yn, yn1, yn2, rfl⟩ := wB_nat (by decide) (by decide) c2
      refine j_iload_n C 3 rfl dX11_week_22 ?_
      refine j_i2l C dX11_week_23 ?_
      refine j_lconst C 0 (by decide) dX11_week_24 ?_
      refine j_ldc2 C tb_1169 dX11_week_25 ?_
      refine j_S01 C (m_inB z (nI 0) (nI 3) 0 (3) (by decide) (by decide)) kyX11_in tb_1057 tb_1058 rfl (Nat.le_of_ble_eq_true rfl) ⟨by decide, by decide⟩ ⟨by decide, by decide⟩ dX11_week_28 rfl ?_
      refine j_if_ne C 37 (by decide) dX11_week_31 (fun c3 => ?_) (fun c3 => ?_)
      · replace c3 := bI_t c3
        obtain ⟨zn, zn1, zn2, rfl⟩ := wB_nat (by decide) (by decide) c3
        refine j_aload_n C 0 rfl dX11_week_37 ?_
        refine j_iload_n C 1 rfl dX11_week_38 ?_
        refine j_iload_n C 2 rfl dX11_week_39 ?_
        refine j_V1 C (o_findWeek g kk σ k hk hk6 hI nf hnf (by omega) G hM xn (by first | assumption | omega) yn (by first | assumption | omega)) kyX11_findWeek tb_1181 tb_1183 sp_32 0 rfl (eM_0 g kk _) rfl (Nat.le_of_ble_eq_true rfl) ⟨by decide, by decide⟩ dX11_week_40 rfl (fun vr ur hp => ?_)
        obtain ⟨rfl, w4, w5, w6, w7, w8, w9, w10, w11, w12, w13, w14, w15, hu, g16, g17⟩ := hp
        replace hu := hu.symm
        subst hu
        refine j_iload_n C 3 rfl dX11_week_43 ?_
        refine j_iconst C (nI 2) (by decide) dX11_week_44 ?_
        refine j_icmp_geN C 64 (by decide) (by omega) (by omega) dX11_week_45 (fun c18 => ?_) (fun c18 => ?_)
        · refine j_iload_n C 3 rfl dX11_week_64 ?_
          refine j_iconst C (nI 2) (by decide) dX11_week_65 ?_
          refine j_icmp_neN C 76 (by decide) (by omega) (by omega) dX11_week_66 (fun c19 => ?_) (fun c19 => ?_)
          · refine j_aload_n C 0 rfl dX11_week_76 ?_
            refine gM_0_33 C tb_906 (w15) rfl dX11_week_77 ?_
            rcases opt (wkV (fun i => xe G k xn (yn + i)) (fun i => (vaV G k xn (yn + i)).toNatClampNeg) (zS G 1)).2.2.2 with ho9 | ⟨b9, ho9⟩
            · refine j_teq (show w15 = -6 from by rw [g16.2.2.2.2, ho9]; rfl) ?_
              refine j_istore C [(4, .int (-6)), (0, .ref (g 0)), (1, .int (nI xn)), (2, .int (nI yn)), (3, .int (nI zn))] (by decide) rfl dX11_week_80 ?_
              refine j_iload C 0 rfl dX11_week_82 ?_
              refine j_if_ge C 92 (by decide) dX11_week_84 (fun c20 => ?_) (fun c20 => ?_)
              · exact absurd c20 (by decide)
              · refine j_bipush C ((-6)) (by decide) dX11_week_87 ?_
                refine j_goto C 121 (by decide) dX11_week_89 ?_
                exact j_iret C E (sI (sI (sI (sI (sF (sF (sF (sF (sF (sF (sF (sF σ 16 w4) 17 w5) 18 w6) 19 w7) 20 w8) 21 w9) 22 w10) 23 w11) 30 (nI w12)) 31 w13) 32 w14) 33 w15) ⟨_, rfl, ⟨w4, w5, w6, w7, w8, w9, w10, w11, (nI w12), w13, w14, w15, rfl, (wkF_x c1 c2 c3 (by omega) (by omega) (by omega) (by rw [if_neg (by omega), if_neg (by omega), if_neg (by omega)]; exact wk_t0 ho9)), (TB_mM g17)⟩⟩ rfl dX11_week_121
            · refine j_teq (show w15 = nI b9 from by rw [g16.2.2.2.2, ho9]; rfl) ?_
              have hb9 : b9 < 38 := wk_lt2 ho9
              refine j_istore C [(4, .int (nI b9)), (0, .ref (g 0)), (1, .int (nI xn)), (2, .int (nI yn)), (3, .int (nI zn))] (by decide) rfl dX11_week_80 ?_
              refine j_iload C 0 rfl dX11_week_82 ?_
              refine j_if_geN C 92 (by decide) (by omega) dX11_week_84 (fun c21 => ?_) (fun c21 => ?_)
              · have hmd9 := mdC_lt ⟨b9, hb9⟩
                simp only at hmd9
                refine j_bipush C (nI 100) (by decide) dX11_week_92 ?_
                refine j_aload_n C 1 rfl dX11_week_94 ?_
                refine gM_0_27 C tb_900 dX11_week_95 ?_
                refine j_iload C 0 rfl dX11_week_98 ?_
                refine rM_21 C b9 rfl (by omega) (nI (mdC b9 / 100)) (g17 b9 hb9).1 dX11_week_100 ?_
                refine j_imulN C dX11_week_101 ?_
                refine j_bipush C (nI 10) (by decide) dX11_week_102 ?_
                refine j_aload_n C 1 rfl dX11_week_104 ?_
                refine gM_0_28 C tb_901 dX11_week_105 ?_
                refine j_iload C 0 rfl dX11_week_108 ?_
                refine rM_22 C b9 rfl (by omega) (nI (mdC b9 / 10 % 10)) (g17 b9 hb9).2.1 dX11_week_110 ?_
                refine j_imulN C dX11_week_111 ?_
                refine j_iaddN C dX11_week_112 ?_
                refine j_aload_n C 1 rfl dX11_week_113 ?_
                refine gM_0_29 C tb_902 dX11_week_114 ?_
                refine j_iload C 0 rfl dX11_week_117 ?_
                refine rM_23 C b9 rfl (by omega) (nI (mdC b9 % 10)) (g17 b9 hb9).2.2 dX11_week_119 ?_
                refine j_iaddN C dX11_week_120 ?_
                exact j_iret C E (sI (sI (sI (sI (sF (sF (sF (sF (sF (sF (sF (sF σ 16 w4) 17 w5) 18 w6) 19 w7) 20 w8) 21 w9) 22 w10) 23 w11) 30 (nI w12)) 31 w13) 32 w14) 33 w15) ⟨_, rfl, ⟨w4, w5, w6, w7, w8, w9, w10, w11, (nI w12), w13, w14, w15, rfl, (wkF_x c1 c2 c3 (by omega) (by omega) (by omega) (by rw [if_neg (by omega), if_neg (by omega), if_neg (by omega)]; exact wk_t1 hb9 ho9)), (TB_mM g17)⟩⟩ rfl dX11_week_121
              · refine j_bipush C ((-6)) (by decide) dX11_week_87 ?_
                refine j_goto C 121 (by decide) dX11_week_89 ?_
                exact j_iret C E (sI (sI (sI (sI (sF (sF (sF (sF (sF (sF (sF (sF σ 16 w4) 17 w5) 18 w6) 19 w7) 20 w8) 21 w9) 22 w10) 23 w11) 30 (nI w12)) 31 w13) 32 w14) 33 w15) ⟨_, rfl, ⟨w4, w5, w6, w7, w8, w9, w10, w11, (nI w12), w13, w14, w15, rfl, (absurd c21 (by first | omega | exact fun z => z (Nat.zero_le _) | exact fun z => z (nI_pos (by omega)) | exact fun z => z (nI_pos' (by omega)))), (TB_mM g17)⟩⟩ rfl dX11_week_121
          · refine j_aload_n C 0 rfl dX11_week_69 ?_
            refine gM_0_32 C tb_905 (w14) rfl dX11_week_70 ?_
            refine j_goto C 80 (by decide) dX11_week_73 ?_
            rcases opt (wkV (fun i => xe G k xn (yn + i)) (fun i => (vaV G k xn (yn + i)).toNatClampNeg) (zS G 1)).2.2.1 with ho9 | ⟨b9, ho9⟩
            · refine j_teq (show w14 = -6 from by rw [g16.2.2.2.1, ho9]; rfl) ?_
              refine j_istore C [(4, .int (-6)), (0, .ref (g 0)), (1, .int (nI xn)), (2, .int (nI yn)), (3, .int (nI zn))] (by decide) rfl dX11_week_80 ?_
              refine j_iload C 0 rfl dX11_week_82 ?_
              refine j_if_ge C 92 (by decide) dX11_week_84 (fun c22 => ?_) (fun c22 => ?_)
              · exact absurd c22 (by decide)
              · refine j_bipush C ((-6)) (by decide) dX11_week_87 ?_
                refine j_goto C 121 (by decide) dX11_week_89 ?_
                exact j_iret C E (sI (sI (sI (sI (sF (sF (sF (sF (sF (sF (sF (sF σ 16 w4) 17 w5) 18 w6) 19 w7) 20 w8) 21 w9) 22 w10) 23 w11) 30 (nI w12)) 31 w13) 32 w14) 33 w15) ⟨_, rfl, ⟨w4, w5, w6, w7, w8, w9, w10, w11, (nI w12), w13, w14, w15, rfl, (wkF_x c1 c2 c3 (by omega) (by omega) (by omega) (by rw [if_neg (by omega), if_neg (by omega), if_pos (by omega)]; exact wk_t0 ho9)), (TB_mM g17)⟩⟩ rfl dX11_week_121
            · refine j_teq (show w14 = nI b9 from by rw [g16.2.2.2.1, ho9]; rfl) ?_
              have hb9 : b9 < 38 := wk_lt1 ho9
              refine j_istore C [(4, .int (nI b9)), (0, .ref (g 0)), (1, .int (nI xn)), (2, .int (nI yn)), (3, .int (nI zn))] (by decide) rfl dX11_week_80 ?_
              refine j_iload C 0 rfl dX11_week_82 ?_
              refine j_if_geN C 92 (by decide) (by omega) dX11_week_84 (fun c23 => ?_) (fun c23 => ?_)
              · have hmd9 := mdC_lt ⟨b9, hb9⟩
                simp only at hmd9
                refine j_bipush C (nI 100) (by decide) dX11_week_92 ?_
                refine j_aload_n C 1 rfl dX11_week_94 ?_
                refine gM_0_27 C tb_900 dX11_week_95 ?_
                refine j_iload C 0 rfl dX11_week_98 ?_
                refine rM_21 C b9 rfl (by omega) (nI (mdC b9 / 100)) (g17 b9 hb9).1 dX11_week_100 ?_
                refine j_imulN C dX11_week_101 ?_
                refine j_bipush C (nI 10) (by decide) dX11_week_102 ?_
                refine j_aload_n C 1 rfl dX11_week_104 ?_
                refine gM_0_28 C tb_901 dX11_week_105 ?_
                refine j_iload C 0 rfl dX11_week_108 ?_
                refine rM_22 C b9 rfl (by omega) (nI (mdC b9 / 10 % 10)) (g17 b9 hb9).2.1 dX11_week_110 ?_
                refine j_imulN C dX11_week_111 ?_
                refine j_iaddN C dX11_week_112 ?_
                refine j_aload_n C 1 rfl dX11_week_113 ?_
                refine gM_0_29 C tb_902 dX11_week_114 ?_
                refine j_iload C 0 rfl dX11_week_117 ?_
                refine rM_23 C b9 rfl (by omega) (nI (mdC b9 % 10)) (g17 b9 hb9).2.2 dX11_week_119 ?_
                refine j_iaddN C dX11_week_120 ?_
                exact j_iret C E (sI (sI (sI (sI (sF (sF (sF (sF (sF (sF (sF (sF σ 16 w4) 17 w5) 18 w6) 19 w7) 20 w8) 21 w9) 22 w10) 23 w11) 30 (nI w12)) 31 w13) 32 w14) 33 w15) ⟨_, rfl, ⟨w4, w5, w6, w7, w8, w9, w10, w11, (nI w12), w13, w14, w15, rfl, (wkF_x c1 c2 c3 (by omega) (by omega) (by omega) (by rw [if_neg (by omega), if_neg (by omega), if_pos (by omega)]; exact wk_t1 hb9 ho9)), (TB_mM g17)⟩⟩ rfl dX11_week_121
              · refine j_bipush C ((-6)) (by decide) dX11_week_87 ?_
                refine j_goto C 121 (by decide) dX11_week_89 ?_
                exact j_iret C E (sI (sI (sI (sI (sF (sF (sF (sF (sF (sF (sF (sF σ 16 w4) 17 w5) 18 w6) 19 w7) 20 w8) 21 w9) 22 w10) 23 w11) 30 (nI w12)) 31 w13) 32 w14) 33 w15) ⟨_, rfl, ⟨w4, w5, w6, w7, w8, w9, w10, w11, (nI w12), w13, w14, w15, rfl, (absurd c23 (by first | omega | exact fun z => z (Nat.zero_le _) | exact fun z => z (nI_pos (by omega)) | exact fun z => z (nI_pos' (by omega)))), (TB_mM g17)⟩⟩ rfl dX11_week_121
        · refine j_iload_n C 3 rfl dX11_week_48 ?_
          refine j_if_neN C 59 (by decide) (by omega) dX11_week_49 (fun c24 => ?_) (fun c24 => ?_)
          · refine j_aload_n C 0 rfl dX11_week_59 ?_
            refine gM_0_31 C tb_904 (w13) rfl dX11_week_60 ?_
            exact j_iret C E (sI (sI (sI (sI (sF (sF (sF (sF (sF (sF (sF (sF σ 16 w4) 17 w5) 18 w6) 19 w7) 20 w8) 21 w9) 22 w10) 23 w11) 30 (nI w12)) 31 w13) 32 w14) 33 w15) ⟨_, rfl, ⟨w4, w5, w6, w7, w8, w9, w10, w11, (nI w12), w13, w14, w15, rfl, (wkF_x c1 c2 c3 (by omega) (by omega) (by omega) (by rw [if_neg (by omega), if_pos (by omega), g16.2.2.1])), (TB_mM g17)⟩⟩ rfl dX11_week_63
          · refine j_aload_n C 0 rfl dX11_week_52 ?_
            refine gM_0_30 C tb_903 (nI w12) rfl dX11_week_53 ?_
            refine j_goto C 63 (by decide) dX11_week_56 ?_
            exact j_iret C E (sI (sI (sI (sI (sF (sF (sF (sF (sF (sF (sF (sF σ 16 w4) 17 w5) 18 w6) 19 w7) 20 w8) 21 w9) 22 w10) 23 w11) 30 (nI w12)) 31 w13) 32 w14) 33 w15) ⟨_, rfl, ⟨w4, w5, w6, w7, w8, w9, w10, w11, (nI w12), w13, w14, w15, rfl, (wkF_x c1 c2 c3 (by omega) (by omega) (by omega) (by rw [if_pos (by omega), g16.2.1])), (TB_mM g17)⟩⟩ rfl dX11_week_63
      · replace c3 := bI_f c3
        refine j_bipush C ((-2)) (by decide) dX11_week_34 ?_
        refine j_w (cM g kk (sF σ 16 (σ.2.1 16))) (congrArg (cM g kk) (wrFi (S := σ) (c := 16) (v := σ.2.1 16) rfl)) ?_
        refine j_w (cM g kk (sF (sF σ 16 (σ.2.1 16)) 17 (σ.2.1 17))) (congrArg (cM g kk) (wrFi (S := (sF σ 16 (σ.2.1 16))) (c := 17) (v := σ.2.1 17) (gtFF (by decide) rfl))) ?_
        refine j_w (cM g kk (sF (sF (sF σ 16 (σ.2.1 16)) 17 (σ.2.1 17)) 18 (σ.2.1 18))) (congrArg (cM g kk) (wrFi (S := (sF (sF σ 16 (σ.2.1 16)) 17 (σ.2.1 17))) (c := 18) (v := σ.2.1 18) (gtFF (by decide) (gtFF (by decide) rfl)))) ?_
        refine j_w (cM g kk (sF (sF (sF (sF σ 16 (σ.2.1 16)) 17 (σ.2.1 17)) 18 (σ.2.1 18)) 19 (σ.2.1 19))) (congrArg (cM g kk) (wrFi (S := (sF (sF (sF σ 16 (σ.2.1 16)) 17 (σ.2.1 17)) 18 (σ.2.1 18))) (c := 19) (v := σ.2.1 19) (gtFF (by decide) (gtFF (by decide) (gtFF (by decide) rfl))))) ?_
        refine j_w (cM g kk (sF (sF (sF (sF (sF σ 16 (σ.2.1 16)) 17 (σ.2.1 17)) 18 (σ.2.1 18)) 19 (σ.2.1 19)) 20 (σ.2.1 20))) (congrArg (cM g kk) (wrFi (S := (sF (sF (sF (sF σ 16 (σ.2.1 16)) 17 (σ.2.1 17)) 18 (σ.2.1 18)) 19 (σ.2.1 19))) (c := 20) (v := σ.2.1 20) (gtFF (by decide) (gtFF (by decide) (gtFF (by decide) (gtFF (by decide) rfl)))))) ?_
        refine j_w (cM g kk (sF (sF (sF (sF (sF (sF σ 16 (σ.2.1 16)) 17 (σ.2.1 17)) 18 (σ.2.1 18)) 19 (σ.2.1 19)) 20 (σ.2.1 20)) 21 (σ.2.1 21))) (congrArg (cM g kk) (wrFi (S := (sF (sF (sF (sF (sF σ 16 (σ.2.1 16)) 17 (σ.2.1 17)) 18 (σ.2.1 18)) 19 (σ.2.1 19)) 20 (σ.2.1 20))) (c := 21) (v := σ.2.1 21) (gtFF (by decide) (gtFF (by decide) (gtFF (by decide) (gtFF (by decide) (gtFF (by decide) rfl))))))) ?_
        refine j_w (cM g kk (sF (sF (sF (sF (sF (sF (sF σ 16 (σ.2.1 16)) 17 (σ.2.1 17)) 18 (σ.2.1 18)) 19 (σ.2.1 19)) 20 (σ.2.1 20)) 21 (σ.2.1 21)) 22 (σ.2.1 22))) (congrArg (cM g kk) (wrFi (S := (sF (sF (sF (sF (sF (sF σ 16 (σ.2.1 16)) 17 (σ.2.1 17)) 18 (σ.2.1 18)) 19 (σ.2.1 19)) 20 (σ.2.1 20)) 21 (σ.2.1 21))) (c := 22) (v := σ.2.1 22) (gtFF (by decide) (gtFF (by decide) (gtFF (by decide) (gtFF (by decide) (gtFF (by decide) (gtFF (by decide) rfl)))))))) ?_
        refine j_w (cM g kk (sF (sF (sF (sF (sF (sF (sF (sF σ 16 (σ.2.1 16)) 17 (σ.2.1 17)) 18 (σ.2.1 18)) 19 (σ.2.1 19)) 20 (σ.2.1 20)) 21 (σ.2.1 21)) 22 (σ.2.1 22)) 23 (σ.2.1 23))) (congrArg (cM g kk) (wrFi (S := (sF (sF (sF (sF (sF (sF (sF σ 16 (σ.2.1 16)) 17 (σ.2.1 17)) 18 (σ.2.1 18)) 19 (σ.2.1 19)) 20 (σ.2.1 20)) 21 (σ.2.1 21)) 22 (σ.2.1 22))) (c := 23) (v := σ.2.1 23) (gtFF (by decide) (gtFF (by decide) (gtFF (by decide) (gtFF (by decide) (gtFF (by decide) (gtFF (by decide) (gtFF (by decide) rfl))))))))) ?_
        refine j_w (cM g kk (sI (sF (sF (sF (sF (sF (sF (sF (sF σ 16 (σ.2.1 16)) 17 (σ.2.1 17)) 18 (σ.2.1 18)) 19 (σ.2.1 19)) 20 (σ.2.1 20)) 21 (σ.2.1 21)) 22 (σ.2.1 22)) 23 (σ.2.1 23)) 30 (σ.1 30))) (congrArg (cM g kk) (wrIi (S := (sF (sF (sF (sF (sF (sF (sF (sF σ 16 (σ.2.1 16)) 17 (σ.2.1 17)) 18 (σ.2.1 18)) 19 (σ.2.1 19)) 20 (σ.2.1 20)) 21 (σ.2.1 21)) 22 (σ.2.1 22)) 23 (σ.2.1 23))) (c := 30) (v := σ.1 30) (gtIF (gtIF (gtIF (gtIF (gtIF (gtIF (gtIF (gtIF rfl)))))))))) ?_
        refine j_w (cM g kk (sI (sI (sF (sF (sF (sF (sF (sF (sF (sF σ 16 (σ.2.1 16)) 17 (σ.2.1 17)) 18 (σ.2.1 18)) 19 (σ.2.1 19)) 20 (σ.2.1 20)) 21 (σ.2.1 21)) 22 (σ.2.1 22)) 23 (σ.2.1 23)) 30 (σ.1 30)) 31 (σ.1 31))) (congrArg (cM g kk) (wrIi (S := (sI (sF (sF (sF (sF (sF (sF (sF (sF σ 16 (σ.2.1 16)) 17 (σ.2.1 17)) 18 (σ.2.1 18)) 19 (σ.2.1 19)) 20 (σ.2.1 20)) 21 (σ.2.1 21)) 22 (σ.2.1 22)) 23 (σ.2.1 23)) 30 (σ.1 30))) (c := 31) (v := σ.1 31) (gtII (by decide) (gtIF (gtIF (gtIF (gtIF (gtIF (gtIF (gtIF (gtIF rfl))))))))))) ?_
        refine j_w (cM g kk (sI (sI (sI (sF (sF (sF (sF (sF (sF (sF (sF σ 16 (σ.2.1 16)) 17 (σ.2.1 17)) 18 (σ.2.1 18)) 19 (σ.2.1 19)) 20 (σ.2.1 20)) 21 (σ.2.1 21)) 22 (σ.2.1 22)) 23 (σ.2.1 23)) 30 (σ.1 30)) 31 (σ.1 31)) 32 (σ.1 32))) (congrArg (cM g kk) (wrIi (S := (sI (sI (sF (sF (sF (sF (sF (sF (sF (sF σ 16 (σ.2.1 16)) 17 (σ.2.1 17)) 18 (σ.2.1 18)) 19 (σ.2.1 19)) 20 (σ.2.1 20)) 21 (σ.2.1 21)) 22 (σ.2.1 22)) 23 (σ.2.1 23)) 30 (σ.1 30)) 31 (σ.1 31))) (c := 32) (v := σ.1 32) (gtII (by decide) (gtII (by decide) (gtIF (gtIF (gtIF (gtIF (gtIF (gtIF (gtIF (gtIF rfl)))))))))))) ?_
        refine j_w (cM g kk (sI (sI (sI (sI (sF (sF (sF (sF (sF (sF (sF (sF σ 16 (σ.2.1 16)) 17 (σ.2.1 17)) 18 (σ.2.1 18)) 19 (σ.2.1 19)) 20 (σ.2.1 20)) 21 (σ.2.1 21)) 22 (σ.2.1 22)) 23 (σ.2.1 23)) 30 (σ.1 30)) 31 (σ.1 31)) 32 (σ.1 32)) 33 (σ.1 33))) (congrArg (cM g kk) (wrIi (S := (sI (sI (sI (sF (sF (sF (sF (sF (sF (sF (sF σ 16 (σ.2.1 16)) 17 (σ.2.1 17)) 18 (σ.2.1 18)) 19 (σ.2.1 19)) 20 (σ.2.1 20)) 21 (σ.2.1 21)) 22 (σ.2.1 22)) 23 (σ.2.1 23)) 30 (σ.1 30)) 31 (σ.1 31)) 32 (σ.1 32))) (c := 33) (v := σ.1 33) (gtII (by decide) (gtII (by decide) (gtII (by decide) (gtIF (gtIF (gtIF (gtIF (gtIF (gtIF (gtIF (gtIF rfl))))))))))))) ?_
        exact j_iret C E (sI (sI (sI (sI (sF (sF (sF (sF (sF (sF (sF (sF σ 16 (σ.2.1 16)) 17 (σ.2.1 17)) 18 (σ.2.1 18)) 19 (σ.2.1 19)) 20 (σ.2.1 20)) 21 (σ.2.1 21)) 22 (σ.2.1 22)) 23 (σ.2.1 23)) 30 (σ.1 30)) 31 (σ.1 31)) 32 (σ.1 32)) 33 (σ.1 33)) ⟨_, rfl, ⟨(σ.2.1 16), (σ.2.1 17), (σ.2.1 18), (σ.2.1 19), (σ.2.1 20), (σ.2.1 21), (σ.2.1 22), (σ.2.1 23), (σ.1 30), (σ.1 31), (σ.1 32), (σ.1 33), rfl, (wkF_2 c1 c2 c3), hmm⟩⟩ rfl dX11_week_36
    · replace c2 := bI_f c2
      refine j_iconst C ((-1)) (by decide) dX11_week_20 ?_
      refine j_w (cM g kk (sF σ 16 (σ.2.1 16))) (congrArg (cM g kk) (wrFi (S := σ) (c := 16) (v := σ.2.1 16) rfl)) ?_
      refine j_w (cM g kk (sF (sF σ 16 (σ.2.1 16)) 17 (σ.2.1 17))) (congrArg (cM g kk) (wrFi (S := (sF σ 16 (σ.2.1 16))) (c := 17) (v := σ.2.1 17) (gtFF (by decide) rfl))) ?_
      refine j_w (cM g kk (sF (sF (sF σ 16 (σ.2.1 16)) 17 (σ.2.1 17)) 18 (σ.2.1 18))) (congrArg (cM g kk) (wrFi (S := (sF (sF σ 16 (σ.2.1 16)) 17 (σ.2.1 17))) (c := 18) (v := σ.2.1 18) (gtFF (by decide) (gtFF (by decide) rfl)))) ?_
      refine j_w (cM g kk (sF (sF (sF (sF σ 16 (σ.2.1 16)) 17 (σ.2.1 17)) 18 (σ.2.1 18)) 19 (σ.2.1 19))) (congrArg (cM g kk) (wrFi (S := (sF (sF (sF σ 16 (σ.2.1 16)) 17 (σ.2.1 17)) 18 (σ.2.1 18))) (c := 19) (v := σ.2.1 19) (gtFF (by decide) (gtFF (by decide) (gtFF (by decide) rfl))))) ?_
      refine j_w (cM g kk (sF (sF (sF (sF (sF σ 16 (σ.2.1 16)) 17 (σ.2.1 17)) 18 (σ.2.1 18)) 19 (σ.2.1 19)) 20 (σ.2.1 20))) (congrArg (cM g kk) (wrFi (S := (sF (sF (sF (sF σ 16 (σ.2.1 16)) 17 (σ.2.1 17)) 18 (σ.2.1 18)) 19 (σ.2.1 19))) (c := 20) (v := σ.2.1 20) (gtFF (by decide) (gtFF (by decide) (gtFF (by decide) (gtFF (by decide) rfl)))))) ?_
      refine j_w (cM g kk (sF (sF (sF (sF (sF (sF σ 16 (σ.2.1 16)) 17 (σ.2.1 17)) 18 (σ.2.1 18)) 19 (σ.2.1 19)) 20 (σ.2.1 20)) 21 (σ.2.1 21))) (congrArg (cM g kk) (wrFi (S := (sF (sF (sF (sF (sF σ 16 (σ.2.1 16)) 17 (σ.2.1 17)) 18 (σ.2.1 18)) 19 (σ.2.1 19)) 20 (σ.2.1 20))) (c := 21) (v := σ.2.1 21) (gtFF (by decide) (gtFF (by decide) (gtFF (by decide) (gtFF (by decide) (gtFF (by decide) rfl))))))) ?_
      refine j_w (cM g kk (sF (sF (sF (sF (sF (sF (sF σ 16 (σ.2.1 16)) 17 (σ.2.1 17)) 18 (σ.2.1 18)) 19 (σ.2.1 19)) 20 (σ.2.1 20)) 21 (σ.2.1 21)) 22 (σ.2.1 22))) (congrArg (cM g kk) (wrFi (S := (sF (sF (sF (sF (sF (sF σ 16 (σ.2.1 16)) 17 (σ.2.1 17)) 18 (σ.2.1 18)) 19 (σ.2.1 19)) 20 (σ.2.1 20)) 21 (σ.2.1 21))) (c := 22) (v := σ.2.1 22) (gtFF (by decide) (gtFF (by decide) (gtFF (by decide) (gtFF (by decide) (gtFF (by decide) (gtFF (by decide) rfl)))))))) ?_
      refine j_w (cM g kk (sF (sF (sF (sF (sF (sF (sF (sF σ 16 (σ.2.1 16)) 17 (σ.2.1 17)) 18 (σ.2.1 18)) 19 (σ.2.1 19)) 20 (σ.2.1 20)) 21 (σ.2.1 21)) 22 (σ.2.1 22)) 23 (σ.2.1 23))) (congrArg (cM g kk) (wrFi (S := (sF (sF (sF (sF (sF (sF (sF σ 16 (σ.2.1 16)) 17 (σ.2.1 17)) 18 (σ.2.1 18)) 19 (σ.2.1 19)) 20 (σ.2.1 20)) 21 (σ.2.1 21)) 22 (σ.2.1 22))) (c := 23) (v := σ.2.1 23) (gtFF (by decide) (gtFF (by decide) (gtFF (by decide) (gtFF (by decide) (gtFF (by decide) (gtFF (by decide) (gtFF (by decide) rfl))))))))) ?_
      refine j_w (cM g kk (sI (sF (sF (sF (sF (sF (sF (sF (sF σ 16 (σ.2.1 16)) 17 (σ.2.1 17)) 18 (σ.2.1 18)) 19 (σ.2.1 19)) 20 (σ.2.1 20)) 21 (σ.2.1 21)) 22 (σ.2.1 22)) 23 (σ.2.1 23)) 30 (σ.1 30))) (congrArg (cM g kk) (wrIi (S := (sF (sF (sF (sF (sF (sF (sF (sF σ 16 (σ.2.1 16)) 17 (σ.2.1 17)) 18 (σ.2.1 18)) 19 (σ.2.1 19)) 20 (σ.2.1 20)) 21 (σ.2.1 21)) 22 (σ.2.1 22)) 23 (σ.2.1 23))) (c := 30) (v := σ.1 30) (gtIF (gtIF (gtIF (gtIF (gtIF (gtIF (gtIF (gtIF rfl)))))))))) ?_
      refine j_w (cM g kk (sI (sI (sF (sF (sF (sF (sF (sF (sF (sF σ 16 (σ.2.1 16)) 17 (σ.2.1 17)) 18 (σ.2.1 18)) 19 (σ.2.1 19)) 20 (σ.2.1 20)) 21 (σ.2.1 21)) 22 (σ.2.1 22)) 23 (σ.2.1 23)) 30 (σ.1 30)) 31 (σ.1 31))) (congrArg (cM g kk) (wrIi (S := (sI (sF (sF (sF (sF (sF (sF (sF (sF σ 16 (σ.2.1 16)) 17 (σ.2.1 17)) 18 (σ.2.1 18)) 19 (σ.2.1 19)) 20 (σ.2.1 20)) 21 (σ.2.1 21)) 22 (σ.2.1 22)) 23 (σ.2.1 23)) 30 (σ.1 30))) (c := 31) (v := σ.1 31) (gtII (by decide) (gtIF (gtIF (gtIF (gtIF (gtIF (gtIF (gtIF (gtIF rfl))))))))))) ?_
      refine j_w (cM g kk (sI (sI (sI (sF (sF (sF (sF (sF (sF (sF (sF σ 16 (σ.2.1 16)) 17 (σ.2.1 17)) 18 (σ.2.1 18)) 19 (σ.2.1 19)) 20 (σ.2.1 20)) 21 (σ.2.1 21)) 22 (σ.2.1 22)) 23 (σ.2.1 23)) 30 (σ.1 30)) 31 (σ.1 31)) 32 (σ.1 32))) (congrArg (cM g kk) (wrIi (S := (sI (sI (sF (sF (sF (sF (sF (sF (sF (sF σ 16 (σ.2.1 16)) 17 (σ.2.1 17)) 18 (σ.2.1 18)) 19 (σ.2.1 19)) 20 (σ.2.1 20)) 21 (σ.2.1 21)) 22 (σ.2.1 22)) 23 (σ.2.1 23)) 30 (σ.1 30)) 31 (σ.1 31))) (c := 32) (v := σ.1 32) (gtII (by decide) (gtII (by decide) (gtIF (gtIF (gtIF (gtIF (gtIF (gtIF (gtIF (gtIF rfl)))))))))))) ?_
      refine j_w (cM g kk (sI (sI (sI (sI (sF (sF (sF (sF (sF (sF (sF (sF σ 16 (σ.2.1 16)) 17 (σ.2.1 17)) 18 (σ.2.1 18)) 19 (σ.2.1 19)) 20 (σ.2.1 20)) 21 (σ.2.1 21)) 22 (σ.2.1 22)) 23 (σ.2.1 23)) 30 (σ.1 30)) 31 (σ.1 31)) 32 (σ.1 32)) 33 (σ.1 33))) (congrArg (cM g kk) (wrIi (S := (sI (sI (sI (sF (sF (sF (sF (sF (sF (sF (sF σ 16 (σ.2.1 16)) 17 (σ.2.1 17)) 18 (σ.2.1 18)) 19 (σ.2.1 19)) 20 (σ.2.1 20)) 21 (σ.2.1 21)) 22 (σ.2.1 22)) 23 (σ.2.1 23)) 30 (σ.1 30)) 31 (σ.1 31)) 32 (σ.1 32))) (c := 33) (v := σ.1 33) (gtII (by decide) (gtII (by decide) (gtII (by decide) (gtIF (gtIF (gtIF (gtIF (gtIF (gtIF (gtIF (gtIF rfl))))))))))))) ?_
      exact j_iret C E (sI (sI (sI (sI (sF (sF (sF (sF (sF (sF (sF (sF σ 16 (σ.2.1 16)) 17 (σ.2.1 17)) 18 (σ.2.1 18)) 19 (σ.2.1 19)) 20 (σ.2.1 20)) 21 (σ.2.1 21)) 22 (σ.2.1 22)) 23 (σ.2.1 23)) 30 (σ.1 30)) 31 (σ.1 31)) 32 (σ.1 32)) 33 (σ.1 33)) ⟨_, rfl, ⟨(σ.2.1 16), (σ.2.1 17), (σ.2.1 18), (σ.2.1 19), (σ.2.1 20), (σ.2.1 21), (σ.2.1 22), (σ.2.1 23), (σ.1 30), (σ.1 31), (σ.1 32), (σ.1 33), rfl, (wkF_1 (Or.inr c2)), hmm⟩⟩ rfl dX11_week_21
