theorem GR_0 : GR 0 0 0 (gv 1 s0X) (mv s0M) := by
  refine ⟨⟨by omega, rfl, rfl⟩, fun j hj => ⟨⟨rfl, 0, by omega, rfl⟩, ⟨rfl, 0, by omega, rfl⟩⟩, fun j hj => ⟨fun z => absurd z (by omega), fun _ => rfl, ⟨0, by omega, rfl⟩, ⟨0, by omega, rfl⟩⟩, fun j hj => ⟨rfl, 0, by omega, rfl⟩, fun j hj => ⟨fun z => absurd z (by omega), fun _ => if_pos hj, Or.inl (if_pos hj)⟩, ⟨fun j hj => ⟨⟨0, by omega, rfl⟩, ⟨0, by omega, rfl⟩⟩, fun c hc => ⟨fun q => absurd q (by omega), fun _ d hd => rfl⟩⟩, fun j hj => ?_, ⟨by omega, rfl, rfl, fun j hj => ⟨0, 0, by omega, by omega, rfl, rfl, rfl, rfl, Or.inr ⟨0, by omega, rfl⟩⟩, fun j hj => Or.inr ⟨0, by omega, rfl⟩, fun q hq => if_pos hq, fun j hj => absurd hj (Nat.not_lt_zero _)⟩, ⟨by omega, rfl, rfl, fun j hj => ⟨⟨rfl, rfl, rfl, rfl, rfl⟩, ⟨0, by omega, rfl⟩, ⟨0, by omega, rfl⟩, ⟨0, by omega, rfl⟩, ⟨0, by omega, rfl⟩, ⟨0, by omega, rfl⟩⟩⟩⟩
  rcases (show j = 0 ∨ j = 1 ∨ j = 2 ∨ j = 3 by omega) with rfl | rfl | rfl | rfl
  · exact ⟨rfl, 10, rfl, fun _ => ⟨by decide, by decide⟩, fun w => absurd w (by decide), fun w => absurd w (by decide), fun w => absurd w (by decide)⟩
  · exact ⟨rfl, 50, rfl, fun w => absurd w (by decide), fun _ => by decide, fun w => absurd w (by decide), fun w => absurd w (by decide)⟩
  · exact ⟨rfl, 5, rfl, fun w => absurd w (by decide), fun w => absurd w (by decide), fun _ => by decide, fun w => absurd w (by decide)⟩
  · exact ⟨rfl, 1, rfl, fun w => absurd w (by decide), fun w => absurd w (by decide), fun w => absurd w (by decide), fun _ => by decide⟩
theorem s0_33 : s0X.2.1 33 = wf 257 := by simp [s0X]
theorem R0_0 : R0 s0X s0M := by
  refine ⟨0, 0, 0, ⟨GR_0, ⟨⟨rfl, rfl⟩, ⟨fun z => absurd rfl z, fun z => absurd rfl z⟩, ⟨⟨0, by omega, rfl⟩, fun j hj => ⟨0, by omega, rfl⟩, fun j hj => ⟨0, by omega, rfl⟩, ⟨0, by omega, rfl⟩, fun j hj => ⟨0, by omega, rfl⟩, fun j hj => Or.inr ⟨0, by omega, rfl⟩, fun j hj => Or.inl (if_pos hj), ⟨0, by omega, rfl⟩⟩, ⟨⟨0, by omega, rfl⟩, fun j hj => ⟨0, by omega, rfl⟩, fun j hj => ⟨0, by omega, rfl⟩, ⟨0, by omega, rfl⟩, fun j hj => ⟨0, by omega, rfl⟩, fun j hj => Or.inr ⟨0, by omega, rfl⟩, fun j hj => Or.inl (if_pos hj), ⟨0, by omega, rfl⟩⟩⟩, ⟨0, by omega, rfl⟩, ⟨0, by omega, rfl⟩, s0_33⟩, fun j hj => ⟨0, by omega, rfl⟩, ⟨0, by omega, rfl⟩, fun j hj => ⟨0, by omega, rfl⟩, fun j hj => ⟨0, by omega, rfl⟩, fun j hj => ⟨0, 0, 0, Or.inl ⟨rfl, by omega, rfl⟩, rfl, rfl, rfl⟩, ⟨0, by omega, rfl, rfl, fun j hj => absurd hj (by omega)⟩, fun _ _ _ q => absurd (show nI 1 = 0 from q) (by decide)⟩
set_option maxRecDepth 100000 in
set_option maxHeartbeats 4000000 in
theorem lw_loop {X : jC} {kk : Nat → Nat} (C : jF X code R_law room_1 kk 4) {b L : Nat} {xs : Nat → Int32} (hX : jX X b L xs) (hL : L ≤ 4096) (h8 : 8 ≤ L) {u u2 : Nat → Nat} : ∀ (n i : Nat) (σ μ : St), R0 σ μ → i ≤ 8192 → L + 8 - i < n → J X 133 9011 (cX u kk σ ++ cM u2 kk μ) [(3, .int (nI i)), (2, .ref (u2 0)), (1, .ref (u 0)), (0, .ref b)] 18 [] := by
  intro n
  induction n with
  | zero => intro i σ μ _ _ h; exact absurd h (Nat.not_lt_zero _)
  | succ n ih =>
    intro i σ μ h0 hi2 hm
    refine j_iload_n C 0 rfl dL_law_18 ?_
    refine j_aload_n C 3 rfl dL_law_19 ?_
    refine j_slen C hX dL_law_20 ?_
    refine j_bipush C (nI 8) (by decide) dL_law_21 ?_
    refine j_isubN C h8 dL_law_23 ?_
    refine j_icmp_gtN C 1307 (by decide) (by omega) (by omega) dL_law_24 (fun q => ?_) (fun q => ?_)
    · refine j_iconst C (nI 1) (by decide) dL_law_1307 ?_
      exact j_lend C hX (by decide) (by decide) dL_law_1308
    have hi : i + 8 ≤ L := by omega
    have Kend : ∀ σ μ : St, R0 σ μ → J X 133 9011 (cX u kk σ ++ cM u2 kk μ) [(3, .int (nI i)), (2, .ref (u2 0)), (1, .ref (u 0)), (0, .ref b)] 1301 [] := fun σ μ h => by
      refine j_iinc C (nI (i + 8)) [(3, .int (nI (i + 8))), (2, .ref (u2 0)), (1, .ref (u 0)), (0, .ref b)] 0 rfl (by rw [show Int32.ofInt 8 = nI 8 from by decide, nI_add]) (by decide) rfl dL_law_1301 ?_
      refine j_goto C 18 (by decide) dL_law_1304 ?_
      exact ih (i + 8) σ μ h (by omega) (by omega)
    refine j_aload_n C 3 rfl dL_law_27 ?_
    refine j_iload_n C 0 rfl dL_law_28 ?_
    refine j_sld C hX i rfl (by omega) (by omega) dL_law_29 ?_
    refine j_bipush C (nI 31) (by decide) dL_law_30 ?_
    refine j_iand C dL_law_32 ?_
    obtain ⟨j, hj, ej⟩ := pk_andE (xs i) (m := nI 31) 5 (by decide)
    rw [ej]
    have hj : j < 32 := hj
    rcases (show j = 0 ∨ j = 1 ∨ j = 2 ∨ j = 3 ∨ j = 4 ∨ j = 5 ∨ j = 6 ∨ j = 7 ∨ j = 8 ∨ j = 9 ∨ j = 10 ∨ j = 11 ∨ j = 12 ∨ j = 13 ∨ j = 14 ∨ j = 15 ∨ j = 16 ∨ j = 17 ∨ j = 18 ∨ j = 19 ∨ j = 20 ∨ j = 21 ∨ j = 22 ∨ j = 23 ∨ j = 24 ∨ j = 25 ∨ j = 26 ∨ j = 27 ∨ j = 28 ∨ j = 29 ∨ j = 30 ∨ j = 31 by omega) with rfl | rfl | rfl | rfl | rfl | rfl | rfl | rfl | rfl | rfl | rfl | rfl | rfl | rfl | rfl | rfl | rfl | rfl | rfl | rfl | rfl | rfl | rfl | rfl | rfl | rfl | rfl | rfl | rfl | rfl | rfl | rfl
    · exact j_tabIn C 172 (by decide) (by decide) rfl (by decide) dL_law_33 (lw_c_can C hX hi hL h0 Kend)
    · exact j_tabIn C 205 (by decide) (by decide) rfl (by decide) dL_law_33 (lw_c_miss C hX hi hL h0 Kend)
    · exact j_tabIn C 248 (by decide) (by decide) rfl (by decide) dL_law_33 (lw_c_wind C hX hi hL h0 Kend)
    · exact j_tabIn C 281 (by decide) (by decide) rfl (by decide) dL_law_33 (lw_c_raw C hX hi hL h0 Kend)
    · exact j_tabIn C 324 (by decide) (by decide) rfl (by decide) dL_law_33 (lw_c_fix C hX hi hL h0 Kend)
    · exact j_tabIn C 367 (by decide) (by decide) rfl (by decide) dL_law_33 (lw_c_undo C hX hi hL h0 Kend)
    · exact j_tabIn C 380 (by decide) (by decide) rfl (by decide) dL_law_33 (lw_c_say C hX hi hL h0 Kend)
    · exact j_tabIn C 403 (by decide) (by decide) rfl (by decide) dL_law_33 (lw_c_wipe C hX hi hL h0 Kend)
    · exact j_tabIn C 416 (by decide) (by decide) rfl (by decide) dL_law_33 (lw_c_fault C hX hi hL h0 Kend)
    · exact j_tabIn C 429 (by decide) (by decide) rfl (by decide) dL_law_33 (lw_c_note C hX hi hL h0 Kend)
    · exact j_tabIn C 452 (by decide) (by decide) rfl (by decide) dL_law_33 (lw_c_of C hX hi hL h0 Kend)
    · exact j_tabIn C 495 (by decide) (by decide) rfl (by decide) dL_law_33 (lw_c_set C hX hi hL h0 Kend)
    · exact j_tabIn C 528 (by decide) (by decide) rfl (by decide) dL_law_33 (lw_c_week C hX hi hL h0 Kend)
    · exact j_tabIn C 571 (by decide) (by decide) rfl (by decide) dL_law_33 (lw_c_breaks C hX hi hL h0 Kend)
    · exact j_tabIn C 604 (by decide) (by decide) rfl (by decide) dL_law_33 (lw_c_chance C hX hi hL h0 Kend)
    · exact j_tabIn C 637 (by decide) (by decide) rfl (by decide) dL_law_33 (lw_c_radar C hX hi hL h0 Kend)
    · exact j_tabIn C 700 (by decide) (by decide) rfl (by decide) dL_law_33 (lw_c_blind C hX hi hL h0 Kend)
    · exact j_tabIn C 713 (by decide) (by decide) rfl (by decide) dL_law_33 (lw_c_bound C hX hi hL h0 Kend)
    · exact j_tabIn C 766 (by decide) (by decide) rfl (by decide) dL_law_33 (lw_c_over C hX hi hL h0 Kend)
    · exact j_tabIn C 841 (by decide) (by decide) rfl (by decide) dL_law_33 (lw_c_flow C hX hi hL h0 Kend)
    · exact j_tabIn C 928 (by decide) (by decide) rfl (by decide) dL_law_33 (lw_c_fill C hX hi hL h0 Kend)
    · exact j_tabIn C 971 (by decide) (by decide) rfl (by decide) dL_law_33 (lw_c_place C hX hi hL h0 Kend)
    · exact j_tabIn C 1024 (by decide) (by decide) rfl (by decide) dL_law_33 (lw_c_record C hX hi hL h0 Kend)
    · exact j_tabIn C 1067 (by decide) (by decide) rfl (by decide) dL_law_33 (lw_c_seam C hX hi hL h0 Kend)
    · exact j_tabIn C 1100 (by decide) (by decide) rfl (by decide) dL_law_33 (lw_c_claim C hX hi hL h0 Kend)
    · exact j_tabIn C 1133 (by decide) (by decide) rfl (by decide) dL_law_33 (lw_c_fives C hX hi hL h0 Kend)
    · exact j_tabIn C 1166 (by decide) (by decide) rfl (by decide) dL_law_33 (lw_c_odds C hX hi hL h0 Kend)
    · exact j_tabIn C 1199 (by decide) (by decide) rfl (by decide) dL_law_33 (lw_c_forgets C hX hi hL h0 Kend)
    · exact j_tabIn C 1232 (by decide) (by decide) rfl (by decide) dL_law_33 (lw_c_image C hX hi hL h0 Kend)
    · exact j_tabIn C 1255 (by decide) (by decide) rfl (by decide) dL_law_33 (lw_c_restore C hX hi hL h0 Kend)
    · exact j_tabIn C 1278 (by decide) (by decide) rfl (by decide) dL_law_33 (lw_c_told C hX hi hL h0 Kend)
    · exact j_tabOut C 1301 (swOutN 30 (by decide) (by decide)) (by decide) dL_law_33 (Kend σ μ h0)
theorem lw_none {X : jC} {kk : Nat → Nat} (C : jF X code R_law room_1 kk 4) {b L : Nat} {xs : Nat → Int32} (hX : jX X b L xs) (hL : L < 8) {u u2 : Nat → Nat} (w : va_W) : J X 133 9011 w [(3, .int (nI 0)), (2, .ref (u2 0)), (1, .ref (u 0)), (0, .ref b)] 18 [] := by
  refine j_iload_n C 0 rfl dL_law_18 ?_
  refine j_aload_n C 3 rfl dL_law_19 ?_
  refine j_slen C hX dL_law_20 ?_
  refine j_bipush C (nI 8) (by decide) dL_law_21 ?_
  refine j_isub C dL_law_23 ?_
  refine j_icmp_gt C 1307 (by decide) dL_law_24 (fun q => ?_) (fun q => absurd (pk_sneg (by decide) hL) q)
  refine j_iconst C (nI 1) (by decide) dL_law_1307 ?_
  exact j_lend C hX (by decide) (by decide) dL_law_1308
set_option maxRecDepth 100000 in
set_option maxHeartbeats 4000000 in
theorem lw_main {X : jC} {kk : Nat → Nat} (C : jF X code R_law room_1 kk 4) {b L : Nat} {xs : Nat → Int32} (hX : jX X b L xs) (hL : L ≤ 4096) : J X 0 0 [] [(0, .ref b)] 0 [] := by
  refine j_new (ci := 10) C inX10 gdX10 tyX10_ok tb_16 tb_17 tb_1 rfl [.null, .null, .null, .null, .null, .null, .null, .null, .null, .null] (fun j hj => by rcases (show j = 0 ∨ j = 1 ∨ j = 2 ∨ j = 3 ∨ j = 4 ∨ j = 5 ∨ j = 6 ∨ j = 7 ∨ j = 8 ∨ j = 9 by omega) with rfl | rfl | rfl | rfl | rfl | rfl | rfl | rfl | rfl | rfl <;> rfl) (by decide) (by decide) dL_law_0 (fun q => ?_)
  refine j_dup C rfl dL_law_3 ?_
  refine j_I (ce := 1) (sl := 10) (As := []) (rest := [.ref q]) C [] (c_RainCans_init kk q) kyX10_init tb_18 tb_19 rfl rfl (Nat.le_of_ble_eq_true rfl) ⟨by decide, by decide⟩ ⟨by decide, by decide⟩ dL_law_4 rfl (fun vr u hp => ?_)
  obtain ⟨rfl, hu⟩ := hp
  subst hu
  refine j_w (cX u kk s0X) rfl ?_
  refine j_astore_n C [(1, .ref (u 0)), (0, .ref b)] rfl (by decide) rfl dL_law_7 ?_
  refine j_new (ci := 11) C inX11 gdX11 tyX11_ok tb_867 tb_868 tb_14 rfl [.null, .null, .null, .int 0, .null, .null, .null, .null, .null, .int 0, .int 0, .int 0, .int 0, .int 0, .null, .int 0, .null, .null, .null, .null, .null, .null, .null, .null, .null, .null, .null, .null, .null, .null, .int 0, .int 0, .int 0, .int 0, .null, .null, .int 0, .int 0, .long 0, .long 0, .long 0, .null, .null, .null, .null, .null, .int 0, .int 0, .int 0, .int 0, .int 0, .int 0, .int 0, .null, .null, .null, .int 0, .int 0] (fun j hj => by rcases (show j = 0 ∨ j = 1 ∨ j = 2 ∨ j = 3 ∨ j = 4 ∨ j = 5 ∨ j = 6 ∨ j = 7 ∨ j = 8 ∨ j = 9 ∨ j = 10 ∨ j = 11 ∨ j = 12 ∨ j = 13 ∨ j = 14 ∨ j = 15 ∨ j = 16 ∨ j = 17 ∨ j = 18 ∨ j = 19 ∨ j = 20 ∨ j = 21 ∨ j = 22 ∨ j = 23 ∨ j = 24 ∨ j = 25 ∨ j = 26 ∨ j = 27 ∨ j = 28 ∨ j = 29 ∨ j = 30 ∨ j = 31 ∨ j = 32 ∨ j = 33 ∨ j = 34 ∨ j = 35 ∨ j = 36 ∨ j = 37 ∨ j = 38 ∨ j = 39 ∨ j = 40 ∨ j = 41 ∨ j = 42 ∨ j = 43 ∨ j = 44 ∨ j = 45 ∨ j = 46 ∨ j = 47 ∨ j = 48 ∨ j = 49 ∨ j = 50 ∨ j = 51 ∨ j = 52 ∨ j = 53 ∨ j = 54 ∨ j = 55 ∨ j = 56 ∨ j = 57 by omega) with rfl | rfl | rfl | rfl | rfl | rfl | rfl | rfl | rfl | rfl | rfl | rfl | rfl | rfl | rfl | rfl | rfl | rfl | rfl | rfl | rfl | rfl | rfl | rfl | rfl | rfl | rfl | rfl | rfl | rfl | rfl | rfl | rfl | rfl | rfl | rfl | rfl | rfl | rfl | rfl | rfl | rfl | rfl | rfl | rfl | rfl | rfl | rfl | rfl | rfl | rfl | rfl | rfl | rfl | rfl | rfl | rfl | rfl <;> rfl) (by decide) (by decide) dL_law_8 (fun q2 => ?_)
  refine j_dup C rfl dL_law_11 ?_
  refine j_I (ce := 100) (sl := 5535) (As := []) (rest := [.ref q2]) C (cX u kk s0X) (c_Model_init kk q2) kyX11_init tb_869 tb_870 rfl rfl (Nat.le_of_ble_eq_true rfl) ⟨by decide, by decide⟩ ⟨by decide, by decide⟩ dL_law_12 rfl (fun vr u2 hp => ?_)
  obtain ⟨rfl, hu⟩ := hp
  subst hu
  refine j_astore_n C [(2, .ref (u2 0)), (1, .ref (u 0)), (0, .ref b)] rfl (by decide) rfl dL_law_15 ?_
  refine j_iconst C (nI 0) (by decide) dL_law_16 ?_
  refine j_istore_n C [(3, .int (nI 0)), (2, .ref (u2 0)), (1, .ref (u 0)), (0, .ref b)] rfl (by decide) rfl dL_law_17 ?_
  rcases Nat.lt_or_ge L 8 with h | h
  · exact lw_none C hX h _
  · exact lw_loop C hX hL h _ 0 s0X s0M R0_0 (by omega) (Nat.lt_succ_self _)
theorem whole_start {p : Program} {e : Env} {s : State} {m : MethodId} {below : List Frame} {meth : Method} {c : Code} (l : Launch) (hflags : l.flags = flags0) {b L : Nat} {xs : Nat → Int32} (hL : L ≤ 4096) (C0 : lw_At p s m meth c b L xs) : W p l e room_1 s m #[Value.ref b] below meth c s.heap [] 0 0 (lw_Z below #[Value.ref b] s) (entryFrame m ([Value.ref b] : List Value).toArray 4) := by
  obtain ⟨hx, hb, hr, hml, hown, hts, hX, hbl, hlocks, hgv⟩ := id C0
  obtain ⟨D, kk, hK, hN, hZ⟩ := law_ctx hts hgv
  have hl := lv_entry ([.ref b]) (n := 4) (Nat.le_of_ble_eq_true rfl)
  rw [lg_entry_eq]
  exact lw_main (X := (p, l, e, room_1, s, m, #[Value.ref b], below, meth, c, lw_Z below #[Value.ref b] s, D, kk, (fun q : Nat => s.heap.size ≤ q), 4)) ⟨hx, hb, hml, hown, fun w h => hts w (List.mem_filter.mp h).1, hK, fun _ h => h, hN, hZ, rfl, rfl, rfl, hlocks⟩ ⟨hX, hbl, Nat.not_le.mpr hbl, fun _ h => h, hr, rfl, rfl, rfl⟩ hL s.heap [] _ (fun k q h => by simp at h) ⟨fun i j p q h => by simp at h, fun k q h => by simp at h⟩ va_S.rf hl
-- ===== YOUR PART ENDS =====
set_option maxHeartbeats 4000000 in
theorem lw_walk (l : Launch) (hflags : l.flags = flags0) (b : Addr) (xs : List Int32) : MetFree l x (headSpec (Jvm.Cond.code x code maxLocals ret :: tables_1) room_1) (lw_P b xs) (fun _ _ _ _ _ => True) lw_Q := by
  refine MetFree.of_bodyS (code := code) (maxLocals := maxLocals) (ret := ret) (by decide) ?_ ?_
  · intro args s m h hn
    obtain ⟨meth, c, h1, h2, h3, h4, h5, h6, -, -⟩ := Cond.code_spec hn (atoms_spec (ws := Jvm.Cond.code x code maxLocals ret :: tables_1) h _ List.mem_cons_self)
    exact ⟨meth, c, h1, h2, h3, h4, h5, h6⟩
  · intro p e s m args below meth c s₁ B hml0 hP _
    obtain ⟨rfl, hx, hbd, hgv⟩ := hP
    obtain ⟨scr, harrAt, hlist, hof, hsmall⟩ := hx
    obtain ⟨hcb, hkn, -, -⟩ := State.arrayAt?_spec harrAt
    have hown : s.vm.findClass R_law = some m.cls := findClass_of_methodNamed B.named
    have hts0 : ∀ c ∈ (Jvm.Cond.code x code maxLocals ret :: tables_1), c.before #[Value.ref b] s = true := atoms_spec (ws := Jvm.Cond.code x code maxLocals ret :: tables_1) B.pre
    have hts : ∀ w ∈ lw_tbl, w.before #[Value.ref b] s = true := k2_hts_sels lw_privs (fun w hw => hts0 w (List.mem_cons_of_mem _ hw)) lw_privs_ok
    have hml : c.maxLocals = 4 := B.maxLocals_eq (hts0 _ List.mem_cons_self)
    have X₀ : Stand p l e room_1 s m #[Value.ref b] below meth c s₁ [] 0 0 := Stand.of_body B
    have hh0 : s₁.heap = s.heap := by rw [B.state]; rfl
    have hsz : scr.slots.size = xs.length := by rw [← Array.length_toList, hlist, List.length_map]
    have hval : ∀ j : Nat, j < xs.length → scr.slots[j]? = some (.int (xs.getD j 0)) := fun j hj => by
      rw [← Array.getElem?_toList, hlist]
      simp [hj]
    have hbl : b < s.heap.size := (Array.getElem?_eq_some_iff.mp hcb).1
    have hX : va_X b xs.length (fun j => xs.getD j 0) s s.heap := ⟨scr, hcb, hof, hkn, hsz, hval⟩
    have K : W p l e room_1 s m #[Value.ref b] below meth c s₁.heap [] 0 0 (lw_Z below #[Value.ref b] s) (entryFrame m ([Value.ref b] : List Value).toArray 4) := by
      rw [hh0]
      exact whole_start l hflags hbd ⟨B.exec, B.bytes, B.returns, hml, hown, hts, hX, hbl, B.notSynchronized, hgv⟩
    obtain ⟨t, a1, o, b1, b2, b3⟩ := K s₁ rfl X₀
    exact ⟨t, o, a1, b1, b2, b3⟩
theorem lw_pre_spec {args : Array Value} {s : State} (h : (Jvm.Cond.and given_1 narrow_1).before args s = true) (hr : rest_1_c.before args s = true) : ∃ (b : Addr) (xs : List Int32), lw_P b xs args s := by
  have hs := flat_of_before _ h
  have hq := flat_of_before _ hr
  have hc : (Cond.count 1).before args s = true := hs _ (by decide +kernel)
  have harr : (Cond.arrayOf (.arg 0) .int).before args s = true := hs _ (by decide +kernel)
  have hle : (Cond.le (.length (.arg 0)) (.int 4096)).before args s = true := hs _ (by decide +kernel)
  have hlen : (Cond.isInt (.length (.arg 0))).before args s = true := hq _ (by decide +kernel)
  have hall : (Cond.all (.arg 0) (.isInt (.elem (.arg 0) (.index 0)))).before args s = true := hq _ (by decide +kernel)
  obtain ⟨b, xs, hb, hx⟩ := State.ints_of_pre rfl harr hlen hall
  have hsm : xs.length < 2 ^ 31 := hx.choose_spec.2.2.2
  have hev : (Term.length (.arg 0)).eval args s none [] s = some (.int xs.length.toInt32) := hx.length_eval hb
  have hv := Cond.le_ints hev (show (Term.int 4096).eval args s none [] s = some (.int 4096) from rfl)
  have hd : xs.length.toInt32 ≤ 4096 := by
    simpa [Cond.before, Cond.holds, hv] using hle
  have hN : xs.length ≤ 4096 := (Int32.ofNat_le_ofNat hsm (by decide)).mp (show Int32.ofNat xs.length ≤ Int32.ofNat 4096 from hd)
  exact ⟨b, xs, Cond.one_arg hc (show args[0]? = some (.ref b) from hb), hx, hN, h⟩
theorem lw_comes (l : Launch) (hflags : l.flags = flags0) : Comes l x (Jvm.Cond.code x code maxLocals ret :: tables_1) room_1 (fun tb e args s => Calls_1 tb e args s ∧ rest_1 tb e args s ∧ Pre_1 tb e args s)
    (fun _ _ args s o t => lw_Q args s o t) := by
  intro p e ha hc hk s m args below hf hfit hheap happ hpre
  obtain ⟨b, xs, hP⟩ := lw_pre_spec hpre.2.2 hpre.2.1
  obtain ⟨k, o, h1, h2, h3, hQ⟩ := lw_walk l hflags b xs p e ha hc hk s m args below hf ((Spec.applies_iff_loose hf).mp happ).1 hP trivial
  exact ⟨k, o, h1, h2, h3, hQ⟩
theorem lw_frame {s t : State} {o : Outcome} {args : Array Value} (h : Framed s o t [] 600000 7302250) :
    Framed s o t (fieldLocs frame_1_writes args s ++ arrayLocs frame_1_arrays args s ++ staticLocs frame_1_statics s) 600000 7302250 := h
theorem lw_limb (L : Cond) (hL : ∀ (args : Array Value) (s t : State), L.after args s (.returned (some (.int 1))) t = true) :
    ArmFor flags0 classFile x code maxLocals ret World_1 tables_1 room_1 Calls_1 rest_1 Pre_1
      (fun tb e a s o t => postC L tb e a s o t ∧ Framed s o t (fieldLocs frame_1_writes a s ++ arrayLocs frame_1_arrays a s ++ staticLocs frame_1_statics s) 600000 7302250) := by
  intro l hflags _ _ p e ha hc hk s m args below hf hfit hheap happ hpre
  obtain ⟨k, o, h1, h2, h3, rfl, hF⟩ := lw_comes l hflags p e ha hc hk s m args below hf hfit hheap happ hpre
  exact ⟨k, _, h1, h2, h3, hL args s _, lw_frame hF⟩
theorem i_vc : Claimed_1_1 ∧ Claimed_1_2 := ⟨lw_limb limb_1_1 (fun args s t => by simp [limb_1_1, Cond.after, Cond.holds, Cond.value]), lw_limb limb_1_2 (fun args s t => Cond.after_iff.mpr (by
  first | (rw [show limb_1_2 = Cond.eq .result (.int 1) from rfl, Cond.eq_ints (x := 1) (y := 1) rfl rfl]; simp; done) | (simp [limb_1_2, Cond.value, Term.eval]; done)))⟩

