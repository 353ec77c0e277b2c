theorem j_pop {X : jC} {cc : ByteArray} {own : String} {R : Room} {kk : Nat → Nat} {nL : Nat} (C : jF X cc own R kk nL) {ce sl : Nat} {w : va_W} {lv : List (Nat × Value)} {pc : Nat} {st : List Value} {v : Value} (hv : v.category = 1) (d : decode cc pc = .ok (.pop, 1)) (k : J X ce sl w lv (pc + 1) st) : J X ce sl w lv pc (v :: st) := by
  obtain ⟨p, l, e, R, s, m, args, below, meth, c, Q, D, kkx, A, nLx⟩ := X
  obtain ⟨hx, hb, hml, hown, hts, hK, hA, hN, hZ, hR, hkk, hnL, hlk⟩ := C
  subst hR hkk hnL
  exact fun H locs ls hP hD hS hl => lv_pop hx hb d hv (k H locs ls hP hD hS hl)
theorem j_pop2 {X : jC} {cc : ByteArray} {own : String} {R : Room} {kk : Nat → Nat} {nL : Nat} (C : jF X cc own R kk nL) {ce sl : Nat} {w : va_W} {lv : List (Nat × Value)} {pc : Nat} {st : List Value} {v : Value} (hv : v.category = 2) (d : decode cc pc = .ok (.pop2, 1)) (k : J X ce sl w lv (pc + 1) st) : J X ce sl w lv pc (v :: st) := by
  obtain ⟨p, l, e, R, s, m, args, below, meth, c, Q, D, kkx, A, nLx⟩ := X
  obtain ⟨hx, hb, hml, hown, hts, hK, hA, hN, hZ, hR, hkk, hnL, hlk⟩ := C
  subst hR hkk hnL
  exact fun H locs ls hP hD hS hl => lv_pop2_2 hx hb d hv (k H locs ls hP hD hS hl)
def RE (σ μ : St) : Prop := al_ 28 27 (σ.2.1 25) ∧ le_ 24 (σ.1 614) ∧ al_ 6 5 (σ.2.1 51) ∧ al_ 28 27 (μ.2.1 14) ∧ mM (μ.2.1 21) (μ.2.1 22) (μ.2.1 23) ∧ SG σ μ ∧ SC σ
def R0 (σ μ : St) : Prop := ∃ k n r : Nat, RB k n r σ μ ∧ RE σ μ
theorem rad_iff {d e : Int32} : (wB d (nI 0) (nI 999) = true ∧ wB e d (nI 999) = true) ↔ (wB d (nI 0) e = true ∧ wB e (nI 0) (nI 999) = true) := by
  unfold wB
  simp only [decide_eq_true_iff, Int32.le_iff_toInt_le]
  rw [nI_toInt (show 0 < 2 ^ 31 by decide), nI_toInt (show 999 < 2 ^ 31 by decide)]
  omega
set_option maxRecDepth 100000 in
set_option maxHeartbeats 4000000 in
theorem lw_c_can {X : jC} {kk : Nat → Nat} (C : jF X code R_law room_1 kk 4) {b L : Nat} {xs : Nat → Int32} (hX : jX X b L xs) {u u2 : Nat → Nat} {i : Nat} (hi : i + 8 ≤ L) (hL : L ≤ 4096) {σ μ : St} (h0 : R0 σ μ) (Kend : ∀ σ μ : St, R0 σ μ → J X 133 9011 (cX u kk σ ++ cM u2 kk μ) [(3, .int (nI i)), (2, .ref (u2 0)), (1, .ref (u 0)), (0, .ref b)] 1301 [])  : J X 133 9011 (cX u kk σ ++ cM u2 kk μ) [(3, .int (nI i)), (2, .ref (u2 0)), (1, .ref (u 0)), (0, .ref b)] 172 [] := by
  obtain ⟨k, n, r, hB, hE⟩ := id h0
  obtain ⟨hk6, hk, hkm⟩ := hB.k
  obtain ⟨hn20, hn, hnm⟩ := hB.n
  obtain ⟨hr6, hr, hrm⟩ := hB.r
  obtain ⟨hS, hP, hO, hSm, hM, hG, hSC⟩ := id hE
  have hHX := HX_of hB
  have hHM := HM_of hB
  have hHQ := HQ_of hB
  have hHN := HN_of hB
  have hI := hB.iX
  have hIm := hB.iM
  obtain ⟨p, hp40, hp, hp9, hsg⟩ := id hG
  refine j_aload_n C 2 rfl dL_law_172 ?_
  refine j_aload_n C 3 rfl dL_law_173 ?_
  refine j_iload_n C 0 rfl dL_law_174 ?_
  refine j_iconst C (nI 1) (by decide) dL_law_175 ?_
  refine j_iaddN C dL_law_176 ?_
  refine j_sld C hX (i + 1) rfl (by omega) (by omega) dL_law_177 ?_
  refine j_aload_n C 3 rfl dL_law_178 ?_
  refine j_iload_n C 0 rfl dL_law_179 ?_
  refine j_iconst C (nI 2) (by decide) dL_law_180 ?_
  refine j_iaddN C dL_law_181 ?_
  refine j_sld C hX (i + 2) rfl (by omega) (by omega) dL_law_182 ?_
  refine j_permL (cM u2 kk μ ++ cX u kk σ) List.perm_append_comm ?_
  refine j_V (ce := 133) (sl := 9011) (As := [.int (xs (i + 1)), .int (xs (i + 2))]) (rest := []) C (cM u2 kk μ) (c_can u kk σ k hk hk6 (xs (i + 1)) (xs (i + 2))) kyX10_can tb_460 tb_461 tb_462 34 (ci := 10) rfl rfl rfl (Nat.le_of_ble_eq_true rfl) ⟨by decide, by decide⟩ ⟨by decide, by decide⟩ dL_law_183 rfl (fun vr ua hp => ?_)
  obtain ⟨r1, rfl, h1⟩ := hp
  refine j_permL (cX u kk ua ++ cM u2 kk μ) List.perm_append_comm ?_
  refine j_pop C rfl dL_law_186 ?_
  refine j_aload_n C 1 rfl dL_law_187 ?_
  refine j_aload_n C 3 rfl dL_law_188 ?_
  refine j_iload_n C 0 rfl dL_law_189 ?_
  refine j_iconst C (nI 1) (by decide) dL_law_190 ?_
  refine j_iaddN C dL_law_191 ?_
  refine j_sld C hX (i + 1) rfl (by omega) (by omega) dL_law_192 ?_
  refine j_aload_n C 3 rfl dL_law_193 ?_
  refine j_iload_n C 0 rfl dL_law_194 ?_
  refine j_iconst C (nI 2) (by decide) dL_law_195 ?_
  refine j_iaddN C dL_law_196 ?_
  refine j_sld C hX (i + 2) rfl (by omega) (by omega) dL_law_197 ?_
  refine j_V (ce := 133) (sl := 9011) (As := [.int (xs (i + 1)), .int (xs (i + 2))]) (rest := []) C (cX u kk ua) (m_can u2 kk μ k hkm hk6 (xs (i + 1)) (xs (i + 2))) kyX11_can tb_1049 tb_1050 tb_1051 99 (ci := 11) rfl rfl rfl (Nat.le_of_ble_eq_true rfl) ⟨by decide, by decide⟩ ⟨by decide, by decide⟩ dL_law_198 rfl (fun vr ub hp => ?_)
  obtain ⟨r2, rfl, h2⟩ := hp
  refine j_pop C rfl dL_law_201 ?_
  refine j_goto C 1301 (by decide) dL_law_202 ?_
  have hR : R0 ua ub ∧ r1 = r2 := by
    rcases h1 with ⟨a0, a1, ar, au⟩ | ⟨a0, a1, ar, au⟩ | ⟨a0, ar, au⟩
    · rcases h2 with ⟨b0, br, bu⟩ | ⟨b0, b1, br, bu⟩ | ⟨b0, b1, br, bu⟩
      · exact absurd (a0.symm.trans b0) (by decide)
      · exfalso
        omega
      · rw [au, bu, ar, br]
        exact ⟨⟨_, _, _, ok_can hB a1 (andL a0) (andR a0), ⟨hE.1, hE.2.1, hE.2.2.1, hE.2.2.2.1, hE.2.2.2.2.1, hE.2.2.2.2.2.1, fun _ _ _ q => absurd (show nI 1 = 0 from q) (by decide)⟩⟩, by rw [Nat.add_sub_cancel]⟩
    · rcases h2 with ⟨b0, br, bu⟩ | ⟨b0, b1, br, bu⟩ | ⟨b0, b1, br, bu⟩
      · exact absurd (a0.symm.trans b0) (by decide)
      · rw [au, bu, ar, br]
        exact ⟨h0, rfl⟩
      · exfalso
        omega
    · rcases h2 with ⟨b0, br, bu⟩ | ⟨b0, b1, br, bu⟩ | ⟨b0, b1, br, bu⟩
      · rw [au, bu, ar, br]
        exact ⟨h0, rfl⟩
      · exact absurd (a0.symm.trans b0) (by decide)
      · exact absurd (a0.symm.trans b0) (by decide)
  exact Kend _ _ hR.1
set_option maxRecDepth 100000 in
set_option maxHeartbeats 4000000 in
theorem lw_c_miss {X : jC} {kk : Nat → Nat} (C : jF X code R_law room_1 kk 4) {b L : Nat} {xs : Nat → Int32} (hX : jX X b L xs) {u u2 : Nat → Nat} {i : Nat} (hi : i + 8 ≤ L) (hL : L ≤ 4096) {σ μ : St} (h0 : R0 σ μ) (Kend : ∀ σ μ : St, R0 σ μ → J X 133 9011 (cX u kk σ ++ cM u2 kk μ) [(3, .int (nI i)), (2, .ref (u2 0)), (1, .ref (u 0)), (0, .ref b)] 1301 [])  : J X 133 9011 (cX u kk σ ++ cM u2 kk μ) [(3, .int (nI i)), (2, .ref (u2 0)), (1, .ref (u 0)), (0, .ref b)] 205 [] := by
  obtain ⟨k, n, r, hB, hE⟩ := id h0
  obtain ⟨hk6, hk, hkm⟩ := hB.k
  obtain ⟨hn20, hn, hnm⟩ := hB.n
  obtain ⟨hr6, hr, hrm⟩ := hB.r
  obtain ⟨hS, hP, hO, hSm, hM, hG, hSC⟩ := id hE
  have hHX := HX_of hB
  have hHM := HM_of hB
  have hHQ := HQ_of hB
  have hHN := HN_of hB
  have hI := hB.iX
  have hIm := hB.iM
  obtain ⟨p, hp40, hp, hp9, hsg⟩ := id hG
  refine j_aload_n C 2 rfl dL_law_205 ?_
  refine j_aload_n C 3 rfl dL_law_206 ?_
  refine j_iload_n C 0 rfl dL_law_207 ?_
  refine j_iconst C (nI 1) (by decide) dL_law_208 ?_
  refine j_iaddN C dL_law_209 ?_
  refine j_sld C hX (i + 1) rfl (by omega) (by omega) dL_law_210 ?_
  refine j_aload_n C 3 rfl dL_law_211 ?_
  refine j_iload_n C 0 rfl dL_law_212 ?_
  refine j_iconst C (nI 2) (by decide) dL_law_213 ?_
  refine j_iaddN C dL_law_214 ?_
  refine j_sld C hX (i + 2) rfl (by omega) (by omega) dL_law_215 ?_
  refine j_aload_n C 3 rfl dL_law_216 ?_
  refine j_iload_n C 0 rfl dL_law_217 ?_
  refine j_iconst C (nI 3) (by decide) dL_law_218 ?_
  refine j_iaddN C dL_law_219 ?_
  refine j_sld C hX (i + 3) rfl (by omega) (by omega) dL_law_220 ?_
  refine j_permL (cM u2 kk μ ++ cX u kk σ) List.perm_append_comm ?_
  refine j_V (ce := 133) (sl := 9011) (As := [.int (xs (i + 1)), .int (xs (i + 2)), .int (xs (i + 3))]) (rest := []) C (cM u2 kk μ) (c_miss u kk σ k hk hk6 (xs (i + 1)) (xs (i + 2)) (xs (i + 3))) kyX10_miss tb_474 tb_475 tb_476 34 (ci := 10) rfl rfl rfl (Nat.le_of_ble_eq_true rfl) ⟨by decide, by decide⟩ ⟨by decide, by decide⟩ dL_law_221 rfl (fun vr ua hp => ?_)
  obtain ⟨r1, rfl, h1⟩ := hp
  refine j_permL (cX u kk ua ++ cM u2 kk μ) List.perm_append_comm ?_
  refine j_pop C rfl dL_law_224 ?_
  refine j_aload_n C 1 rfl dL_law_225 ?_
  refine j_aload_n C 3 rfl dL_law_226 ?_
  refine j_iload_n C 0 rfl dL_law_227 ?_
  refine j_iconst C (nI 1) (by decide) dL_law_228 ?_
  refine j_iaddN C dL_law_229 ?_
  refine j_sld C hX (i + 1) rfl (by omega) (by omega) dL_law_230 ?_
  refine j_aload_n C 3 rfl dL_law_231 ?_
  refine j_iload_n C 0 rfl dL_law_232 ?_
  refine j_iconst C (nI 2) (by decide) dL_law_233 ?_
  refine j_iaddN C dL_law_234 ?_
  refine j_sld C hX (i + 2) rfl (by omega) (by omega) dL_law_235 ?_
  refine j_aload_n C 3 rfl dL_law_236 ?_
  refine j_iload_n C 0 rfl dL_law_237 ?_
  refine j_iconst C (nI 3) (by decide) dL_law_238 ?_
  refine j_iaddN C dL_law_239 ?_
  refine j_sld C hX (i + 3) rfl (by omega) (by omega) dL_law_240 ?_
  refine j_V (ce := 133) (sl := 9011) (As := [.int (xs (i + 1)), .int (xs (i + 2)), .int (xs (i + 3))]) (rest := []) C (cX u kk ua) (m_miss u2 kk μ k hkm hk6 (xs (i + 1)) (xs (i + 2)) (xs (i + 3))) kyX11_miss tb_1063 tb_1064 tb_1065 99 (ci := 11) rfl rfl rfl (Nat.le_of_ble_eq_true rfl) ⟨by decide, by decide⟩ ⟨by decide, by decide⟩ dL_law_241 rfl (fun vr ub hp => ?_)
  obtain ⟨r2, rfl, h2⟩ := hp
  refine j_pop C rfl dL_law_244 ?_
  refine j_goto C 1301 (by decide) dL_law_245 ?_
  have hR : R0 ua ub ∧ r1 = r2 := by
    rcases h1 with ⟨a0, a1, ar, au⟩ | ⟨n, m, a0, a1, a2, a3, a4, a5, a6, a7, ar, au⟩ | ⟨a0, a1, a2, ar, au⟩ | ⟨a0, ar, au⟩
    · rcases h2 with ⟨b0, b1, br, bu⟩ | ⟨n9, m9, b0, b1, b2, b3, b4, b5, b6, b7, br, bu⟩ | ⟨b0, b1, b2, br, bu⟩ | ⟨b0, br, bu⟩
      · rw [au, bu, ar, br]
        exact ⟨h0, rfl⟩
      · exact absurd (a1.symm.trans b1) (by decide)
      · exact absurd (a1.symm.trans b1) (by decide)
      · exact absurd (a0.symm.trans b0) (by decide)
    · rcases h2 with ⟨b0, b1, br, bu⟩ | ⟨n9, m9, b0, b1, b2, b3, b4, b5, b6, b7, br, bu⟩ | ⟨b0, b1, b2, br, bu⟩ | ⟨b0, br, bu⟩
      · exact absurd (a1.symm.trans b1) (by decide)
      · have en : n9 = n := nI_inj (by omega) (by omega) b4 a4
        subst en
        have em : m9 = m := nI_inj (by omega) (by omega) b7 a7
        subst em
        have q := ok_miss hB a3 a6 a2
        rw [au, bu, ar, br]
        exact ⟨⟨_, _, _, q.1, ⟨hE.1, hE.2.1, hE.2.2.1, hE.2.2.2.1, hE.2.2.2.2.1, hE.2.2.2.2.2.1, fun _ _ _ q => absurd (show nI 1 = 0 from q) (by decide)⟩⟩, q.2⟩
      · exact absurd (a2.symm.trans b2) (by decide)
      · exact absurd (a0.symm.trans b0) (by decide)
    · rcases h2 with ⟨b0, b1, br, bu⟩ | ⟨n9, m9, b0, b1, b2, b3, b4, b5, b6, b7, br, bu⟩ | ⟨b0, b1, b2, br, bu⟩ | ⟨b0, br, bu⟩
      · exact absurd (a1.symm.trans b1) (by decide)
      · exact absurd (a2.symm.trans b2) (by decide)
      · rw [au, bu, ar, br]
        exact ⟨h0, rfl⟩
      · exact absurd (a0.symm.trans b0) (by decide)
    · rcases h2 with ⟨b0, b1, br, bu⟩ | ⟨n9, m9, b0, b1, b2, b3, b4, b5, b6, b7, br, bu⟩ | ⟨b0, b1, b2, br, bu⟩ | ⟨b0, br, bu⟩
      · exact absurd (a0.symm.trans b0) (by decide)
      · exact absurd (a0.symm.trans b0) (by decide)
      · exact absurd (a0.symm.trans b0) (by decide)
      · rw [au, bu, ar, br]
        exact ⟨h0, rfl⟩
  exact Kend _ _ hR.1
set_option maxRecDepth 100000 in
set_option maxHeartbeats 4000000 in
theorem lw_c_wind {X : jC} {kk : Nat → Nat} (C : jF X code R_law room_1 kk 4) {b L : Nat} {xs : Nat → Int32} (hX : jX X b L xs) {u u2 : Nat → Nat} {i : Nat} (hi : i + 8 ≤ L) (hL : L ≤ 4096) {σ μ : St} (h0 : R0 σ μ) (Kend : ∀ σ μ : St, R0 σ μ → J X 133 9011 (cX u kk σ ++ cM u2 kk μ) [(3, .int (nI i)), (2, .ref (u2 0)), (1, .ref (u 0)), (0, .ref b)] 1301 [])  : J X 133 9011 (cX u kk σ ++ cM u2 kk μ) [(3, .int (nI i)), (2, .ref (u2 0)), (1, .ref (u 0)), (0, .ref b)] 248 [] := by
  obtain ⟨k, n, r, hB, hE⟩ := id h0
  obtain ⟨hk6, hk, hkm⟩ := hB.k
  obtain ⟨hn20, hn, hnm⟩ := hB.n
  obtain ⟨hr6, hr, hrm⟩ := hB.r
  obtain ⟨hS, hP, hO, hSm, hM, hG, hSC⟩ := id hE
  have hHX := HX_of hB
  have hHM := HM_of hB
  have hHQ := HQ_of hB
  have hHN := HN_of hB
  have hI := hB.iX
  have hIm := hB.iM
  obtain ⟨p, hp40, hp, hp9, hsg⟩ := id hG
  refine j_aload_n C 2 rfl dL_law_248 ?_
  refine j_aload_n C 3 rfl dL_law_249 ?_
  refine j_iload_n C 0 rfl dL_law_250 ?_
  refine j_iconst C (nI 1) (by decide) dL_law_251 ?_
  refine j_iaddN C dL_law_252 ?_
  refine j_sld C hX (i + 1) rfl (by omega) (by omega) dL_law_253 ?_
  refine j_aload_n C 3 rfl dL_law_254 ?_
  refine j_iload_n C 0 rfl dL_law_255 ?_
  refine j_iconst C (nI 2) (by decide) dL_law_256 ?_
  refine j_iaddN C dL_law_257 ?_
  refine j_sld C hX (i + 2) rfl (by omega) (by omega) dL_law_258 ?_
  refine j_permL (cM u2 kk μ ++ cX u kk σ) List.perm_append_comm ?_
  refine j_V (ce := 133) (sl := 9011) (As := [.int (xs (i + 1)), .int (xs (i + 2))]) (rest := []) C (cM u2 kk μ) (c_wind u kk σ (xs (i + 1)) (xs (i + 2))) kyX10_wind tb_482 tb_483 tb_484 34 (ci := 10) rfl rfl rfl (Nat.le_of_ble_eq_true rfl) ⟨by decide, by decide⟩ ⟨by decide, by decide⟩ dL_law_259 rfl (fun vr ua hp => ?_)
  obtain ⟨r1, rfl, h1⟩ := hp
  refine j_permL (cX u kk ua ++ cM u2 kk μ) List.perm_append_comm ?_
  refine j_pop C rfl dL_law_262 ?_
  refine j_aload_n C 1 rfl dL_law_263 ?_
  refine j_aload_n C 3 rfl dL_law_264 ?_
  refine j_iload_n C 0 rfl dL_law_265 ?_
  refine j_iconst C (nI 1) (by decide) dL_law_266 ?_
  refine j_iaddN C dL_law_267 ?_
  refine j_sld C hX (i + 1) rfl (by omega) (by omega) dL_law_268 ?_
  refine j_aload_n C 3 rfl dL_law_269 ?_
  refine j_iload_n C 0 rfl dL_law_270 ?_
  refine j_iconst C (nI 2) (by decide) dL_law_271 ?_
  refine j_iaddN C dL_law_272 ?_
  refine j_sld C hX (i + 2) rfl (by omega) (by omega) dL_law_273 ?_
  refine j_V (ce := 133) (sl := 9011) (As := [.int (xs (i + 1)), .int (xs (i + 2))]) (rest := []) C (cX u kk ua) (m_wind u2 kk μ (xs (i + 1)) (xs (i + 2))) kyX11_wind tb_1073 tb_1074 tb_1075 99 (ci := 11) rfl rfl rfl (Nat.le_of_ble_eq_true rfl) ⟨by decide, by decide⟩ ⟨by decide, by decide⟩ dL_law_274 rfl (fun vr ub hp => ?_)
  obtain ⟨r2, rfl, h2⟩ := hp
  refine j_pop C rfl dL_law_277 ?_
  refine j_goto C 1301 (by decide) dL_law_278 ?_
  have hR : R0 ua ub ∧ r1 = r2 := by
    rcases h1 with ⟨n, a0, a1, a2, a3, a4, ar, au⟩ | ⟨a0, a1, ar, au⟩ | ⟨a0, ar, au⟩
    · rcases h2 with ⟨n9, b0, b1, b2, b3, b4, br, bu⟩ | ⟨b0, b1, br, bu⟩ | ⟨b0, br, bu⟩
      · have en : n9 = n := nI_inj (by omega) (by omega) b4 a4
        subst en
        have q := ok_wind hB a3 a1
        rw [au, bu, ar, br]
        exact ⟨⟨_, _, _, q.1, ⟨hE.1, hE.2.1, hE.2.2.1, hE.2.2.2.1, hE.2.2.2.2.1, hE.2.2.2.2.2.1, fun _ _ _ q => absurd (show nI 1 = 0 from q) (by decide)⟩⟩, q.2⟩
      · exact absurd (a1.symm.trans b1) (by decide)
      · exact absurd (a0.symm.trans b0) (by decide)
    · rcases h2 with ⟨n9, b0, b1, b2, b3, b4, br, bu⟩ | ⟨b0, b1, br, bu⟩ | ⟨b0, br, bu⟩
      · exact absurd (a1.symm.trans b1) (by decide)
      · rw [au, bu, ar, br]
        exact ⟨h0, rfl⟩
      · exact absurd (a0.symm.trans b0) (by decide)
    · rcases h2 with ⟨n9, b0, b1, b2, b3, b4, br, bu⟩ | ⟨b0, b1, br, bu⟩ | ⟨b0, br, bu⟩
      · exact absurd (a0.symm.trans b0) (by decide)
      · exact absurd (a0.symm.trans b0) (by decide)
      · rw [au, bu, ar, br]
        exact ⟨h0, rfl⟩
  exact Kend _ _ hR.1
set_option maxRecDepth 100000 in
set_option maxHeartbeats 4000000 in
theorem lw_c_raw {X : jC} {kk : Nat → Nat} (C : jF X code R_law room_1 kk 4) {b L : Nat} {xs : Nat → Int32} (hX : jX X b L xs) {u u2 : Nat → Nat} {i : Nat} (hi : i + 8 ≤ L) (hL : L ≤ 4096) {σ μ : St} (h0 : R0 σ μ) (Kend : ∀ σ μ : St, R0 σ μ → J X 133 9011 (cX u kk σ ++ cM u2 kk μ) [(3, .int (nI i)), (2, .ref (u2 0)), (1, .ref (u 0)), (0, .ref b)] 1301 [])  : J X 133 9011 (cX u kk σ ++ cM u2 kk μ) [(3, .int (nI i)), (2, .ref (u2 0)), (1, .ref (u 0)), (0, .ref b)] 281 [] := by
  obtain ⟨k, n, r, hB, hE⟩ := id h0
  obtain ⟨hk6, hk, hkm⟩ := hB.k
  obtain ⟨hn20, hn, hnm⟩ := hB.n
  obtain ⟨hr6, hr, hrm⟩ := hB.r
  obtain ⟨hS, hP, hO, hSm, hM, hG, hSC⟩ := id hE
  have hHX := HX_of hB
  have hHM := HM_of hB
  have hHQ := HQ_of hB
  have hHN := HN_of hB
  have hI := hB.iX
  have hIm := hB.iM
  obtain ⟨p, hp40, hp, hp9, hsg⟩ := id hG
  refine j_aload_n C 2 rfl dL_law_281 ?_
  refine j_aload_n C 3 rfl dL_law_282 ?_
  refine j_iload_n C 0 rfl dL_law_283 ?_
  refine j_iconst C (nI 1) (by decide) dL_law_284 ?_
  refine j_iaddN C dL_law_285 ?_
  refine j_sld C hX (i + 1) rfl (by omega) (by omega) dL_law_286 ?_
  refine j_aload_n C 3 rfl dL_law_287 ?_
  refine j_iload_n C 0 rfl dL_law_288 ?_
  refine j_iconst C (nI 2) (by decide) dL_law_289 ?_
  refine j_iaddN C dL_law_290 ?_
  refine j_sld C hX (i + 2) rfl (by omega) (by omega) dL_law_291 ?_
  refine j_aload_n C 3 rfl dL_law_292 ?_
  refine j_iload_n C 0 rfl dL_law_293 ?_
  refine j_iconst C (nI 3) (by decide) dL_law_294 ?_
  refine j_iaddN C dL_law_295 ?_
  refine j_sld C hX (i + 3) rfl (by omega) (by omega) dL_law_296 ?_
  refine j_permL (cM u2 kk μ ++ cX u kk σ) List.perm_append_comm ?_
  refine j_V (ce := 133) (sl := 9011) (As := [.int (xs (i + 1)), .int (xs (i + 2)), .int (xs (i + 3))]) (rest := []) C (cM u2 kk μ) (c_raw u kk σ k hk hk6 (xs (i + 1)) (xs (i + 2)) (xs (i + 3))) kyX10_raw tb_489 tb_490 tb_491 34 (ci := 10) rfl rfl rfl (Nat.le_of_ble_eq_true rfl) ⟨by decide, by decide⟩ ⟨by decide, by decide⟩ dL_law_297 rfl (fun vr ua hp => ?_)
  obtain ⟨r1, rfl, h1⟩ := hp
  refine j_permL (cX u kk ua ++ cM u2 kk μ) List.perm_append_comm ?_
  refine j_pop C rfl dL_law_300 ?_
  refine j_aload_n C 1 rfl dL_law_301 ?_
  refine j_aload_n C 3 rfl dL_law_302 ?_
  refine j_iload_n C 0 rfl dL_law_303 ?_
  refine j_iconst C (nI 1) (by decide) dL_law_304 ?_
  refine j_iaddN C dL_law_305 ?_
  refine j_sld C hX (i + 1) rfl (by omega) (by omega) dL_law_306 ?_
  refine j_aload_n C 3 rfl dL_law_307 ?_
  refine j_iload_n C 0 rfl dL_law_308 ?_
  refine j_iconst C (nI 2) (by decide) dL_law_309 ?_
  refine j_iaddN C dL_law_310 ?_
  refine j_sld C hX (i + 2) rfl (by omega) (by omega) dL_law_311 ?_
  refine j_aload_n C 3 rfl dL_law_312 ?_
  refine j_iload_n C 0 rfl dL_law_313 ?_
  refine j_iconst C (nI 3) (by decide) dL_law_314 ?_
  refine j_iaddN C dL_law_315 ?_
  refine j_sld C hX (i + 3) rfl (by omega) (by omega) dL_law_316 ?_
  refine j_V (ce := 133) (sl := 9011) (As := [.int (xs (i + 1)), .int (xs (i + 2)), .int (xs (i + 3))]) (rest := []) C (cX u kk ua) (m_raw u2 kk μ k hkm hk6 (xs (i + 1)) (xs (i + 2)) (xs (i + 3))) kyX11_raw tb_1081 tb_1082 tb_1083 99 (ci := 11) rfl rfl rfl (Nat.le_of_ble_eq_true rfl) ⟨by decide, by decide⟩ ⟨by decide, by decide⟩ dL_law_317 rfl (fun vr ub hp => ?_)
  obtain ⟨r2, rfl, h2⟩ := hp
  refine j_pop C rfl dL_law_320 ?_
  refine j_goto C 1301 (by decide) dL_law_321 ?_
  have hR : R0 ua ub ∧ r1 = r2 := by
    rcases h1 with ⟨a0, ar, au⟩ | ⟨n, m, a0, a1, a2, a3, a4, a5, a6, a7, ar, au⟩ | ⟨a0, a1, a2, ar, au⟩ | ⟨a0, a1, ar, au⟩
    · rcases h2 with ⟨b0, br, bu⟩ | ⟨n9, m9, b0, b1, b2, b3, b4, b5, b6, b7, b8, br, bu⟩ | ⟨n9, m9, b0, b1, b2, b3, b4, b5, b6, b7, b8, br, bu⟩ | ⟨b0, b1, b2, br, bu⟩ | ⟨b0, b1, br, bu⟩
      · rw [au, bu, ar, br]
        exact ⟨h0, rfl⟩
      · exact absurd (a0.symm.trans b0) (by decide)
      · exact absurd (a0.symm.trans b0) (by decide)
      · exact absurd (a0.symm.trans b0) (by decide)
      · exact absurd (a0.symm.trans b0) (by decide)
    · rcases h2 with ⟨b0, br, bu⟩ | ⟨n9, m9, b0, b1, b2, b3, b4, b5, b6, b7, b8, br, bu⟩ | ⟨n9, m9, b0, b1, b2, b3, b4, b5, b6, b7, b8, br, bu⟩ | ⟨b0, b1, b2, br, bu⟩ | ⟨b0, b1, br, bu⟩
      · exact absurd (a0.symm.trans b0) (by decide)
      · have en : n9 = n := nI_inj (by omega) (by omega) b4 a4
        subst en
        have em : m9 = m := nI_inj (by omega) (by omega) b7 a7
        subst em
        have q := ok_raw hB a3 a6 (wB_lm a2) (tr_ge b8)
        rw [au, bu, ar, br]
        exact ⟨⟨_, _, _, q.1, ⟨hE.1, hE.2.1, hE.2.2.1, hE.2.2.2.1, hE.2.2.2.2.1, hE.2.2.2.2.2.1, fun _ _ _ q => absurd (show nI 1 = 0 from q) (by decide)⟩⟩, q.2⟩
      · have en : n9 = n := nI_inj (by omega) (by omega) b4 a4
        subst en
        have em : m9 = m := nI_inj (by omega) (by omega) b7 a7
        subst em
        have q := ok_raw hB a3 a6 (wB_lm a2) (tr_lt (wB_lm a2) b8)
        rw [au, bu, ar, br]
        exact ⟨⟨_, _, _, q.1, ⟨hE.1, hE.2.1, hE.2.2.1, hE.2.2.2.1, hE.2.2.2.2.1, hE.2.2.2.2.2.1, fun _ _ _ q => absurd (show nI 1 = 0 from q) (by decide)⟩⟩, q.2⟩
      · exact absurd (a2.symm.trans b2) (by decide)
      · exact absurd (a1.symm.trans b1) (by decide)
    · rcases h2 with ⟨b0, br, bu⟩ | ⟨n9, m9, b0, b1, b2, b3, b4, b5, b6, b7, b8, br, bu⟩ | ⟨n9, m9, b0, b1, b2, b3, b4, b5, b6, b7, b8, br, bu⟩ | ⟨b0, b1, b2, br, bu⟩ | ⟨b0, b1, br, bu⟩
      · exact absurd (a0.symm.trans b0) (by decide)
      · exact absurd (a2.symm.trans b2) (by decide)
      · exact absurd (a2.symm.trans b2) (by decide)
      · rw [au, bu, ar, br]
        exact ⟨h0, rfl⟩
      · exact absurd (a1.symm.trans b1) (by decide)
    · rcases h2 with ⟨b0, br, bu⟩ | ⟨n9, m9, b0, b1, b2, b3, b4, b5, b6, b7, b8, br, bu⟩ | ⟨n9, m9, b0, b1, b2, b3, b4, b5, b6, b7, b8, br, bu⟩ | ⟨b0, b1, b2, br, bu⟩ | ⟨b0, b1, br, bu⟩
      · exact absurd (a0.symm.trans b0) (by decide)
      · exact absurd (a1.symm.trans b1) (by decide)
      · exact absurd (a1.symm.trans b1) (by decide)
      · exact absurd (a1.symm.trans b1) (by decide)
      · rw [au, bu, ar, br]
        exact ⟨h0, rfl⟩
  exact Kend _ _ hR.1
set_option maxRecDepth 100000 in
set_option maxHeartbeats 4000000 in
theorem lw_c_fix {X : jC} {kk : Nat → Nat} (C : jF X code R_law room_1 kk 4) {b L : Nat} {xs : Nat → Int32} (hX : jX X b L xs) {u u2 : Nat → Nat} {i : Nat} (hi : i + 8 ≤ L) (hL : L ≤ 4096) {σ μ : St} (h0 : R0 σ μ) (Kend : ∀ σ μ : St, R0 σ μ → J X 133 9011 (cX u kk σ ++ cM u2 kk μ) [(3, .int (nI i)), (2, .ref (u2 0)), (1, .ref (u 0)), (0, .ref b)] 1301 [])  : J X 133 9011 (cX u kk σ ++ cM u2 kk μ) [(3, .int (nI i)), (2, .ref (u2 0)), (1, .ref (u 0)), (0, .ref b)] 324 [] := by
  obtain ⟨k, n, r, hB, hE⟩ := id h0
  obtain ⟨hk6, hk, hkm⟩ := hB.k
  obtain ⟨hn20, hn, hnm⟩ := hB.n
  obtain ⟨hr6, hr, hrm⟩ := hB.r
  obtain ⟨hS, hP, hO, hSm, hM, hG, hSC⟩ := id hE
  have hHX := HX_of hB
  have hHM := HM_of hB
  have hHQ := HQ_of hB
  have hHN := HN_of hB
  have hI := hB.iX
  have hIm := hB.iM
  obtain ⟨p, hp40, hp, hp9, hsg⟩ := id hG
  refine j_aload_n C 2 rfl dL_law_324 ?_
  refine j_aload_n C 3 rfl dL_law_325 ?_
  refine j_iload_n C 0 rfl dL_law_326 ?_
  refine j_iconst C (nI 1) (by decide) dL_law_327 ?_
  refine j_iaddN C dL_law_328 ?_
  refine j_sld C hX (i + 1) rfl (by omega) (by omega) dL_law_329 ?_
  refine j_aload_n C 3 rfl dL_law_330 ?_
  refine j_iload_n C 0 rfl dL_law_331 ?_
  refine j_iconst C (nI 2) (by decide) dL_law_332 ?_
  refine j_iaddN C dL_law_333 ?_
  refine j_sld C hX (i + 2) rfl (by omega) (by omega) dL_law_334 ?_
  refine j_aload_n C 3 rfl dL_law_335 ?_
  refine j_iload_n C 0 rfl dL_law_336 ?_
  refine j_iconst C (nI 3) (by decide) dL_law_337 ?_
  refine j_iaddN C dL_law_338 ?_
  refine j_sld C hX (i + 3) rfl (by omega) (by omega) dL_law_339 ?_
  refine j_permL (cM u2 kk μ ++ cX u kk σ) List.perm_append_comm ?_
  refine j_V (ce := 133) (sl := 9011) (As := [.int (xs (i + 1)), .int (xs (i + 2)), .int (xs (i + 3))]) (rest := []) C (cM u2 kk μ) (c_fix u kk σ k hk hk6 n hn hn20 (xs (i + 1)) (xs (i + 2)) (xs (i + 3))) kyX10_fix tb_496 tb_497 tb_498 34 (ci := 10) rfl rfl rfl (Nat.le_of_ble_eq_true rfl) ⟨by decide, by decide⟩ ⟨by decide, by decide⟩ dL_law_340 rfl (fun vr ua hp => ?_)
  obtain ⟨r1, rfl, h1⟩ := hp
  refine j_permL (cX u kk ua ++ cM u2 kk μ) List.perm_append_comm ?_
  refine j_pop C rfl dL_law_343 ?_
  refine j_aload_n C 1 rfl dL_law_344 ?_
  refine j_aload_n C 3 rfl dL_law_345 ?_
  refine j_iload_n C 0 rfl dL_law_346 ?_
  refine j_iconst C (nI 1) (by decide) dL_law_347 ?_
  refine j_iaddN C dL_law_348 ?_
  refine j_sld C hX (i + 1) rfl (by omega) (by omega) dL_law_349 ?_
  refine j_aload_n C 3 rfl dL_law_350 ?_
  refine j_iload_n C 0 rfl dL_law_351 ?_
  refine j_iconst C (nI 2) (by decide) dL_law_352 ?_
  refine j_iaddN C dL_law_353 ?_
  refine j_sld C hX (i + 2) rfl (by omega) (by omega) dL_law_354 ?_
  refine j_aload_n C 3 rfl dL_law_355 ?_
  refine j_iload_n C 0 rfl dL_law_356 ?_
  refine j_iconst C (nI 3) (by decide) dL_law_357 ?_
  refine j_iaddN C dL_law_358 ?_
  refine j_sld C hX (i + 3) rfl (by omega) (by omega) dL_law_359 ?_
  refine j_V (ce := 133) (sl := 9011) (As := [.int (xs (i + 1)), .int (xs (i + 2)), .int (xs (i + 3))]) (rest := []) C (cX u kk ua) (m_fix u2 kk μ k hkm hk6 n hnm hn20 (xs (i + 1)) (xs (i + 2)) (xs (i + 3))) kyX11_fix tb_1087 tb_1088 tb_1089 99 (ci := 11) rfl rfl rfl (Nat.le_of_ble_eq_true rfl) ⟨by decide, by decide⟩ ⟨by decide, by decide⟩ dL_law_360 rfl (fun vr ub hp => ?_)
  obtain ⟨r2, rfl, h2⟩ := hp
  refine j_pop C rfl dL_law_363 ?_
  refine j_goto C 1301 (by decide) dL_law_364 ?_
  have hR : R0 ua ub ∧ r1 = r2 := by
    rcases h1 with ⟨a0, ar, au⟩ | ⟨n, m, a0, a1, a2, a3, a4, a5, a6, a7, a8, ar, au⟩ | ⟨a0, a1, a2, a3, ar, au⟩ | ⟨a0, a1, a2, ar, au⟩ | ⟨a0, a1, ar, au⟩
    · rcases h2 with ⟨b0, br, bu⟩ | ⟨n9, m9, b0, b1, b2, b3, b4, b5, b6, b7, b8, b9, br, bu⟩ | ⟨n9, m9, b0, b1, b2, b3, b4, b5, b6, b7, b8, b9, br, bu⟩ | ⟨b0, b1, b2, b3, br, bu⟩ | ⟨b0, b1, b2, br, bu⟩ | ⟨b0, b1, br, bu⟩
      · rw [au, bu, ar, br]
        exact ⟨h0, rfl⟩
      · exact absurd (a0.symm.trans b0) (by decide)
      · exact absurd (a0.symm.trans b0) (by decide)
      · exact absurd (a0.symm.trans b0) (by decide)
      · exact absurd (a0.symm.trans b0) (by decide)
      · exact absurd (a0.symm.trans b0) (by decide)
    · rcases h2 with ⟨b0, br, bu⟩ | ⟨n9, m9, b0, b1, b2, b3, b4, b5, b6, b7, b8, b9, br, bu⟩ | ⟨n9, m9, b0, b1, b2, b3, b4, b5, b6, b7, b8, b9, br, bu⟩ | ⟨b0, b1, b2, b3, br, bu⟩ | ⟨b0, b1, b2, br, bu⟩ | ⟨b0, b1, br, bu⟩
      · exact absurd (a0.symm.trans b0) (by decide)
      · have en : n9 = n := nI_inj (by omega) (by omega) b5 a5
        subst en
        have em : m9 = m := nI_inj (by omega) (by omega) b8 a8
        subst em
        have q := ok_fix hB a3 a4 a7 (wB_lm a2) (tr_ge b9)
        rw [au, bu, ar, br]
        exact ⟨⟨_, _, _, q, ⟨hE.1, hE.2.1, hE.2.2.1, hE.2.2.2.1, hE.2.2.2.2.1, hE.2.2.2.2.2.1, fun _ _ _ q => absurd (show nI 1 = 0 from q) (by decide)⟩⟩, rfl⟩
      · have en : n9 = n := nI_inj (by omega) (by omega) b5 a5
        subst en
        have em : m9 = m := nI_inj (by omega) (by omega) b8 a8
        subst em
        have q := ok_fix hB a3 a4 a7 (wB_lm a2) (tr_lt (wB_lm a2) b9)
        rw [au, bu, ar, br]
        exact ⟨⟨_, _, _, q, ⟨hE.1, hE.2.1, hE.2.2.1, hE.2.2.2.1, hE.2.2.2.2.1, hE.2.2.2.2.2.1, fun _ _ _ q => absurd (show nI 1 = 0 from q) (by decide)⟩⟩, rfl⟩
      · exfalso
        omega
      · exact absurd (a2.symm.trans b2) (by decide)
      · exact absurd (a1.symm.trans b1) (by decide)
    · rcases h2 with ⟨b0, br, bu⟩ | ⟨n9, m9, b0, b1, b2, b3, b4, b5, b6, b7, b8, b9, br, bu⟩ | ⟨n9, m9, b0, b1, b2, b3, b4, b5, b6, b7, b8, b9, br, bu⟩ | ⟨b0, b1, b2, b3, br, bu⟩ | ⟨b0, b1, b2, br, bu⟩ | ⟨b0, b1, br, bu⟩
      · exact absurd (a0.symm.trans b0) (by decide)
      · exfalso
        omega
      · exfalso
        omega
      · rw [au, bu, ar, br]
        exact ⟨h0, rfl⟩
      · exact absurd (a2.symm.trans b2) (by decide)
      · exact absurd (a1.symm.trans b1) (by decide)
    · rcases h2 with ⟨b0, br, bu⟩ | ⟨n9, m9, b0, b1, b2, b3, b4, b5, b6, b7, b8, b9, br, bu⟩ | ⟨n9, m9, b0, b1, b2, b3, b4, b5, b6, b7, b8, b9, br, bu⟩ | ⟨b0, b1, b2, b3, br, bu⟩ | ⟨b0, b1, b2, br, bu⟩ | ⟨b0, b1, br, bu⟩
      · exact absurd (a0.symm.trans b0) (by decide)
      · exact absurd (a2.symm.trans b2) (by decide)
      · exact absurd (a2.symm.trans b2) (by decide)
      · exact absurd (a2.symm.trans b2) (by decide)
      · rw [au, bu, ar, br]
        exact ⟨h0, rfl⟩
      · exact absurd (a1.symm.trans b1) (by decide)
    · rcases h2 with ⟨b0, br, bu⟩ | ⟨n9, m9, b0, b1, b2, b3, b4, b5, b6, b7, b8, b9, br, bu⟩ | ⟨n9, m9, b0, b1, b2, b3, b4, b5, b6, b7, b8, b9, br, bu⟩ | ⟨b0, b1, b2, b3, br, bu⟩ | ⟨b0, b1, b2, br, bu⟩ | ⟨b0, b1, br, bu⟩
      · exact absurd (a0.symm.trans b0) (by decide)
      · exact absurd (a1.symm.trans b1) (by decide)
      · exact absurd (a1.symm.trans b1) (by decide)
      · exact absurd (a1.symm.trans b1) (by decide)
      · exact absurd (a1.symm.trans b1) (by decide)
      · rw [au, bu, ar, br]
        exact ⟨h0, rfl⟩
  exact Kend _ _ hR.1
set_option maxRecDepth 100000 in
set_option maxHeartbeats 4000000 in
theorem lw_c_undo {X : jC} {kk : Nat → Nat} (C : jF X code R_law room_1 kk 4) {b L : Nat} {xs : Nat → Int32} (hX : jX X b L xs) {u u2 : Nat → Nat} {i : Nat} (hi : i + 8 ≤ L) (hL : L ≤ 4096) {σ μ : St} (h0 : R0 σ μ) (Kend : ∀ σ μ : St, R0 σ μ → J X 133 9011 (cX u kk σ ++ cM u2 kk μ) [(3, .int (nI i)), (2, .ref (u2 0)), (1, .ref (u 0)), (0, .ref b)] 1301 []) : J X 133 9011 (cX u kk σ ++ cM u2 kk μ) [(3, .int (nI i)), (2, .ref (u2 0)), (1, .ref (u 0)), (0, .ref b)] 367 [] := by
  obtain ⟨k, n, r, hB, hE⟩ := id h0
  obtain ⟨hn20, hn, hnm⟩ := hB.n
  cases n with
  | zero =>
    refine j_aload_n C 2 rfl dL_law_367 ?_
    refine j_permL (cM u2 kk μ ++ cX u kk σ) List.perm_append_comm ?_
    refine j_V (ce := 133) (sl := 9011) (As := []) (rest := []) C (cM u2 kk μ) (c_undo0 u kk σ hn) kyX10_undo tb_504 tb_505 tb_506 34 (ci := 10) rfl rfl rfl (Nat.le_of_ble_eq_true rfl) ⟨by decide, by decide⟩ ⟨by decide, by decide⟩ dL_law_368 rfl (fun vr ua hp => ?_)
    obtain ⟨r1, rfl, h1⟩ := hp
    refine j_permL (cX u kk ua ++ cM u2 kk μ) List.perm_append_comm ?_
    refine j_pop C rfl dL_law_371 ?_
    refine j_aload_n C 1 rfl dL_law_372 ?_
    refine j_V (ce := 133) (sl := 9011) (As := []) (rest := []) C (cX u kk ua) (m_undo u2 kk μ 0 hnm hn20) kyX11_undo tb_1091 tb_1092 tb_1093 99 (ci := 11) rfl rfl rfl (Nat.le_of_ble_eq_true rfl) ⟨by decide, by decide⟩ ⟨by decide, by decide⟩ dL_law_373 rfl (fun vr ub hp => ?_)
    obtain ⟨r2, rfl, h2⟩ := hp
    refine j_pop C rfl dL_law_376 ?_
    refine j_goto C 1301 (by decide) dL_law_377 ?_
    have hR : R0 ua ub ∧ r1 = r2 := by
      rcases h2 with ⟨b0, br, bu⟩ | ⟨b0, br, bu⟩
      · exact absurd rfl b0
      · rw [h1.2, bu, h1.1, br]
        exact ⟨h0, rfl⟩
    exact Kend _ _ hR.1
  | succ f =>
    obtain ⟨c9, d9, hc9, hd9, eq9, -⟩ := hB.1.2.2.2.2.2.2.2.1.2.2.2.1 f (by omega)
    obtain ⟨q, hq, eq⟩ : ∃ q : Nat, q < 168 ∧ σ.2.1 12 f = nI q := ⟨28 * c9 + d9, by omega, eq9⟩
    refine j_aload_n C 2 rfl dL_law_367 ?_
    refine j_permL (cM u2 kk μ ++ cX u kk σ) List.perm_append_comm ?_
    refine j_V (ce := 133) (sl := 9011) (As := []) (rest := []) C (cM u2 kk μ) (c_undo u kk σ f hn (by omega) q hq eq) kyX10_undo tb_504 tb_505 tb_506 34 (ci := 10) rfl rfl rfl (Nat.le_of_ble_eq_true rfl) ⟨by decide, by decide⟩ ⟨by decide, by decide⟩ dL_law_368 rfl (fun vr ua hp => ?_)
    obtain ⟨r1, rfl, h1⟩ := hp
    refine j_permL (cX u kk ua ++ cM u2 kk μ) List.perm_append_comm ?_
    refine j_pop C rfl dL_law_371 ?_
    refine j_aload_n C 1 rfl dL_law_372 ?_
    refine j_V (ce := 133) (sl := 9011) (As := []) (rest := []) C (cX u kk ua) (m_undo u2 kk μ (f + 1) hnm hn20) kyX11_undo tb_1091 tb_1092 tb_1093 99 (ci := 11) rfl rfl rfl (Nat.le_of_ble_eq_true rfl) ⟨by decide, by decide⟩ ⟨by decide, by decide⟩ dL_law_373 rfl (fun vr ub hp => ?_)
    obtain ⟨r2, rfl, h2⟩ := hp
    refine j_pop C rfl dL_law_376 ?_
    refine j_goto C 1301 (by decide) dL_law_377 ?_
    have hR : R0 ua ub ∧ r1 = r2 := by
      rcases h1 with ⟨a0, ar, au⟩ | ⟨a0, ar, au⟩
      · rcases h2 with ⟨b0, br, bu⟩ | ⟨b0, br, bu⟩
        · rw [au, bu, ar, br]
          exact ⟨⟨_, _, _, ok_undo hB hq eq, ⟨hE.1, hE.2.1, hE.2.2.1, hE.2.2.2.1, hE.2.2.2.2.1, hE.2.2.2.2.2.1, fun _ _ _ q => absurd (show nI 1 = 0 from q) (by decide)⟩⟩, rfl⟩
        · exact absurd b0 a0
      · exact absurd a0 (by omega)
    exact Kend _ _ hR.1
set_option maxRecDepth 100000 in
set_option maxHeartbeats 4000000 in
theorem lw_c_say {X : jC} {kk : Nat → Nat} (C : jF X code R_law room_1 kk 4) {b L : Nat} {xs : Nat → Int32} (hX : jX X b L xs) {u u2 : Nat → Nat} {i : Nat} (hi : i + 8 ≤ L) (hL : L ≤ 4096) {σ μ : St} (h0 : R0 σ μ) (Kend : ∀ σ μ : St, R0 σ μ → J X 133 9011 (cX u kk σ ++ cM u2 kk μ) [(3, .int (nI i)), (2, .ref (u2 0)), (1, .ref (u 0)), (0, .ref b)] 1301 [])  : J X 133 9011 (cX u kk σ ++ cM u2 kk μ) [(3, .int (nI i)), (2, .ref (u2 0)), (1, .ref (u 0)), (0, .ref b)] 380 [] := by
  obtain ⟨k, n, r, hB, hE⟩ := id h0
  obtain ⟨hk6, hk, hkm⟩ := hB.k
  obtain ⟨hn20, hn, hnm⟩ := hB.n
  obtain ⟨hr6, hr, hrm⟩ := hB.r
  obtain ⟨hS, hP, hO, hSm, hM, hG, hSC⟩ := id hE
  have hHX := HX_of hB
  have hHM := HM_of hB
  have hHQ := HQ_of hB
  have hHN := HN_of hB
  have hI := hB.iX
  have hIm := hB.iM
  obtain ⟨p, hp40, hp, hp9, hsg⟩ := id hG
  refine j_aload_n C 2 rfl dL_law_380 ?_
  refine j_aload_n C 3 rfl dL_law_381 ?_
  refine j_iload_n C 0 rfl dL_law_382 ?_
  refine j_iconst C (nI 1) (by decide) dL_law_383 ?_
  refine j_iaddN C dL_law_384 ?_
  refine j_sld C hX (i + 1) rfl (by omega) (by omega) dL_law_385 ?_
  refine j_permL (cM u2 kk μ ++ cX u kk σ) List.perm_append_comm ?_
  refine j_V (ce := 133) (sl := 9011) (As := [.int (xs (i + 1))]) (rest := []) C (cM u2 kk μ) (c_say u kk σ p hp hp40 (xs (i + 1))) kyX10_say tb_512 tb_513 tb_514 34 (ci := 10) rfl rfl rfl (Nat.le_of_ble_eq_true rfl) ⟨by decide, by decide⟩ ⟨by decide, by decide⟩ dL_law_386 rfl (fun vr ua hp => ?_)
  obtain ⟨r1, rfl, h1⟩ := hp
  refine j_permL (cX u kk ua ++ cM u2 kk μ) List.perm_append_comm ?_
  refine j_pop C rfl dL_law_389 ?_
  refine j_aload_n C 1 rfl dL_law_390 ?_
  refine j_aload_n C 3 rfl dL_law_391 ?_
  refine j_iload_n C 0 rfl dL_law_392 ?_
  refine j_iconst C (nI 1) (by decide) dL_law_393 ?_
  refine j_iaddN C dL_law_394 ?_
  refine j_sld C hX (i + 1) rfl (by omega) (by omega) dL_law_395 ?_
  refine j_V (ce := 133) (sl := 9011) (As := [.int (xs (i + 1))]) (rest := []) C (cX u kk ua) (m_say u2 kk μ p hp9 hp40 (xs (i + 1))) kyX11_say tb_1095 tb_1096 tb_1097 99 (ci := 11) rfl rfl rfl (Nat.le_of_ble_eq_true rfl) ⟨by decide, by decide⟩ ⟨by decide, by decide⟩ dL_law_396 rfl (fun vr ub hp => ?_)
  obtain ⟨r2, rfl, h2⟩ := hp
  refine j_pop C rfl dL_law_399 ?_
  refine j_goto C 1301 (by decide) dL_law_400 ?_
  have hR : R0 ua ub ∧ r1 = r2 := by
    rcases h1 with ⟨a0, a1, ar, au⟩ | ⟨a0, a1, ar, au⟩ | ⟨a0, ar, au⟩
    · rcases h2 with ⟨b0, b1, br, bu⟩ | ⟨b0, b1, br, bu⟩ | ⟨b0, br, bu⟩
      · rw [au, bu, ar, br]
        exact ⟨⟨k, n, r, RB_ag (ag.I (by decide) (ag.F (by decide) ag.rf)) (ag.I (by decide) (ag.F (by decide) ag.rf)) ⟨_, by omega, rfl⟩ ⟨_, by omega, rfl⟩ hB, hS, hP, hO, hSm, hM, ⟨p + 1, by omega, rfl, rfl, upd_ag hsg⟩, hSC⟩, rfl⟩
      · exfalso
        omega
      · exact absurd (a0.symm.trans b0) (by decide)
    · rcases h2 with ⟨b0, b1, br, bu⟩ | ⟨b0, b1, br, bu⟩ | ⟨b0, br, bu⟩
      · exfalso
        omega
      · rw [au, bu, ar, br]
        exact ⟨h0, rfl⟩
      · exact absurd (a0.symm.trans b0) (by decide)
    · rcases h2 with ⟨b0, b1, br, bu⟩ | ⟨b0, b1, br, bu⟩ | ⟨b0, br, bu⟩
      · exact absurd (a0.symm.trans b0) (by decide)
      · exact absurd (a0.symm.trans b0) (by decide)
      · rw [au, bu, ar, br]
        exact ⟨h0, rfl⟩
  exact Kend _ _ hR.1
set_option maxRecDepth 100000 in
set_option maxHeartbeats 4000000 in
theorem lw_c_wipe {X : jC} {kk : Nat → Nat} (C : jF X code R_law room_1 kk 4) {b L : Nat} {xs : Nat → Int32} (hX : jX X b L xs) {u u2 : Nat → Nat} {i : Nat} (hi : i + 8 ≤ L) (hL : L ≤ 4096) {σ μ : St} (h0 : R0 σ μ) (Kend : ∀ σ μ : St, R0 σ μ → J X 133 9011 (cX u kk σ ++ cM u2 kk μ) [(3, .int (nI i)), (2, .ref (u2 0)), (1, .ref (u 0)), (0, .ref b)] 1301 [])  : J X 133 9011 (cX u kk σ ++ cM u2 kk μ) [(3, .int (nI i)), (2, .ref (u2 0)), (1, .ref (u 0)), (0, .ref b)] 403 [] := by
  obtain ⟨k, n, r, hB, hE⟩ := id h0
  obtain ⟨hk6, hk, hkm⟩ := hB.k
  obtain ⟨hn20, hn, hnm⟩ := hB.n
  obtain ⟨hr6, hr, hrm⟩ := hB.r
  obtain ⟨hS, hP, hO, hSm, hM, hG, hSC⟩ := id hE
  have hHX := HX_of hB
  have hHM := HM_of hB
  have hHQ := HQ_of hB
  have hHN := HN_of hB
  have hI := hB.iX
  have hIm := hB.iM
  obtain ⟨p, hp40, hp, hp9, hsg⟩ := id hG
  refine j_aload_n C 2 rfl dL_law_403 ?_
  refine j_permL (cM u2 kk μ ++ cX u kk σ) List.perm_append_comm ?_
  refine j_V (ce := 133) (sl := 9011) (As := []) (rest := []) C (cM u2 kk μ) (c_wipe u kk σ) kyX10_wipe tb_520 tb_521 tb_522 34 (ci := 10) rfl rfl rfl (Nat.le_of_ble_eq_true rfl) ⟨by decide, by decide⟩ ⟨by decide, by decide⟩ dL_law_404 rfl (fun vr ua hp => ?_)
  obtain ⟨r1, rfl, h1⟩ := hp
  refine j_permL (cX u kk ua ++ cM u2 kk μ) List.perm_append_comm ?_
  refine j_pop C rfl dL_law_407 ?_
  refine j_aload_n C 1 rfl dL_law_408 ?_
  refine j_V (ce := 133) (sl := 9011) (As := []) (rest := []) C (cX u kk ua) (m_wipe u2 kk μ) kyX11_wipe tb_1101 tb_1102 tb_1103 99 (ci := 11) rfl rfl rfl (Nat.le_of_ble_eq_true rfl) ⟨by decide, by decide⟩ ⟨by decide, by decide⟩ dL_law_409 rfl (fun vr ub hp => ?_)
  obtain ⟨r2, rfl, h2⟩ := hp
  refine j_pop C rfl dL_law_412 ?_
  refine j_goto C 1301 (by decide) dL_law_413 ?_
  have hR : R0 ua ub ∧ r1 = r2 := by
    rw [h1.2, h2.2, h1.1, h2.1]
    exact ⟨⟨k, n, r, RB_ag (ag.I (by decide) ag.rf) (ag.I (by decide) ag.rf) ⟨0, by omega, rfl⟩ ⟨0, by omega, rfl⟩ hB, hS, hP, hO, hSm, hM, ⟨0, by omega, rfl, rfl, fun j hj => absurd hj (by omega)⟩, hSC⟩, hp.trans hp9.symm⟩
  exact Kend _ _ hR.1
set_option maxRecDepth 100000 in
set_option maxHeartbeats 4000000 in
theorem lw_c_fault {X : jC} {kk : Nat → Nat} (C : jF X code R_law room_1 kk 4) {b L : Nat} {xs : Nat → Int32} (hX : jX X b L xs) {u u2 : Nat → Nat} {i : Nat} (hi : i + 8 ≤ L) (hL : L ≤ 4096) {σ μ : St} (h0 : R0 σ μ) (Kend : ∀ σ μ : St, R0 σ μ → J X 133 9011 (cX u kk σ ++ cM u2 kk μ) [(3, .int (nI i)), (2, .ref (u2 0)), (1, .ref (u 0)), (0, .ref b)] 1301 [])  : J X 133 9011 (cX u kk σ ++ cM u2 kk μ) [(3, .int (nI i)), (2, .ref (u2 0)), (1, .ref (u 0)), (0, .ref b)] 416 [] := by
  obtain ⟨k, n, r, hB, hE⟩ := id h0
  obtain ⟨hk6, hk, hkm⟩ := hB.k
  obtain ⟨hn20, hn, hnm⟩ := hB.n
  obtain ⟨hr6, hr, hrm⟩ := hB.r
  obtain ⟨hS, hP, hO, hSm, hM, hG, hSC⟩ := id hE
  have hHX := HX_of hB
  have hHM := HM_of hB
  have hHQ := HQ_of hB
  have hHN := HN_of hB
  have hI := hB.iX
  have hIm := hB.iM
  obtain ⟨p, hp40, hp, hp9, hsg⟩ := id hG
  refine j_aload_n C 2 rfl dL_law_416 ?_
  refine j_permL (cM u2 kk μ ++ cX u kk σ) List.perm_append_comm ?_
  refine j_V (ce := 133) (sl := 9011) (As := []) (rest := []) C (cM u2 kk μ) (e_fault u kk σ k hk hk6 hI p hp hp40) kyX10_fault tb_524 tb_525 tb_526 34 (ci := 10) rfl rfl rfl (Nat.le_of_ble_eq_true rfl) ⟨by decide, by decide⟩ ⟨by decide, by decide⟩ dL_law_417 rfl (fun vr ua hp => ?_)
  obtain ⟨r1, rfl, h1⟩ := hp
  refine j_permL (cX u kk ua ++ cM u2 kk μ) List.perm_append_comm ?_
  refine j_pop C rfl dL_law_420 ?_
  refine j_aload_n C 1 rfl dL_law_421 ?_
  refine j_V (ce := 133) (sl := 9011) (As := []) (rest := []) C (cX u kk ua) (o_fault u2 kk μ k hkm hk6 hIm p hp9 hp40) kyX11_fault tb_1105 tb_1106 tb_1107 99 (ci := 11) rfl rfl rfl (Nat.le_of_ble_eq_true rfl) ⟨by decide, by decide⟩ ⟨by decide, by decide⟩ dL_law_422 rfl (fun vr ub hp => ?_)
  obtain ⟨r2, rfl, h2⟩ := hp
  refine j_pop C rfl dL_law_425 ?_
  refine j_goto C 1301 (by decide) dL_law_426 ?_
  have hR : R0 ua ub ∧ r1 = r2 := by
    obtain ⟨xu, xf0⟩ := h1
    obtain ⟨mu, mf0⟩ := h2
    rw [xu, mu, xf0, mf0]
    exact ⟨h0, by rw [ftR_congr p 0 0 (fun j hj => hsg j (by omega))]⟩
  exact Kend _ _ hR.1
set_option maxRecDepth 100000 in
set_option maxHeartbeats 4000000 in
theorem lw_c_note {X : jC} {kk : Nat → Nat} (C : jF X code R_law room_1 kk 4) {b L : Nat} {xs : Nat → Int32} (hX : jX X b L xs) {u u2 : Nat → Nat} {i : Nat} (hi : i + 8 ≤ L) (hL : L ≤ 4096) {σ μ : St} (h0 : R0 σ μ) (Kend : ∀ σ μ : St, R0 σ μ → J X 133 9011 (cX u kk σ ++ cM u2 kk μ) [(3, .int (nI i)), (2, .ref (u2 0)), (1, .ref (u 0)), (0, .ref b)] 1301 [])  : J X 133 9011 (cX u kk σ ++ cM u2 kk μ) [(3, .int (nI i)), (2, .ref (u2 0)), (1, .ref (u 0)), (0, .ref b)] 429 [] := by
  obtain ⟨k, n, r, hB, hE⟩ := id h0
  obtain ⟨hk6, hk, hkm⟩ := hB.k
  obtain ⟨hn20, hn, hnm⟩ := hB.n
  obtain ⟨hr6, hr, hrm⟩ := hB.r
  obtain ⟨hS, hP, hO, hSm, hM, hG, hSC⟩ := id hE
  have hHX := HX_of hB
  have hHM := HM_of hB
  have hHQ := HQ_of hB
  have hHN := HN_of hB
  have hI := hB.iX
  have hIm := hB.iM
  obtain ⟨p, hp40, hp, hp9, hsg⟩ := id hG
  refine j_aload_n C 2 rfl dL_law_429 ?_
  refine j_aload_n C 3 rfl dL_law_430 ?_
  refine j_iload_n C 0 rfl dL_law_431 ?_
  refine j_iconst C (nI 1) (by decide) dL_law_432 ?_
  refine j_iaddN C dL_law_433 ?_
  refine j_sld C hX (i + 1) rfl (by omega) (by omega) dL_law_434 ?_
  refine j_permL (cM u2 kk μ ++ cX u kk σ) List.perm_append_comm ?_
  refine j_V (ce := 133) (sl := 9011) (As := [.int (xs (i + 1))]) (rest := []) C (cM u2 kk μ) (e_note u kk σ k hk hk6 hI hS p hp hp40 (xs (i + 1))) kyX10_note tb_541 tb_542 tb_543 34 (ci := 10) rfl rfl rfl (Nat.le_of_ble_eq_true rfl) ⟨by decide, by decide⟩ ⟨by decide, by decide⟩ dL_law_435 rfl (fun vr ua hp => ?_)
  obtain ⟨r1, rfl, h1⟩ := hp
  refine j_permL (cX u kk ua ++ cM u2 kk μ) List.perm_append_comm ?_
  refine j_pop C rfl dL_law_438 ?_
  refine j_aload_n C 1 rfl dL_law_439 ?_
  refine j_aload_n C 3 rfl dL_law_440 ?_
  refine j_iload_n C 0 rfl dL_law_441 ?_
  refine j_iconst C (nI 1) (by decide) dL_law_442 ?_
  refine j_iaddN C dL_law_443 ?_
  refine j_sld C hX (i + 1) rfl (by omega) (by omega) dL_law_444 ?_
  refine j_V (ce := 133) (sl := 9011) (As := [.int (xs (i + 1))]) (rest := []) C (cX u kk ua) (o_note u2 kk μ k hkm hk6 hIm hSm p hp9 hp40 (xs (i + 1))) kyX11_note tb_1114 tb_1115 tb_1116 99 (ci := 11) rfl rfl rfl (Nat.le_of_ble_eq_true rfl) ⟨by decide, by decide⟩ ⟨by decide, by decide⟩ dL_law_445 rfl (fun vr ub hp => ?_)
  obtain ⟨r2, rfl, h2⟩ := hp
  refine j_pop C rfl dL_law_448 ?_
  refine j_goto C 1301 (by decide) dL_law_449 ?_
  have hR : R0 ua ub ∧ r1 = r2 := by
    obtain ⟨xF7, xF8, xF9, xF24, xF25, xF26, xI352, xI353, xI437, xu, xf0, xf1, xf2, xf3⟩ := h1
    obtain ⟨mF10, mF11, mF12, mF13, mF14, mF15, mI15, mu, mf0, mf1, mf2⟩ := h2
    obtain ⟨e1, e2, e3⟩ := note_ok hB hsg xf0 mf0 xf2 mf2
    rw [xu, mu]
    refine ⟨⟨k, n, r, RB_n (ag.I (by decide) (ag.I (by decide) (ag.I (by decide) (ag.F (by decide) (ag.F (by decide) (ag.F (by decide) (ag.F (by decide) (ag.F (by decide) (ag.F (by decide) ag.rf))))))))) (ag.I (by decide) (ag.F (by decide) (ag.F (by decide) (ag.F (by decide) (ag.F (by decide) (ag.F (by decide) (ag.F (by decide) ag.rf))))))) (e3 _ _ rfl rfl rfl rfl rfl rfl) (le40 hp40 e2).1 (le40 hp40 e2).2 hB, xf1, hP, hO, mf1, hM, ?_, ?_⟩, e1⟩
    · rcases e2 with ⟨z1, z2⟩ | ⟨z1, z2⟩
      · exact ⟨p, hp40, z1, z2, hsg⟩
      · exact ⟨0, by omega, z1, z2, fun j hj => absurd hj (by omega)⟩
    · rcases xf3 with z1 | ⟨z1, z2, z3, z4⟩
      · intro k9 _ _ q9
        have q9 : xI437 = 0 := q9
        rw [z1] at q9
        exact absurd q9 (by decide)
      · subst z1 z2 z3 z4
        exact hSC
  exact Kend _ _ hR.1
set_option maxRecDepth 100000 in
set_option maxHeartbeats 4000000 in
theorem lw_c_of {X : jC} {kk : Nat → Nat} (C : jF X code R_law room_1 kk 4) {b L : Nat} {xs : Nat → Int32} (hX : jX X b L xs) {u u2 : Nat → Nat} {i : Nat} (hi : i + 8 ≤ L) (hL : L ≤ 4096) {σ μ : St} (h0 : R0 σ μ) (Kend : ∀ σ μ : St, R0 σ μ → J X 133 9011 (cX u kk σ ++ cM u2 kk μ) [(3, .int (nI i)), (2, .ref (u2 0)), (1, .ref (u 0)), (0, .ref b)] 1301 [])  : J X 133 9011 (cX u kk σ ++ cM u2 kk μ) [(3, .int (nI i)), (2, .ref (u2 0)), (1, .ref (u 0)), (0, .ref b)] 452 [] := by
  obtain ⟨k, n, r, hB, hE⟩ := id h0
  obtain ⟨hk6, hk, hkm⟩ := hB.k
  obtain ⟨hn20, hn, hnm⟩ := hB.n
  obtain ⟨hr6, hr, hrm⟩ := hB.r
  obtain ⟨hS, hP, hO, hSm, hM, hG, hSC⟩ := id hE
  have hHX := HX_of hB
  have hHM := HM_of hB
  have hHQ := HQ_of hB
  have hHN := HN_of hB
  have hI := hB.iX
  have hIm := hB.iM
  obtain ⟨p, hp40, hp, hp9, hsg⟩ := id hG
  refine j_aload_n C 2 rfl dL_law_452 ?_
  refine j_aload_n C 3 rfl dL_law_453 ?_
  refine j_iload_n C 0 rfl dL_law_454 ?_
  refine j_iconst C (nI 1) (by decide) dL_law_455 ?_
  refine j_iaddN C dL_law_456 ?_
  refine j_sld C hX (i + 1) rfl (by omega) (by omega) dL_law_457 ?_
  refine j_aload_n C 3 rfl dL_law_458 ?_
  refine j_iload_n C 0 rfl dL_law_459 ?_
  refine j_iconst C (nI 2) (by decide) dL_law_460 ?_
  refine j_iaddN C dL_law_461 ?_
  refine j_sld C hX (i + 2) rfl (by omega) (by omega) dL_law_462 ?_
  refine j_aload_n C 3 rfl dL_law_463 ?_
  refine j_iload_n C 0 rfl dL_law_464 ?_
  refine j_iconst C (nI 3) (by decide) dL_law_465 ?_
  refine j_iaddN C dL_law_466 ?_
  refine j_sld C hX (i + 3) rfl (by omega) (by omega) dL_law_467 ?_
  refine j_permL (cM u2 kk μ ++ cX u kk σ) List.perm_append_comm ?_
  refine j_V (ce := 133) (sl := 9011) (As := [.int (xs (i + 1)), .int (xs (i + 2)), .int (xs (i + 3))]) (rest := []) C (cM u2 kk μ) (e_of u kk σ k hk hk6 hI (gdX σ) hHX (hSC k hk6 hk) (xs (i + 1)) (xs (i + 2)) (xs (i + 3))) kyX10_of tb_558 tb_559 tb_560 34 (ci := 10) rfl rfl rfl (Nat.le_of_ble_eq_true rfl) ⟨by decide, by decide⟩ ⟨by decide, by decide⟩ dL_law_468 rfl (fun vr ua hp => ?_)
  obtain ⟨r1, rfl, h1⟩ := hp
  refine j_permL (cX u kk ua ++ cM u2 kk μ) List.perm_append_comm ?_
  refine j_pop C rfl dL_law_471 ?_
  refine j_aload_n C 1 rfl dL_law_472 ?_
  refine j_aload_n C 3 rfl dL_law_473 ?_
  refine j_iload_n C 0 rfl dL_law_474 ?_
  refine j_iconst C (nI 1) (by decide) dL_law_475 ?_
  refine j_iaddN C dL_law_476 ?_
  refine j_sld C hX (i + 1) rfl (by omega) (by omega) dL_law_477 ?_
  refine j_aload_n C 3 rfl dL_law_478 ?_
  refine j_iload_n C 0 rfl dL_law_479 ?_
  refine j_iconst C (nI 2) (by decide) dL_law_480 ?_
  refine j_iaddN C dL_law_481 ?_
  refine j_sld C hX (i + 2) rfl (by omega) (by omega) dL_law_482 ?_
  refine j_aload_n C 3 rfl dL_law_483 ?_
  refine j_iload_n C 0 rfl dL_law_484 ?_
  refine j_iconst C (nI 3) (by decide) dL_law_485 ?_
  refine j_iaddN C dL_law_486 ?_
  refine j_sld C hX (i + 3) rfl (by omega) (by omega) dL_law_487 ?_
  refine j_V (ce := 133) (sl := 9011) (As := [.int (xs (i + 1)), .int (xs (i + 2)), .int (xs (i + 3))]) (rest := []) C (cX u kk ua) (o_of u2 kk μ k hkm hk6 hIm n hnm hn20 (gdX σ) hHM (σ.2.1 6) (of_raw hB) (xs (i + 1)) (xs (i + 2)) (xs (i + 3))) kyX11_of tb_1127 tb_1128 tb_1129 99 (ci := 11) rfl rfl rfl (Nat.le_of_ble_eq_true rfl) ⟨by decide, by decide⟩ ⟨by decide, by decide⟩ dL_law_488 rfl (fun vr ub hp => ?_)
  obtain ⟨r2, rfl, h2⟩ := hp
  refine j_pop C rfl dL_law_491 ?_
  refine j_goto C 1301 (by decide) dL_law_492 ?_
  have hR : R0 ua ub ∧ r1 = r2 := by
    obtain ⟨xF28, xF29, xF30, xF31, xI437, xu, xf0, xf1⟩ := h1
    obtain ⟨mF16, mF17, mF18, mu, mf0⟩ := h2
    rw [xu, mu]
    exact ⟨⟨k, n, r, RB_ag (ag.I (by decide) (ag.F (by decide) (ag.F (by decide) (ag.F (by decide) (ag.F (by decide) ag.rf))))) (ag.F (by decide) (ag.F (by decide) (ag.F (by decide) ag.rf))) hB.2.2.1 hB.2.2.2.1 hB, hS, hP, hO, hSm, hM, hG, SC_rft hk6 hk hSC rfl rfl xf1⟩, xf0.trans ((rfl : _ = _).trans mf0.symm)⟩
  exact Kend _ _ hR.1
set_option maxRecDepth 100000 in
set_option maxHeartbeats 4000000 in
theorem lw_c_setO {X : jC} {kk : Nat → Nat} (C : jF X code R_law room_1 kk 4) {b L : Nat} {xs : Nat → Int32} (hX : jX X b L xs) {u u2 : Nat → Nat} {i : Nat} (hi : i + 8 ≤ L) (hL : L ≤ 4096) {σ μ : St} (h0 : R0 σ μ) (Kend : ∀ σ μ : St, R0 σ μ → J X 133 9011 (cX u kk σ ++ cM u2 kk μ) [(3, .int (nI i)), (2, .ref (u2 0)), (1, .ref (u 0)), (0, .ref b)] 1301 []) (hw : wB (xs (i + 1)) (nI 0) (nI 3) = false) : J X 133 9011 (cX u kk σ ++ cM u2 kk μ) [(3, .int (nI i)), (2, .ref (u2 0)), (1, .ref (u 0)), (0, .ref b)] 495 [] := by
  obtain ⟨k, n, r, hB, hE⟩ := id h0
  obtain ⟨hk6, hk, hkm⟩ := hB.k
  obtain ⟨hn20, hn, hnm⟩ := hB.n
  obtain ⟨hr6, hr, hrm⟩ := hB.r
  obtain ⟨hS, hP, hO, hSm, hM, hG, hSC⟩ := id hE
  have hHX := HX_of hB
  have hHM := HM_of hB
  have hHQ := HQ_of hB
  have hHN := HN_of hB
  have hI := hB.iX
  have hIm := hB.iM
  obtain ⟨p, hp40, hp, hp9, hsg⟩ := id hG
  refine j_aload_n C 2 rfl dL_law_495 ?_
  refine j_aload_n C 3 rfl dL_law_496 ?_
  refine j_iload_n C 0 rfl dL_law_497 ?_
  refine j_iconst C (nI 1) (by decide) dL_law_498 ?_
  refine j_iaddN C dL_law_499 ?_
  refine j_sld C hX (i + 1) rfl (by omega) (by omega) dL_law_500 ?_
  refine j_aload_n C 3 rfl dL_law_501 ?_
  refine j_iload_n C 0 rfl dL_law_502 ?_
  refine j_iconst C (nI 2) (by decide) dL_law_503 ?_
  refine j_iaddN C dL_law_504 ?_
  refine j_sld C hX (i + 2) rfl (by omega) (by omega) dL_law_505 ?_
  refine j_permL (cM u2 kk μ ++ cX u kk σ) List.perm_append_comm ?_
  refine j_V (ce := 133) (sl := 9011) (As := [.int (xs (i + 1)), .int (xs (i + 2))]) (rest := []) C (cM u2 kk μ) (c_set u kk σ (xs (i + 1)) (xs (i + 2))) kyX10_set tb_606 tb_607 tb_608 34 (ci := 10) rfl rfl rfl (Nat.le_of_ble_eq_true rfl) ⟨by decide, by decide⟩ ⟨by decide, by decide⟩ dL_law_506 rfl (fun vr ua hp => ?_)
  obtain ⟨r1, rfl, h1⟩ := hp
  refine j_permL (cX u kk ua ++ cM u2 kk μ) List.perm_append_comm ?_
  refine j_pop C rfl dL_law_509 ?_
  refine j_aload_n C 1 rfl dL_law_510 ?_
  refine j_aload_n C 3 rfl dL_law_511 ?_
  refine j_iload_n C 0 rfl dL_law_512 ?_
  refine j_iconst C (nI 1) (by decide) dL_law_513 ?_
  refine j_iaddN C dL_law_514 ?_
  refine j_sld C hX (i + 1) rfl (by omega) (by omega) dL_law_515 ?_
  refine j_aload_n C 3 rfl dL_law_516 ?_
  refine j_iload_n C 0 rfl dL_law_517 ?_
  refine j_iconst C (nI 2) (by decide) dL_law_518 ?_
  refine j_iaddN C dL_law_519 ?_
  refine j_sld C hX (i + 2) rfl (by omega) (by omega) dL_law_520 ?_
  refine j_V (ce := 133) (sl := 9011) (As := [.int (xs (i + 1)), .int (xs (i + 2))]) (rest := []) C (cX u kk ua) (m_setO u2 kk μ (xs (i + 1)) hw (xs (i + 2))) kyX11_set tb_1165 tb_1166 tb_1167 99 (ci := 11) rfl rfl rfl (Nat.le_of_ble_eq_true rfl) ⟨by decide, by decide⟩ ⟨by decide, by decide⟩ dL_law_521 rfl (fun vr ub hp => ?_)
  obtain ⟨r2, rfl, h2⟩ := hp
  refine j_pop C rfl dL_law_524 ?_
  refine j_goto C 1301 (by decide) dL_law_525 ?_
  have hR : R0 ua ub ∧ r1 = r2 := by
    rcases h1 with ⟨a0, ar, au⟩ | ⟨n9, a0, -⟩ | ⟨n9, a0, -⟩
    · rw [au, h2.2.2, ar, h2.2.1]
      exact ⟨h0, rfl⟩
    · exact absurd (a0.symm.trans hw) (by decide)
    · exact absurd (a0.symm.trans hw) (by decide)
  exact Kend _ _ hR.1
set_option maxRecDepth 100000 in
set_option maxHeartbeats 4000000 in
theorem lw_c_setn0 {X : jC} {kk : Nat → Nat} (C : jF X code R_law room_1 kk 4) {b L : Nat} {xs : Nat → Int32} (hX : jX X b L xs) {u u2 : Nat → Nat} {i : Nat} (hi : i + 8 ≤ L) (hL : L ≤ 4096) {σ μ : St} (h0 : R0 σ μ) (Kend : ∀ σ μ : St, R0 σ μ → J X 133 9011 (cX u kk σ ++ cM u2 kk μ) [(3, .int (nI i)), (2, .ref (u2 0)), (1, .ref (u 0)), (0, .ref b)] 1301 []) (hw : xs (i + 1) = nI 0) : J X 133 9011 (cX u kk σ ++ cM u2 kk μ) [(3, .int (nI i)), (2, .ref (u2 0)), (1, .ref (u 0)), (0, .ref b)] 495 [] := by
  obtain ⟨k, n, r, hB, hE⟩ := id h0
  obtain ⟨hk6, hk, hkm⟩ := hB.k
  obtain ⟨hn20, hn, hnm⟩ := hB.n
  obtain ⟨hr6, hr, hrm⟩ := hB.r
  obtain ⟨hS, hP, hO, hSm, hM, hG, hSC⟩ := id hE
  have hHX := HX_of hB
  have hHM := HM_of hB
  have hHQ := HQ_of hB
  have hHN := HN_of hB
  have hI := hB.iX
  have hIm := hB.iM
  obtain ⟨p, hp40, hp, hp9, hsg⟩ := id hG
  refine j_aload_n C 2 rfl dL_law_495 ?_
  refine j_aload_n C 3 rfl dL_law_496 ?_
  refine j_iload_n C 0 rfl dL_law_497 ?_
  refine j_iconst C (nI 1) (by decide) dL_law_498 ?_
  refine j_iaddN C dL_law_499 ?_
  refine j_sld C hX (i + 1) rfl (by omega) (by omega) dL_law_500 ?_
  refine j_aload_n C 3 rfl dL_law_501 ?_
  refine j_iload_n C 0 rfl dL_law_502 ?_
  refine j_iconst C (nI 2) (by decide) dL_law_503 ?_
  refine j_iaddN C dL_law_504 ?_
  refine j_sld C hX (i + 2) rfl (by omega) (by omega) dL_law_505 ?_
  refine j_permL (cM u2 kk μ ++ cX u kk σ) List.perm_append_comm ?_
  refine j_V (ce := 133) (sl := 9011) (As := [.int (xs (i + 1)), .int (xs (i + 2))]) (rest := []) C (cM u2 kk μ) (c_set u kk σ (xs (i + 1)) (xs (i + 2))) kyX10_set tb_606 tb_607 tb_608 34 (ci := 10) rfl rfl rfl (Nat.le_of_ble_eq_true rfl) ⟨by decide, by decide⟩ ⟨by decide, by decide⟩ dL_law_506 rfl (fun vr ua hp => ?_)
  obtain ⟨r1, rfl, h1⟩ := hp
  refine j_permL (cX u kk ua ++ cM u2 kk μ) List.perm_append_comm ?_
  refine j_pop C rfl dL_law_509 ?_
  refine j_aload_n C 1 rfl dL_law_510 ?_
  refine j_aload_n C 3 rfl dL_law_511 ?_
  refine j_iload_n C 0 rfl dL_law_512 ?_
  refine j_iconst C (nI 1) (by decide) dL_law_513 ?_
  refine j_iaddN C dL_law_514 ?_
  refine j_sld C hX (i + 1) rfl (by omega) (by omega) dL_law_515 ?_
  refine j_aload_n C 3 rfl dL_law_516 ?_
  refine j_iload_n C 0 rfl dL_law_517 ?_
  refine j_iconst C (nI 2) (by decide) dL_law_518 ?_
  refine j_iaddN C dL_law_519 ?_
  refine j_sld C hX (i + 2) rfl (by omega) (by omega) dL_law_520 ?_
  rw [hw]
  refine j_V (ce := 133) (sl := 9011) (As := [.int (nI 0), .int (xs (i + 2))]) (rest := []) C (cX u kk ua) (m_set0 u2 kk μ (xs (i + 2))) kyX11_set tb_1165 tb_1166 tb_1167 99 (ci := 11) rfl rfl rfl (Nat.le_of_ble_eq_true rfl) ⟨by decide, by decide⟩ ⟨by decide, by decide⟩ dL_law_521 rfl (fun vr ub hp => ?_)
  obtain ⟨r2, rfl, h2⟩ := hp
  refine j_pop C rfl dL_law_524 ?_
  refine j_goto C 1301 (by decide) dL_law_525 ?_
  have hR : R0 ua ub ∧ r1 = r2 := by
    rcases h1 with ⟨a0, ar, au⟩ | ⟨n9, a0, a1, a2, a3, a4, ar, au⟩ | ⟨n9, a0, a1, a2, a3, a4, ar, au⟩
    · exact absurd a0 (by rw [hw]; decide)
    · have e : n9 = 0 := nI_inj (by omega) (by decide) a3 hw
      subst e
      rw [show jS0 1 (nI 0).toNatClampNeg = nI 1 by decide, show jS0 2 (nI 0).toNatClampNeg = nI 40 by decide] at a4
      rcases h2 with ⟨b0, b1, br, bu⟩ | ⟨b0, b1, br, bu⟩
      · have q := ok_set0 hB a4
        rw [au, bu, ar, br]
        exact ⟨⟨_, _, _, q.1, ⟨hE.1, hE.2.1, hE.2.2.1, hE.2.2.2.1, hE.2.2.2.2.1, hE.2.2.2.2.2.1, fun _ _ _ q => absurd (show nI 1 = 0 from q) (by decide)⟩⟩, q.2⟩
      · exact absurd (a4.symm.trans b1) (by decide)
    · have e : n9 = 0 := nI_inj (by omega) (by decide) a3 hw
      subst e
      rw [show jS0 1 (nI 0).toNatClampNeg = nI 1 by decide, show jS0 2 (nI 0).toNatClampNeg = nI 40 by decide] at a4
      rcases h2 with ⟨b0, b1, br, bu⟩ | ⟨b0, b1, br, bu⟩
      · exact absurd (a4.symm.trans b1) (by decide)
      · rw [au, bu, ar, br]
        exact ⟨h0, rfl⟩
  exact Kend _ _ hR.1
set_option maxRecDepth 100000 in
set_option maxHeartbeats 4000000 in
theorem lw_c_setn1 {X : jC} {kk : Nat → Nat} (C : jF X code R_law room_1 kk 4) {b L : Nat} {xs : Nat → Int32} (hX : jX X b L xs) {u u2 : Nat → Nat} {i : Nat} (hi : i + 8 ≤ L) (hL : L ≤ 4096) {σ μ : St} (h0 : R0 σ μ) (Kend : ∀ σ μ : St, R0 σ μ → J X 133 9011 (cX u kk σ ++ cM u2 kk μ) [(3, .int (nI i)), (2, .ref (u2 0)), (1, .ref (u 0)), (0, .ref b)] 1301 []) (hw : xs (i + 1) = nI 1) : J X 133 9011 (cX u kk σ ++ cM u2 kk μ) [(3, .int (nI i)), (2, .ref (u2 0)), (1, .ref (u 0)), (0, .ref b)] 495 [] := by
  obtain ⟨k, n, r, hB, hE⟩ := id h0
  obtain ⟨hk6, hk, hkm⟩ := hB.k
  obtain ⟨hn20, hn, hnm⟩ := hB.n
  obtain ⟨hr6, hr, hrm⟩ := hB.r
  obtain ⟨hS, hP, hO, hSm, hM, hG, hSC⟩ := id hE
  have hHX := HX_of hB
  have hHM := HM_of hB
  have hHQ := HQ_of hB
  have hHN := HN_of hB
  have hI := hB.iX
  have hIm := hB.iM
  obtain ⟨p, hp40, hp, hp9, hsg⟩ := id hG
  refine j_aload_n C 2 rfl dL_law_495 ?_
  refine j_aload_n C 3 rfl dL_law_496 ?_
  refine j_iload_n C 0 rfl dL_law_497 ?_
  refine j_iconst C (nI 1) (by decide) dL_law_498 ?_
  refine j_iaddN C dL_law_499 ?_
  refine j_sld C hX (i + 1) rfl (by omega) (by omega) dL_law_500 ?_
  refine j_aload_n C 3 rfl dL_law_501 ?_
  refine j_iload_n C 0 rfl dL_law_502 ?_
  refine j_iconst C (nI 2) (by decide) dL_law_503 ?_
  refine j_iaddN C dL_law_504 ?_
  refine j_sld C hX (i + 2) rfl (by omega) (by omega) dL_law_505 ?_
  refine j_permL (cM u2 kk μ ++ cX u kk σ) List.perm_append_comm ?_
  refine j_V (ce := 133) (sl := 9011) (As := [.int (xs (i + 1)), .int (xs (i + 2))]) (rest := []) C (cM u2 kk μ) (c_set u kk σ (xs (i + 1)) (xs (i + 2))) kyX10_set tb_606 tb_607 tb_608 34 (ci := 10) rfl rfl rfl (Nat.le_of_ble_eq_true rfl) ⟨by decide, by decide⟩ ⟨by decide, by decide⟩ dL_law_506 rfl (fun vr ua hp => ?_)
  obtain ⟨r1, rfl, h1⟩ := hp
  refine j_permL (cX u kk ua ++ cM u2 kk μ) List.perm_append_comm ?_
  refine j_pop C rfl dL_law_509 ?_
  refine j_aload_n C 1 rfl dL_law_510 ?_
  refine j_aload_n C 3 rfl dL_law_511 ?_
  refine j_iload_n C 0 rfl dL_law_512 ?_
  refine j_iconst C (nI 1) (by decide) dL_law_513 ?_
  refine j_iaddN C dL_law_514 ?_
  refine j_sld C hX (i + 1) rfl (by omega) (by omega) dL_law_515 ?_
  refine j_aload_n C 3 rfl dL_law_516 ?_
  refine j_iload_n C 0 rfl dL_law_517 ?_
  refine j_iconst C (nI 2) (by decide) dL_law_518 ?_
  refine j_iaddN C dL_law_519 ?_
  refine j_sld C hX (i + 2) rfl (by omega) (by omega) dL_law_520 ?_
  rw [hw]
  refine j_V (ce := 133) (sl := 9011) (As := [.int (nI 1), .int (xs (i + 2))]) (rest := []) C (cX u kk ua) (m_set1 u2 kk μ (xs (i + 2))) kyX11_set tb_1165 tb_1166 tb_1167 99 (ci := 11) rfl rfl rfl (Nat.le_of_ble_eq_true rfl) ⟨by decide, by decide⟩ ⟨by decide, by decide⟩ dL_law_521 rfl (fun vr ub hp => ?_)
  obtain ⟨r2, rfl, h2⟩ := hp
  refine j_pop C rfl dL_law_524 ?_
  refine j_goto C 1301 (by decide) dL_law_525 ?_
  have hR : R0 ua ub ∧ r1 = r2 := by
    rcases h1 with ⟨a0, ar, au⟩ | ⟨n9, a0, a1, a2, a3, a4, ar, au⟩ | ⟨n9, a0, a1, a2, a3, a4, ar, au⟩
    · exact absurd a0 (by rw [hw]; decide)
    · have e : n9 = 1 := nI_inj (by omega) (by decide) a3 hw
      subst e
      rw [show jS0 1 (nI 1).toNatClampNeg = nI 0 by decide, show jS0 2 (nI 1).toNatClampNeg = nI 999 by decide] at a4
      rcases h2 with ⟨b0, b1, br, bu⟩ | ⟨b0, b1, br, bu⟩
      · have q := ok_set1 hB a4
        rw [au, bu, ar, br]
        exact ⟨⟨_, _, _, q.1, ⟨hE.1, hE.2.1, hE.2.2.1, hE.2.2.2.1, hE.2.2.2.2.1, hE.2.2.2.2.2.1, fun _ _ _ q => absurd (show nI 1 = 0 from q) (by decide)⟩⟩, q.2⟩
      · exact absurd (a4.symm.trans b1) (by decide)
    · have e : n9 = 1 := nI_inj (by omega) (by decide) a3 hw
      subst e
      rw [show jS0 1 (nI 1).toNatClampNeg = nI 0 by decide, show jS0 2 (nI 1).toNatClampNeg = nI 999 by decide] at a4
      rcases h2 with ⟨b0, b1, br, bu⟩ | ⟨b0, b1, br, bu⟩
      · exact absurd (a4.symm.trans b1) (by decide)
      · rw [au, bu, ar, br]
        exact ⟨h0, rfl⟩
  exact Kend _ _ hR.1
set_option maxRecDepth 100000 in
set_option maxHeartbeats 4000000 in
theorem lw_c_setn2 {X : jC} {kk : Nat → Nat} (C : jF X code R_law room_1 kk 4) {b L : Nat} {xs : Nat → Int32} (hX : jX X b L xs) {u u2 : Nat → Nat} {i : Nat} (hi : i + 8 ≤ L) (hL : L ≤ 4096) {σ μ : St} (h0 : R0 σ μ) (Kend : ∀ σ μ : St, R0 σ μ → J X 133 9011 (cX u kk σ ++ cM u2 kk μ) [(3, .int (nI i)), (2, .ref (u2 0)), (1, .ref (u 0)), (0, .ref b)] 1301 []) (hw : xs (i + 1) = nI 2) : J X 133 9011 (cX u kk σ ++ cM u2 kk μ) [(3, .int (nI i)), (2, .ref (u2 0)), (1, .ref (u 0)), (0, .ref b)] 495 [] := by
  obtain ⟨k, n, r, hB, hE⟩ := id h0
  obtain ⟨hk6, hk, hkm⟩ := hB.k
  obtain ⟨hn20, hn, hnm⟩ := hB.n
  obtain ⟨hr6, hr, hrm⟩ := hB.r
  obtain ⟨hS, hP, hO, hSm, hM, hG, hSC⟩ := id hE
  have hHX := HX_of hB
  have hHM := HM_of hB
  have hHQ := HQ_of hB
  have hHN := HN_of hB
  have hI := hB.iX
  have hIm := hB.iM
  obtain ⟨p, hp40, hp, hp9, hsg⟩ := id hG
  refine j_aload_n C 2 rfl dL_law_495 ?_
  refine j_aload_n C 3 rfl dL_law_496 ?_
  refine j_iload_n C 0 rfl dL_law_497 ?_
  refine j_iconst C (nI 1) (by decide) dL_law_498 ?_
  refine j_iaddN C dL_law_499 ?_
  refine j_sld C hX (i + 1) rfl (by omega) (by omega) dL_law_500 ?_
  refine j_aload_n C 3 rfl dL_law_501 ?_
  refine j_iload_n C 0 rfl dL_law_502 ?_
  refine j_iconst C (nI 2) (by decide) dL_law_503 ?_
  refine j_iaddN C dL_law_504 ?_
  refine j_sld C hX (i + 2) rfl (by omega) (by omega) dL_law_505 ?_
  refine j_permL (cM u2 kk μ ++ cX u kk σ) List.perm_append_comm ?_
  refine j_V (ce := 133) (sl := 9011) (As := [.int (xs (i + 1)), .int (xs (i + 2))]) (rest := []) C (cM u2 kk μ) (c_set u kk σ (xs (i + 1)) (xs (i + 2))) kyX10_set tb_606 tb_607 tb_608 34 (ci := 10) rfl rfl rfl (Nat.le_of_ble_eq_true rfl) ⟨by decide, by decide⟩ ⟨by decide, by decide⟩ dL_law_506 rfl (fun vr ua hp => ?_)
  obtain ⟨r1, rfl, h1⟩ := hp
  refine j_permL (cX u kk ua ++ cM u2 kk μ) List.perm_append_comm ?_
  refine j_pop C rfl dL_law_509 ?_
  refine j_aload_n C 1 rfl dL_law_510 ?_
  refine j_aload_n C 3 rfl dL_law_511 ?_
  refine j_iload_n C 0 rfl dL_law_512 ?_
  refine j_iconst C (nI 1) (by decide) dL_law_513 ?_
  refine j_iaddN C dL_law_514 ?_
  refine j_sld C hX (i + 1) rfl (by omega) (by omega) dL_law_515 ?_
  refine j_aload_n C 3 rfl dL_law_516 ?_
  refine j_iload_n C 0 rfl dL_law_517 ?_
  refine j_iconst C (nI 2) (by decide) dL_law_518 ?_
  refine j_iaddN C dL_law_519 ?_
  refine j_sld C hX (i + 2) rfl (by omega) (by omega) dL_law_520 ?_
  rw [hw]
  refine j_V (ce := 133) (sl := 9011) (As := [.int (nI 2), .int (xs (i + 2))]) (rest := []) C (cX u kk ua) (m_set2 u2 kk μ (xs (i + 2))) kyX11_set tb_1165 tb_1166 tb_1167 99 (ci := 11) rfl rfl rfl (Nat.le_of_ble_eq_true rfl) ⟨by decide, by decide⟩ ⟨by decide, by decide⟩ dL_law_521 rfl (fun vr ub hp => ?_)
  obtain ⟨r2, rfl, h2⟩ := hp
  refine j_pop C rfl dL_law_524 ?_
  refine j_goto C 1301 (by decide) dL_law_525 ?_
  have hR : R0 ua ub ∧ r1 = r2 := by
    rcases h1 with ⟨a0, ar, au⟩ | ⟨n9, a0, a1, a2, a3, a4, ar, au⟩ | ⟨n9, a0, a1, a2, a3, a4, ar, au⟩
    · exact absurd a0 (by rw [hw]; decide)
    · have e : n9 = 2 := nI_inj (by omega) (by decide) a3 hw
      subst e
      rw [show jS0 1 (nI 2).toNatClampNeg = nI 0 by decide, show jS0 2 (nI 2).toNatClampNeg = nI 99 by decide] at a4
      rcases h2 with ⟨b0, b1, br, bu⟩ | ⟨b0, b1, br, bu⟩
      · have q := ok_set2 hB a4
        rw [au, bu, ar, br]
        exact ⟨⟨_, _, _, q.1, ⟨hE.1, hE.2.1, hE.2.2.1, hE.2.2.2.1, hE.2.2.2.2.1, hE.2.2.2.2.2.1, fun _ _ _ q => absurd (show nI 1 = 0 from q) (by decide)⟩⟩, q.2⟩
      · exact absurd (a4.symm.trans b1) (by decide)
    · have e : n9 = 2 := nI_inj (by omega) (by decide) a3 hw
      subst e
      rw [show jS0 1 (nI 2).toNatClampNeg = nI 0 by decide, show jS0 2 (nI 2).toNatClampNeg = nI 99 by decide] at a4
      rcases h2 with ⟨b0, b1, br, bu⟩ | ⟨b0, b1, br, bu⟩
      · exact absurd (a4.symm.trans b1) (by decide)
      · rw [au, bu, ar, br]
        exact ⟨h0, rfl⟩
  exact Kend _ _ hR.1
set_option maxRecDepth 100000 in
set_option maxHeartbeats 4000000 in
theorem lw_c_setn3 {X : jC} {kk : Nat → Nat} (C : jF X code R_law room_1 kk 4) {b L : Nat} {xs : Nat → Int32} (hX : jX X b L xs) {u u2 : Nat → Nat} {i : Nat} (hi : i + 8 ≤ L) (hL : L ≤ 4096) {σ μ : St} (h0 : R0 σ μ) (Kend : ∀ σ μ : St, R0 σ μ → J X 133 9011 (cX u kk σ ++ cM u2 kk μ) [(3, .int (nI i)), (2, .ref (u2 0)), (1, .ref (u 0)), (0, .ref b)] 1301 []) (hw : xs (i + 1) = nI 3) : J X 133 9011 (cX u kk σ ++ cM u2 kk μ) [(3, .int (nI i)), (2, .ref (u2 0)), (1, .ref (u 0)), (0, .ref b)] 495 [] := by
  obtain ⟨k, n, r, hB, hE⟩ := id h0
  obtain ⟨hk6, hk, hkm⟩ := hB.k
  obtain ⟨hn20, hn, hnm⟩ := hB.n
  obtain ⟨hr6, hr, hrm⟩ := hB.r
  obtain ⟨hS, hP, hO, hSm, hM, hG, hSC⟩ := id hE
  have hHX := HX_of hB
  have hHM := HM_of hB
  have hHQ := HQ_of hB
  have hHN := HN_of hB
  have hI := hB.iX
  have hIm := hB.iM
  obtain ⟨p, hp40, hp, hp9, hsg⟩ := id hG
  refine j_aload_n C 2 rfl dL_law_495 ?_
  refine j_aload_n C 3 rfl dL_law_496 ?_
  refine j_iload_n C 0 rfl dL_law_497 ?_
  refine j_iconst C (nI 1) (by decide) dL_law_498 ?_
  refine j_iaddN C dL_law_499 ?_
  refine j_sld C hX (i + 1) rfl (by omega) (by omega) dL_law_500 ?_
  refine j_aload_n C 3 rfl dL_law_501 ?_
  refine j_iload_n C 0 rfl dL_law_502 ?_
  refine j_iconst C (nI 2) (by decide) dL_law_503 ?_
  refine j_iaddN C dL_law_504 ?_
  refine j_sld C hX (i + 2) rfl (by omega) (by omega) dL_law_505 ?_
  refine j_permL (cM u2 kk μ ++ cX u kk σ) List.perm_append_comm ?_
  refine j_V (ce := 133) (sl := 9011) (As := [.int (xs (i + 1)), .int (xs (i + 2))]) (rest := []) C (cM u2 kk μ) (c_set u kk σ (xs (i + 1)) (xs (i + 2))) kyX10_set tb_606 tb_607 tb_608 34 (ci := 10) rfl rfl rfl (Nat.le_of_ble_eq_true rfl) ⟨by decide, by decide⟩ ⟨by decide, by decide⟩ dL_law_506 rfl (fun vr ua hp => ?_)
  obtain ⟨r1, rfl, h1⟩ := hp
  refine j_permL (cX u kk ua ++ cM u2 kk μ) List.perm_append_comm ?_
  refine j_pop C rfl dL_law_509 ?_
  refine j_aload_n C 1 rfl dL_law_510 ?_
  refine j_aload_n C 3 rfl dL_law_511 ?_
  refine j_iload_n C 0 rfl dL_law_512 ?_
  refine j_iconst C (nI 1) (by decide) dL_law_513 ?_
  refine j_iaddN C dL_law_514 ?_
  refine j_sld C hX (i + 1) rfl (by omega) (by omega) dL_law_515 ?_
  refine j_aload_n C 3 rfl dL_law_516 ?_
  refine j_iload_n C 0 rfl dL_law_517 ?_
  refine j_iconst C (nI 2) (by decide) dL_law_518 ?_
  refine j_iaddN C dL_law_519 ?_
  refine j_sld C hX (i + 2) rfl (by omega) (by omega) dL_law_520 ?_
  rw [hw]
  refine j_V (ce := 133) (sl := 9011) (As := [.int (nI 3), .int (xs (i + 2))]) (rest := []) C (cX u kk ua) (m_set3 u2 kk μ (xs (i + 2))) kyX11_set tb_1165 tb_1166 tb_1167 99 (ci := 11) rfl rfl rfl (Nat.le_of_ble_eq_true rfl) ⟨by decide, by decide⟩ ⟨by decide, by decide⟩ dL_law_521 rfl (fun vr ub hp => ?_)
  obtain ⟨r2, rfl, h2⟩ := hp
  refine j_pop C rfl dL_law_524 ?_
  refine j_goto C 1301 (by decide) dL_law_525 ?_
  have hR : R0 ua ub ∧ r1 = r2 := by
    rcases h1 with ⟨a0, ar, au⟩ | ⟨n9, a0, a1, a2, a3, a4, ar, au⟩ | ⟨n9, a0, a1, a2, a3, a4, ar, au⟩
    · exact absurd a0 (by rw [hw]; decide)
    · have e : n9 = 3 := nI_inj (by omega) (by decide) a3 hw
      subst e
      rw [show jS0 1 (nI 3).toNatClampNeg = nI 0 by decide, show jS0 2 (nI 3).toNatClampNeg = nI 9 by decide] at a4
      rcases h2 with ⟨b0, b1, br, bu⟩ | ⟨b0, b1, br, bu⟩
      · have q := ok_set3 hB a4
        rw [au, bu, ar, br]
        exact ⟨⟨_, _, _, q.1, ⟨hE.1, hE.2.1, hE.2.2.1, hE.2.2.2.1, hE.2.2.2.2.1, hE.2.2.2.2.2.1, fun _ _ _ q => absurd (show nI 1 = 0 from q) (by decide)⟩⟩, q.2⟩
      · exact absurd (a4.symm.trans b1) (by decide)
    · have e : n9 = 3 := nI_inj (by omega) (by decide) a3 hw
      subst e
      rw [show jS0 1 (nI 3).toNatClampNeg = nI 0 by decide, show jS0 2 (nI 3).toNatClampNeg = nI 9 by decide] at a4
      rcases h2 with ⟨b0, b1, br, bu⟩ | ⟨b0, b1, br, bu⟩
      · exact absurd (a4.symm.trans b1) (by decide)
      · rw [au, bu, ar, br]
        exact ⟨h0, rfl⟩
  exact Kend _ _ hR.1
theorem lw_c_set {X : jC} {kk : Nat → Nat} (C : jF X code R_law room_1 kk 4) {b L : Nat} {xs : Nat → Int32} (hX : jX X b L xs) {u u2 : Nat → Nat} {i : Nat} (hi : i + 8 ≤ L) (hL : L ≤ 4096) {σ μ : St} (h0 : R0 σ μ) (Kend : ∀ σ μ : St, R0 σ μ → J X 133 9011 (cX u kk σ ++ cM u2 kk μ) [(3, .int (nI i)), (2, .ref (u2 0)), (1, .ref (u 0)), (0, .ref b)] 1301 []) : J X 133 9011 (cX u kk σ ++ cM u2 kk μ) [(3, .int (nI i)), (2, .ref (u2 0)), (1, .ref (u 0)), (0, .ref b)] 495 [] := by
  cases e : wB (xs (i + 1)) (nI 0) (nI 3) with
  | false => exact lw_c_setO C hX hi hL h0 Kend e
  | true =>
    obtain ⟨n, -, h2, h3⟩ := wB_nat (by decide) (by decide) e
    rcases (show n = 0 ∨ n = 1 ∨ n = 2 ∨ n = 3 by omega) with rfl | rfl | rfl | rfl
    · exact lw_c_setn0 C hX hi hL h0 Kend h3
    · exact lw_c_setn1 C hX hi hL h0 Kend h3
    · exact lw_c_setn2 C hX hi hL h0 Kend h3
    · exact lw_c_setn3 C hX hi hL h0 Kend h3
set_option maxRecDepth 100000 in
set_option maxHeartbeats 4000000 in
theorem lw_c_week {X : jC} {kk : Nat → Nat} (C : jF X code R_law room_1 kk 4) {b L : Nat} {xs : Nat → Int32} (hX : jX X b L xs) {u u2 : Nat → Nat} {i : Nat} (hi : i + 8 ≤ L) (hL : L ≤ 4096) {σ μ : St} (h0 : R0 σ μ) (Kend : ∀ σ μ : St, R0 σ μ → J X 133 9011 (cX u kk σ ++ cM u2 kk μ) [(3, .int (nI i)), (2, .ref (u2 0)), (1, .ref (u 0)), (0, .ref b)] 1301 [])  : J X 133 9011 (cX u kk σ ++ cM u2 kk μ) [(3, .int (nI i)), (2, .ref (u2 0)), (1, .ref (u 0)), (0, .ref b)] 528 [] := by
  obtain ⟨k, n, r, hB, hE⟩ := id h0
  obtain ⟨hk6, hk, hkm⟩ := hB.k
  obtain ⟨hn20, hn, hnm⟩ := hB.n
  obtain ⟨hr6, hr, hrm⟩ := hB.r
  obtain ⟨hS, hP, hO, hSm, hM, hG, hSC⟩ := id hE
  have hHX := HX_of hB
  have hHM := HM_of hB
  have hHQ := HQ_of hB
  have hHN := HN_of hB
  have hI := hB.iX
  have hIm := hB.iM
  obtain ⟨p, hp40, hp, hp9, hsg⟩ := id hG
  refine j_aload_n C 2 rfl dL_law_528 ?_
  refine j_aload_n C 3 rfl dL_law_529 ?_
  refine j_iload_n C 0 rfl dL_law_530 ?_
  refine j_iconst C (nI 1) (by decide) dL_law_531 ?_
  refine j_iaddN C dL_law_532 ?_
  refine j_sld C hX (i + 1) rfl (by omega) (by omega) dL_law_533 ?_
  refine j_aload_n C 3 rfl dL_law_534 ?_
  refine j_iload_n C 0 rfl dL_law_535 ?_
  refine j_iconst C (nI 2) (by decide) dL_law_536 ?_
  refine j_iaddN C dL_law_537 ?_
  refine j_sld C hX (i + 2) rfl (by omega) (by omega) dL_law_538 ?_
  refine j_aload_n C 3 rfl dL_law_539 ?_
  refine j_iload_n C 0 rfl dL_law_540 ?_
  refine j_iconst C (nI 3) (by decide) dL_law_541 ?_
  refine j_iaddN C dL_law_542 ?_
  refine j_sld C hX (i + 3) rfl (by omega) (by omega) dL_law_543 ?_
  refine j_permL (cM u2 kk μ ++ cX u kk σ) List.perm_append_comm ?_
  refine j_V (ce := 133) (sl := 9011) (As := [.int (xs (i + 1)), .int (xs (i + 2)), .int (xs (i + 3))]) (rest := []) C (cM u2 kk μ) (f_week u kk σ k hk hk6 hI (gdX σ) hHX (hSC k hk6 hk) (xs (i + 1)) (xs (i + 2)) (xs (i + 3))) kyX10_week tb_614 tb_615 tb_616 34 (ci := 10) rfl rfl rfl (Nat.le_of_ble_eq_true rfl) ⟨by decide, by decide⟩ ⟨by decide, by decide⟩ dL_law_544 rfl (fun vr ua hp => ?_)
  obtain ⟨r1, rfl, h1⟩ := hp
  refine j_permL (cX u kk ua ++ cM u2 kk μ) List.perm_append_comm ?_
  refine j_pop C rfl dL_law_547 ?_
  refine j_aload_n C 1 rfl dL_law_548 ?_
  refine j_aload_n C 3 rfl dL_law_549 ?_
  refine j_iload_n C 0 rfl dL_law_550 ?_
  refine j_iconst C (nI 1) (by decide) dL_law_551 ?_
  refine j_iaddN C dL_law_552 ?_
  refine j_sld C hX (i + 1) rfl (by omega) (by omega) dL_law_553 ?_
  refine j_aload_n C 3 rfl dL_law_554 ?_
  refine j_iload_n C 0 rfl dL_law_555 ?_
  refine j_iconst C (nI 2) (by decide) dL_law_556 ?_
  refine j_iaddN C dL_law_557 ?_
  refine j_sld C hX (i + 2) rfl (by omega) (by omega) dL_law_558 ?_
  refine j_aload_n C 3 rfl dL_law_559 ?_
  refine j_iload_n C 0 rfl dL_law_560 ?_
  refine j_iconst C (nI 3) (by decide) dL_law_561 ?_
  refine j_iaddN C dL_law_562 ?_
  refine j_sld C hX (i + 3) rfl (by omega) (by omega) dL_law_563 ?_
  refine j_V (ce := 133) (sl := 9011) (As := [.int (xs (i + 1)), .int (xs (i + 2)), .int (xs (i + 3))]) (rest := []) C (cX u kk ua) (n_week u2 kk μ k hkm hk6 hIm hM (xs (i + 1)) (xs (i + 2)) (xs (i + 3))) kyX11_week tb_1176 tb_1177 tb_1178 99 (ci := 11) rfl rfl rfl (Nat.le_of_ble_eq_true rfl) ⟨by decide, by decide⟩ ⟨by decide, by decide⟩ dL_law_564 rfl (fun vr ub hp => ?_)
  obtain ⟨r2, rfl, h2⟩ := hp
  refine j_pop C rfl dL_law_567 ?_
  refine j_goto C 1301 (by decide) dL_law_568 ?_
  have hR : R0 ua ub := by
    obtain ⟨xF28, xF29, xF30, xF31, xF34, xF35, xF36, xF37, xI437, xI518, xI519, xI520, xI521, xu, xf0⟩ := h1
    obtain ⟨mF16, mF17, mF18, mF19, mF20, mF21, mF22, mF23, mI30, mI31, mI32, mI33, mu, mf0⟩ := h2
    rw [xu, mu]
    exact ⟨k, n, r, RB_ag (ag.I (by decide) (ag.I (by decide) (ag.I (by decide) (ag.I (by decide) (ag.I (by decide) (ag.F (by decide) (ag.F (by decide) (ag.F (by decide) (ag.F (by decide) (ag.F (by decide) (ag.F (by decide) (ag.F (by decide) (ag.F (by decide) ag.rf))))))))))))) (ag.I (by decide) (ag.I (by decide) (ag.I (by decide) (ag.I (by decide) (ag.F (by decide) (ag.F (by decide) (ag.F (by decide) (ag.F (by decide) (ag.F (by decide) (ag.F (by decide) (ag.F (by decide) (ag.F (by decide) ag.rf)))))))))))) hB.2.2.1 hB.2.2.2.1 hB, hS, hP, hO, hSm, mf0, hG, SC_rft hk6 hk hSC rfl rfl xf0⟩
  exact Kend _ _ hR
set_option maxRecDepth 100000 in
set_option maxHeartbeats 4000000 in
theorem lw_c_breaks {X : jC} {kk : Nat → Nat} (C : jF X code R_law room_1 kk 4) {b L : Nat} {xs : Nat → Int32} (hX : jX X b L xs) {u u2 : Nat → Nat} {i : Nat} (hi : i + 8 ≤ L) (hL : L ≤ 4096) {σ μ : St} (h0 : R0 σ μ) (Kend : ∀ σ μ : St, R0 σ μ → J X 133 9011 (cX u kk σ ++ cM u2 kk μ) [(3, .int (nI i)), (2, .ref (u2 0)), (1, .ref (u 0)), (0, .ref b)] 1301 [])  : J X 133 9011 (cX u kk σ ++ cM u2 kk μ) [(3, .int (nI i)), (2, .ref (u2 0)), (1, .ref (u 0)), (0, .ref b)] 571 [] := by
  obtain ⟨k, n, r, hB, hE⟩ := id h0
  obtain ⟨hk6, hk, hkm⟩ := hB.k
  obtain ⟨hn20, hn, hnm⟩ := hB.n
  obtain ⟨hr6, hr, hrm⟩ := hB.r
  obtain ⟨hS, hP, hO, hSm, hM, hG, hSC⟩ := id hE
  have hHX := HX_of hB
  have hHM := HM_of hB
  have hHQ := HQ_of hB
  have hHN := HN_of hB
  have hI := hB.iX
  have hIm := hB.iM
  obtain ⟨p, hp40, hp, hp9, hsg⟩ := id hG
  refine j_aload_n C 2 rfl dL_law_571 ?_
  refine j_aload_n C 3 rfl dL_law_572 ?_
  refine j_iload_n C 0 rfl dL_law_573 ?_
  refine j_iconst C (nI 1) (by decide) dL_law_574 ?_
  refine j_iaddN C dL_law_575 ?_
  refine j_sld C hX (i + 1) rfl (by omega) (by omega) dL_law_576 ?_
  refine j_aload_n C 3 rfl dL_law_577 ?_
  refine j_iload_n C 0 rfl dL_law_578 ?_
  refine j_iconst C (nI 2) (by decide) dL_law_579 ?_
  refine j_iaddN C dL_law_580 ?_
  refine j_sld C hX (i + 2) rfl (by omega) (by omega) dL_law_581 ?_
  refine j_permL (cM u2 kk μ ++ cX u kk σ) List.perm_append_comm ?_
  refine j_V (ce := 133) (sl := 9011) (As := [.int (xs (i + 1)), .int (xs (i + 2))]) (rest := []) C (cM u2 kk μ) (f_breaks u kk σ k hk hk6 hI (gdX σ) hHX (hSC k hk6 hk) hP (xs (i + 1)) (xs (i + 2))) kyX10_breaks tb_646 tb_647 tb_648 34 (ci := 10) rfl rfl rfl (Nat.le_of_ble_eq_true rfl) ⟨by decide, by decide⟩ ⟨by decide, by decide⟩ dL_law_582 rfl (fun vr ua hp => ?_)
  obtain ⟨r1, rfl, h1⟩ := hp
  refine j_permL (cX u kk ua ++ cM u2 kk μ) List.perm_append_comm ?_
  refine j_pop C rfl dL_law_585 ?_
  refine j_aload_n C 1 rfl dL_law_586 ?_
  refine j_aload_n C 3 rfl dL_law_587 ?_
  refine j_iload_n C 0 rfl dL_law_588 ?_
  refine j_iconst C (nI 1) (by decide) dL_law_589 ?_
  refine j_iaddN C dL_law_590 ?_
  refine j_sld C hX (i + 1) rfl (by omega) (by omega) dL_law_591 ?_
  refine j_aload_n C 3 rfl dL_law_592 ?_
  refine j_iload_n C 0 rfl dL_law_593 ?_
  refine j_iconst C (nI 2) (by decide) dL_law_594 ?_
  refine j_iaddN C dL_law_595 ?_
  refine j_sld C hX (i + 2) rfl (by omega) (by omega) dL_law_596 ?_
  refine j_V (ce := 133) (sl := 9011) (As := [.int (xs (i + 1)), .int (xs (i + 2))]) (rest := []) C (cX u kk ua) (n_breaks u2 kk μ k hkm hk6 hIm  (xs (i + 1)) (xs (i + 2))) kyX11_breaks tb_1201 tb_1202 tb_1203 99 (ci := 11) rfl rfl rfl (Nat.le_of_ble_eq_true rfl) ⟨by decide, by decide⟩ ⟨by decide, by decide⟩ dL_law_597 rfl (fun vr ub hp => ?_)
  obtain ⟨r2, rfl, h2⟩ := hp
  refine j_pop C rfl dL_law_600 ?_
  refine j_goto C 1301 (by decide) dL_law_601 ?_
  have hR : R0 ua ub := by
    obtain ⟨xF28, xF29, xF30, xF31, xF39, xF40, xI437, xI612, xI613, xI614, xL615, xu, xf0, xf1⟩ := h1
    obtain ⟨mF16, mF17, mF18, mF24, mF25, mI36, mI37, mL38, mL39, mL40, mu⟩ := h2
    rw [xu, mu]
    exact ⟨k, n, r, RB_ag (ag.L (ag.I (by decide) (ag.I (by decide) (ag.I (by decide) (ag.I (by decide) (ag.F (by decide) (ag.F (by decide) (ag.F (by decide) (ag.F (by decide) (ag.F (by decide) (ag.F (by decide) ag.rf))))))))))) (ag.L (ag.L (ag.L (ag.I (by decide) (ag.I (by decide) (ag.F (by decide) (ag.F (by decide) (ag.F (by decide) (ag.F (by decide) (ag.F (by decide) ag.rf)))))))))) hB.2.2.1 hB.2.2.2.1 hB, hS, ⟨_, xf0, rfl⟩, hO, hSm, hM, hG, SC_rft hk6 hk hSC rfl rfl xf1⟩
  exact Kend _ _ hR
set_option maxRecDepth 100000 in
set_option maxHeartbeats 4000000 in
theorem lw_c_chance {X : jC} {kk : Nat → Nat} (C : jF X code R_law room_1 kk 4) {b L : Nat} {xs : Nat → Int32} (hX : jX X b L xs) {u u2 : Nat → Nat} {i : Nat} (hi : i + 8 ≤ L) (hL : L ≤ 4096) {σ μ : St} (h0 : R0 σ μ) (Kend : ∀ σ μ : St, R0 σ μ → J X 133 9011 (cX u kk σ ++ cM u2 kk μ) [(3, .int (nI i)), (2, .ref (u2 0)), (1, .ref (u 0)), (0, .ref b)] 1301 [])  : J X 133 9011 (cX u kk σ ++ cM u2 kk μ) [(3, .int (nI i)), (2, .ref (u2 0)), (1, .ref (u 0)), (0, .ref b)] 604 [] := by
  obtain ⟨k, n, r, hB, hE⟩ := id h0
  obtain ⟨hk6, hk, hkm⟩ := hB.k
  obtain ⟨hn20, hn, hnm⟩ := hB.n
  obtain ⟨hr6, hr, hrm⟩ := hB.r
  obtain ⟨hS, hP, hO, hSm, hM, hG, hSC⟩ := id hE
  have hHX := HX_of hB
  have hHM := HM_of hB
  have hHQ := HQ_of hB
  have hHN := HN_of hB
  have hI := hB.iX
  have hIm := hB.iM
  obtain ⟨p, hp40, hp, hp9, hsg⟩ := id hG
  refine j_aload_n C 2 rfl dL_law_604 ?_
  refine j_aload_n C 3 rfl dL_law_605 ?_
  refine j_iload_n C 0 rfl dL_law_606 ?_
  refine j_iconst C (nI 1) (by decide) dL_law_607 ?_
  refine j_iaddN C dL_law_608 ?_
  refine j_sld C hX (i + 1) rfl (by omega) (by omega) dL_law_609 ?_
  refine j_aload_n C 3 rfl dL_law_610 ?_
  refine j_iload_n C 0 rfl dL_law_611 ?_
  refine j_iconst C (nI 2) (by decide) dL_law_612 ?_
  refine j_iaddN C dL_law_613 ?_
  refine j_sld C hX (i + 2) rfl (by omega) (by omega) dL_law_614 ?_
  refine j_permL (cM u2 kk μ ++ cX u kk σ) List.perm_append_comm ?_
  refine j_V (ce := 133) (sl := 9011) (As := [.int (xs (i + 1)), .int (xs (i + 2))]) (rest := []) C (cM u2 kk μ) (f_chance u kk σ k hk hk6 hI (gdX σ) hHX (hSC k hk6 hk) hP (xs (i + 1)) (xs (i + 2))) kyX10_chance tb_678 tb_679 tb_680 34 (ci := 10) rfl rfl rfl (Nat.le_of_ble_eq_true rfl) ⟨by decide, by decide⟩ ⟨by decide, by decide⟩ dL_law_615 rfl (fun vr ua hp => ?_)
  obtain ⟨r1, rfl, h1⟩ := hp
  refine j_permL (cX u kk ua ++ cM u2 kk μ) List.perm_append_comm ?_
  refine j_pop C rfl dL_law_618 ?_
  refine j_aload_n C 1 rfl dL_law_619 ?_
  refine j_aload_n C 3 rfl dL_law_620 ?_
  refine j_iload_n C 0 rfl dL_law_621 ?_
  refine j_iconst C (nI 1) (by decide) dL_law_622 ?_
  refine j_iaddN C dL_law_623 ?_
  refine j_sld C hX (i + 1) rfl (by omega) (by omega) dL_law_624 ?_
  refine j_aload_n C 3 rfl dL_law_625 ?_
  refine j_iload_n C 0 rfl dL_law_626 ?_
  refine j_iconst C (nI 2) (by decide) dL_law_627 ?_
  refine j_iaddN C dL_law_628 ?_
  refine j_sld C hX (i + 2) rfl (by omega) (by omega) dL_law_629 ?_
  refine j_V (ce := 133) (sl := 9011) (As := [.int (xs (i + 1)), .int (xs (i + 2))]) (rest := []) C (cX u kk ua) (n_chance u2 kk μ k hkm hk6 hIm  (xs (i + 1)) (xs (i + 2))) kyX11_chance tb_1216 tb_1217 tb_1218 99 (ci := 11) rfl rfl rfl (Nat.le_of_ble_eq_true rfl) ⟨by decide, by decide⟩ ⟨by decide, by decide⟩ dL_law_630 rfl (fun vr ub hp => ?_)
  obtain ⟨r2, rfl, h2⟩ := hp
  refine j_pop C rfl dL_law_633 ?_
  refine j_goto C 1301 (by decide) dL_law_634 ?_
  have hR : R0 ua ub := by
    obtain ⟨xF28, xF29, xF30, xF31, xF39, xF40, xF41, xI437, xI612, xI613, xI614, xI616, xL615, xu, xf0, xf1⟩ := h1
    obtain ⟨mF16, mF17, mF18, mF24, mF25, mI36, mI37, mL38, mL39, mL40, mu⟩ := h2
    rw [xu, mu]
    exact ⟨k, n, r, RB_ag (ag.L (ag.I (by decide) (ag.I (by decide) (ag.I (by decide) (ag.I (by decide) (ag.I (by decide) (ag.F (by decide) (ag.F (by decide) (ag.F (by decide) (ag.F (by decide) (ag.F (by decide) (ag.F (by decide) (ag.F (by decide) ag.rf))))))))))))) (ag.L (ag.L (ag.L (ag.I (by decide) (ag.I (by decide) (ag.F (by decide) (ag.F (by decide) (ag.F (by decide) (ag.F (by decide) (ag.F (by decide) ag.rf)))))))))) hB.2.2.1 hB.2.2.2.1 hB, hS, ⟨_, xf0, rfl⟩, hO, hSm, hM, hG, SC_rft hk6 hk hSC rfl rfl xf1⟩
  exact Kend _ _ hR
set_option maxRecDepth 100000 in
set_option maxHeartbeats 4000000 in
theorem lw_c_radar {X : jC} {kk : Nat → Nat} (C : jF X code R_law room_1 kk 4) {b L : Nat} {xs : Nat → Int32} (hX : jX X b L xs) {u u2 : Nat → Nat} {i : Nat} (hi : i + 8 ≤ L) (hL : L ≤ 4096) {σ μ : St} (h0 : R0 σ μ) (Kend : ∀ σ μ : St, R0 σ μ → J X 133 9011 (cX u kk σ ++ cM u2 kk μ) [(3, .int (nI i)), (2, .ref (u2 0)), (1, .ref (u 0)), (0, .ref b)] 1301 [])  : J X 133 9011 (cX u kk σ ++ cM u2 kk μ) [(3, .int (nI i)), (2, .ref (u2 0)), (1, .ref (u 0)), (0, .ref b)] 637 [] := by
  obtain ⟨k, n, r, hB, hE⟩ := id h0
  obtain ⟨hk6, hk, hkm⟩ := hB.k
  obtain ⟨hn20, hn, hnm⟩ := hB.n
  obtain ⟨hr6, hr, hrm⟩ := hB.r
  obtain ⟨hS, hP, hO, hSm, hM, hG, hSC⟩ := id hE
  have hHX := HX_of hB
  have hHM := HM_of hB
  have hHQ := HQ_of hB
  have hHN := HN_of hB
  have hI := hB.iX
  have hIm := hB.iM
  obtain ⟨p, hp40, hp, hp9, hsg⟩ := id hG
  refine j_aload_n C 2 rfl dL_law_637 ?_
  refine j_aload_n C 3 rfl dL_law_638 ?_
  refine j_iload_n C 0 rfl dL_law_639 ?_
  refine j_iconst C (nI 1) (by decide) dL_law_640 ?_
  refine j_iaddN C dL_law_641 ?_
  refine j_sld C hX (i + 1) rfl (by omega) (by omega) dL_law_642 ?_
  refine j_aload_n C 3 rfl dL_law_643 ?_
  refine j_iload_n C 0 rfl dL_law_644 ?_
  refine j_iconst C (nI 2) (by decide) dL_law_645 ?_
  refine j_iaddN C dL_law_646 ?_
  refine j_sld C hX (i + 2) rfl (by omega) (by omega) dL_law_647 ?_
  refine j_aload_n C 3 rfl dL_law_648 ?_
  refine j_iload_n C 0 rfl dL_law_649 ?_
  refine j_iconst C (nI 3) (by decide) dL_law_650 ?_
  refine j_iaddN C dL_law_651 ?_
  refine j_sld C hX (i + 3) rfl (by omega) (by omega) dL_law_652 ?_
  refine j_aload_n C 3 rfl dL_law_653 ?_
  refine j_iload_n C 0 rfl dL_law_654 ?_
  refine j_iconst C (nI 4) (by decide) dL_law_655 ?_
  refine j_iaddN C dL_law_656 ?_
  refine j_sld C hX (i + 4) rfl (by omega) (by omega) dL_law_657 ?_
  refine j_aload_n C 3 rfl dL_law_658 ?_
  refine j_iload_n C 0 rfl dL_law_659 ?_
  refine j_iconst C (nI 5) (by decide) dL_law_660 ?_
  refine j_iaddN C dL_law_661 ?_
  refine j_sld C hX (i + 5) rfl (by omega) (by omega) dL_law_662 ?_
  refine j_permL (cM u2 kk μ ++ cX u kk σ) List.perm_append_comm ?_
  refine j_V (ce := 133) (sl := 9011) (As := [.int (xs (i + 1)), .int (xs (i + 2)), .int (xs (i + 3)), .int (xs (i + 4)), .int (xs (i + 5))]) (rest := []) C (cM u2 kk μ) (c_radar u kk σ r hr hr6 (xs (i + 1)) (xs (i + 2)) (xs (i + 3)) (xs (i + 4)) (xs (i + 5))) kyX10_radar tb_696 tb_697 tb_698 34 (ci := 10) rfl rfl rfl (Nat.le_of_ble_eq_true rfl) ⟨by decide, by decide⟩ ⟨by decide, by decide⟩ dL_law_663 rfl (fun vr ua hp => ?_)
  obtain ⟨r1, rfl, h1⟩ := hp
  refine j_permL (cX u kk ua ++ cM u2 kk μ) List.perm_append_comm ?_
  refine j_pop C rfl dL_law_666 ?_
  refine j_aload_n C 1 rfl dL_law_667 ?_
  refine j_aload_n C 3 rfl dL_law_668 ?_
  refine j_iload_n C 0 rfl dL_law_669 ?_
  refine j_iconst C (nI 1) (by decide) dL_law_670 ?_
  refine j_iaddN C dL_law_671 ?_
  refine j_sld C hX (i + 1) rfl (by omega) (by omega) dL_law_672 ?_
  refine j_aload_n C 3 rfl dL_law_673 ?_
  refine j_iload_n C 0 rfl dL_law_674 ?_
  refine j_iconst C (nI 2) (by decide) dL_law_675 ?_
  refine j_iaddN C dL_law_676 ?_
  refine j_sld C hX (i + 2) rfl (by omega) (by omega) dL_law_677 ?_
  refine j_aload_n C 3 rfl dL_law_678 ?_
  refine j_iload_n C 0 rfl dL_law_679 ?_
  refine j_iconst C (nI 3) (by decide) dL_law_680 ?_
  refine j_iaddN C dL_law_681 ?_
  refine j_sld C hX (i + 3) rfl (by omega) (by omega) dL_law_682 ?_
  refine j_aload_n C 3 rfl dL_law_683 ?_
  refine j_iload_n C 0 rfl dL_law_684 ?_
  refine j_iconst C (nI 4) (by decide) dL_law_685 ?_
  refine j_iaddN C dL_law_686 ?_
  refine j_sld C hX (i + 4) rfl (by omega) (by omega) dL_law_687 ?_
  refine j_aload_n C 3 rfl dL_law_688 ?_
  refine j_iload_n C 0 rfl dL_law_689 ?_
  refine j_iconst C (nI 5) (by decide) dL_law_690 ?_
  refine j_iaddN C dL_law_691 ?_
  refine j_sld C hX (i + 5) rfl (by omega) (by omega) dL_law_692 ?_
  refine j_V (ce := 133) (sl := 9011) (As := [.int (xs (i + 1)), .int (xs (i + 2)), .int (xs (i + 3)), .int (xs (i + 4)), .int (xs (i + 5))]) (rest := []) C (cX u kk ua) (m_radar u2 kk μ r hrm hr6 (xs (i + 1)) (xs (i + 2)) (xs (i + 3)) (xs (i + 4)) (xs (i + 5))) kyX11_radar tb_1222 tb_1223 tb_1224 99 (ci := 11) rfl rfl rfl (Nat.le_of_ble_eq_true rfl) ⟨by decide, by decide⟩ ⟨by decide, by decide⟩ dL_law_693 rfl (fun vr ub hp => ?_)
  obtain ⟨r2, rfl, h2⟩ := hp
  refine j_pop C rfl dL_law_696 ?_
  refine j_goto C 1301 (by decide) dL_law_697 ?_
  have hR : R0 ua ub ∧ r1 = r2 := by
    have hr := rad_iff (d := xs (i + 4)) (e := xs (i + 5))
    rcases h1 with ⟨a0, a1, ar, au⟩ | ⟨a0, a1, a2, ar, au⟩ | ⟨a0, a1, a2, a3, a4, ar, au⟩ | ⟨a0, a1, a2, a3, a4, ar, au⟩ | ⟨a0, a1, a2, a3, ar, au⟩ | ⟨a0, ar, au⟩
    · rcases h2 with ⟨b0, b1, br, bu⟩ | ⟨b0, b1, b2, br, bu⟩ | ⟨b0, b1, b2, b3, b4, br, bu⟩ | ⟨b0, b1, b2, b3, b4, br, bu⟩ | ⟨b0, b1, b2, b3, br, bu⟩ | ⟨b0, br, bu⟩
      · rw [au, bu, ar, br]
        exact ⟨h0, rfl⟩
      · exact absurd (a1.symm.trans b1) (by decide)
      · exact absurd (a1.symm.trans b1) (by decide)
      · exact absurd (a1.symm.trans b1) (by decide)
      · exact absurd (a1.symm.trans b1) (by decide)
      · exact absurd (a0.symm.trans b0) (by decide)
    · rcases h2 with ⟨b0, b1, br, bu⟩ | ⟨b0, b1, b2, br, bu⟩ | ⟨b0, b1, b2, b3, b4, br, bu⟩ | ⟨b0, b1, b2, b3, b4, br, bu⟩ | ⟨b0, b1, b2, b3, br, bu⟩ | ⟨b0, br, bu⟩
      · exact absurd (a1.symm.trans b1) (by decide)
      · rw [au, bu, ar, br]
        exact ⟨h0, rfl⟩
      · have q := hr.mpr ⟨b2, b3⟩
        exact absurd (a2.symm.trans q.1) (by decide)
      · have q := hr.mpr ⟨b2, b3⟩
        exact absurd (a2.symm.trans q.1) (by decide)
      · rw [au, bu, ar, br]
        exact ⟨h0, rfl⟩
      · exact absurd (a0.symm.trans b0) (by decide)
    · rcases h2 with ⟨b0, b1, br, bu⟩ | ⟨b0, b1, b2, br, bu⟩ | ⟨b0, b1, b2, b3, b4, br, bu⟩ | ⟨b0, b1, b2, b3, b4, br, bu⟩ | ⟨b0, b1, b2, b3, br, bu⟩ | ⟨b0, br, bu⟩
      · exact absurd (a1.symm.trans b1) (by decide)
      · have q := hr.mp ⟨a2, a3⟩
        exact absurd (b2.symm.trans q.1) (by decide)
      · have q := hr.mpr ⟨b2, b3⟩
        rw [au, bu, ar, br]
        exact ⟨⟨_, _, _, ok_radar hB a4 a0 (andL a1) (andR a1) q.1 b3, hE⟩, rfl⟩
      · exfalso
        omega
      · have q := hr.mp ⟨a2, a3⟩
        exact absurd (b3.symm.trans q.2) (by decide)
      · exact absurd (a0.symm.trans b0) (by decide)
    · rcases h2 with ⟨b0, b1, br, bu⟩ | ⟨b0, b1, b2, br, bu⟩ | ⟨b0, b1, b2, b3, b4, br, bu⟩ | ⟨b0, b1, b2, b3, b4, br, bu⟩ | ⟨b0, b1, b2, b3, br, bu⟩ | ⟨b0, br, bu⟩
      · exact absurd (a1.symm.trans b1) (by decide)
      · have q := hr.mp ⟨a2, a3⟩
        exact absurd (b2.symm.trans q.1) (by decide)
      · exfalso
        omega
      · rw [au, bu, ar, br]
        exact ⟨h0, rfl⟩
      · have q := hr.mp ⟨a2, a3⟩
        exact absurd (b3.symm.trans q.2) (by decide)
      · exact absurd (a0.symm.trans b0) (by decide)
    · rcases h2 with ⟨b0, b1, br, bu⟩ | ⟨b0, b1, b2, br, bu⟩ | ⟨b0, b1, b2, b3, b4, br, bu⟩ | ⟨b0, b1, b2, b3, b4, br, bu⟩ | ⟨b0, b1, b2, b3, br, bu⟩ | ⟨b0, br, bu⟩
      · exact absurd (a1.symm.trans b1) (by decide)
      · rw [au, bu, ar, br]
        exact ⟨h0, rfl⟩
      · have q := hr.mpr ⟨b2, b3⟩
        exact absurd (a3.symm.trans q.2) (by decide)
      · have q := hr.mpr ⟨b2, b3⟩
        exact absurd (a3.symm.trans q.2) (by decide)
      · rw [au, bu, ar, br]
        exact ⟨h0, rfl⟩
      · exact absurd (a0.symm.trans b0) (by decide)
    · rcases h2 with ⟨b0, b1, br, bu⟩ | ⟨b0, b1, b2, br, bu⟩ | ⟨b0, b1, b2, b3, b4, br, bu⟩ | ⟨b0, b1, b2, b3, b4, br, bu⟩ | ⟨b0, b1, b2, b3, br, bu⟩ | ⟨b0, br, bu⟩
      · exact absurd (a0.symm.trans b0) (by decide)
      · exact absurd (a0.symm.trans b0) (by decide)
      · exact absurd (a0.symm.trans b0) (by decide)
      · exact absurd (a0.symm.trans b0) (by decide)
      · exact absurd (a0.symm.trans b0) (by decide)
      · rw [au, bu, ar, br]
        exact ⟨h0, rfl⟩
  exact Kend _ _ hR.1
set_option maxRecDepth 100000 in
set_option maxHeartbeats 4000000 in
theorem lw_c_blind {X : jC} {kk : Nat → Nat} (C : jF X code R_law room_1 kk 4) {b L : Nat} {xs : Nat → Int32} (hX : jX X b L xs) {u u2 : Nat → Nat} {i : Nat} (hi : i + 8 ≤ L) (hL : L ≤ 4096) {σ μ : St} (h0 : R0 σ μ) (Kend : ∀ σ μ : St, R0 σ μ → J X 133 9011 (cX u kk σ ++ cM u2 kk μ) [(3, .int (nI i)), (2, .ref (u2 0)), (1, .ref (u 0)), (0, .ref b)] 1301 [])  : J X 133 9011 (cX u kk σ ++ cM u2 kk μ) [(3, .int (nI i)), (2, .ref (u2 0)), (1, .ref (u 0)), (0, .ref b)] 700 [] := by
  obtain ⟨k, n, r, hB, hE⟩ := id h0
  obtain ⟨hk6, hk, hkm⟩ := hB.k
  obtain ⟨hn20, hn, hnm⟩ := hB.n
  obtain ⟨hr6, hr, hrm⟩ := hB.r
  obtain ⟨hS, hP, hO, hSm, hM, hG, hSC⟩ := id hE
  have hHX := HX_of hB
  have hHM := HM_of hB
  have hHQ := HQ_of hB
  have hHN := HN_of hB
  have hI := hB.iX
  have hIm := hB.iM
  obtain ⟨p, hp40, hp, hp9, hsg⟩ := id hG
  refine j_aload_n C 2 rfl dL_law_700 ?_
  refine j_permL (cM u2 kk μ ++ cX u kk σ) List.perm_append_comm ?_
  refine j_V (ce := 133) (sl := 9011) (As := []) (rest := []) C (cM u2 kk μ) (c_blind u kk σ) kyX10_blind tb_704 tb_705 tb_706 34 (ci := 10) rfl rfl rfl (Nat.le_of_ble_eq_true rfl) ⟨by decide, by decide⟩ ⟨by decide, by decide⟩ dL_law_701 rfl (fun vr ua hp => ?_)
  obtain ⟨r1, rfl, h1⟩ := hp
  refine j_permL (cX u kk ua ++ cM u2 kk μ) List.perm_append_comm ?_
  refine j_pop C rfl dL_law_704 ?_
  refine j_aload_n C 1 rfl dL_law_705 ?_
  refine j_V (ce := 133) (sl := 9011) (As := []) (rest := []) C (cX u kk ua) (m_blind u2 kk μ) kyX11_blind tb_1226 tb_1227 tb_1228 99 (ci := 11) rfl rfl rfl (Nat.le_of_ble_eq_true rfl) ⟨by decide, by decide⟩ ⟨by decide, by decide⟩ dL_law_706 rfl (fun vr ub hp => ?_)
  obtain ⟨r2, rfl, h2⟩ := hp
  refine j_pop C rfl dL_law_709 ?_
  refine j_goto C 1301 (by decide) dL_law_710 ?_
  have hR : R0 ua ub ∧ r1 = r2 := by
    rw [h1.2, h2.2, h1.1, h2.1]
    exact ⟨⟨_, _, _, ok_blind hB, hE⟩, hr.trans hrm.symm⟩
  exact Kend _ _ hR.1
set_option maxRecDepth 100000 in
set_option maxHeartbeats 4000000 in
theorem lw_c_bound {X : jC} {kk : Nat → Nat} (C : jF X code R_law room_1 kk 4) {b L : Nat} {xs : Nat → Int32} (hX : jX X b L xs) {u u2 : Nat → Nat} {i : Nat} (hi : i + 8 ≤ L) (hL : L ≤ 4096) {σ μ : St} (h0 : R0 σ μ) (Kend : ∀ σ μ : St, R0 σ μ → J X 133 9011 (cX u kk σ ++ cM u2 kk μ) [(3, .int (nI i)), (2, .ref (u2 0)), (1, .ref (u 0)), (0, .ref b)] 1301 [])  : J X 133 9011 (cX u kk σ ++ cM u2 kk μ) [(3, .int (nI i)), (2, .ref (u2 0)), (1, .ref (u 0)), (0, .ref b)] 713 [] := by
  obtain ⟨k, n, r, hB, hE⟩ := id h0
  obtain ⟨hk6, hk, hkm⟩ := hB.k
  obtain ⟨hn20, hn, hnm⟩ := hB.n
  obtain ⟨hr6, hr, hrm⟩ := hB.r
  obtain ⟨hS, hP, hO, hSm, hM, hG, hSC⟩ := id hE
  have hHX := HX_of hB
  have hHM := HM_of hB
  have hHQ := HQ_of hB
  have hHN := HN_of hB
  have hI := hB.iX
  have hIm := hB.iM
  obtain ⟨p, hp40, hp, hp9, hsg⟩ := id hG
  refine j_aload_n C 2 rfl dL_law_713 ?_
  refine j_aload_n C 3 rfl dL_law_714 ?_
  refine j_iload_n C 0 rfl dL_law_715 ?_
  refine j_iconst C (nI 1) (by decide) dL_law_716 ?_
  refine j_iaddN C dL_law_717 ?_
  refine j_sld C hX (i + 1) rfl (by omega) (by omega) dL_law_718 ?_
  refine j_aload_n C 3 rfl dL_law_719 ?_
  refine j_iload_n C 0 rfl dL_law_720 ?_
  refine j_iconst C (nI 2) (by decide) dL_law_721 ?_
  refine j_iaddN C dL_law_722 ?_
  refine j_sld C hX (i + 2) rfl (by omega) (by omega) dL_law_723 ?_
  refine j_aload_n C 3 rfl dL_law_724 ?_
  refine j_iload_n C 0 rfl dL_law_725 ?_
  refine j_iconst C (nI 3) (by decide) dL_law_726 ?_
  refine j_iaddN C dL_law_727 ?_
  refine j_sld C hX (i + 3) rfl (by omega) (by omega) dL_law_728 ?_
  refine j_aload_n C 3 rfl dL_law_729 ?_
  refine j_iload_n C 0 rfl dL_law_730 ?_
  refine j_iconst C (nI 4) (by decide) dL_law_731 ?_
  refine j_iaddN C dL_law_732 ?_
  refine j_sld C hX (i + 4) rfl (by omega) (by omega) dL_law_733 ?_
  refine j_permL (cM u2 kk μ ++ cX u kk σ) List.perm_append_comm ?_
  refine j_V (ce := 133) (sl := 9011) (As := [.int (xs (i + 1)), .int (xs (i + 2)), .int (xs (i + 3)), .int (xs (i + 4))]) (rest := []) C (cM u2 kk μ) (e_bound u kk σ k hk hk6 hI (gdX σ) hHX r hr hr6 (rqX σ) hHQ (hSC k hk6 hk) (xs (i + 1)) (xs (i + 2)) (xs (i + 3)) (xs (i + 4))) kyX10_bound tb_708 tb_709 tb_710 34 (ci := 10) rfl rfl rfl (Nat.le_of_ble_eq_true rfl) ⟨by decide, by decide⟩ ⟨by decide, by decide⟩ dL_law_734 rfl (fun vr ua hp => ?_)
  obtain ⟨r1, rfl, h1⟩ := hp
  refine j_permL (cX u kk ua ++ cM u2 kk μ) List.perm_append_comm ?_
  refine j_pop C rfl dL_law_737 ?_
  refine j_aload_n C 1 rfl dL_law_738 ?_
  refine j_aload_n C 3 rfl dL_law_739 ?_
  refine j_iload_n C 0 rfl dL_law_740 ?_
  refine j_iconst C (nI 1) (by decide) dL_law_741 ?_
  refine j_iaddN C dL_law_742 ?_
  refine j_sld C hX (i + 1) rfl (by omega) (by omega) dL_law_743 ?_
  refine j_aload_n C 3 rfl dL_law_744 ?_
  refine j_iload_n C 0 rfl dL_law_745 ?_
  refine j_iconst C (nI 2) (by decide) dL_law_746 ?_
  refine j_iaddN C dL_law_747 ?_
  refine j_sld C hX (i + 2) rfl (by omega) (by omega) dL_law_748 ?_
  refine j_aload_n C 3 rfl dL_law_749 ?_
  refine j_iload_n C 0 rfl dL_law_750 ?_
  refine j_iconst C (nI 3) (by decide) dL_law_751 ?_
  refine j_iaddN C dL_law_752 ?_
  refine j_sld C hX (i + 3) rfl (by omega) (by omega) dL_law_753 ?_
  refine j_aload_n C 3 rfl dL_law_754 ?_
  refine j_iload_n C 0 rfl dL_law_755 ?_
  refine j_iconst C (nI 4) (by decide) dL_law_756 ?_
  refine j_iaddN C dL_law_757 ?_
  refine j_sld C hX (i + 4) rfl (by omega) (by omega) dL_law_758 ?_
  refine j_V (ce := 133) (sl := 9011) (As := [.int (xs (i + 1)), .int (xs (i + 2)), .int (xs (i + 3)), .int (xs (i + 4))]) (rest := []) C (cX u kk ua) (o_bound u2 kk μ k hkm hk6 hIm n hnm hn20 (gdX σ) hHM r hrm hr6 (rqX σ) hHN (xs (i + 1)) (xs (i + 2)) (xs (i + 3)) (xs (i + 4))) kyX11_bound tb_1230 tb_1231 tb_1232 99 (ci := 11) rfl rfl rfl (Nat.le_of_ble_eq_true rfl) ⟨by decide, by decide⟩ ⟨by decide, by decide⟩ dL_law_759 rfl (fun vr ub hp => ?_)
  obtain ⟨r2, rfl, h2⟩ := hp
  refine j_pop C rfl dL_law_762 ?_
  refine j_goto C 1301 (by decide) dL_law_763 ?_
  have hR : R0 ua ub ∧ r1 = r2 := by
    obtain ⟨xF28, xF29, xF30, xF31, xF43, xF44, xF45, xF46, xI437, xI678, xI679, xI680, xu, xf0, xf1⟩ := h1
    obtain ⟨mF16, mF17, mF18, mI47, mI48, mu, mf0⟩ := h2
    rw [xu, mu]
    exact ⟨⟨k, n, r, RB_ag (ag.I (by decide) (ag.I (by decide) (ag.I (by decide) (ag.I (by decide) (ag.F (by decide) (ag.F (by decide) (ag.F (by decide) (ag.F (by decide) (ag.F (by decide) (ag.F (by decide) (ag.F (by decide) (ag.F (by decide) ag.rf)))))))))))) (ag.I (by decide) (ag.I (by decide) (ag.F (by decide) (ag.F (by decide) (ag.F (by decide) ag.rf))))) hB.2.2.1 hB.2.2.2.1 hB, hS, hP, hO, hSm, hM, hG, SC_rft hk6 hk hSC rfl rfl xf1⟩, xf0.trans ((rfl : _ = _).trans mf0.symm)⟩
  exact Kend _ _ hR.1
set_option maxRecDepth 100000 in
set_option maxHeartbeats 4000000 in
theorem lw_c_over {X : jC} {kk : Nat → Nat} (C : jF X code R_law room_1 kk 4) {b L : Nat} {xs : Nat → Int32} (hX : jX X b L xs) {u u2 : Nat → Nat} {i : Nat} (hi : i + 8 ≤ L) (hL : L ≤ 4096) {σ μ : St} (h0 : R0 σ μ) (Kend : ∀ σ μ : St, R0 σ μ → J X 133 9011 (cX u kk σ ++ cM u2 kk μ) [(3, .int (nI i)), (2, .ref (u2 0)), (1, .ref (u 0)), (0, .ref b)] 1301 [])  : J X 133 9011 (cX u kk σ ++ cM u2 kk μ) [(3, .int (nI i)), (2, .ref (u2 0)), (1, .ref (u 0)), (0, .ref b)] 766 [] := by
  obtain ⟨k, n, r, hB, hE⟩ := id h0
  obtain ⟨hk6, hk, hkm⟩ := hB.k
  obtain ⟨hn20, hn, hnm⟩ := hB.n
  obtain ⟨hr6, hr, hrm⟩ := hB.r
  obtain ⟨hS, hP, hO, hSm, hM, hG, hSC⟩ := id hE
  have hHX := HX_of hB
  have hHM := HM_of hB
  have hHQ := HQ_of hB
  have hHN := HN_of hB
  have hI := hB.iX
  have hIm := hB.iM
  obtain ⟨p, hp40, hp, hp9, hsg⟩ := id hG
  refine j_aload_n C 2 rfl dL_law_766 ?_
  refine j_aload_n C 3 rfl dL_law_767 ?_
  refine j_iload_n C 0 rfl dL_law_768 ?_
  refine j_iconst C (nI 1) (by decide) dL_law_769 ?_
  refine j_iaddN C dL_law_770 ?_
  refine j_sld C hX (i + 1) rfl (by omega) (by omega) dL_law_771 ?_
  refine j_aload_n C 3 rfl dL_law_772 ?_
  refine j_iload_n C 0 rfl dL_law_773 ?_
  refine j_iconst C (nI 2) (by decide) dL_law_774 ?_
  refine j_iaddN C dL_law_775 ?_
  refine j_sld C hX (i + 2) rfl (by omega) (by omega) dL_law_776 ?_
  refine j_aload_n C 3 rfl dL_law_777 ?_
  refine j_iload_n C 0 rfl dL_law_778 ?_
  refine j_iconst C (nI 3) (by decide) dL_law_779 ?_
  refine j_iaddN C dL_law_780 ?_
  refine j_sld C hX (i + 3) rfl (by omega) (by omega) dL_law_781 ?_
  refine j_aload_n C 3 rfl dL_law_782 ?_
  refine j_iload_n C 0 rfl dL_law_783 ?_
  refine j_iconst C (nI 4) (by decide) dL_law_784 ?_
  refine j_iaddN C dL_law_785 ?_
  refine j_sld C hX (i + 4) rfl (by omega) (by omega) dL_law_786 ?_
  refine j_aload_n C 3 rfl dL_law_787 ?_
  refine j_iload_n C 0 rfl dL_law_788 ?_
  refine j_iconst C (nI 5) (by decide) dL_law_789 ?_
  refine j_iaddN C dL_law_790 ?_
  refine j_sld C hX (i + 5) rfl (by omega) (by omega) dL_law_791 ?_
  refine j_aload_n C 3 rfl dL_law_792 ?_
  refine j_iload_n C 0 rfl dL_law_793 ?_
  refine j_bipush C (nI 6) (by decide) dL_law_794 ?_
  refine j_iaddN C dL_law_796 ?_
  refine j_sld C hX (i + 6) rfl (by omega) (by omega) dL_law_797 ?_
  refine j_permL (cM u2 kk μ ++ cX u kk σ) List.perm_append_comm ?_
  refine j_V (ce := 133) (sl := 9011) (As := [.int (xs (i + 1)), .int (xs (i + 2)), .int (xs (i + 3)), .int (xs (i + 4)), .int (xs (i + 5)), .int (xs (i + 6))]) (rest := []) C (cM u2 kk μ) (e_over u kk σ k hk hk6 hI (gdX σ) hHX r hr hr6 (rqX σ) hHQ (hSC k hk6 hk) (xs (i + 1)) (xs (i + 2)) (xs (i + 3)) (xs (i + 4)) (xs (i + 5)) (xs (i + 6))) kyX10_over tb_729 tb_730 tb_731 34 (ci := 10) rfl rfl rfl (Nat.le_of_ble_eq_true rfl) ⟨by decide, by decide⟩ ⟨by decide, by decide⟩ dL_law_798 rfl (fun vr ua hp => ?_)
  obtain ⟨r1, rfl, h1⟩ := hp
  refine j_permL (cX u kk ua ++ cM u2 kk μ) List.perm_append_comm ?_
  refine j_pop C rfl dL_law_801 ?_
  refine j_aload_n C 1 rfl dL_law_802 ?_
  refine j_aload_n C 3 rfl dL_law_803 ?_
  refine j_iload_n C 0 rfl dL_law_804 ?_
  refine j_iconst C (nI 1) (by decide) dL_law_805 ?_
  refine j_iaddN C dL_law_806 ?_
  refine j_sld C hX (i + 1) rfl (by omega) (by omega) dL_law_807 ?_
  refine j_aload_n C 3 rfl dL_law_808 ?_
  refine j_iload_n C 0 rfl dL_law_809 ?_
  refine j_iconst C (nI 2) (by decide) dL_law_810 ?_
  refine j_iaddN C dL_law_811 ?_
  refine j_sld C hX (i + 2) rfl (by omega) (by omega) dL_law_812 ?_
  refine j_aload_n C 3 rfl dL_law_813 ?_
  refine j_iload_n C 0 rfl dL_law_814 ?_
  refine j_iconst C (nI 3) (by decide) dL_law_815 ?_
  refine j_iaddN C dL_law_816 ?_
  refine j_sld C hX (i + 3) rfl (by omega) (by omega) dL_law_817 ?_
  refine j_aload_n C 3 rfl dL_law_818 ?_
  refine j_iload_n C 0 rfl dL_law_819 ?_
  refine j_iconst C (nI 4) (by decide) dL_law_820 ?_
  refine j_iaddN C dL_law_821 ?_
  refine j_sld C hX (i + 4) rfl (by omega) (by omega) dL_law_822 ?_
  refine j_aload_n C 3 rfl dL_law_823 ?_
  refine j_iload_n C 0 rfl dL_law_824 ?_
  refine j_iconst C (nI 5) (by decide) dL_law_825 ?_
  refine j_iaddN C dL_law_826 ?_
  refine j_sld C hX (i + 5) rfl (by omega) (by omega) dL_law_827 ?_
  refine j_aload_n C 3 rfl dL_law_828 ?_
  refine j_iload_n C 0 rfl dL_law_829 ?_
  refine j_bipush C (nI 6) (by decide) dL_law_830 ?_
  refine j_iaddN C dL_law_832 ?_
  refine j_sld C hX (i + 6) rfl (by omega) (by omega) dL_law_833 ?_
  refine j_V (ce := 133) (sl := 9011) (As := [.int (xs (i + 1)), .int (xs (i + 2)), .int (xs (i + 3)), .int (xs (i + 4)), .int (xs (i + 5)), .int (xs (i + 6))]) (rest := []) C (cX u kk ua) (o_over u2 kk μ k hkm hk6 hIm n hnm hn20 (gdX σ) hHM r hrm hr6 (rqX σ) hHN (xs (i + 1)) (xs (i + 2)) (xs (i + 3)) (xs (i + 4)) (xs (i + 5)) (xs (i + 6))) kyX11_over tb_1245 tb_1246 tb_1247 99 (ci := 11) rfl rfl rfl (Nat.le_of_ble_eq_true rfl) ⟨by decide, by decide⟩ ⟨by decide, by decide⟩ dL_law_834 rfl (fun vr ub hp => ?_)
  obtain ⟨r2, rfl, h2⟩ := hp
  refine j_pop C rfl dL_law_837 ?_
  refine j_goto C 1301 (by decide) dL_law_838 ?_
  have hR : R0 ua ub ∧ r1 = r2 := by
    obtain ⟨xF28, xF29, xF30, xF31, xF43, xF44, xF45, xF46, xI437, xI678, xI679, xI680, xI681, xI682, xu, xf0, xf1⟩ := h1
    obtain ⟨mF16, mF17, mF18, mI47, mI48, mI49, mI50, mu, mf0⟩ := h2
    rw [xu, mu]
    exact ⟨⟨k, n, r, RB_ag (ag.I (by decide) (ag.I (by decide) (ag.I (by decide) (ag.I (by decide) (ag.I (by decide) (ag.I (by decide) (ag.F (by decide) (ag.F (by decide) (ag.F (by decide) (ag.F (by decide) (ag.F (by decide) (ag.F (by decide) (ag.F (by decide) (ag.F (by decide) ag.rf)))))))))))))) (ag.I (by decide) (ag.I (by decide) (ag.I (by decide) (ag.I (by decide) (ag.F (by decide) (ag.F (by decide) (ag.F (by decide) ag.rf))))))) hB.2.2.1 hB.2.2.2.1 hB, hS, hP, hO, hSm, hM, hG, SC_rft hk6 hk hSC rfl rfl xf1⟩, xf0.trans ((rfl : _ = _).trans mf0.symm)⟩
  exact Kend _ _ hR.1
set_option maxRecDepth 100000 in
set_option maxHeartbeats 4000000 in
theorem lw_c_flow {X : jC} {kk : Nat → Nat} (C : jF X code R_law room_1 kk 4) {b L : Nat} {xs : Nat → Int32} (hX : jX X b L xs) {u u2 : Nat → Nat} {i : Nat} (hi : i + 8 ≤ L) (hL : L ≤ 4096) {σ μ : St} (h0 : R0 σ μ) (Kend : ∀ σ μ : St, R0 σ μ → J X 133 9011 (cX u kk σ ++ cM u2 kk μ) [(3, .int (nI i)), (2, .ref (u2 0)), (1, .ref (u 0)), (0, .ref b)] 1301 [])  : J X 133 9011 (cX u kk σ ++ cM u2 kk μ) [(3, .int (nI i)), (2, .ref (u2 0)), (1, .ref (u 0)), (0, .ref b)] 841 [] := by
  obtain ⟨k, n, r, hB, hE⟩ := id h0
  obtain ⟨hk6, hk, hkm⟩ := hB.k
  obtain ⟨hn20, hn, hnm⟩ := hB.n
  obtain ⟨hr6, hr, hrm⟩ := hB.r
  obtain ⟨hS, hP, hO, hSm, hM, hG, hSC⟩ := id hE
  have hHX := HX_of hB
  have hHM := HM_of hB
  have hHQ := HQ_of hB
  have hHN := HN_of hB
  have hI := hB.iX
  have hIm := hB.iM
  obtain ⟨p, hp40, hp, hp9, hsg⟩ := id hG
  refine j_aload_n C 2 rfl dL_law_841 ?_
  refine j_aload_n C 3 rfl dL_law_842 ?_
  refine j_iload_n C 0 rfl dL_law_843 ?_
  refine j_iconst C (nI 1) (by decide) dL_law_844 ?_
  refine j_iaddN C dL_law_845 ?_
  refine j_sld C hX (i + 1) rfl (by omega) (by omega) dL_law_846 ?_
  refine j_aload_n C 3 rfl dL_law_847 ?_
  refine j_iload_n C 0 rfl dL_law_848 ?_
  refine j_iconst C (nI 2) (by decide) dL_law_849 ?_
  refine j_iaddN C dL_law_850 ?_
  refine j_sld C hX (i + 2) rfl (by omega) (by omega) dL_law_851 ?_
  refine j_aload_n C 3 rfl dL_law_852 ?_
  refine j_iload_n C 0 rfl dL_law_853 ?_
  refine j_iconst C (nI 3) (by decide) dL_law_854 ?_
  refine j_iaddN C dL_law_855 ?_
  refine j_sld C hX (i + 3) rfl (by omega) (by omega) dL_law_856 ?_
  refine j_aload_n C 3 rfl dL_law_857 ?_
  refine j_iload_n C 0 rfl dL_law_858 ?_
  refine j_iconst C (nI 4) (by decide) dL_law_859 ?_
  refine j_iaddN C dL_law_860 ?_
  refine j_sld C hX (i + 4) rfl (by omega) (by omega) dL_law_861 ?_
  refine j_aload_n C 3 rfl dL_law_862 ?_
  refine j_iload_n C 0 rfl dL_law_863 ?_
  refine j_iconst C (nI 5) (by decide) dL_law_864 ?_
  refine j_iaddN C dL_law_865 ?_
  refine j_sld C hX (i + 5) rfl (by omega) (by omega) dL_law_866 ?_
  refine j_aload_n C 3 rfl dL_law_867 ?_
  refine j_iload_n C 0 rfl dL_law_868 ?_
  refine j_bipush C (nI 6) (by decide) dL_law_869 ?_
  refine j_iaddN C dL_law_871 ?_
  refine j_sld C hX (i + 6) rfl (by omega) (by omega) dL_law_872 ?_
  refine j_aload_n C 3 rfl dL_law_873 ?_
  refine j_iload_n C 0 rfl dL_law_874 ?_
  refine j_bipush C (nI 7) (by decide) dL_law_875 ?_
  refine j_iaddN C dL_law_877 ?_
  refine j_sld C hX (i + 7) rfl (by omega) (by omega) dL_law_878 ?_
  refine j_permL (cM u2 kk μ ++ cX u kk σ) List.perm_append_comm ?_
  refine j_V (ce := 133) (sl := 9011) (As := [.int (xs (i + 1)), .int (xs (i + 2)), .int (xs (i + 3)), .int (xs (i + 4)), .int (xs (i + 5)), .int (xs (i + 6)), .int (xs (i + 7))]) (rest := []) C (cM u2 kk μ) (e_flow u kk σ k hk hk6 hI (gdX σ) hHX r hr hr6 (rqX σ) hHQ (hSC k hk6 hk) (xs (i + 1)) (xs (i + 2)) (xs (i + 3)) (xs (i + 4)) (xs (i + 5)) (xs (i + 6)) (xs (i + 7))) kyX10_flow tb_741 tb_742 tb_743 34 (ci := 10) rfl rfl rfl (Nat.le_of_ble_eq_true rfl) ⟨by decide, by decide⟩ ⟨by decide, by decide⟩ dL_law_879 rfl (fun vr ua hp => ?_)
  obtain ⟨r1, rfl, h1⟩ := hp
  refine j_permL (cX u kk ua ++ cM u2 kk μ) List.perm_append_comm ?_
  refine j_pop C rfl dL_law_882 ?_
  refine j_aload_n C 1 rfl dL_law_883 ?_
  refine j_aload_n C 3 rfl dL_law_884 ?_
  refine j_iload_n C 0 rfl dL_law_885 ?_
  refine j_iconst C (nI 1) (by decide) dL_law_886 ?_
  refine j_iaddN C dL_law_887 ?_
  refine j_sld C hX (i + 1) rfl (by omega) (by omega) dL_law_888 ?_
  refine j_aload_n C 3 rfl dL_law_889 ?_
  refine j_iload_n C 0 rfl dL_law_890 ?_
  refine j_iconst C (nI 2) (by decide) dL_law_891 ?_
  refine j_iaddN C dL_law_892 ?_
  refine j_sld C hX (i + 2) rfl (by omega) (by omega) dL_law_893 ?_
  refine j_aload_n C 3 rfl dL_law_894 ?_
  refine j_iload_n C 0 rfl dL_law_895 ?_
  refine j_iconst C (nI 3) (by decide) dL_law_896 ?_
  refine j_iaddN C dL_law_897 ?_
  refine j_sld C hX (i + 3) rfl (by omega) (by omega) dL_law_898 ?_
  refine j_aload_n C 3 rfl dL_law_899 ?_
  refine j_iload_n C 0 rfl dL_law_900 ?_
  refine j_iconst C (nI 4) (by decide) dL_law_901 ?_
  refine j_iaddN C dL_law_902 ?_
  refine j_sld C hX (i + 4) rfl (by omega) (by omega) dL_law_903 ?_
  refine j_aload_n C 3 rfl dL_law_904 ?_
  refine j_iload_n C 0 rfl dL_law_905 ?_
  refine j_iconst C (nI 5) (by decide) dL_law_906 ?_
  refine j_iaddN C dL_law_907 ?_
  refine j_sld C hX (i + 5) rfl (by omega) (by omega) dL_law_908 ?_
  refine j_aload_n C 3 rfl dL_law_909 ?_
  refine j_iload_n C 0 rfl dL_law_910 ?_
  refine j_bipush C (nI 6) (by decide) dL_law_911 ?_
  refine j_iaddN C dL_law_913 ?_
  refine j_sld C hX (i + 6) rfl (by omega) (by omega) dL_law_914 ?_
  refine j_aload_n C 3 rfl dL_law_915 ?_
  refine j_iload_n C 0 rfl dL_law_916 ?_
  refine j_bipush C (nI 7) (by decide) dL_law_917 ?_
  refine j_iaddN C dL_law_919 ?_
  refine j_sld C hX (i + 7) rfl (by omega) (by omega) dL_law_920 ?_
  refine j_V (ce := 133) (sl := 9011) (As := [.int (xs (i + 1)), .int (xs (i + 2)), .int (xs (i + 3)), .int (xs (i + 4)), .int (xs (i + 5)), .int (xs (i + 6)), .int (xs (i + 7))]) (rest := []) C (cX u kk ua) (o_flow u2 kk μ k hkm hk6 hIm n hnm hn20 (gdX σ) hHM r hrm hr6 (rqX σ) hHN (xs (i + 1)) (xs (i + 2)) (xs (i + 3)) (xs (i + 4)) (xs (i + 5)) (xs (i + 6)) (xs (i + 7))) kyX11_flow tb_1256 tb_1257 tb_1258 99 (ci := 11) rfl rfl rfl (Nat.le_of_ble_eq_true rfl) ⟨by decide, by decide⟩ ⟨by decide, by decide⟩ dL_law_921 rfl (fun vr ub hp => ?_)
  obtain ⟨r2, rfl, h2⟩ := hp
  refine j_pop C rfl dL_law_924 ?_
  refine j_goto C 1301 (by decide) dL_law_925 ?_
  have hR : R0 ua ub ∧ r1 = r2 := by
    obtain ⟨xF28, xF29, xF30, xF31, xF43, xF44, xF45, xF46, xI437, xI678, xI679, xI680, xI681, xI682, xu, xf0, xf1⟩ := h1
    obtain ⟨mF16, mF17, mF18, mI47, mI48, mI49, mI50, mu, mf0⟩ := h2
    rw [xu, mu]
    exact ⟨⟨k, n, r, RB_ag (ag.I (by decide) (ag.I (by decide) (ag.I (by decide) (ag.I (by decide) (ag.I (by decide) (ag.I (by decide) (ag.F (by decide) (ag.F (by decide) (ag.F (by decide) (ag.F (by decide) (ag.F (by decide) (ag.F (by decide) (ag.F (by decide) (ag.F (by decide) ag.rf)))))))))))))) (ag.I (by decide) (ag.I (by decide) (ag.I (by decide) (ag.I (by decide) (ag.F (by decide) (ag.F (by decide) (ag.F (by decide) ag.rf))))))) hB.2.2.1 hB.2.2.2.1 hB, hS, hP, hO, hSm, hM, hG, SC_rft hk6 hk hSC rfl rfl xf1⟩, xf0.trans ((rfl : _ = _).trans mf0.symm)⟩
  exact Kend _ _ hR.1
set_option maxRecDepth 100000 in
set_option maxHeartbeats 4000000 in
theorem lw_c_fill {X : jC} {kk : Nat → Nat} (C : jF X code R_law room_1 kk 4) {b L : Nat} {xs : Nat → Int32} (hX : jX X b L xs) {u u2 : Nat → Nat} {i : Nat} (hi : i + 8 ≤ L) (hL : L ≤ 4096) {σ μ : St} (h0 : R0 σ μ) (Kend : ∀ σ μ : St, R0 σ μ → J X 133 9011 (cX u kk σ ++ cM u2 kk μ) [(3, .int (nI i)), (2, .ref (u2 0)), (1, .ref (u 0)), (0, .ref b)] 1301 [])  : J X 133 9011 (cX u kk σ ++ cM u2 kk μ) [(3, .int (nI i)), (2, .ref (u2 0)), (1, .ref (u 0)), (0, .ref b)] 928 [] := by
  obtain ⟨k, n, r, hB, hE⟩ := id h0
  obtain ⟨hk6, hk, hkm⟩ := hB.k
  obtain ⟨hn20, hn, hnm⟩ := hB.n
  obtain ⟨hr6, hr, hrm⟩ := hB.r
  obtain ⟨hS, hP, hO, hSm, hM, hG, hSC⟩ := id hE
  have hHX := HX_of hB
  have hHM := HM_of hB
  have hHQ := HQ_of hB
  have hHN := HN_of hB
  have hI := hB.iX
  have hIm := hB.iM
  obtain ⟨p, hp40, hp, hp9, hsg⟩ := id hG
  refine j_aload_n C 2 rfl dL_law_928 ?_
  refine j_aload_n C 3 rfl dL_law_929 ?_
  refine j_iload_n C 0 rfl dL_law_930 ?_
  refine j_iconst C (nI 1) (by decide) dL_law_931 ?_
  refine j_iaddN C dL_law_932 ?_
  refine j_sld C hX (i + 1) rfl (by omega) (by omega) dL_law_933 ?_
  refine j_aload_n C 3 rfl dL_law_934 ?_
  refine j_iload_n C 0 rfl dL_law_935 ?_
  refine j_iconst C (nI 2) (by decide) dL_law_936 ?_
  refine j_iaddN C dL_law_937 ?_
  refine j_sld C hX (i + 2) rfl (by omega) (by omega) dL_law_938 ?_
  refine j_aload_n C 3 rfl dL_law_939 ?_
  refine j_iload_n C 0 rfl dL_law_940 ?_
  refine j_iconst C (nI 3) (by decide) dL_law_941 ?_
  refine j_iaddN C dL_law_942 ?_
  refine j_sld C hX (i + 3) rfl (by omega) (by omega) dL_law_943 ?_
  refine j_permL (cM u2 kk μ ++ cX u kk σ) List.perm_append_comm ?_
  refine j_V (ce := 133) (sl := 9011) (As := [.int (xs (i + 1)), .int (xs (i + 2)), .int (xs (i + 3))]) (rest := []) C (cM u2 kk μ) (e_fill u kk σ k hk hk6 hI (gdX σ) hHX r hr hr6 (rqX σ) hHQ (hSC k hk6 hk) (xs (i + 1)) (xs (i + 2)) (xs (i + 3))) kyX10_fill tb_750 tb_751 tb_752 34 (ci := 10) rfl rfl rfl (Nat.le_of_ble_eq_true rfl) ⟨by decide, by decide⟩ ⟨by decide, by decide⟩ dL_law_944 rfl (fun vr ua hp => ?_)
  obtain ⟨r1, rfl, h1⟩ := hp
  refine j_permL (cX u kk ua ++ cM u2 kk μ) List.perm_append_comm ?_
  refine j_pop C rfl dL_law_947 ?_
  refine j_aload_n C 1 rfl dL_law_948 ?_
  refine j_aload_n C 3 rfl dL_law_949 ?_
  refine j_iload_n C 0 rfl dL_law_950 ?_
  refine j_iconst C (nI 1) (by decide) dL_law_951 ?_
  refine j_iaddN C dL_law_952 ?_
  refine j_sld C hX (i + 1) rfl (by omega) (by omega) dL_law_953 ?_
  refine j_aload_n C 3 rfl dL_law_954 ?_
  refine j_iload_n C 0 rfl dL_law_955 ?_
  refine j_iconst C (nI 2) (by decide) dL_law_956 ?_
  refine j_iaddN C dL_law_957 ?_
  refine j_sld C hX (i + 2) rfl (by omega) (by omega) dL_law_958 ?_
  refine j_aload_n C 3 rfl dL_law_959 ?_
  refine j_iload_n C 0 rfl dL_law_960 ?_
  refine j_iconst C (nI 3) (by decide) dL_law_961 ?_
  refine j_iaddN C dL_law_962 ?_
  refine j_sld C hX (i + 3) rfl (by omega) (by omega) dL_law_963 ?_
  refine j_V (ce := 133) (sl := 9011) (As := [.int (xs (i + 1)), .int (xs (i + 2)), .int (xs (i + 3))]) (rest := []) C (cX u kk ua) (o_fill u2 kk μ k hkm hk6 hIm n hnm hn20 (gdX σ) hHM r hrm hr6 (rqX σ) hHN (xs (i + 1)) (xs (i + 2)) (xs (i + 3))) kyX11_fill tb_1262 tb_1263 tb_1264 99 (ci := 11) rfl rfl rfl (Nat.le_of_ble_eq_true rfl) ⟨by decide, by decide⟩ ⟨by decide, by decide⟩ dL_law_964 rfl (fun vr ub hp => ?_)
  obtain ⟨r2, rfl, h2⟩ := hp
  refine j_pop C rfl dL_law_967 ?_
  refine j_goto C 1301 (by decide) dL_law_968 ?_
  have hR : R0 ua ub ∧ r1 = r2 := by
    obtain ⟨xF28, xF29, xF30, xF31, xF43, xF44, xF45, xF46, xI437, xI678, xI679, xI680, xu, xf0, xf1⟩ := h1
    obtain ⟨mF16, mF17, mF18, mI47, mI48, mu, mf0⟩ := h2
    rw [xu, mu]
    exact ⟨⟨k, n, r, RB_ag (ag.I (by decide) (ag.I (by decide) (ag.I (by decide) (ag.I (by decide) (ag.F (by decide) (ag.F (by decide) (ag.F (by decide) (ag.F (by decide) (ag.F (by decide) (ag.F (by decide) (ag.F (by decide) (ag.F (by decide) ag.rf)))))))))))) (ag.I (by decide) (ag.I (by decide) (ag.F (by decide) (ag.F (by decide) (ag.F (by decide) ag.rf))))) hB.2.2.1 hB.2.2.2.1 hB, hS, hP, hO, hSm, hM, hG, SC_rft hk6 hk hSC rfl rfl xf1⟩, xf0.trans ((rfl : _ = _).trans mf0.symm)⟩
  exact Kend _ _ hR.1
set_option maxRecDepth 100000 in
set_option maxHeartbeats 4000000 in
theorem lw_c_place {X : jC} {kk : Nat → Nat} (C : jF X code R_law room_1 kk 4) {b L : Nat} {xs : Nat → Int32} (hX : jX X b L xs) {u u2 : Nat → Nat} {i : Nat} (hi : i + 8 ≤ L) (hL : L ≤ 4096) {σ μ : St} (h0 : R0 σ μ) (Kend : ∀ σ μ : St, R0 σ μ → J X 133 9011 (cX u kk σ ++ cM u2 kk μ) [(3, .int (nI i)), (2, .ref (u2 0)), (1, .ref (u 0)), (0, .ref b)] 1301 [])  : J X 133 9011 (cX u kk σ ++ cM u2 kk μ) [(3, .int (nI i)), (2, .ref (u2 0)), (1, .ref (u 0)), (0, .ref b)] 971 [] := by
  obtain ⟨k, n, r, hB, hE⟩ := id h0
  obtain ⟨hk6, hk, hkm⟩ := hB.k
  obtain ⟨hn20, hn, hnm⟩ := hB.n
  obtain ⟨hr6, hr, hrm⟩ := hB.r
  obtain ⟨hS, hP, hO, hSm, hM, hG, hSC⟩ := id hE
  have hHX := HX_of hB
  have hHM := HM_of hB
  have hHQ := HQ_of hB
  have hHN := HN_of hB
  have hI := hB.iX
  have hIm := hB.iM
  obtain ⟨p, hp40, hp, hp9, hsg⟩ := id hG
  refine j_aload_n C 2 rfl dL_law_971 ?_
  refine j_aload_n C 3 rfl dL_law_972 ?_
  refine j_iload_n C 0 rfl dL_law_973 ?_
  refine j_iconst C (nI 1) (by decide) dL_law_974 ?_
  refine j_iaddN C dL_law_975 ?_
  refine j_sld C hX (i + 1) rfl (by omega) (by omega) dL_law_976 ?_
  refine j_aload_n C 3 rfl dL_law_977 ?_
  refine j_iload_n C 0 rfl dL_law_978 ?_
  refine j_iconst C (nI 2) (by decide) dL_law_979 ?_
  refine j_iaddN C dL_law_980 ?_
  refine j_sld C hX (i + 2) rfl (by omega) (by omega) dL_law_981 ?_
  refine j_aload_n C 3 rfl dL_law_982 ?_
  refine j_iload_n C 0 rfl dL_law_983 ?_
  refine j_iconst C (nI 3) (by decide) dL_law_984 ?_
  refine j_iaddN C dL_law_985 ?_
  refine j_sld C hX (i + 3) rfl (by omega) (by omega) dL_law_986 ?_
  refine j_aload_n C 3 rfl dL_law_987 ?_
  refine j_iload_n C 0 rfl dL_law_988 ?_
  refine j_iconst C (nI 4) (by decide) dL_law_989 ?_
  refine j_iaddN C dL_law_990 ?_
  refine j_sld C hX (i + 4) rfl (by omega) (by omega) dL_law_991 ?_
  refine j_permL (cM u2 kk μ ++ cX u kk σ) List.perm_append_comm ?_
  refine j_V (ce := 133) (sl := 9011) (As := [.int (xs (i + 1)), .int (xs (i + 2)), .int (xs (i + 3)), .int (xs (i + 4))]) (rest := []) C (cM u2 kk μ) (d_place u kk σ k hk hk6 hI  (xs (i + 1)) (xs (i + 2)) (xs (i + 3)) (xs (i + 4))) kyX10_place tb_754 tb_755 tb_756 34 (ci := 10) rfl rfl rfl (Nat.le_of_ble_eq_true rfl) ⟨by decide, by decide⟩ ⟨by decide, by decide⟩ dL_law_992 rfl (fun vr ua hp => ?_)
  obtain ⟨r1, rfl, h1⟩ := hp
  refine j_permL (cX u kk ua ++ cM u2 kk μ) List.perm_append_comm ?_
  refine j_pop C rfl dL_law_995 ?_
  refine j_aload_n C 1 rfl dL_law_996 ?_
  refine j_aload_n C 3 rfl dL_law_997 ?_
  refine j_iload_n C 0 rfl dL_law_998 ?_
  refine j_iconst C (nI 1) (by decide) dL_law_999 ?_
  refine j_iaddN C dL_law_1000 ?_
  refine j_sld C hX (i + 1) rfl (by omega) (by omega) dL_law_1001 ?_
  refine j_aload_n C 3 rfl dL_law_1002 ?_
  refine j_iload_n C 0 rfl dL_law_1003 ?_
  refine j_iconst C (nI 2) (by decide) dL_law_1004 ?_
  refine j_iaddN C dL_law_1005 ?_
  refine j_sld C hX (i + 2) rfl (by omega) (by omega) dL_law_1006 ?_
  refine j_aload_n C 3 rfl dL_law_1007 ?_
  refine j_iload_n C 0 rfl dL_law_1008 ?_
  refine j_iconst C (nI 3) (by decide) dL_law_1009 ?_
  refine j_iaddN C dL_law_1010 ?_
  refine j_sld C hX (i + 3) rfl (by omega) (by omega) dL_law_1011 ?_
  refine j_aload_n C 3 rfl dL_law_1012 ?_
  refine j_iload_n C 0 rfl dL_law_1013 ?_
  refine j_iconst C (nI 4) (by decide) dL_law_1014 ?_
  refine j_iaddN C dL_law_1015 ?_
  refine j_sld C hX (i + 4) rfl (by omega) (by omega) dL_law_1016 ?_
  refine j_V (ce := 133) (sl := 9011) (As := [.int (xs (i + 1)), .int (xs (i + 2)), .int (xs (i + 3)), .int (xs (i + 4))]) (rest := []) C (cX u kk ua) (n_place u2 kk μ k hkm hk6 hIm  (xs (i + 1)) (xs (i + 2)) (xs (i + 3)) (xs (i + 4))) kyX11_place tb_1266 tb_1267 tb_1268 99 (ci := 11) rfl rfl rfl (Nat.le_of_ble_eq_true rfl) ⟨by decide, by decide⟩ ⟨by decide, by decide⟩ dL_law_1017 rfl (fun vr ub hp => ?_)
  obtain ⟨r2, rfl, h2⟩ := hp
  refine j_pop C rfl dL_law_1020 ?_
  refine j_goto C 1301 (by decide) dL_law_1021 ?_
  have hR : R0 ua ub := by
    obtain ⟨xF47, xF48, xF49, xI686, xu⟩ := h1
    have mu := h2
    rw [xu, mu]
    exact ⟨k, n, r, RB_ag (ag.I (by decide) (ag.F (by decide) (ag.F (by decide) (ag.F (by decide) ag.rf)))) ag.rf hB.2.2.1 hB.2.2.2.1 hB, hS, hP, hO, hSm, hM, hG, hSC⟩
  exact Kend _ _ hR
set_option maxRecDepth 100000 in
set_option maxHeartbeats 4000000 in
theorem lw_c_record {X : jC} {kk : Nat → Nat} (C : jF X code R_law room_1 kk 4) {b L : Nat} {xs : Nat → Int32} (hX : jX X b L xs) {u u2 : Nat → Nat} {i : Nat} (hi : i + 8 ≤ L) (hL : L ≤ 4096) {σ μ : St} (h0 : R0 σ μ) (Kend : ∀ σ μ : St, R0 σ μ → J X 133 9011 (cX u kk σ ++ cM u2 kk μ) [(3, .int (nI i)), (2, .ref (u2 0)), (1, .ref (u 0)), (0, .ref b)] 1301 [])  : J X 133 9011 (cX u kk σ ++ cM u2 kk μ) [(3, .int (nI i)), (2, .ref (u2 0)), (1, .ref (u 0)), (0, .ref b)] 1024 [] := by
  obtain ⟨k, n, r, hB, hE⟩ := id h0
  obtain ⟨hk6, hk, hkm⟩ := hB.k
  obtain ⟨hn20, hn, hnm⟩ := hB.n
  obtain ⟨hr6, hr, hrm⟩ := hB.r
  obtain ⟨hS, hP, hO, hSm, hM, hG, hSC⟩ := id hE
  have hHX := HX_of hB
  have hHM := HM_of hB
  have hHQ := HQ_of hB
  have hHN := HN_of hB
  have hI := hB.iX
  have hIm := hB.iM
  obtain ⟨p, hp40, hp, hp9, hsg⟩ := id hG
  refine j_aload_n C 2 rfl dL_law_1024 ?_
  refine j_aload_n C 3 rfl dL_law_1025 ?_
  refine j_iload_n C 0 rfl dL_law_1026 ?_
  refine j_iconst C (nI 1) (by decide) dL_law_1027 ?_
  refine j_iaddN C dL_law_1028 ?_
  refine j_sld C hX (i + 1) rfl (by omega) (by omega) dL_law_1029 ?_
  refine j_aload_n C 3 rfl dL_law_1030 ?_
  refine j_iload_n C 0 rfl dL_law_1031 ?_
  refine j_iconst C (nI 2) (by decide) dL_law_1032 ?_
  refine j_iaddN C dL_law_1033 ?_
  refine j_sld C hX (i + 2) rfl (by omega) (by omega) dL_law_1034 ?_
  refine j_aload_n C 3 rfl dL_law_1035 ?_
  refine j_iload_n C 0 rfl dL_law_1036 ?_
  refine j_iconst C (nI 3) (by decide) dL_law_1037 ?_
  refine j_iaddN C dL_law_1038 ?_
  refine j_sld C hX (i + 3) rfl (by omega) (by omega) dL_law_1039 ?_
  refine j_permL (cM u2 kk μ ++ cX u kk σ) List.perm_append_comm ?_
  refine j_V (ce := 133) (sl := 9011) (As := [.int (xs (i + 1)), .int (xs (i + 2)), .int (xs (i + 3))]) (rest := []) C (cM u2 kk μ) (e_record u kk σ k hk hk6 hI (gdX σ) hHX (hSC k hk6 hk) hO (xs (i + 1)) (xs (i + 2)) (xs (i + 3))) kyX10_record tb_774 tb_775 tb_776 34 (ci := 10) rfl rfl rfl (Nat.le_of_ble_eq_true rfl) ⟨by decide, by decide⟩ ⟨by decide, by decide⟩ dL_law_1040 rfl (fun vr ua hp => ?_)
  obtain ⟨r1, rfl, h1⟩ := hp
  refine j_permL (cX u kk ua ++ cM u2 kk μ) List.perm_append_comm ?_
  refine j_pop C rfl dL_law_1043 ?_
  refine j_aload_n C 1 rfl dL_law_1044 ?_
  refine j_aload_n C 3 rfl dL_law_1045 ?_
  refine j_iload_n C 0 rfl dL_law_1046 ?_
  refine j_iconst C (nI 1) (by decide) dL_law_1047 ?_
  refine j_iaddN C dL_law_1048 ?_
  refine j_sld C hX (i + 1) rfl (by omega) (by omega) dL_law_1049 ?_
  refine j_aload_n C 3 rfl dL_law_1050 ?_
  refine j_iload_n C 0 rfl dL_law_1051 ?_
  refine j_iconst C (nI 2) (by decide) dL_law_1052 ?_
  refine j_iaddN C dL_law_1053 ?_
  refine j_sld C hX (i + 2) rfl (by omega) (by omega) dL_law_1054 ?_
  refine j_aload_n C 3 rfl dL_law_1055 ?_
  refine j_iload_n C 0 rfl dL_law_1056 ?_
  refine j_iconst C (nI 3) (by decide) dL_law_1057 ?_
  refine j_iaddN C dL_law_1058 ?_
  refine j_sld C hX (i + 3) rfl (by omega) (by omega) dL_law_1059 ?_
  refine j_V (ce := 133) (sl := 9011) (As := [.int (xs (i + 1)), .int (xs (i + 2)), .int (xs (i + 3))]) (rest := []) C (cX u kk ua) (o_record u2 kk μ k hkm hk6 hIm n hnm hn20 (gdX σ) hHM  (xs (i + 1)) (xs (i + 2)) (xs (i + 3))) kyX11_record tb_1274 tb_1275 tb_1276 99 (ci := 11) rfl rfl rfl (Nat.le_of_ble_eq_true rfl) ⟨by decide, by decide⟩ ⟨by decide, by decide⟩ dL_law_1060 rfl (fun vr ub hp => ?_)
  obtain ⟨r2, rfl, h2⟩ := hp
  refine j_pop C rfl dL_law_1063 ?_
  refine j_goto C 1301 (by decide) dL_law_1064 ?_
  have hR : R0 ua ub ∧ r1 = r2 := by
    obtain ⟨xF28, xF29, xF30, xF31, xF51, xI437, xI803, xu, xf0, xf1, xf2⟩ := h1
    obtain ⟨mF16, mF17, mF18, mu, mf0⟩ := h2
    rw [xu, mu]
    exact ⟨⟨k, n, r, RB_ag (ag.I (by decide) (ag.I (by decide) (ag.F (by decide) (ag.F (by decide) (ag.F (by decide) (ag.F (by decide) (ag.F (by decide) ag.rf))))))) (ag.F (by decide) (ag.F (by decide) (ag.F (by decide) ag.rf))) hB.2.2.1 hB.2.2.2.1 hB, hS, hP, xf1, hSm, hM, hG, SC_rft hk6 hk hSC rfl rfl xf2⟩, xf0.trans ((rfl : _ = _).trans mf0.symm)⟩
  exact Kend _ _ hR.1
set_option maxRecDepth 100000 in
set_option maxHeartbeats 4000000 in
theorem lw_c_seam {X : jC} {kk : Nat → Nat} (C : jF X code R_law room_1 kk 4) {b L : Nat} {xs : Nat → Int32} (hX : jX X b L xs) {u u2 : Nat → Nat} {i : Nat} (hi : i + 8 ≤ L) (hL : L ≤ 4096) {σ μ : St} (h0 : R0 σ μ) (Kend : ∀ σ μ : St, R0 σ μ → J X 133 9011 (cX u kk σ ++ cM u2 kk μ) [(3, .int (nI i)), (2, .ref (u2 0)), (1, .ref (u 0)), (0, .ref b)] 1301 [])  : J X 133 9011 (cX u kk σ ++ cM u2 kk μ) [(3, .int (nI i)), (2, .ref (u2 0)), (1, .ref (u 0)), (0, .ref b)] 1067 [] := by
  obtain ⟨k, n, r, hB, hE⟩ := id h0
  obtain ⟨hk6, hk, hkm⟩ := hB.k
  obtain ⟨hn20, hn, hnm⟩ := hB.n
  obtain ⟨hr6, hr, hrm⟩ := hB.r
  obtain ⟨hS, hP, hO, hSm, hM, hG, hSC⟩ := id hE
  have hHX := HX_of hB
  have hHM := HM_of hB
  have hHQ := HQ_of hB
  have hHN := HN_of hB
  have hI := hB.iX
  have hIm := hB.iM
  obtain ⟨p, hp40, hp, hp9, hsg⟩ := id hG
  refine j_aload_n C 2 rfl dL_law_1067 ?_
  refine j_aload_n C 3 rfl dL_law_1068 ?_
  refine j_iload_n C 0 rfl dL_law_1069 ?_
  refine j_iconst C (nI 1) (by decide) dL_law_1070 ?_
  refine j_iaddN C dL_law_1071 ?_
  refine j_sld C hX (i + 1) rfl (by omega) (by omega) dL_law_1072 ?_
  refine j_aload_n C 3 rfl dL_law_1073 ?_
  refine j_iload_n C 0 rfl dL_law_1074 ?_
  refine j_iconst C (nI 2) (by decide) dL_law_1075 ?_
  refine j_iaddN C dL_law_1076 ?_
  refine j_sld C hX (i + 2) rfl (by omega) (by omega) dL_law_1077 ?_
  refine j_permL (cM u2 kk μ ++ cX u kk σ) List.perm_append_comm ?_
  refine j_V (ce := 133) (sl := 9011) (As := [.int (xs (i + 1)), .int (xs (i + 2))]) (rest := []) C (cM u2 kk μ) (e_seam u kk σ k hk hk6 hI (gdX σ) hHX (hSC k hk6 hk) hO (xs (i + 1)) (xs (i + 2))) kyX10_seam tb_791 tb_792 tb_793 34 (ci := 10) rfl rfl rfl (Nat.le_of_ble_eq_true rfl) ⟨by decide, by decide⟩ ⟨by decide, by decide⟩ dL_law_1078 rfl (fun vr ua hp => ?_)
  obtain ⟨r1, rfl, h1⟩ := hp
  refine j_permL (cX u kk ua ++ cM u2 kk μ) List.perm_append_comm ?_
  refine j_pop C rfl dL_law_1081 ?_
  refine j_aload_n C 1 rfl dL_law_1082 ?_
  refine j_aload_n C 3 rfl dL_law_1083 ?_
  refine j_iload_n C 0 rfl dL_law_1084 ?_
  refine j_iconst C (nI 1) (by decide) dL_law_1085 ?_
  refine j_iaddN C dL_law_1086 ?_
  refine j_sld C hX (i + 1) rfl (by omega) (by omega) dL_law_1087 ?_
  refine j_aload_n C 3 rfl dL_law_1088 ?_
  refine j_iload_n C 0 rfl dL_law_1089 ?_
  refine j_iconst C (nI 2) (by decide) dL_law_1090 ?_
  refine j_iaddN C dL_law_1091 ?_
  refine j_sld C hX (i + 2) rfl (by omega) (by omega) dL_law_1092 ?_
  refine j_V (ce := 133) (sl := 9011) (As := [.int (xs (i + 1)), .int (xs (i + 2))]) (rest := []) C (cX u kk ua) (o_seam u2 kk μ k hkm hk6 hIm n hnm hn20 (gdX σ) hHM  (xs (i + 1)) (xs (i + 2))) kyX11_seam tb_1286 tb_1287 tb_1288 99 (ci := 11) rfl rfl rfl (Nat.le_of_ble_eq_true rfl) ⟨by decide, by decide⟩ ⟨by decide, by decide⟩ dL_law_1093 rfl (fun vr ub hp => ?_)
  obtain ⟨r2, rfl, h2⟩ := hp
  refine j_pop C rfl dL_law_1096 ?_
  refine j_goto C 1301 (by decide) dL_law_1097 ?_
  have hR : R0 ua ub ∧ r1 = r2 := by
    obtain ⟨xF28, xF29, xF30, xF31, xF51, xF52, xI437, xI803, xI804, xI805, xu, xf0, xf1, xf2⟩ := h1
    obtain ⟨mF16, mF17, mF18, mu, mf0⟩ := h2
    rw [xu, mu]
    exact ⟨⟨k, n, r, RB_ag (ag.I (by decide) (ag.I (by decide) (ag.I (by decide) (ag.I (by decide) (ag.F (by decide) (ag.F (by decide) (ag.F (by decide) (ag.F (by decide) (ag.F (by decide) (ag.F (by decide) ag.rf)))))))))) (ag.F (by decide) (ag.F (by decide) (ag.F (by decide) ag.rf))) hB.2.2.1 hB.2.2.2.1 hB, hS, hP, xf1, hSm, hM, hG, SC_rft hk6 hk hSC rfl rfl xf2⟩, xf0.trans ((rfl : _ = _).trans mf0.symm)⟩
  exact Kend _ _ hR.1
set_option maxRecDepth 100000 in
set_option maxHeartbeats 4000000 in
theorem lw_c_claim {X : jC} {kk : Nat → Nat} (C : jF X code R_law room_1 kk 4) {b L : Nat} {xs : Nat → Int32} (hX : jX X b L xs) {u u2 : Nat → Nat} {i : Nat} (hi : i + 8 ≤ L) (hL : L ≤ 4096) {σ μ : St} (h0 : R0 σ μ) (Kend : ∀ σ μ : St, R0 σ μ → J X 133 9011 (cX u kk σ ++ cM u2 kk μ) [(3, .int (nI i)), (2, .ref (u2 0)), (1, .ref (u 0)), (0, .ref b)] 1301 [])  : J X 133 9011 (cX u kk σ ++ cM u2 kk μ) [(3, .int (nI i)), (2, .ref (u2 0)), (1, .ref (u 0)), (0, .ref b)] 1100 [] := by
  obtain ⟨k, n, r, hB, hE⟩ := id h0
  obtain ⟨hk6, hk, hkm⟩ := hB.k
  obtain ⟨hn20, hn, hnm⟩ := hB.n
  obtain ⟨hr6, hr, hrm⟩ := hB.r
  obtain ⟨hS, hP, hO, hSm, hM, hG, hSC⟩ := id hE
  have hHX := HX_of hB
  have hHM := HM_of hB
  have hHQ := HQ_of hB
  have hHN := HN_of hB
  have hI := hB.iX
  have hIm := hB.iM
  obtain ⟨p, hp40, hp, hp9, hsg⟩ := id hG
  refine j_aload_n C 2 rfl dL_law_1100 ?_
  refine j_aload_n C 3 rfl dL_law_1101 ?_
  refine j_iload_n C 0 rfl dL_law_1102 ?_
  refine j_iconst C (nI 1) (by decide) dL_law_1103 ?_
  refine j_iaddN C dL_law_1104 ?_
  refine j_sld C hX (i + 1) rfl (by omega) (by omega) dL_law_1105 ?_
  refine j_aload_n C 3 rfl dL_law_1106 ?_
  refine j_iload_n C 0 rfl dL_law_1107 ?_
  refine j_iconst C (nI 2) (by decide) dL_law_1108 ?_
  refine j_iaddN C dL_law_1109 ?_
  refine j_sld C hX (i + 2) rfl (by omega) (by omega) dL_law_1110 ?_
  refine j_permL (cM u2 kk μ ++ cX u kk σ) List.perm_append_comm ?_
  refine j_V (ce := 133) (sl := 9011) (As := [.int (xs (i + 1)), .int (xs (i + 2))]) (rest := []) C (cM u2 kk μ) (e_claim u kk σ k hk hk6 hI (gdX σ) hHX (hSC k hk6 hk) (xs (i + 1)) (xs (i + 2))) kyX10_claim tb_800 tb_801 tb_802 34 (ci := 10) rfl rfl rfl (Nat.le_of_ble_eq_true rfl) ⟨by decide, by decide⟩ ⟨by decide, by decide⟩ dL_law_1111 rfl (fun vr ua hp => ?_)
  obtain ⟨r1, rfl, h1⟩ := hp
  refine j_permL (cX u kk ua ++ cM u2 kk μ) List.perm_append_comm ?_
  refine j_aload_n C 1 rfl dL_law_1114 ?_
  refine j_aload_n C 3 rfl dL_law_1115 ?_
  refine j_iload_n C 0 rfl dL_law_1116 ?_
  refine j_iconst C (nI 1) (by decide) dL_law_1117 ?_
  refine j_iaddN C dL_law_1118 ?_
  refine j_sld C hX (i + 1) rfl (by omega) (by omega) dL_law_1119 ?_
  refine j_aload_n C 3 rfl dL_law_1120 ?_
  refine j_iload_n C 0 rfl dL_law_1121 ?_
  refine j_iconst C (nI 2) (by decide) dL_law_1122 ?_
  refine j_iaddN C dL_law_1123 ?_
  refine j_sld C hX (i + 2) rfl (by omega) (by omega) dL_law_1124 ?_
  refine j_V (ce := 133) (sl := 9011) (As := [.int (xs (i + 1)), .int (xs (i + 2))]) (rest := [.int r1]) C (cX u kk ua) (o_claim u2 kk μ k hkm hk6 hIm n hnm hn20 (gdX σ) hHM  (xs (i + 1)) (xs (i + 2))) kyX11_claim tb_1290 tb_1291 tb_1292 99 (ci := 11) rfl rfl rfl (Nat.le_of_ble_eq_true rfl) ⟨by decide, by decide⟩ ⟨by decide, by decide⟩ dL_law_1125 rfl (fun vr ub hp => ?_)
  obtain ⟨r2, rfl, h2⟩ := hp
  have hR : R0 ua ub ∧ r1 = r2 := by
    obtain ⟨xF28, xF29, xF30, xF31, xI437, xu, xf0, xf1⟩ := h1
    obtain ⟨mF16, mF17, mF18, mu, mf0⟩ := h2
    rw [xu, mu]
    exact ⟨⟨k, n, r, RB_ag (ag.I (by decide) (ag.F (by decide) (ag.F (by decide) (ag.F (by decide) (ag.F (by decide) ag.rf))))) (ag.F (by decide) (ag.F (by decide) (ag.F (by decide) ag.rf))) hB.2.2.1 hB.2.2.2.1 hB, hS, hP, hO, hSm, hM, hG, SC_rft hk6 hk hSC rfl rfl xf1⟩, xf0.trans ((rfl : _ = _).trans mf0.symm)⟩
  refine j_icmp_eq C 1301 (by decide) dL_law_1128 (fun _ => ?_) (fun q => absurd hR.2 q)
  exact Kend _ _ hR.1
set_option maxRecDepth 100000 in
set_option maxHeartbeats 4000000 in
theorem lw_c_fives {X : jC} {kk : Nat → Nat} (C : jF X code R_law room_1 kk 4) {b L : Nat} {xs : Nat → Int32} (hX : jX X b L xs) {u u2 : Nat → Nat} {i : Nat} (hi : i + 8 ≤ L) (hL : L ≤ 4096) {σ μ : St} (h0 : R0 σ μ) (Kend : ∀ σ μ : St, R0 σ μ → J X 133 9011 (cX u kk σ ++ cM u2 kk μ) [(3, .int (nI i)), (2, .ref (u2 0)), (1, .ref (u 0)), (0, .ref b)] 1301 [])  : J X 133 9011 (cX u kk σ ++ cM u2 kk μ) [(3, .int (nI i)), (2, .ref (u2 0)), (1, .ref (u 0)), (0, .ref b)] 1133 [] := by
  obtain ⟨k, n, r, hB, hE⟩ := id h0
  obtain ⟨hk6, hk, hkm⟩ := hB.k
  obtain ⟨hn20, hn, hnm⟩ := hB.n
  obtain ⟨hr6, hr, hrm⟩ := hB.r
  obtain ⟨hS, hP, hO, hSm, hM, hG, hSC⟩ := id hE
  have hHX := HX_of hB
  have hHM := HM_of hB
  have hHQ := HQ_of hB
  have hHN := HN_of hB
  have hI := hB.iX
  have hIm := hB.iM
  obtain ⟨p, hp40, hp, hp9, hsg⟩ := id hG
  refine j_aload_n C 2 rfl dL_law_1133 ?_
  refine j_aload_n C 3 rfl dL_law_1134 ?_
  refine j_iload_n C 0 rfl dL_law_1135 ?_
  refine j_iconst C (nI 1) (by decide) dL_law_1136 ?_
  refine j_iaddN C dL_law_1137 ?_
  refine j_sld C hX (i + 1) rfl (by omega) (by omega) dL_law_1138 ?_
  refine j_aload_n C 3 rfl dL_law_1139 ?_
  refine j_iload_n C 0 rfl dL_law_1140 ?_
  refine j_iconst C (nI 2) (by decide) dL_law_1141 ?_
  refine j_iaddN C dL_law_1142 ?_
  refine j_sld C hX (i + 2) rfl (by omega) (by omega) dL_law_1143 ?_
  refine j_permL (cM u2 kk μ ++ cX u kk σ) List.perm_append_comm ?_
  refine j_V (ce := 133) (sl := 9011) (As := [.int (xs (i + 1)), .int (xs (i + 2))]) (rest := []) C (cM u2 kk μ) (e_fives u kk σ k hk hk6 hI (xs (i + 1)) (xs (i + 2))) kyX10_fives tb_812 tb_813 tb_814 34 (ci := 10) rfl rfl rfl (Nat.le_of_ble_eq_true rfl) ⟨by decide, by decide⟩ ⟨by decide, by decide⟩ dL_law_1144 rfl (fun vr ua hp => ?_)
  obtain ⟨r1, rfl, h1⟩ := hp
  refine j_permL (cX u kk ua ++ cM u2 kk μ) List.perm_append_comm ?_
  refine j_pop C rfl dL_law_1147 ?_
  refine j_aload_n C 1 rfl dL_law_1148 ?_
  refine j_aload_n C 3 rfl dL_law_1149 ?_
  refine j_iload_n C 0 rfl dL_law_1150 ?_
  refine j_iconst C (nI 1) (by decide) dL_law_1151 ?_
  refine j_iaddN C dL_law_1152 ?_
  refine j_sld C hX (i + 1) rfl (by omega) (by omega) dL_law_1153 ?_
  refine j_aload_n C 3 rfl dL_law_1154 ?_
  refine j_iload_n C 0 rfl dL_law_1155 ?_
  refine j_iconst C (nI 2) (by decide) dL_law_1156 ?_
  refine j_iaddN C dL_law_1157 ?_
  refine j_sld C hX (i + 2) rfl (by omega) (by omega) dL_law_1158 ?_
  refine j_V (ce := 133) (sl := 9011) (As := [.int (xs (i + 1)), .int (xs (i + 2))]) (rest := []) C (cX u kk ua) (o_fives u2 kk μ k hkm hk6 hIm (xs (i + 1)) (xs (i + 2))) kyX11_fives tb_1298 tb_1299 tb_1300 99 (ci := 11) rfl rfl rfl (Nat.le_of_ble_eq_true rfl) ⟨by decide, by decide⟩ ⟨by decide, by decide⟩ dL_law_1159 rfl (fun vr ub hp => ?_)
  obtain ⟨r2, rfl, h2⟩ := hp
  refine j_pop C rfl dL_law_1162 ?_
  refine j_goto C 1301 (by decide) dL_law_1163 ?_
  have hR : R0 ua ub ∧ r1 = r2 := by
    obtain ⟨xI850, xI851, xu, xf0⟩ := h1
    obtain ⟨mI51, mI52, mu, mf0⟩ := h2
    rw [xu, mu]
    exact ⟨⟨k, n, r, RB_ag (ag.I (by decide) (ag.I (by decide) ag.rf)) (ag.I (by decide) (ag.I (by decide) ag.rf)) hB.2.2.1 hB.2.2.2.1 hB, hS, hP, hO, hSm, hM, hG, hSC⟩, xf0.trans ((fvF_eq hB _ _).trans mf0.symm)⟩
  exact Kend _ _ hR.1
set_option maxRecDepth 100000 in
set_option maxHeartbeats 4000000 in
theorem lw_c_odds {X : jC} {kk : Nat → Nat} (C : jF X code R_law room_1 kk 4) {b L : Nat} {xs : Nat → Int32} (hX : jX X b L xs) {u u2 : Nat → Nat} {i : Nat} (hi : i + 8 ≤ L) (hL : L ≤ 4096) {σ μ : St} (h0 : R0 σ μ) (Kend : ∀ σ μ : St, R0 σ μ → J X 133 9011 (cX u kk σ ++ cM u2 kk μ) [(3, .int (nI i)), (2, .ref (u2 0)), (1, .ref (u 0)), (0, .ref b)] 1301 [])  : J X 133 9011 (cX u kk σ ++ cM u2 kk μ) [(3, .int (nI i)), (2, .ref (u2 0)), (1, .ref (u 0)), (0, .ref b)] 1166 [] := by
  obtain ⟨k, n, r, hB, hE⟩ := id h0
  obtain ⟨hk6, hk, hkm⟩ := hB.k
  obtain ⟨hn20, hn, hnm⟩ := hB.n
  obtain ⟨hr6, hr, hrm⟩ := hB.r
  obtain ⟨hS, hP, hO, hSm, hM, hG, hSC⟩ := id hE
  have hHX := HX_of hB
  have hHM := HM_of hB
  have hHQ := HQ_of hB
  have hHN := HN_of hB
  have hI := hB.iX
  have hIm := hB.iM
  obtain ⟨p, hp40, hp, hp9, hsg⟩ := id hG
  refine j_aload_n C 2 rfl dL_law_1166 ?_
  refine j_aload_n C 3 rfl dL_law_1167 ?_
  refine j_iload_n C 0 rfl dL_law_1168 ?_
  refine j_iconst C (nI 1) (by decide) dL_law_1169 ?_
  refine j_iaddN C dL_law_1170 ?_
  refine j_sld C hX (i + 1) rfl (by omega) (by omega) dL_law_1171 ?_
  refine j_aload_n C 3 rfl dL_law_1172 ?_
  refine j_iload_n C 0 rfl dL_law_1173 ?_
  refine j_iconst C (nI 2) (by decide) dL_law_1174 ?_
  refine j_iaddN C dL_law_1175 ?_
  refine j_sld C hX (i + 2) rfl (by omega) (by omega) dL_law_1176 ?_
  refine j_permL (cM u2 kk μ ++ cX u kk σ) List.perm_append_comm ?_
  refine j_V (ce := 133) (sl := 9011) (As := [.int (xs (i + 1)), .int (xs (i + 2))]) (rest := []) C (cM u2 kk μ) (d_odds u kk σ k hk hk6 hI  (xs (i + 1)) (xs (i + 2))) kyX10_odds tb_820 tb_821 tb_822 34 (ci := 10) rfl rfl rfl (Nat.le_of_ble_eq_true rfl) ⟨by decide, by decide⟩ ⟨by decide, by decide⟩ dL_law_1177 rfl (fun vr ua hp => ?_)
  obtain ⟨r1, rfl, h1⟩ := hp
  refine j_permL (cX u kk ua ++ cM u2 kk μ) List.perm_append_comm ?_
  refine j_pop2 C rfl dL_law_1180 ?_
  refine j_aload_n C 1 rfl dL_law_1181 ?_
  refine j_aload_n C 3 rfl dL_law_1182 ?_
  refine j_iload_n C 0 rfl dL_law_1183 ?_
  refine j_iconst C (nI 1) (by decide) dL_law_1184 ?_
  refine j_iaddN C dL_law_1185 ?_
  refine j_sld C hX (i + 1) rfl (by omega) (by omega) dL_law_1186 ?_
  refine j_aload_n C 3 rfl dL_law_1187 ?_
  refine j_iload_n C 0 rfl dL_law_1188 ?_
  refine j_iconst C (nI 2) (by decide) dL_law_1189 ?_
  refine j_iaddN C dL_law_1190 ?_
  refine j_sld C hX (i + 2) rfl (by omega) (by omega) dL_law_1191 ?_
  refine j_V (ce := 133) (sl := 9011) (As := [.int (xs (i + 1)), .int (xs (i + 2))]) (rest := []) C (cX u kk ua) (n_odds u2 kk μ k hkm hk6 hIm  (xs (i + 1)) (xs (i + 2))) kyX11_odds tb_1306 tb_1307 tb_1308 99 (ci := 11) rfl rfl rfl (Nat.le_of_ble_eq_true rfl) ⟨by decide, by decide⟩ ⟨by decide, by decide⟩ dL_law_1192 rfl (fun vr ub hp => ?_)
  obtain ⟨r2, rfl, h2⟩ := hp
  refine j_pop2 C rfl dL_law_1195 ?_
  refine j_goto C 1301 (by decide) dL_law_1196 ?_
  have hR : R0 ua ub := by
    obtain ⟨xI850, xI851, xL852, xL853, xu⟩ := h1
    obtain ⟨mG31, mI51, mI52, mu⟩ := h2
    rw [xu, mu]
    exact ⟨k, n, r, RB_ag (ag.L (ag.L (ag.I (by decide) (ag.I (by decide) ag.rf)))) (ag.I (by decide) (ag.I (by decide) (ag.G ag.rf))) hB.2.2.1 hB.2.2.2.1 hB, hS, hP, hO, hSm, hM, hG, hSC⟩
  exact Kend _ _ hR
set_option maxRecDepth 100000 in
set_option maxHeartbeats 4000000 in
theorem lw_c_forgets {X : jC} {kk : Nat → Nat} (C : jF X code R_law room_1 kk 4) {b L : Nat} {xs : Nat → Int32} (hX : jX X b L xs) {u u2 : Nat → Nat} {i : Nat} (hi : i + 8 ≤ L) (hL : L ≤ 4096) {σ μ : St} (h0 : R0 σ μ) (Kend : ∀ σ μ : St, R0 σ μ → J X 133 9011 (cX u kk σ ++ cM u2 kk μ) [(3, .int (nI i)), (2, .ref (u2 0)), (1, .ref (u 0)), (0, .ref b)] 1301 [])  : J X 133 9011 (cX u kk σ ++ cM u2 kk μ) [(3, .int (nI i)), (2, .ref (u2 0)), (1, .ref (u 0)), (0, .ref b)] 1199 [] := by
  obtain ⟨k, n, r, hB, hE⟩ := id h0
  obtain ⟨hk6, hk, hkm⟩ := hB.k
  obtain ⟨hn20, hn, hnm⟩ := hB.n
  obtain ⟨hr6, hr, hrm⟩ := hB.r
  obtain ⟨hS, hP, hO, hSm, hM, hG, hSC⟩ := id hE
  have hHX := HX_of hB
  have hHM := HM_of hB
  have hHQ := HQ_of hB
  have hHN := HN_of hB
  have hI := hB.iX
  have hIm := hB.iM
  obtain ⟨p, hp40, hp, hp9, hsg⟩ := id hG
  refine j_aload_n C 2 rfl dL_law_1199 ?_
  refine j_aload_n C 3 rfl dL_law_1200 ?_
  refine j_iload_n C 0 rfl dL_law_1201 ?_
  refine j_iconst C (nI 1) (by decide) dL_law_1202 ?_
  refine j_iaddN C dL_law_1203 ?_
  refine j_sld C hX (i + 1) rfl (by omega) (by omega) dL_law_1204 ?_
  refine j_aload_n C 3 rfl dL_law_1205 ?_
  refine j_iload_n C 0 rfl dL_law_1206 ?_
  refine j_iconst C (nI 2) (by decide) dL_law_1207 ?_
  refine j_iaddN C dL_law_1208 ?_
  refine j_sld C hX (i + 2) rfl (by omega) (by omega) dL_law_1209 ?_
  refine j_permL (cM u2 kk μ ++ cX u kk σ) List.perm_append_comm ?_
  refine j_V (ce := 133) (sl := 9011) (As := [.int (xs (i + 1)), .int (xs (i + 2))]) (rest := []) C (cM u2 kk μ) (e_forgets u kk σ k hk hk6 hI (xs (i + 1)) (xs (i + 2))) kyX10_forgets tb_832 tb_833 tb_834 34 (ci := 10) rfl rfl rfl (Nat.le_of_ble_eq_true rfl) ⟨by decide, by decide⟩ ⟨by decide, by decide⟩ dL_law_1210 rfl (fun vr ua hp => ?_)
  obtain ⟨r1, rfl, h1⟩ := hp
  refine j_permL (cX u kk ua ++ cM u2 kk μ) List.perm_append_comm ?_
  refine j_pop C rfl dL_law_1213 ?_
  refine j_aload_n C 1 rfl dL_law_1214 ?_
  refine j_aload_n C 3 rfl dL_law_1215 ?_
  refine j_iload_n C 0 rfl dL_law_1216 ?_
  refine j_iconst C (nI 1) (by decide) dL_law_1217 ?_
  refine j_iaddN C dL_law_1218 ?_
  refine j_sld C hX (i + 1) rfl (by omega) (by omega) dL_law_1219 ?_
  refine j_aload_n C 3 rfl dL_law_1220 ?_
  refine j_iload_n C 0 rfl dL_law_1221 ?_
  refine j_iconst C (nI 2) (by decide) dL_law_1222 ?_
  refine j_iaddN C dL_law_1223 ?_
  refine j_sld C hX (i + 2) rfl (by omega) (by omega) dL_law_1224 ?_
  refine j_V (ce := 133) (sl := 9011) (As := [.int (xs (i + 1)), .int (xs (i + 2))]) (rest := []) C (cX u kk ua) (o_forgets u2 kk μ k hkm hk6 hIm (xs (i + 1)) (xs (i + 2))) kyX11_forgets tb_1314 tb_1315 tb_1316 99 (ci := 11) rfl rfl rfl (Nat.le_of_ble_eq_true rfl) ⟨by decide, by decide⟩ ⟨by decide, by decide⟩ dL_law_1225 rfl (fun vr ub hp => ?_)
  obtain ⟨r2, rfl, h2⟩ := hp
  refine j_pop C rfl dL_law_1228 ?_
  refine j_goto C 1301 (by decide) dL_law_1229 ?_
  have hR : R0 ua ub ∧ r1 = r2 := by
    obtain ⟨xF54, xI854, xI855, xu, xf0⟩ := h1
    obtain ⟨mu, mf0⟩ := h2
    rw [xu, mu]
    exact ⟨⟨k, n, r, RB_ag (ag.I (by decide) (ag.I (by decide) (ag.F (by decide) ag.rf))) ag.rf hB.2.2.1 hB.2.2.2.1 hB, hS, hP, hO, hSm, hM, hG, hSC⟩, xf0.trans ((fgF_eq hB _ _).trans mf0.symm)⟩
  exact Kend _ _ hR.1
set_option maxRecDepth 100000 in
set_option maxHeartbeats 4000000 in
theorem lw_c_imageO {X : jC} {kk : Nat → Nat} (C : jF X code R_law room_1 kk 4) {b L : Nat} {xs : Nat → Int32} (hX : jX X b L xs) {u u2 : Nat → Nat} {i : Nat} (hi : i + 8 ≤ L) (hL : L ≤ 4096) {σ μ : St} (h0 : R0 σ μ) (Kend : ∀ σ μ : St, R0 σ μ → J X 133 9011 (cX u kk σ ++ cM u2 kk μ) [(3, .int (nI i)), (2, .ref (u2 0)), (1, .ref (u 0)), (0, .ref b)] 1301 []) (hw : wB (xs (i + 1)) (nI 0) (nI 1) = false) : J X 133 9011 (cX u kk σ ++ cM u2 kk μ) [(3, .int (nI i)), (2, .ref (u2 0)), (1, .ref (u 0)), (0, .ref b)] 1232 [] := by
  obtain ⟨k, n, r, hB, hE⟩ := id h0
  obtain ⟨hk6, hk, hkm⟩ := hB.k
  obtain ⟨hn20, hn, hnm⟩ := hB.n
  obtain ⟨hr6, hr, hrm⟩ := hB.r
  obtain ⟨hS, hP, hO, hSm, hM, hG, hSC⟩ := id hE
  have hHX := HX_of hB
  have hHM := HM_of hB
  have hHQ := HQ_of hB
  have hHN := HN_of hB
  have hI := hB.iX
  have hIm := hB.iM
  obtain ⟨p, hp40, hp, hp9, hsg⟩ := id hG
  refine j_aload_n C 2 rfl dL_law_1232 ?_
  refine j_aload_n C 3 rfl dL_law_1233 ?_
  refine j_iload_n C 0 rfl dL_law_1234 ?_
  refine j_iconst C (nI 1) (by decide) dL_law_1235 ?_
  refine j_iaddN C dL_law_1236 ?_
  refine j_sld C hX (i + 1) rfl (by omega) (by omega) dL_law_1237 ?_
  refine j_permL (cM u2 kk μ ++ cX u kk σ) List.perm_append_comm ?_
  refine j_V (ce := 133) (sl := 9011) (As := [.int (xs (i + 1))]) (rest := []) C (cM u2 kk μ) (c_imageO u kk σ (xs (i + 1)) hw) kyX10_image tb_841 tb_842 tb_843 34 (ci := 10) rfl rfl rfl (Nat.le_of_ble_eq_true rfl) ⟨by decide, by decide⟩ ⟨by decide, by decide⟩ dL_law_1238 rfl (fun vr ua hp => ?_)
  obtain ⟨r1, rfl, h1⟩ := hp
  refine j_permL (cX u kk ua ++ cM u2 kk μ) List.perm_append_comm ?_
  refine j_pop C rfl dL_law_1241 ?_
  refine j_aload_n C 1 rfl dL_law_1242 ?_
  refine j_aload_n C 3 rfl dL_law_1243 ?_
  refine j_iload_n C 0 rfl dL_law_1244 ?_
  refine j_iconst C (nI 1) (by decide) dL_law_1245 ?_
  refine j_iaddN C dL_law_1246 ?_
  refine j_sld C hX (i + 1) rfl (by omega) (by omega) dL_law_1247 ?_
  refine j_V (ce := 133) (sl := 9011) (As := [.int (xs (i + 1))]) (rest := []) C (cX u kk ua) (m_image u2 kk μ (xs (i + 1))) kyX11_image tb_1318 tb_1319 tb_1320 99 (ci := 11) rfl rfl rfl (Nat.le_of_ble_eq_true rfl) ⟨by decide, by decide⟩ ⟨by decide, by decide⟩ dL_law_1248 rfl (fun vr ub hp => ?_)
  obtain ⟨r2, rfl, h2⟩ := hp
  refine j_pop C rfl dL_law_1251 ?_
  refine j_goto C 1301 (by decide) dL_law_1252 ?_
  have hR : R0 ua ub ∧ r1 = r2 := by
    obtain ⟨-, ar, au⟩ := h1
    rcases h2 with ⟨n9, b0, -⟩ | ⟨b0, br, bu⟩
    · exact absurd (b0.symm.trans hw) (by decide)
    · rw [au, bu, ar, br]
      exact ⟨h0, rfl⟩
  exact Kend _ _ hR.1
set_option maxRecDepth 100000 in
set_option maxHeartbeats 4000000 in
theorem lw_c_imagen0 {X : jC} {kk : Nat → Nat} (C : jF X code R_law room_1 kk 4) {b L : Nat} {xs : Nat → Int32} (hX : jX X b L xs) {u u2 : Nat → Nat} {i : Nat} (hi : i + 8 ≤ L) (hL : L ≤ 4096) {σ μ : St} (h0 : R0 σ μ) (Kend : ∀ σ μ : St, R0 σ μ → J X 133 9011 (cX u kk σ ++ cM u2 kk μ) [(3, .int (nI i)), (2, .ref (u2 0)), (1, .ref (u 0)), (0, .ref b)] 1301 []) (hw : xs (i + 1) = nI 0) : J X 133 9011 (cX u kk σ ++ cM u2 kk μ) [(3, .int (nI i)), (2, .ref (u2 0)), (1, .ref (u 0)), (0, .ref b)] 1232 [] := by
  obtain ⟨k, n, r, hB, hE⟩ := id h0
  obtain ⟨hk6, hk, hkm⟩ := hB.k
  obtain ⟨hn20, hn, hnm⟩ := hB.n
  obtain ⟨hr6, hr, hrm⟩ := hB.r
  obtain ⟨hS, hP, hO, hSm, hM, hG, hSC⟩ := id hE
  have hHX := HX_of hB
  have hHM := HM_of hB
  have hHQ := HQ_of hB
  have hHN := HN_of hB
  have hI := hB.iX
  have hIm := hB.iM
  obtain ⟨p, hp40, hp, hp9, hsg⟩ := id hG
  refine j_aload_n C 2 rfl dL_law_1232 ?_
  refine j_aload_n C 3 rfl dL_law_1233 ?_
  refine j_iload_n C 0 rfl dL_law_1234 ?_
  refine j_iconst C (nI 1) (by decide) dL_law_1235 ?_
  refine j_iaddN C dL_law_1236 ?_
  refine j_sld C hX (i + 1) rfl (by omega) (by omega) dL_law_1237 ?_
  rw [hw]
  refine j_permL (cM u2 kk μ ++ cX u kk σ) List.perm_append_comm ?_
  refine j_V (ce := 133) (sl := 9011) (As := [.int (nI 0)]) (rest := []) C (cM u2 kk μ) (c_image0 u kk σ) kyX10_image tb_841 tb_842 tb_843 34 (ci := 10) rfl rfl rfl (Nat.le_of_ble_eq_true rfl) ⟨by decide, by decide⟩ ⟨by decide, by decide⟩ dL_law_1238 rfl (fun vr ua hp => ?_)
  obtain ⟨r1, rfl, h1⟩ := hp
  refine j_permL (cX u kk ua ++ cM u2 kk μ) List.perm_append_comm ?_
  refine j_pop C rfl dL_law_1241 ?_
  refine j_aload_n C 1 rfl dL_law_1242 ?_
  refine j_aload_n C 3 rfl dL_law_1243 ?_
  refine j_iload_n C 0 rfl dL_law_1244 ?_
  refine j_iconst C (nI 1) (by decide) dL_law_1245 ?_
  refine j_iaddN C dL_law_1246 ?_
  refine j_sld C hX (i + 1) rfl (by omega) (by omega) dL_law_1247 ?_
  rw [hw]
  refine j_V (ce := 133) (sl := 9011) (As := [.int (nI 0)]) (rest := []) C (cX u kk ua) (m_image u2 kk μ (nI 0)) kyX11_image tb_1318 tb_1319 tb_1320 99 (ci := 11) rfl rfl rfl (Nat.le_of_ble_eq_true rfl) ⟨by decide, by decide⟩ ⟨by decide, by decide⟩ dL_law_1248 rfl (fun vr ub hp => ?_)
  obtain ⟨r2, rfl, h2⟩ := hp
  refine j_pop C rfl dL_law_1251 ?_
  refine j_goto C 1301 (by decide) dL_law_1252 ?_
  have hR : R0 ua ub ∧ r1 = r2 := by
    obtain ⟨-, ar, au⟩ := h1
    rcases h2 with ⟨n9, b0, b1, b2, b3, br, bu⟩ | ⟨b0, -⟩
    · have e : n9 = 0 := nI_inj (by omega) (by decide) b3 rfl
      subst e
      rw [au, bu, ar, br]
      exact ⟨⟨_, _, _, ok_image0 hB, hE⟩, rfl⟩
    · exact absurd b0 (by decide)
  exact Kend _ _ hR.1
set_option maxRecDepth 100000 in
set_option maxHeartbeats 4000000 in
theorem lw_c_imagen1 {X : jC} {kk : Nat → Nat} (C : jF X code R_law room_1 kk 4) {b L : Nat} {xs : Nat → Int32} (hX : jX X b L xs) {u u2 : Nat → Nat} {i : Nat} (hi : i + 8 ≤ L) (hL : L ≤ 4096) {σ μ : St} (h0 : R0 σ μ) (Kend : ∀ σ μ : St, R0 σ μ → J X 133 9011 (cX u kk σ ++ cM u2 kk μ) [(3, .int (nI i)), (2, .ref (u2 0)), (1, .ref (u 0)), (0, .ref b)] 1301 []) (hw : xs (i + 1) = nI 1) : J X 133 9011 (cX u kk σ ++ cM u2 kk μ) [(3, .int (nI i)), (2, .ref (u2 0)), (1, .ref (u 0)), (0, .ref b)] 1232 [] := by
  obtain ⟨k, n, r, hB, hE⟩ := id h0
  obtain ⟨hk6, hk, hkm⟩ := hB.k
  obtain ⟨hn20, hn, hnm⟩ := hB.n
  obtain ⟨hr6, hr, hrm⟩ := hB.r
  obtain ⟨hS, hP, hO, hSm, hM, hG, hSC⟩ := id hE
  have hHX := HX_of hB
  have hHM := HM_of hB
  have hHQ := HQ_of hB
  have hHN := HN_of hB
  have hI := hB.iX
  have hIm := hB.iM
  obtain ⟨p, hp40, hp, hp9, hsg⟩ := id hG
  refine j_aload_n C 2 rfl dL_law_1232 ?_
  refine j_aload_n C 3 rfl dL_law_1233 ?_
  refine j_iload_n C 0 rfl dL_law_1234 ?_
  refine j_iconst C (nI 1) (by decide) dL_law_1235 ?_
  refine j_iaddN C dL_law_1236 ?_
  refine j_sld C hX (i + 1) rfl (by omega) (by omega) dL_law_1237 ?_
  rw [hw]
  refine j_permL (cM u2 kk μ ++ cX u kk σ) List.perm_append_comm ?_
  refine j_V (ce := 133) (sl := 9011) (As := [.int (nI 1)]) (rest := []) C (cM u2 kk μ) (c_image1 u kk σ) kyX10_image tb_841 tb_842 tb_843 34 (ci := 10) rfl rfl rfl (Nat.le_of_ble_eq_true rfl) ⟨by decide, by decide⟩ ⟨by decide, by decide⟩ dL_law_1238 rfl (fun vr ua hp => ?_)
  obtain ⟨r1, rfl, h1⟩ := hp
  refine j_permL (cX u kk ua ++ cM u2 kk μ) List.perm_append_comm ?_
  refine j_pop C rfl dL_law_1241 ?_
  refine j_aload_n C 1 rfl dL_law_1242 ?_
  refine j_aload_n C 3 rfl dL_law_1243 ?_
  refine j_iload_n C 0 rfl dL_law_1244 ?_
  refine j_iconst C (nI 1) (by decide) dL_law_1245 ?_
  refine j_iaddN C dL_law_1246 ?_
  refine j_sld C hX (i + 1) rfl (by omega) (by omega) dL_law_1247 ?_
  rw [hw]
  refine j_V (ce := 133) (sl := 9011) (As := [.int (nI 1)]) (rest := []) C (cX u kk ua) (m_image u2 kk μ (nI 1)) kyX11_image tb_1318 tb_1319 tb_1320 99 (ci := 11) rfl rfl rfl (Nat.le_of_ble_eq_true rfl) ⟨by decide, by decide⟩ ⟨by decide, by decide⟩ dL_law_1248 rfl (fun vr ub hp => ?_)
  obtain ⟨r2, rfl, h2⟩ := hp
  refine j_pop C rfl dL_law_1251 ?_
  refine j_goto C 1301 (by decide) dL_law_1252 ?_
  have hR : R0 ua ub ∧ r1 = r2 := by
    obtain ⟨-, ar, au⟩ := h1
    rcases h2 with ⟨n9, b0, b1, b2, b3, br, bu⟩ | ⟨b0, -⟩
    · have e : n9 = 1 := nI_inj (by omega) (by decide) b3 rfl
      subst e
      rw [au, bu, ar, br]
      exact ⟨⟨_, _, _, ok_image1 hB, hE⟩, rfl⟩
    · exact absurd b0 (by decide)
  exact Kend _ _ hR.1
theorem lw_c_image {X : jC} {kk : Nat → Nat} (C : jF X code R_law room_1 kk 4) {b L : Nat} {xs : Nat → Int32} (hX : jX X b L xs) {u u2 : Nat → Nat} {i : Nat} (hi : i + 8 ≤ L) (hL : L ≤ 4096) {σ μ : St} (h0 : R0 σ μ) (Kend : ∀ σ μ : St, R0 σ μ → J X 133 9011 (cX u kk σ ++ cM u2 kk μ) [(3, .int (nI i)), (2, .ref (u2 0)), (1, .ref (u 0)), (0, .ref b)] 1301 []) : J X 133 9011 (cX u kk σ ++ cM u2 kk μ) [(3, .int (nI i)), (2, .ref (u2 0)), (1, .ref (u 0)), (0, .ref b)] 1232 [] := by
  cases e : wB (xs (i + 1)) (nI 0) (nI 1) with
  | false => exact lw_c_imageO C hX hi hL h0 Kend e
  | true =>
    obtain ⟨n, -, h2, h3⟩ := wB_nat (by decide) (by decide) e
    rcases (show n = 0 ∨ n = 1 by omega) with rfl | rfl
    · exact lw_c_imagen0 C hX hi hL h0 Kend h3
    · exact lw_c_imagen1 C hX hi hL h0 Kend h3
set_option maxRecDepth 100000 in
set_option maxHeartbeats 4000000 in
theorem lw_c_restoreO {X : jC} {kk : Nat → Nat} (C : jF X code R_law room_1 kk 4) {b L : Nat} {xs : Nat → Int32} (hX : jX X b L xs) {u u2 : Nat → Nat} {i : Nat} (hi : i + 8 ≤ L) (hL : L ≤ 4096) {σ μ : St} (h0 : R0 σ μ) (Kend : ∀ σ μ : St, R0 σ μ → J X 133 9011 (cX u kk σ ++ cM u2 kk μ) [(3, .int (nI i)), (2, .ref (u2 0)), (1, .ref (u 0)), (0, .ref b)] 1301 []) (hw : wB (xs (i + 1)) (nI 0) (nI 1) = false) : J X 133 9011 (cX u kk σ ++ cM u2 kk μ) [(3, .int (nI i)), (2, .ref (u2 0)), (1, .ref (u 0)), (0, .ref b)] 1255 [] := by
  obtain ⟨k, n, r, hB, hE⟩ := id h0
  obtain ⟨hk6, hk, hkm⟩ := hB.k
  obtain ⟨hn20, hn, hnm⟩ := hB.n
  obtain ⟨hr6, hr, hrm⟩ := hB.r
  obtain ⟨hS, hP, hO, hSm, hM, hG, hSC⟩ := id hE
  have hHX := HX_of hB
  have hHM := HM_of hB
  have hHQ := HQ_of hB
  have hHN := HN_of hB
  have hI := hB.iX
  have hIm := hB.iM
  obtain ⟨p, hp40, hp, hp9, hsg⟩ := id hG
  refine j_aload_n C 2 rfl dL_law_1255 ?_
  refine j_aload_n C 3 rfl dL_law_1256 ?_
  refine j_iload_n C 0 rfl dL_law_1257 ?_
  refine j_iconst C (nI 1) (by decide) dL_law_1258 ?_
  refine j_iaddN C dL_law_1259 ?_
  refine j_sld C hX (i + 1) rfl (by omega) (by omega) dL_law_1260 ?_
  refine j_permL (cM u2 kk μ ++ cX u kk σ) List.perm_append_comm ?_
  refine j_V (ce := 133) (sl := 9011) (As := [.int (xs (i + 1))]) (rest := []) C (cM u2 kk μ) (c_restoreO u kk σ (xs (i + 1)) hw) kyX10_restore tb_859 tb_860 tb_861 34 (ci := 10) rfl rfl rfl (Nat.le_of_ble_eq_true rfl) ⟨by decide, by decide⟩ ⟨by decide, by decide⟩ dL_law_1261 rfl (fun vr ua hp => ?_)
  obtain ⟨r1, rfl, h1⟩ := hp
  refine j_permL (cX u kk ua ++ cM u2 kk μ) List.perm_append_comm ?_
  refine j_pop C rfl dL_law_1264 ?_
  refine j_aload_n C 1 rfl dL_law_1265 ?_
  refine j_aload_n C 3 rfl dL_law_1266 ?_
  refine j_iload_n C 0 rfl dL_law_1267 ?_
  refine j_iconst C (nI 1) (by decide) dL_law_1268 ?_
  refine j_iaddN C dL_law_1269 ?_
  refine j_sld C hX (i + 1) rfl (by omega) (by omega) dL_law_1270 ?_
  refine j_V (ce := 133) (sl := 9011) (As := [.int (xs (i + 1))]) (rest := []) C (cX u kk ua) (m_restore u2 kk μ (xs (i + 1))) kyX11_restore tb_1330 tb_1331 tb_1332 99 (ci := 11) rfl rfl rfl (Nat.le_of_ble_eq_true rfl) ⟨by decide, by decide⟩ ⟨by decide, by decide⟩ dL_law_1271 rfl (fun vr ub hp => ?_)
  obtain ⟨r2, rfl, h2⟩ := hp
  refine j_pop C rfl dL_law_1274 ?_
  refine j_goto C 1301 (by decide) dL_law_1275 ?_
  have hR : R0 ua ub ∧ r1 = r2 := by
    obtain ⟨-, ar, au⟩ := h1
    rcases h2 with ⟨n9, b0, -⟩ | ⟨n9, b0, -⟩ | ⟨b0, br, bu⟩
    · exact absurd (b0.symm.trans hw) (by decide)
    · exact absurd (b0.symm.trans hw) (by decide)
    · rw [au, bu, ar, br]
      exact ⟨h0, rfl⟩
  exact Kend _ _ hR.1
set_option maxRecDepth 100000 in
set_option maxHeartbeats 4000000 in
theorem lw_c_restoren0 {X : jC} {kk : Nat → Nat} (C : jF X code R_law room_1 kk 4) {b L : Nat} {xs : Nat → Int32} (hX : jX X b L xs) {u u2 : Nat → Nat} {i : Nat} (hi : i + 8 ≤ L) (hL : L ≤ 4096) {σ μ : St} (h0 : R0 σ μ) (Kend : ∀ σ μ : St, R0 σ μ → J X 133 9011 (cX u kk σ ++ cM u2 kk μ) [(3, .int (nI i)), (2, .ref (u2 0)), (1, .ref (u 0)), (0, .ref b)] 1301 []) (hw : xs (i + 1) = nI 0) : J X 133 9011 (cX u kk σ ++ cM u2 kk μ) [(3, .int (nI i)), (2, .ref (u2 0)), (1, .ref (u 0)), (0, .ref b)] 1255 [] := by
  obtain ⟨k, n, r, hB, hE⟩ := id h0
  obtain ⟨hk6, hk, hkm⟩ := hB.k
  obtain ⟨hn20, hn, hnm⟩ := hB.n
  obtain ⟨hr6, hr, hrm⟩ := hB.r
  obtain ⟨hS, hP, hO, hSm, hM, hG, hSC⟩ := id hE
  have hHX := HX_of hB
  have hHM := HM_of hB
  have hHQ := HQ_of hB
  have hHN := HN_of hB
  have hI := hB.iX
  have hIm := hB.iM
  obtain ⟨p, hp40, hp, hp9, hsg⟩ := id hG
  refine j_aload_n C 2 rfl dL_law_1255 ?_
  refine j_aload_n C 3 rfl dL_law_1256 ?_
  refine j_iload_n C 0 rfl dL_law_1257 ?_
  refine j_iconst C (nI 1) (by decide) dL_law_1258 ?_
  refine j_iaddN C dL_law_1259 ?_
  refine j_sld C hX (i + 1) rfl (by omega) (by omega) dL_law_1260 ?_
  rw [hw]
  refine j_permL (cM u2 kk μ ++ cX u kk σ) List.perm_append_comm ?_
  refine j_V (ce := 133) (sl := 9011) (As := [.int (nI 0)]) (rest := []) C (cM u2 kk μ) (c_restore0 u kk σ) kyX10_restore tb_859 tb_860 tb_861 34 (ci := 10) rfl rfl rfl (Nat.le_of_ble_eq_true rfl) ⟨by decide, by decide⟩ ⟨by decide, by decide⟩ dL_law_1261 rfl (fun vr ua hp => ?_)
  obtain ⟨r1, rfl, h1⟩ := hp
  refine j_permL (cX u kk ua ++ cM u2 kk μ) List.perm_append_comm ?_
  refine j_pop C rfl dL_law_1264 ?_
  refine j_aload_n C 1 rfl dL_law_1265 ?_
  refine j_aload_n C 3 rfl dL_law_1266 ?_
  refine j_iload_n C 0 rfl dL_law_1267 ?_
  refine j_iconst C (nI 1) (by decide) dL_law_1268 ?_
  refine j_iaddN C dL_law_1269 ?_
  refine j_sld C hX (i + 1) rfl (by omega) (by omega) dL_law_1270 ?_
  rw [hw]
  refine j_V (ce := 133) (sl := 9011) (As := [.int (nI 0)]) (rest := []) C (cX u kk ua) (m_restore u2 kk μ (nI 0)) kyX11_restore tb_1330 tb_1331 tb_1332 99 (ci := 11) rfl rfl rfl (Nat.le_of_ble_eq_true rfl) ⟨by decide, by decide⟩ ⟨by decide, by decide⟩ dL_law_1271 rfl (fun vr ub hp => ?_)
  obtain ⟨r2, rfl, h2⟩ := hp
  refine j_pop C rfl dL_law_1274 ?_
  refine j_goto C 1301 (by decide) dL_law_1275 ?_
  have hR : R0 ua ub ∧ r1 = r2 := by
    rcases h1 with ⟨-, a1, ar, au⟩ | ⟨-, a1, ar, au⟩
    · rcases h2 with ⟨n9, b0, b1, b2, b3, b4, br, bu⟩ | ⟨n9, b0, b1, b2, b3, b4, br, bu⟩ | ⟨b0, -⟩
      · have e : n9 = 0 := nI_inj (by omega) (by decide) b3 rfl
        subst e
        rw [au, bu, ar, br]
        obtain ⟨k2, n2, r2, hq⟩ := ok_restore0 hB b4
        exact ⟨⟨k2, n2, r2, hq, ⟨hE.1, hE.2.1, hE.2.2.1, hE.2.2.2.1, hE.2.2.2.2.1, hE.2.2.2.2.2.1, fun _ _ _ q => absurd (show nI 1 = 0 from q) (by decide)⟩⟩, rfl⟩
      · have e : n9 = 0 := nI_inj (by omega) (by decide) b3 rfl
        subst e
        exact absurd (hB.2.1.1.1.trans b4) a1
      · exact absurd b0 (by decide)
    · rcases h2 with ⟨n9, b0, b1, b2, b3, b4, br, bu⟩ | ⟨n9, b0, b1, b2, b3, b4, br, bu⟩ | ⟨b0, -⟩
      · have e : n9 = 0 := nI_inj (by omega) (by decide) b3 rfl
        subst e
        exact absurd (hB.2.1.1.1.symm.trans a1) b4
      · rw [au, bu, ar, br]
        exact ⟨h0, rfl⟩
      · exact absurd b0 (by decide)
  exact Kend _ _ hR.1
set_option maxRecDepth 100000 in
set_option maxHeartbeats 4000000 in
theorem lw_c_restoren1 {X : jC} {kk : Nat → Nat} (C : jF X code R_law room_1 kk 4) {b L : Nat} {xs : Nat → Int32} (hX : jX X b L xs) {u u2 : Nat → Nat} {i : Nat} (hi : i + 8 ≤ L) (hL : L ≤ 4096) {σ μ : St} (h0 : R0 σ μ) (Kend : ∀ σ μ : St, R0 σ μ → J X 133 9011 (cX u kk σ ++ cM u2 kk μ) [(3, .int (nI i)), (2, .ref (u2 0)), (1, .ref (u 0)), (0, .ref b)] 1301 []) (hw : xs (i + 1) = nI 1) : J X 133 9011 (cX u kk σ ++ cM u2 kk μ) [(3, .int (nI i)), (2, .ref (u2 0)), (1, .ref (u 0)), (0, .ref b)] 1255 [] := by
  obtain ⟨k, n, r, hB, hE⟩ := id h0
  obtain ⟨hk6, hk, hkm⟩ := hB.k
  obtain ⟨hn20, hn, hnm⟩ := hB.n
  obtain ⟨hr6, hr, hrm⟩ := hB.r
  obtain ⟨hS, hP, hO, hSm, hM, hG, hSC⟩ := id hE
  have hHX := HX_of hB
  have hHM := HM_of hB
  have hHQ := HQ_of hB
  have hHN := HN_of hB
  have hI := hB.iX
  have hIm := hB.iM
  obtain ⟨p, hp40, hp, hp9, hsg⟩ := id hG
  refine j_aload_n C 2 rfl dL_law_1255 ?_
  refine j_aload_n C 3 rfl dL_law_1256 ?_
  refine j_iload_n C 0 rfl dL_law_1257 ?_
  refine j_iconst C (nI 1) (by decide) dL_law_1258 ?_
  refine j_iaddN C dL_law_1259 ?_
  refine j_sld C hX (i + 1) rfl (by omega) (by omega) dL_law_1260 ?_
  rw [hw]
  refine j_permL (cM u2 kk μ ++ cX u kk σ) List.perm_append_comm ?_
  refine j_V (ce := 133) (sl := 9011) (As := [.int (nI 1)]) (rest := []) C (cM u2 kk μ) (c_restore1 u kk σ) kyX10_restore tb_859 tb_860 tb_861 34 (ci := 10) rfl rfl rfl (Nat.le_of_ble_eq_true rfl) ⟨by decide, by decide⟩ ⟨by decide, by decide⟩ dL_law_1261 rfl (fun vr ua hp => ?_)
  obtain ⟨r1, rfl, h1⟩ := hp
  refine j_permL (cX u kk ua ++ cM u2 kk μ) List.perm_append_comm ?_
  refine j_pop C rfl dL_law_1264 ?_
  refine j_aload_n C 1 rfl dL_law_1265 ?_
  refine j_aload_n C 3 rfl dL_law_1266 ?_
  refine j_iload_n C 0 rfl dL_law_1267 ?_
  refine j_iconst C (nI 1) (by decide) dL_law_1268 ?_
  refine j_iaddN C dL_law_1269 ?_
  refine j_sld C hX (i + 1) rfl (by omega) (by omega) dL_law_1270 ?_
  rw [hw]
  refine j_V (ce := 133) (sl := 9011) (As := [.int (nI 1)]) (rest := []) C (cX u kk ua) (m_restore u2 kk μ (nI 1)) kyX11_restore tb_1330 tb_1331 tb_1332 99 (ci := 11) rfl rfl rfl (Nat.le_of_ble_eq_true rfl) ⟨by decide, by decide⟩ ⟨by decide, by decide⟩ dL_law_1271 rfl (fun vr ub hp => ?_)
  obtain ⟨r2, rfl, h2⟩ := hp
  refine j_pop C rfl dL_law_1274 ?_
  refine j_goto C 1301 (by decide) dL_law_1275 ?_
  have hR : R0 ua ub ∧ r1 = r2 := by
    rcases h1 with ⟨-, a1, ar, au⟩ | ⟨-, a1, ar, au⟩
    · rcases h2 with ⟨n9, b0, b1, b2, b3, b4, br, bu⟩ | ⟨n9, b0, b1, b2, b3, b4, br, bu⟩ | ⟨b0, -⟩
      · have e : n9 = 1 := nI_inj (by omega) (by decide) b3 rfl
        subst e
        rw [au, bu, ar, br]
        obtain ⟨k2, n2, r2, hq⟩ := ok_restore1 hB b4
        exact ⟨⟨k2, n2, r2, hq, ⟨hE.1, hE.2.1, hE.2.2.1, hE.2.2.2.1, hE.2.2.2.2.1, hE.2.2.2.2.2.1, fun _ _ _ q => absurd (show nI 1 = 0 from q) (by decide)⟩⟩, rfl⟩
      · have e : n9 = 1 := nI_inj (by omega) (by decide) b3 rfl
        subst e
        exact absurd (hB.2.1.1.2.trans b4) a1
      · exact absurd b0 (by decide)
    · rcases h2 with ⟨n9, b0, b1, b2, b3, b4, br, bu⟩ | ⟨n9, b0, b1, b2, b3, b4, br, bu⟩ | ⟨b0, -⟩
      · have e : n9 = 1 := nI_inj (by omega) (by decide) b3 rfl
        subst e
        exact absurd (hB.2.1.1.2.symm.trans a1) b4
      · rw [au, bu, ar, br]
        exact ⟨h0, rfl⟩
      · exact absurd b0 (by decide)
  exact Kend _ _ hR.1
theorem lw_c_restore {X : jC} {kk : Nat → Nat} (C : jF X code R_law room_1 kk 4) {b L : Nat} {xs : Nat → Int32} (hX : jX X b L xs) {u u2 : Nat → Nat} {i : Nat} (hi : i + 8 ≤ L) (hL : L ≤ 4096) {σ μ : St} (h0 : R0 σ μ) (Kend : ∀ σ μ : St, R0 σ μ → J X 133 9011 (cX u kk σ ++ cM u2 kk μ) [(3, .int (nI i)), (2, .ref (u2 0)), (1, .ref (u 0)), (0, .ref b)] 1301 []) : J X 133 9011 (cX u kk σ ++ cM u2 kk μ) [(3, .int (nI i)), (2, .ref (u2 0)), (1, .ref (u 0)), (0, .ref b)] 1255 [] := by
  cases e : wB (xs (i + 1)) (nI 0) (nI 1) with
  | false => exact lw_c_restoreO C hX hi hL h0 Kend e
  | true =>
    obtain ⟨n, -, h2, h3⟩ := wB_nat (by decide) (by decide) e
    rcases (show n = 0 ∨ n = 1 by omega) with rfl | rfl
    · exact lw_c_restoren0 C hX hi hL h0 Kend h3
    · exact lw_c_restoren1 C hX hi hL h0 Kend h3
set_option maxRecDepth 100000 in
set_option maxHeartbeats 4000000 in
theorem lw_c_told {X : jC} {kk : Nat → Nat} (C : jF X code R_law room_1 kk 4) {b L : Nat} {xs : Nat → Int32} (hX : jX X b L xs) {u u2 : Nat → Nat} {i : Nat} (hi : i + 8 ≤ L) (hL : L ≤ 4096) {σ μ : St} (h0 : R0 σ μ) (Kend : ∀ σ μ : St, R0 σ μ → J X 133 9011 (cX u kk σ ++ cM u2 kk μ) [(3, .int (nI i)), (2, .ref (u2 0)), (1, .ref (u 0)), (0, .ref b)] 1301 [])  : J X 133 9011 (cX u kk σ ++ cM u2 kk μ) [(3, .int (nI i)), (2, .ref (u2 0)), (1, .ref (u 0)), (0, .ref b)] 1278 [] := by
  obtain ⟨k, n, r, hB, hE⟩ := id h0
  obtain ⟨hk6, hk, hkm⟩ := hB.k
  obtain ⟨hn20, hn, hnm⟩ := hB.n
  obtain ⟨hr6, hr, hrm⟩ := hB.r
  obtain ⟨hS, hP, hO, hSm, hM, hG, hSC⟩ := id hE
  have hHX := HX_of hB
  have hHM := HM_of hB
  have hHQ := HQ_of hB
  have hHN := HN_of hB
  have hI := hB.iX
  have hIm := hB.iM
  obtain ⟨p, hp40, hp, hp9, hsg⟩ := id hG
  refine j_aload_n C 2 rfl dL_law_1278 ?_
  refine j_aload_n C 3 rfl dL_law_1279 ?_
  refine j_iload_n C 0 rfl dL_law_1280 ?_
  refine j_iconst C (nI 1) (by decide) dL_law_1281 ?_
  refine j_iaddN C dL_law_1282 ?_
  refine j_sld C hX (i + 1) rfl (by omega) (by omega) dL_law_1283 ?_
  refine j_permL (cM u2 kk μ ++ cX u kk σ) List.perm_append_comm ?_
  refine j_V (ce := 133) (sl := 9011) (As := [.int (xs (i + 1))]) (rest := []) C (cM u2 kk μ) (c_told u kk σ (xs (i + 1))) kyX10_told tb_863 tb_864 tb_865 34 (ci := 10) rfl rfl rfl (Nat.le_of_ble_eq_true rfl) ⟨by decide, by decide⟩ ⟨by decide, by decide⟩ dL_law_1284 rfl (fun vr ua hp => ?_)
  obtain ⟨r1, rfl, h1⟩ := hp
  refine j_permL (cX u kk ua ++ cM u2 kk μ) List.perm_append_comm ?_
  refine j_pop C rfl dL_law_1287 ?_
  refine j_aload_n C 1 rfl dL_law_1288 ?_
  refine j_aload_n C 3 rfl dL_law_1289 ?_
  refine j_iload_n C 0 rfl dL_law_1290 ?_
  refine j_iconst C (nI 1) (by decide) dL_law_1291 ?_
  refine j_iaddN C dL_law_1292 ?_
  refine j_sld C hX (i + 1) rfl (by omega) (by omega) dL_law_1293 ?_
  refine j_V (ce := 133) (sl := 9011) (As := [.int (xs (i + 1))]) (rest := []) C (cX u kk ua) (m_told u2 kk μ (xs (i + 1))) kyX11_told tb_1334 tb_1335 tb_1336 99 (ci := 11) rfl rfl rfl (Nat.le_of_ble_eq_true rfl) ⟨by decide, by decide⟩ ⟨by decide, by decide⟩ dL_law_1294 rfl (fun vr ub hp => ?_)
  obtain ⟨r2, rfl, h2⟩ := hp
  refine j_pop C rfl dL_law_1297 ?_
  refine j_goto C 1301 (by decide) dL_law_1298 ?_
  have hR : R0 ua ub ∧ r1 = r2 := by
    rcases h1 with ⟨a0, a1, a2, ar, au⟩ | ⟨a0, a1, a2, a3, ar, au⟩ | ⟨a0, a1, a2, a3, a4, ar, au⟩ | ⟨a0, a1, a2, a3, a4, a5, ar, au⟩ | ⟨a0, a1, a2, a3, a4, a5, ar, au⟩ | ⟨n, a0, a1, a2, a3, a4, ar, au⟩ | ⟨n, a0, a1, a2, a3, ar, au⟩
    · rcases h2 with ⟨b0, b1, br, bu⟩ | ⟨b0, b1, b2, br, bu⟩ | ⟨b0, b1, b2, b3, br, bu⟩ | ⟨b0, b1, b2, b3, b4, br, bu⟩ | ⟨b0, b1, b2, b3, b4, b5, br, bu⟩ | ⟨n9, b0, b1, b2, b3, b4, b5, b6, b7, b8, br, bu⟩ | ⟨n9, b0, b1, b2, b3, br, bu⟩
      · rw [au, bu, ar, br]
        exact ⟨h0, hk.trans hkm.symm⟩
      · exact absurd a2 b1
      · exact absurd a2 b1
      · exact absurd a2 b1
      · exact absurd a2 b1
      · exact absurd (a0.symm.trans b5) (by decide)
      · exact absurd (a1.symm.trans b0) (by decide)
    · rcases h2 with ⟨b0, b1, br, bu⟩ | ⟨b0, b1, b2, br, bu⟩ | ⟨b0, b1, b2, b3, br, bu⟩ | ⟨b0, b1, b2, b3, b4, br, bu⟩ | ⟨b0, b1, b2, b3, b4, b5, br, bu⟩ | ⟨n9, b0, b1, b2, b3, b4, b5, b6, b7, b8, br, bu⟩ | ⟨n9, b0, b1, b2, b3, br, bu⟩
      · exact absurd b1 a2
      · rw [au, bu, ar, br]
        exact ⟨h0, hn.trans hnm.symm⟩
      · exact absurd a3 b2
      · exact absurd a3 b2
      · exact absurd a3 b2
      · exact absurd (a0.symm.trans b5) (by decide)
      · exact absurd (a1.symm.trans b0) (by decide)
    · rcases h2 with ⟨b0, b1, br, bu⟩ | ⟨b0, b1, b2, br, bu⟩ | ⟨b0, b1, b2, b3, br, bu⟩ | ⟨b0, b1, b2, b3, b4, br, bu⟩ | ⟨b0, b1, b2, b3, b4, b5, br, bu⟩ | ⟨n9, b0, b1, b2, b3, b4, b5, b6, b7, b8, br, bu⟩ | ⟨n9, b0, b1, b2, b3, br, bu⟩
      · exact absurd b1 a2
      · exact absurd b2 a3
      · rw [au, bu, ar, br]
        exact ⟨h0, hp.trans hp9.symm⟩
      · exact absurd a4 b3
      · exact absurd a4 b3
      · exact absurd (a0.symm.trans b5) (by decide)
      · exact absurd (a1.symm.trans b0) (by decide)
    · rcases h2 with ⟨b0, b1, br, bu⟩ | ⟨b0, b1, b2, br, bu⟩ | ⟨b0, b1, b2, b3, br, bu⟩ | ⟨b0, b1, b2, b3, b4, br, bu⟩ | ⟨b0, b1, b2, b3, b4, b5, br, bu⟩ | ⟨n9, b0, b1, b2, b3, b4, b5, b6, b7, b8, br, bu⟩ | ⟨n9, b0, b1, b2, b3, br, bu⟩
      · exact absurd b1 a2
      · exact absurd b2 a3
      · exact absurd b3 a4
      · rw [au, bu, ar, br]
        exact ⟨h0, hr.trans hrm.symm⟩
      · exact absurd a5 b4
      · exact absurd (a0.symm.trans b5) (by decide)
      · exact absurd (a1.symm.trans b0) (by decide)
    · rcases h2 with ⟨b0, b1, br, bu⟩ | ⟨b0, b1, b2, br, bu⟩ | ⟨b0, b1, b2, b3, br, bu⟩ | ⟨b0, b1, b2, b3, b4, br, bu⟩ | ⟨b0, b1, b2, b3, b4, b5, br, bu⟩ | ⟨n9, b0, b1, b2, b3, b4, b5, b6, b7, b8, br, bu⟩ | ⟨n9, b0, b1, b2, b3, br, bu⟩
      · exact absurd b1 a2
      · exact absurd b2 a3
      · exact absurd b3 a4
      · exact absurd b4 a5
      · rw [au, bu, ar, br]
        exact ⟨h0, rfl⟩
      · exact absurd (a0.symm.trans b5) (by decide)
      · exact absurd (a1.symm.trans b0) (by decide)
    · rcases h2 with ⟨b0, b1, br, bu⟩ | ⟨b0, b1, b2, br, bu⟩ | ⟨b0, b1, b2, b3, br, bu⟩ | ⟨b0, b1, b2, b3, b4, br, bu⟩ | ⟨b0, b1, b2, b3, b4, b5, br, bu⟩ | ⟨n9, b0, b1, b2, b3, b4, b5, b6, b7, b8, br, bu⟩ | ⟨n9, b0, b1, b2, b3, br, bu⟩
      · exact absurd (a1.symm.trans b0) (by decide)
      · exact absurd (a1.symm.trans b0) (by decide)
      · exact absurd (a1.symm.trans b0) (by decide)
      · exact absurd (a1.symm.trans b0) (by decide)
      · exact absurd (a1.symm.trans b0) (by decide)
      · exact absurd (a0.symm.trans b5) (by decide)
      · have e : n9 = n := nI_inj (by omega) (by omega) b3 a4
        subst e
        rw [au, bu, ar, br]
        exact ⟨h0, (hB.1.2.2.2.1 (n9 - 10) (by omega)).1⟩
    · rcases h2 with ⟨b0, b1, br, bu⟩ | ⟨b0, b1, b2, br, bu⟩ | ⟨b0, b1, b2, b3, br, bu⟩ | ⟨b0, b1, b2, b3, b4, br, bu⟩ | ⟨b0, b1, b2, b3, b4, b5, br, bu⟩ | ⟨n9, b0, b1, b2, b3, b4, b5, b6, b7, b8, br, bu⟩ | ⟨n9, b0, b1, b2, b3, br, bu⟩
      · exact absurd (nI_inj (by omega) (by decide) a3 b1) (by omega)
      · exact absurd (nI_inj (by omega) (by decide) a3 b2) (by omega)
      · exact absurd (nI_inj (by omega) (by decide) a3 b3) (by omega)
      · exact absurd (nI_inj (by omega) (by decide) a3 b4) (by omega)
      · exact absurd (a0.symm.trans b5) (by decide)
      · have e : n9 = n := nI_inj (by omega) (by omega) b8 a3
        subst e
        rw [au, bu, ar, br]
        exact ⟨h0, num_eq hB (by omega)⟩
      · exact absurd (nI_inj (by omega) (by omega) a3 b3) (by omega)
  exact Kend _ _ hR.1
