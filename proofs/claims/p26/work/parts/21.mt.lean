set_option maxRecDepth 100000 in
set_option maxHeartbeats 4000000 in
theorem n_week (g kk : Nat → Nat) (σ : St) (k : Nat) (hk : σ.1 3 = nI k) (hk6 : k ≤ 6) (hI : iM σ) (hM : mM (σ.2.1 21) (σ.2.1 22) (σ.2.1 23)) (x : Int32) (y : Int32) (z : Int32) : jM (S := St) yX11_week cX11_week 5 (some .int) { frames := 7, cells := 0, slots := 0, locals := 165 } kk (cM g kk σ) [.ref (g 0), .int x, .int y, .int z] (cM g kk) (rI (fun (r : Int32) (u : St) => ∃ (pF16 : Nat → Int32) (pF17 : Nat → Int32) (pF18 : Nat → Int32) (pF19 : Nat → Int32) (pF20 : Nat → Int32) (pF21 : Nat → Int32) (pF22 : Nat → Int32) (pF23 : Nat → Int32) (pI30 : Int32) (pI31 : Int32) (pI32 : Int32) (pI33 : Int32), u = sI (sI (sI (sI (sF (sF (sF (sF (sF (sF (sF (sF σ 16 pF16) 17 pF17) 18 pF18) 19 pF19) 20 pF20) 21 pF21) 22 pF22) 23 pF23) 30 pI30) 31 pI31) 32 pI32) 33 pI33 ∧ (mM pF21 pF22 pF23))) := by
  refine j_entry [(0, .ref (g 0)), (1, .int x), (2, .int y), (3, .int z)] (by decide) (Nat.le_of_ble_eq_true rfl) rfl ?_
  intro X C E HI
  refine j_aload_n C 0 rfl dX11_week_0 ?_
  refine j_iload_n C 1 rfl dX11_week_1 ?_
  refine j_V1 C (m_isCan g kk σ k hk hk6 x) kyX11_isCan tb_1067 tb_1069 sp_21 0 rfl (eM_0 g kk _) rfl (Nat.le_of_ble_eq_true rfl) ⟨by decide, by decide⟩ dX11_week_2 rfl (fun vr ur hp => ?_)
  obtain ⟨r, rfl, rfl, hu⟩ := hp
  replace hu := hu.symm
  subst hu
  refine j_if_eq C 20 (by decide) dX11_week_5 (fun c1 => ?_) (fun c1 => ?_)
  · replace c1 := bI_f c1
    refine j_iconst C ((-1)) (by decide) dX11_week_20 ?_
    refine j_w (cM g kk (sF σ 16 (σ.2.1 16))) (congrArg (cM g kk) (wrFi (S := σ) (c := 16) (v := σ.2.1 16) rfl)) ?_
    refine j_w (cM g kk (sF (sF σ 16 (σ.2.1 16)) 17 (σ.2.1 17))) (congrArg (cM g kk) (wrFi (S := (sF σ 16 (σ.2.1 16))) (c := 17) (v := σ.2.1 17) (gtFF (by decide) rfl))) ?_
    refine j_w (cM g kk (sF (sF (sF σ 16 (σ.2.1 16)) 17 (σ.2.1 17)) 18 (σ.2.1 18))) (congrArg (cM g kk) (wrFi (S := (sF (sF σ 16 (σ.2.1 16)) 17 (σ.2.1 17))) (c := 18) (v := σ.2.1 18) (gtFF (by decide) (gtFF (by decide) rfl)))) ?_
    refine j_w (cM g kk (sF (sF (sF (sF σ 16 (σ.2.1 16)) 17 (σ.2.1 17)) 18 (σ.2.1 18)) 19 (σ.2.1 19))) (congrArg (cM g kk) (wrFi (S := (sF (sF (sF σ 16 (σ.2.1 16)) 17 (σ.2.1 17)) 18 (σ.2.1 18))) (c := 19) (v := σ.2.1 19) (gtFF (by decide) (gtFF (by decide) (gtFF (by decide) rfl))))) ?_
    refine j_w (cM g kk (sF (sF (sF (sF (sF σ 16 (σ.2.1 16)) 17 (σ.2.1 17)) 18 (σ.2.1 18)) 19 (σ.2.1 19)) 20 (σ.2.1 20))) (congrArg (cM g kk) (wrFi (S := (sF (sF (sF (sF σ 16 (σ.2.1 16)) 17 (σ.2.1 17)) 18 (σ.2.1 18)) 19 (σ.2.1 19))) (c := 20) (v := σ.2.1 20) (gtFF (by decide) (gtFF (by decide) (gtFF (by decide) (gtFF (by decide) rfl)))))) ?_
    refine j_w (cM g kk (sF (sF (sF (sF (sF (sF σ 16 (σ.2.1 16)) 17 (σ.2.1 17)) 18 (σ.2.1 18)) 19 (σ.2.1 19)) 20 (σ.2.1 20)) 21 (σ.2.1 21))) (congrArg (cM g kk) (wrFi (S := (sF (sF (sF (sF (sF σ 16 (σ.2.1 16)) 17 (σ.2.1 17)) 18 (σ.2.1 18)) 19 (σ.2.1 19)) 20 (σ.2.1 20))) (c := 21) (v := σ.2.1 21) (gtFF (by decide) (gtFF (by decide) (gtFF (by decide) (gtFF (by decide) (gtFF (by decide) rfl))))))) ?_
    refine j_w (cM g kk (sF (sF (sF (sF (sF (sF (sF σ 16 (σ.2.1 16)) 17 (σ.2.1 17)) 18 (σ.2.1 18)) 19 (σ.2.1 19)) 20 (σ.2.1 20)) 21 (σ.2.1 21)) 22 (σ.2.1 22))) (congrArg (cM g kk) (wrFi (S := (sF (sF (sF (sF (sF (sF σ 16 (σ.2.1 16)) 17 (σ.2.1 17)) 18 (σ.2.1 18)) 19 (σ.2.1 19)) 20 (σ.2.1 20)) 21 (σ.2.1 21))) (c := 22) (v := σ.2.1 22) (gtFF (by decide) (gtFF (by decide) (gtFF (by decide) (gtFF (by decide) (gtFF (by decide) (gtFF (by decide) rfl)))))))) ?_
    refine j_w (cM g kk (sF (sF (sF (sF (sF (sF (sF (sF σ 16 (σ.2.1 16)) 17 (σ.2.1 17)) 18 (σ.2.1 18)) 19 (σ.2.1 19)) 20 (σ.2.1 20)) 21 (σ.2.1 21)) 22 (σ.2.1 22)) 23 (σ.2.1 23))) (congrArg (cM g kk) (wrFi (S := (sF (sF (sF (sF (sF (sF (sF σ 16 (σ.2.1 16)) 17 (σ.2.1 17)) 18 (σ.2.1 18)) 19 (σ.2.1 19)) 20 (σ.2.1 20)) 21 (σ.2.1 21)) 22 (σ.2.1 22))) (c := 23) (v := σ.2.1 23) (gtFF (by decide) (gtFF (by decide) (gtFF (by decide) (gtFF (by decide) (gtFF (by decide) (gtFF (by decide) (gtFF (by decide) rfl))))))))) ?_
    refine j_w (cM g kk (sI (sF (sF (sF (sF (sF (sF (sF (sF σ 16 (σ.2.1 16)) 17 (σ.2.1 17)) 18 (σ.2.1 18)) 19 (σ.2.1 19)) 20 (σ.2.1 20)) 21 (σ.2.1 21)) 22 (σ.2.1 22)) 23 (σ.2.1 23)) 30 (σ.1 30))) (congrArg (cM g kk) (wrIi (S := (sF (sF (sF (sF (sF (sF (sF (sF σ 16 (σ.2.1 16)) 17 (σ.2.1 17)) 18 (σ.2.1 18)) 19 (σ.2.1 19)) 20 (σ.2.1 20)) 21 (σ.2.1 21)) 22 (σ.2.1 22)) 23 (σ.2.1 23))) (c := 30) (v := σ.1 30) (gtIF (gtIF (gtIF (gtIF (gtIF (gtIF (gtIF (gtIF rfl)))))))))) ?_
    refine j_w (cM g kk (sI (sI (sF (sF (sF (sF (sF (sF (sF (sF σ 16 (σ.2.1 16)) 17 (σ.2.1 17)) 18 (σ.2.1 18)) 19 (σ.2.1 19)) 20 (σ.2.1 20)) 21 (σ.2.1 21)) 22 (σ.2.1 22)) 23 (σ.2.1 23)) 30 (σ.1 30)) 31 (σ.1 31))) (congrArg (cM g kk) (wrIi (S := (sI (sF (sF (sF (sF (sF (sF (sF (sF σ 16 (σ.2.1 16)) 17 (σ.2.1 17)) 18 (σ.2.1 18)) 19 (σ.2.1 19)) 20 (σ.2.1 20)) 21 (σ.2.1 21)) 22 (σ.2.1 22)) 23 (σ.2.1 23)) 30 (σ.1 30))) (c := 31) (v := σ.1 31) (gtII (by decide) (gtIF (gtIF (gtIF (gtIF (gtIF (gtIF (gtIF (gtIF rfl))))))))))) ?_
    refine j_w (cM g kk (sI (sI (sI (sF (sF (sF (sF (sF (sF (sF (sF σ 16 (σ.2.1 16)) 17 (σ.2.1 17)) 18 (σ.2.1 18)) 19 (σ.2.1 19)) 20 (σ.2.1 20)) 21 (σ.2.1 21)) 22 (σ.2.1 22)) 23 (σ.2.1 23)) 30 (σ.1 30)) 31 (σ.1 31)) 32 (σ.1 32))) (congrArg (cM g kk) (wrIi (S := (sI (sI (sF (sF (sF (sF (sF (sF (sF (sF σ 16 (σ.2.1 16)) 17 (σ.2.1 17)) 18 (σ.2.1 18)) 19 (σ.2.1 19)) 20 (σ.2.1 20)) 21 (σ.2.1 21)) 22 (σ.2.1 22)) 23 (σ.2.1 23)) 30 (σ.1 30)) 31 (σ.1 31))) (c := 32) (v := σ.1 32) (gtII (by decide) (gtII (by decide) (gtIF (gtIF (gtIF (gtIF (gtIF (gtIF (gtIF (gtIF rfl)))))))))))) ?_
    refine j_w (cM g kk (sI (sI (sI (sI (sF (sF (sF (sF (sF (sF (sF (sF σ 16 (σ.2.1 16)) 17 (σ.2.1 17)) 18 (σ.2.1 18)) 19 (σ.2.1 19)) 20 (σ.2.1 20)) 21 (σ.2.1 21)) 22 (σ.2.1 22)) 23 (σ.2.1 23)) 30 (σ.1 30)) 31 (σ.1 31)) 32 (σ.1 32)) 33 (σ.1 33))) (congrArg (cM g kk) (wrIi (S := (sI (sI (sI (sF (sF (sF (sF (sF (sF (sF (sF σ 16 (σ.2.1 16)) 17 (σ.2.1 17)) 18 (σ.2.1 18)) 19 (σ.2.1 19)) 20 (σ.2.1 20)) 21 (σ.2.1 21)) 22 (σ.2.1 22)) 23 (σ.2.1 23)) 30 (σ.1 30)) 31 (σ.1 31)) 32 (σ.1 32))) (c := 33) (v := σ.1 33) (gtII (by decide) (gtII (by decide) (gtII (by decide) (gtIF (gtIF (gtIF (gtIF (gtIF (gtIF (gtIF (gtIF rfl))))))))))))) ?_
    exact j_iret C E (sI (sI (sI (sI (sF (sF (sF (sF (sF (sF (sF (sF σ 16 (σ.2.1 16)) 17 (σ.2.1 17)) 18 (σ.2.1 18)) 19 (σ.2.1 19)) 20 (σ.2.1 20)) 21 (σ.2.1 21)) 22 (σ.2.1 22)) 23 (σ.2.1 23)) 30 (σ.1 30)) 31 (σ.1 31)) 32 (σ.1 32)) 33 (σ.1 33)) ⟨_, rfl, ⟨(σ.2.1 16), (σ.2.1 17), (σ.2.1 18), (σ.2.1 19), (σ.2.1 20), (σ.2.1 21), (σ.2.1 22), (σ.2.1 23), (σ.1 30), (σ.1 31), (σ.1 32), (σ.1 33), rfl, hM⟩⟩ rfl dX11_week_21
  · replace c1 := bI_t c1
    obtain ⟨xn, xn1, rfl⟩ := cB_nat (by omega) c1
    refine j_iload_n C 2 rfl dX11_week_8 ?_
    refine j_i2l C dX11_week_9 ?_
    refine j_lconst C 0 (by decide) dX11_week_10 ?_
    refine j_ldc2 C tb_1180 dX11_week_11 ?_
    refine j_S01 C (m_inB y (nI 0) (nI 21) 0 (21) (by decide) (by decide)) kyX11_in tb_1057 tb_1058 rfl (Nat.le_of_ble_eq_true rfl) ⟨by decide, by decide⟩ ⟨by decide, by decide⟩ dX11_week_14 rfl ?_
    refine j_if_ne C 22 (by decide) dX11_week_17 (fun c2 => ?_) (fun c2 => ?_)
    · replace c2 := bI_t c2
      obtain ⟨yn, yn1, yn2, rfl⟩ := wB_nat (by decide) (by decide) c2
      refine j_iload_n C 3 rfl dX11_week_22 ?_
      refine j_i2l C dX11_week_23 ?_
      refine j_lconst C 0 (by decide) dX11_week_24 ?_
      refine j_ldc2 C tb_1169 dX11_week_25 ?_
      refine j_S01 C (m_inB z (nI 0) (nI 3) 0 (3) (by decide) (by decide)) kyX11_in tb_1057 tb_1058 rfl (Nat.le_of_ble_eq_true rfl) ⟨by decide, by decide⟩ ⟨by decide, by decide⟩ dX11_week_28 rfl ?_
      refine j_if_ne C 37 (by decide) dX11_week_31 (fun c3 => ?_) (fun c3 => ?_)
      · replace c3 := bI_t c3
        obtain ⟨zn, zn1, zn2, rfl⟩ := wB_nat (by decide) (by decide) c3
        refine j_aload_n C 0 rfl dX11_week_37 ?_
        refine j_iload_n C 1 rfl dX11_week_38 ?_
        refine j_iload_n C 2 rfl dX11_week_39 ?_
        refine j_V1 C (n_findWeek g kk σ k hk hk6 hI hM xn (by first | assumption | omega) yn (by first | assumption | omega)) kyX11_findWeek tb_1181 tb_1183 sp_32 0 rfl (eM_0 g kk _) rfl (Nat.le_of_ble_eq_true rfl) ⟨by decide, by decide⟩ dX11_week_40 rfl (fun vr ur hp => ?_)
        obtain ⟨rfl, w4, w5, w6, w7, w8, w9, w10, w11, w12, w13, w14, w15, hu, g16, g17⟩ := hp
        replace hu := hu.symm
        subst hu
        refine j_iload_n C 3 rfl dX11_week_43 ?_
        refine j_iconst C (nI 2) (by decide) dX11_week_44 ?_
        refine j_icmp_geN C 64 (by decide) (by omega) (by omega) dX11_week_45 (fun c18 => ?_) (fun c18 => ?_)
        · refine j_iload_n C 3 rfl dX11_week_64 ?_
          refine j_iconst C (nI 2) (by decide) dX11_week_65 ?_
          refine j_icmp_neN C 76 (by decide) (by omega) (by omega) dX11_week_66 (fun c19 => ?_) (fun c19 => ?_)
          · refine j_aload_n C 0 rfl dX11_week_76 ?_
            refine gM_0_33 C tb_906 (w15) rfl dX11_week_77 ?_
            have hz := g17.2
            rcases hz with hz | ⟨b20, hb20, hz⟩
            · refine j_teq hz ?_
              refine j_istore C [(4, .int (-6)), (0, .ref (g 0)), (1, .int (nI xn)), (2, .int (nI yn)), (3, .int (nI zn))] (by decide) rfl dX11_week_80 ?_
              refine j_iload C 0 rfl dX11_week_82 ?_
              refine j_if_ge C 92 (by decide) dX11_week_84 (fun c21 => ?_) (fun c21 => ?_)
              · exact absurd c21 (by decide)
              · refine j_bipush C ((-6)) (by decide) dX11_week_87 ?_
                refine j_goto C 121 (by decide) dX11_week_89 ?_
                exact j_iret C E (sI (sI (sI (sI (sF (sF (sF (sF (sF (sF (sF (sF σ 16 w4) 17 w5) 18 w6) 19 w7) 20 w8) 21 w9) 22 w10) 23 w11) 30 w12) 31 w13) 32 w14) 33 w15) ⟨_, rfl, ⟨w4, w5, w6, w7, w8, w9, w10, w11, w12, w13, w14, w15, rfl, g16⟩⟩ rfl dX11_week_121
            · refine j_teq hz ?_
              refine j_istore C [(4, .int (nI b20)), (0, .ref (g 0)), (1, .int (nI xn)), (2, .int (nI yn)), (3, .int (nI zn))] (by decide) rfl dX11_week_80 ?_
              refine j_iload C 0 rfl dX11_week_82 ?_
              refine j_if_geN C 92 (by decide) (by omega) dX11_week_84 (fun c22 => ?_) (fun c22 => ?_)
              · refine j_bipush C (nI 100) (by decide) dX11_week_92 ?_
                refine j_aload_n C 1 rfl dX11_week_94 ?_
                refine gM_0_27 C tb_900 dX11_week_95 ?_
                refine j_iload C 0 rfl dX11_week_98 ?_
                refine rM_21 C b20 rfl (by omega) (w9 b20) rfl dX11_week_100 ?_
                refine j_imul C dX11_week_101 ?_
                refine j_bipush C (nI 10) (by decide) dX11_week_102 ?_
                refine j_aload_n C 1 rfl dX11_week_104 ?_
                refine gM_0_28 C tb_901 dX11_week_105 ?_
                refine j_iload C 0 rfl dX11_week_108 ?_
                refine rM_22 C b20 rfl (by omega) (w10 b20) rfl dX11_week_110 ?_
                refine j_imul C dX11_week_111 ?_
                refine j_iadd C dX11_week_112 ?_
                refine j_top (fun v23 => ?_)
                refine j_aload_n C 1 rfl dX11_week_113 ?_
                refine gM_0_29 C tb_902 dX11_week_114 ?_
                refine j_iload C 0 rfl dX11_week_117 ?_
                refine rM_23 C b20 rfl (by omega) (w11 b20) rfl dX11_week_119 ?_
                refine j_iadd C dX11_week_120 ?_
                exact j_iret C E (sI (sI (sI (sI (sF (sF (sF (sF (sF (sF (sF (sF σ 16 w4) 17 w5) 18 w6) 19 w7) 20 w8) 21 w9) 22 w10) 23 w11) 30 w12) 31 w13) 32 w14) 33 w15) ⟨_, rfl, ⟨w4, w5, w6, w7, w8, w9, w10, w11, w12, w13, w14, w15, rfl, g16⟩⟩ rfl dX11_week_121
              · refine j_bipush C ((-6)) (by decide) dX11_week_87 ?_
                refine j_goto C 121 (by decide) dX11_week_89 ?_
                exact j_iret C E (sI (sI (sI (sI (sF (sF (sF (sF (sF (sF (sF (sF σ 16 w4) 17 w5) 18 w6) 19 w7) 20 w8) 21 w9) 22 w10) 23 w11) 30 w12) 31 w13) 32 w14) 33 w15) ⟨_, rfl, ⟨w4, w5, w6, w7, w8, w9, w10, w11, w12, w13, w14, w15, rfl, g16⟩⟩ rfl dX11_week_121
          · refine j_aload_n C 0 rfl dX11_week_69 ?_
            refine gM_0_32 C tb_905 (w14) rfl dX11_week_70 ?_
            refine j_goto C 80 (by decide) dX11_week_73 ?_
            have hz := g17.1
            rcases hz with hz | ⟨b24, hb24, hz⟩
            · refine j_teq hz ?_
              refine j_istore C [(4, .int (-6)), (0, .ref (g 0)), (1, .int (nI xn)), (2, .int (nI yn)), (3, .int (nI zn))] (by decide) rfl dX11_week_80 ?_
              refine j_iload C 0 rfl dX11_week_82 ?_
              refine j_if_ge C 92 (by decide) dX11_week_84 (fun c25 => ?_) (fun c25 => ?_)
              · exact absurd c25 (by decide)
              · refine j_bipush C ((-6)) (by decide) dX11_week_87 ?_
                refine j_goto C 121 (by decide) dX11_week_89 ?_
                exact j_iret C E (sI (sI (sI (sI (sF (sF (sF (sF (sF (sF (sF (sF σ 16 w4) 17 w5) 18 w6) 19 w7) 20 w8) 21 w9) 22 w10) 23 w11) 30 w12) 31 w13) 32 w14) 33 w15) ⟨_, rfl, ⟨w4, w5, w6, w7, w8, w9, w10, w11, w12, w13, w14, w15, rfl, g16⟩⟩ rfl dX11_week_121
            · refine j_teq hz ?_
              refine j_istore C [(4, .int (nI b24)), (0, .ref (g 0)), (1, .int (nI xn)), (2, .int (nI yn)), (3, .int (nI zn))] (by decide) rfl dX11_week_80 ?_
              refine j_iload C 0 rfl dX11_week_82 ?_
              refine j_if_geN C 92 (by decide) (by omega) dX11_week_84 (fun c26 => ?_) (fun c26 => ?_)
              · refine j_bipush C (nI 100) (by decide) dX11_week_92 ?_
                refine j_aload_n C 1 rfl dX11_week_94 ?_
                refine gM_0_27 C tb_900 dX11_week_95 ?_
                refine j_iload C 0 rfl dX11_week_98 ?_
                refine rM_21 C b24 rfl (by omega) (w9 b24) rfl dX11_week_100 ?_
                refine j_imul C dX11_week_101 ?_
                refine j_bipush C (nI 10) (by decide) dX11_week_102 ?_
                refine j_aload_n C 1 rfl dX11_week_104 ?_
                refine gM_0_28 C tb_901 dX11_week_105 ?_
                refine j_iload C 0 rfl dX11_week_108 ?_
                refine rM_22 C b24 rfl (by omega) (w10 b24) rfl dX11_week_110 ?_
                refine j_imul C dX11_week_111 ?_
                refine j_iadd C dX11_week_112 ?_
                refine j_top (fun v27 => ?_)
                refine j_aload_n C 1 rfl dX11_week_113 ?_
                refine gM_0_29 C tb_902 dX11_week_114 ?_
                refine j_iload C 0 rfl dX11_week_117 ?_
                refine rM_23 C b24 rfl (by omega) (w11 b24) rfl dX11_week_119 ?_
                refine j_iadd C dX11_week_120 ?_
                exact j_iret C E (sI (sI (sI (sI (sF (sF (sF (sF (sF (sF (sF (sF σ 16 w4) 17 w5) 18 w6) 19 w7) 20 w8) 21 w9) 22 w10) 23 w11) 30 w12) 31 w13) 32 w14) 33 w15) ⟨_, rfl, ⟨w4, w5, w6, w7, w8, w9, w10, w11, w12, w13, w14, w15, rfl, g16⟩⟩ rfl dX11_week_121
              · refine j_bipush C ((-6)) (by decide) dX11_week_87 ?_
                refine j_goto C 121 (by decide) dX11_week_89 ?_
                exact j_iret C E (sI (sI (sI (sI (sF (sF (sF (sF (sF (sF (sF (sF σ 16 w4) 17 w5) 18 w6) 19 w7) 20 w8) 21 w9) 22 w10) 23 w11) 30 w12) 31 w13) 32 w14) 33 w15) ⟨_, rfl, ⟨w4, w5, w6, w7, w8, w9, w10, w11, w12, w13, w14, w15, rfl, g16⟩⟩ rfl dX11_week_121
        · refine j_iload_n C 3 rfl dX11_week_48 ?_
          refine j_if_neN C 59 (by decide) (by omega) dX11_week_49 (fun c28 => ?_) (fun c28 => ?_)
          · refine j_aload_n C 0 rfl dX11_week_59 ?_
            refine gM_0_31 C tb_904 (w13) rfl dX11_week_60 ?_
            exact j_iret C E (sI (sI (sI (sI (sF (sF (sF (sF (sF (sF (sF (sF σ 16 w4) 17 w5) 18 w6) 19 w7) 20 w8) 21 w9) 22 w10) 23 w11) 30 w12) 31 w13) 32 w14) 33 w15) ⟨_, rfl, ⟨w4, w5, w6, w7, w8, w9, w10, w11, w12, w13, w14, w15, rfl, g16⟩⟩ rfl dX11_week_63
          · refine j_aload_n C 0 rfl dX11_week_52 ?_
            refine gM_0_30 C tb_903 (w12) rfl dX11_week_53 ?_
            refine j_goto C 63 (by decide) dX11_week_56 ?_
            exact j_iret C E (sI (sI (sI (sI (sF (sF (sF (sF (sF (sF (sF (sF σ 16 w4) 17 w5) 18 w6) 19 w7) 20 w8) 21 w9) 22 w10) 23 w11) 30 w12) 31 w13) 32 w14) 33 w15) ⟨_, rfl, ⟨w4, w5, w6, w7, w8, w9, w10, w11, w12, w13, w14, w15, rfl, g16⟩⟩ rfl dX11_week_63
      · replace c3 := bI_f c3
        refine j_bipush C ((-2)) (by decide) dX11_week_34 ?_
        refine j_w (cM g kk (sF σ 16 (σ.2.1 16))) (congrArg (cM g kk) (wrFi (S := σ) (c := 16) (v := σ.2.1 16) rfl)) ?_
        refine j_w (cM g kk (sF (sF σ 16 (σ.2.1 16)) 17 (σ.2.1 17))) (congrArg (cM g kk) (wrFi (S := (sF σ 16 (σ.2.1 16))) (c := 17) (v := σ.2.1 17) (gtFF (by decide) rfl))) ?_
        refine j_w (cM g kk (sF (sF (sF σ 16 (σ.2.1 16)) 17 (σ.2.1 17)) 18 (σ.2.1 18))) (congrArg (cM g kk) (wrFi (S := (sF (sF σ 16 (σ.2.1 16)) 17 (σ.2.1 17))) (c := 18) (v := σ.2.1 18) (gtFF (by decide) (gtFF (by decide) rfl)))) ?_
        refine j_w (cM g kk (sF (sF (sF (sF σ 16 (σ.2.1 16)) 17 (σ.2.1 17)) 18 (σ.2.1 18)) 19 (σ.2.1 19))) (congrArg (cM g kk) (wrFi (S := (sF (sF (sF σ 16 (σ.2.1 16)) 17 (σ.2.1 17)) 18 (σ.2.1 18))) (c := 19) (v := σ.2.1 19) (gtFF (by decide) (gtFF (by decide) (gtFF (by decide) rfl))))) ?_
        refine j_w (cM g kk (sF (sF (sF (sF (sF σ 16 (σ.2.1 16)) 17 (σ.2.1 17)) 18 (σ.2.1 18)) 19 (σ.2.1 19)) 20 (σ.2.1 20))) (congrArg (cM g kk) (wrFi (S := (sF (sF (sF (sF σ 16 (σ.2.1 16)) 17 (σ.2.1 17)) 18 (σ.2.1 18)) 19 (σ.2.1 19))) (c := 20) (v := σ.2.1 20) (gtFF (by decide) (gtFF (by decide) (gtFF (by decide) (gtFF (by decide) rfl)))))) ?_
        refine j_w (cM g kk (sF (sF (sF (sF (sF (sF σ 16 (σ.2.1 16)) 17 (σ.2.1 17)) 18 (σ.2.1 18)) 19 (σ.2.1 19)) 20 (σ.2.1 20)) 21 (σ.2.1 21))) (congrArg (cM g kk) (wrFi (S := (sF (sF (sF (sF (sF σ 16 (σ.2.1 16)) 17 (σ.2.1 17)) 18 (σ.2.1 18)) 19 (σ.2.1 19)) 20 (σ.2.1 20))) (c := 21) (v := σ.2.1 21) (gtFF (by decide) (gtFF (by decide) (gtFF (by decide) (gtFF (by decide) (gtFF (by decide) rfl))))))) ?_
        refine j_w (cM g kk (sF (sF (sF (sF (sF (sF (sF σ 16 (σ.2.1 16)) 17 (σ.2.1 17)) 18 (σ.2.1 18)) 19 (σ.2.1 19)) 20 (σ.2.1 20)) 21 (σ.2.1 21)) 22 (σ.2.1 22))) (congrArg (cM g kk) (wrFi (S := (sF (sF (sF (sF (sF (sF σ 16 (σ.2.1 16)) 17 (σ.2.1 17)) 18 (σ.2.1 18)) 19 (σ.2.1 19)) 20 (σ.2.1 20)) 21 (σ.2.1 21))) (c := 22) (v := σ.2.1 22) (gtFF (by decide) (gtFF (by decide) (gtFF (by decide) (gtFF (by decide) (gtFF (by decide) (gtFF (by decide) rfl)))))))) ?_
        refine j_w (cM g kk (sF (sF (sF (sF (sF (sF (sF (sF σ 16 (σ.2.1 16)) 17 (σ.2.1 17)) 18 (σ.2.1 18)) 19 (σ.2.1 19)) 20 (σ.2.1 20)) 21 (σ.2.1 21)) 22 (σ.2.1 22)) 23 (σ.2.1 23))) (congrArg (cM g kk) (wrFi (S := (sF (sF (sF (sF (sF (sF (sF σ 16 (σ.2.1 16)) 17 (σ.2.1 17)) 18 (σ.2.1 18)) 19 (σ.2.1 19)) 20 (σ.2.1 20)) 21 (σ.2.1 21)) 22 (σ.2.1 22))) (c := 23) (v := σ.2.1 23) (gtFF (by decide) (gtFF (by decide) (gtFF (by decide) (gtFF (by decide) (gtFF (by decide) (gtFF (by decide) (gtFF (by decide) rfl))))))))) ?_
        refine j_w (cM g kk (sI (sF (sF (sF (sF (sF (sF (sF (sF σ 16 (σ.2.1 16)) 17 (σ.2.1 17)) 18 (σ.2.1 18)) 19 (σ.2.1 19)) 20 (σ.2.1 20)) 21 (σ.2.1 21)) 22 (σ.2.1 22)) 23 (σ.2.1 23)) 30 (σ.1 30))) (congrArg (cM g kk) (wrIi (S := (sF (sF (sF (sF (sF (sF (sF (sF σ 16 (σ.2.1 16)) 17 (σ.2.1 17)) 18 (σ.2.1 18)) 19 (σ.2.1 19)) 20 (σ.2.1 20)) 21 (σ.2.1 21)) 22 (σ.2.1 22)) 23 (σ.2.1 23))) (c := 30) (v := σ.1 30) (gtIF (gtIF (gtIF (gtIF (gtIF (gtIF (gtIF (gtIF rfl)))))))))) ?_
        refine j_w (cM g kk (sI (sI (sF (sF (sF (sF (sF (sF (sF (sF σ 16 (σ.2.1 16)) 17 (σ.2.1 17)) 18 (σ.2.1 18)) 19 (σ.2.1 19)) 20 (σ.2.1 20)) 21 (σ.2.1 21)) 22 (σ.2.1 22)) 23 (σ.2.1 23)) 30 (σ.1 30)) 31 (σ.1 31))) (congrArg (cM g kk) (wrIi (S := (sI (sF (sF (sF (sF (sF (sF (sF (sF σ 16 (σ.2.1 16)) 17 (σ.2.1 17)) 18 (σ.2.1 18)) 19 (σ.2.1 19)) 20 (σ.2.1 20)) 21 (σ.2.1 21)) 22 (σ.2.1 22)) 23 (σ.2.1 23)) 30 (σ.1 30))) (c := 31) (v := σ.1 31) (gtII (by decide) (gtIF (gtIF (gtIF (gtIF (gtIF (gtIF (gtIF (gtIF rfl))))))))))) ?_
        refine j_w (cM g kk (sI (sI (sI (sF (sF (sF (sF (sF (sF (sF (sF σ 16 (σ.2.1 16)) 17 (σ.2.1 17)) 18 (σ.2.1 18)) 19 (σ.2.1 19)) 20 (σ.2.1 20)) 21 (σ.2.1 21)) 22 (σ.2.1 22)) 23 (σ.2.1 23)) 30 (σ.1 30)) 31 (σ.1 31)) 32 (σ.1 32))) (congrArg (cM g kk) (wrIi (S := (sI (sI (sF (sF (sF (sF (sF (sF (sF (sF σ 16 (σ.2.1 16)) 17 (σ.2.1 17)) 18 (σ.2.1 18)) 19 (σ.2.1 19)) 20 (σ.2.1 20)) 21 (σ.2.1 21)) 22 (σ.2.1 22)) 23 (σ.2.1 23)) 30 (σ.1 30)) 31 (σ.1 31))) (c := 32) (v := σ.1 32) (gtII (by decide) (gtII (by decide) (gtIF (gtIF (gtIF (gtIF (gtIF (gtIF (gtIF (gtIF rfl)))))))))))) ?_
        refine j_w (cM g kk (sI (sI (sI (sI (sF (sF (sF (sF (sF (sF (sF (sF σ 16 (σ.2.1 16)) 17 (σ.2.1 17)) 18 (σ.2.1 18)) 19 (σ.2.1 19)) 20 (σ.2.1 20)) 21 (σ.2.1 21)) 22 (σ.2.1 22)) 23 (σ.2.1 23)) 30 (σ.1 30)) 31 (σ.1 31)) 32 (σ.1 32)) 33 (σ.1 33))) (congrArg (cM g kk) (wrIi (S := (sI (sI (sI (sF (sF (sF (sF (sF (sF (sF (sF σ 16 (σ.2.1 16)) 17 (σ.2.1 17)) 18 (σ.2.1 18)) 19 (σ.2.1 19)) 20 (σ.2.1 20)) 21 (σ.2.1 21)) 22 (σ.2.1 22)) 23 (σ.2.1 23)) 30 (σ.1 30)) 31 (σ.1 31)) 32 (σ.1 32))) (c := 33) (v := σ.1 33) (gtII (by decide) (gtII (by decide) (gtII (by decide) (gtIF (gtIF (gtIF (gtIF (gtIF (gtIF (gtIF (gtIF rfl))))))))))))) ?_
        exact j_iret C E (sI (sI (sI (sI (sF (sF (sF (sF (sF (sF (sF (sF σ 16 (σ.2.1 16)) 17 (σ.2.1 17)) 18 (σ.2.1 18)) 19 (σ.2.1 19)) 20 (σ.2.1 20)) 21 (σ.2.1 21)) 22 (σ.2.1 22)) 23 (σ.2.1 23)) 30 (σ.1 30)) 31 (σ.1 31)) 32 (σ.1 32)) 33 (σ.1 33)) ⟨_, rfl, ⟨(σ.2.1 16), (σ.2.1 17), (σ.2.1 18), (σ.2.1 19), (σ.2.1 20), (σ.2.1 21), (σ.2.1 22), (σ.2.1 23), (σ.1 30), (σ.1 31), (σ.1 32), (σ.1 33), rfl, hM⟩⟩ rfl dX11_week_36
    · replace c2 := bI_f c2
      refine j_iconst C ((-1)) (by decide) dX11_week_20 ?_
      refine j_w (cM g kk (sF σ 16 (σ.2.1 16))) (congrArg (cM g kk) (wrFi (S := σ) (c := 16) (v := σ.2.1 16) rfl)) ?_
      refine j_w (cM g kk (sF (sF σ 16 (σ.2.1 16)) 17 (σ.2.1 17))) (congrArg (cM g kk) (wrFi (S := (sF σ 16 (σ.2.1 16))) (c := 17) (v := σ.2.1 17) (gtFF (by decide) rfl))) ?_
      refine j_w (cM g kk (sF (sF (sF σ 16 (σ.2.1 16)) 17 (σ.2.1 17)) 18 (σ.2.1 18))) (congrArg (cM g kk) (wrFi (S := (sF (sF σ 16 (σ.2.1 16)) 17 (σ.2.1 17))) (c := 18) (v := σ.2.1 18) (gtFF (by decide) (gtFF (by decide) rfl)))) ?_
      refine j_w (cM g kk (sF (sF (sF (sF σ 16 (σ.2.1 16)) 17 (σ.2.1 17)) 18 (σ.2.1 18)) 19 (σ.2.1 19))) (congrArg (cM g kk) (wrFi (S := (sF (sF (sF σ 16 (σ.2.1 16)) 17 (σ.2.1 17)) 18 (σ.2.1 18))) (c := 19) (v := σ.2.1 19) (gtFF (by decide) (gtFF (by decide) (gtFF (by decide) rfl))))) ?_
      refine j_w (cM g kk (sF (sF (sF (sF (sF σ 16 (σ.2.1 16)) 17 (σ.2.1 17)) 18 (σ.2.1 18)) 19 (σ.2.1 19)) 20 (σ.2.1 20))) (congrArg (cM g kk) (wrFi (S := (sF (sF (sF (sF σ 16 (σ.2.1 16)) 17 (σ.2.1 17)) 18 (σ.2.1 18)) 19 (σ.2.1 19))) (c := 20) (v := σ.2.1 20) (gtFF (by decide) (gtFF (by decide) (gtFF (by decide) (gtFF (by decide) rfl)))))) ?_
      refine j_w (cM g kk (sF (sF (sF (sF (sF (sF σ 16 (σ.2.1 16)) 17 (σ.2.1 17)) 18 (σ.2.1 18)) 19 (σ.2.1 19)) 20 (σ.2.1 20)) 21 (σ.2.1 21))) (congrArg (cM g kk) (wrFi (S := (sF (sF (sF (sF (sF σ 16 (σ.2.1 16)) 17 (σ.2.1 17)) 18 (σ.2.1 18)) 19 (σ.2.1 19)) 20 (σ.2.1 20))) (c := 21) (v := σ.2.1 21) (gtFF (by decide) (gtFF (by decide) (gtFF (by decide) (gtFF (by decide) (gtFF (by decide) rfl))))))) ?_
      refine j_w (cM g kk (sF (sF (sF (sF (sF (sF (sF σ 16 (σ.2.1 16)) 17 (σ.2.1 17)) 18 (σ.2.1 18)) 19 (σ.2.1 19)) 20 (σ.2.1 20)) 21 (σ.2.1 21)) 22 (σ.2.1 22))) (congrArg (cM g kk) (wrFi (S := (sF (sF (sF (sF (sF (sF σ 16 (σ.2.1 16)) 17 (σ.2.1 17)) 18 (σ.2.1 18)) 19 (σ.2.1 19)) 20 (σ.2.1 20)) 21 (σ.2.1 21))) (c := 22) (v := σ.2.1 22) (gtFF (by decide) (gtFF (by decide) (gtFF (by decide) (gtFF (by decide) (gtFF (by decide) (gtFF (by decide) rfl)))))))) ?_
      refine j_w (cM g kk (sF (sF (sF (sF (sF (sF (sF (sF σ 16 (σ.2.1 16)) 17 (σ.2.1 17)) 18 (σ.2.1 18)) 19 (σ.2.1 19)) 20 (σ.2.1 20)) 21 (σ.2.1 21)) 22 (σ.2.1 22)) 23 (σ.2.1 23))) (congrArg (cM g kk) (wrFi (S := (sF (sF (sF (sF (sF (sF (sF σ 16 (σ.2.1 16)) 17 (σ.2.1 17)) 18 (σ.2.1 18)) 19 (σ.2.1 19)) 20 (σ.2.1 20)) 21 (σ.2.1 21)) 22 (σ.2.1 22))) (c := 23) (v := σ.2.1 23) (gtFF (by decide) (gtFF (by decide) (gtFF (by decide) (gtFF (by decide) (gtFF (by decide) (gtFF (by decide) (gtFF (by decide) rfl))))))))) ?_
      refine j_w (cM g kk (sI (sF (sF (sF (sF (sF (sF (sF (sF σ 16 (σ.2.1 16)) 17 (σ.2.1 17)) 18 (σ.2.1 18)) 19 (σ.2.1 19)) 20 (σ.2.1 20)) 21 (σ.2.1 21)) 22 (σ.2.1 22)) 23 (σ.2.1 23)) 30 (σ.1 30))) (congrArg (cM g kk) (wrIi (S := (sF (sF (sF (sF (sF (sF (sF (sF σ 16 (σ.2.1 16)) 17 (σ.2.1 17)) 18 (σ.2.1 18)) 19 (σ.2.1 19)) 20 (σ.2.1 20)) 21 (σ.2.1 21)) 22 (σ.2.1 22)) 23 (σ.2.1 23))) (c := 30) (v := σ.1 30) (gtIF (gtIF (gtIF (gtIF (gtIF (gtIF (gtIF (gtIF rfl)))))))))) ?_
      refine j_w (cM g kk (sI (sI (sF (sF (sF (sF (sF (sF (sF (sF σ 16 (σ.2.1 16)) 17 (σ.2.1 17)) 18 (σ.2.1 18)) 19 (σ.2.1 19)) 20 (σ.2.1 20)) 21 (σ.2.1 21)) 22 (σ.2.1 22)) 23 (σ.2.1 23)) 30 (σ.1 30)) 31 (σ.1 31))) (congrArg (cM g kk) (wrIi (S := (sI (sF (sF (sF (sF (sF (sF (sF (sF σ 16 (σ.2.1 16)) 17 (σ.2.1 17)) 18 (σ.2.1 18)) 19 (σ.2.1 19)) 20 (σ.2.1 20)) 21 (σ.2.1 21)) 22 (σ.2.1 22)) 23 (σ.2.1 23)) 30 (σ.1 30))) (c := 31) (v := σ.1 31) (gtII (by decide) (gtIF (gtIF (gtIF (gtIF (gtIF (gtIF (gtIF (gtIF rfl))))))))))) ?_
      refine j_w (cM g kk (sI (sI (sI (sF (sF (sF (sF (sF (sF (sF (sF σ 16 (σ.2.1 16)) 17 (σ.2.1 17)) 18 (σ.2.1 18)) 19 (σ.2.1 19)) 20 (σ.2.1 20)) 21 (σ.2.1 21)) 22 (σ.2.1 22)) 23 (σ.2.1 23)) 30 (σ.1 30)) 31 (σ.1 31)) 32 (σ.1 32))) (congrArg (cM g kk) (wrIi (S := (sI (sI (sF (sF (sF (sF (sF (sF (sF (sF σ 16 (σ.2.1 16)) 17 (σ.2.1 17)) 18 (σ.2.1 18)) 19 (σ.2.1 19)) 20 (σ.2.1 20)) 21 (σ.2.1 21)) 22 (σ.2.1 22)) 23 (σ.2.1 23)) 30 (σ.1 30)) 31 (σ.1 31))) (c := 32) (v := σ.1 32) (gtII (by decide) (gtII (by decide) (gtIF (gtIF (gtIF (gtIF (gtIF (gtIF (gtIF (gtIF rfl)))))))))))) ?_
      refine j_w (cM g kk (sI (sI (sI (sI (sF (sF (sF (sF (sF (sF (sF (sF σ 16 (σ.2.1 16)) 17 (σ.2.1 17)) 18 (σ.2.1 18)) 19 (σ.2.1 19)) 20 (σ.2.1 20)) 21 (σ.2.1 21)) 22 (σ.2.1 22)) 23 (σ.2.1 23)) 30 (σ.1 30)) 31 (σ.1 31)) 32 (σ.1 32)) 33 (σ.1 33))) (congrArg (cM g kk) (wrIi (S := (sI (sI (sI (sF (sF (sF (sF (sF (sF (sF (sF σ 16 (σ.2.1 16)) 17 (σ.2.1 17)) 18 (σ.2.1 18)) 19 (σ.2.1 19)) 20 (σ.2.1 20)) 21 (σ.2.1 21)) 22 (σ.2.1 22)) 23 (σ.2.1 23)) 30 (σ.1 30)) 31 (σ.1 31)) 32 (σ.1 32))) (c := 33) (v := σ.1 33) (gtII (by decide) (gtII (by decide) (gtII (by decide) (gtIF (gtIF (gtIF (gtIF (gtIF (gtIF (gtIF (gtIF rfl))))))))))))) ?_
      exact j_iret C E (sI (sI (sI (sI (sF (sF (sF (sF (sF (sF (sF (sF σ 16 (σ.2.1 16)) 17 (σ.2.1 17)) 18 (σ.2.1 18)) 19 (σ.2.1 19)) 20 (σ.2.1 20)) 21 (σ.2.1 21)) 22 (σ.2.1 22)) 23 (σ.2.1 23)) 30 (σ.1 30)) 31 (σ.1 31)) 32 (σ.1 32)) 33 (σ.1 33)) ⟨_, rfl, ⟨(σ.2.1 16), (σ.2.1 17), (σ.2.1 18), (σ.2.1 19), (σ.2.1 20), (σ.2.1 21), (σ.2.1 22), (σ.2.1 23), (σ.1 30), (σ.1 31), (σ.1 32), (σ.1 33), rfl, hM⟩⟩ rfl dX11_week_21
set_option maxRecDepth 100000 in
set_option maxHeartbeats 4000000 in
theorem n_findD (g kk : Nat → Nat) (σ : St) (k : Nat) (hk : σ.1 3 = nI k) (hk6 : k ≤ 6) (hI : iM σ)  (c : Nat) (hc0 : c < 6) : jM (S := St) yX11_findDifferences cX11_findDifferences 3 none { frames := 6, cells := 0, slots := 0, locals := 141 } kk (cM g kk σ) [.ref (g 0), .int (nI c)] (cM g kk) (rV (fun u : St => ∃ (pF16 : Nat → Int32) (pF17 : Nat → Int32) (pF18 : Nat → Int32) (pF24 : Nat → Int32) (pF25 : Nat → Int32) (q : Nat), u = sI (sF (sF (sF (sF (sF σ 16 pF16) 17 pF17) 18 pF18) 24 pF24) 25 pF25) 36 (nI q) ∧ (q ≤ 28))) := by
  refine j_entry [(0, .ref (g 0)), (1, .int (nI c))] (by decide) (Nat.le_of_ble_eq_true rfl) rfl ?_
  intro X C E HI
  refine j_aload_n C 0 rfl dX11_findDifferences_0 ?_
  refine j_V1 C (n_findAll g kk σ k hk hk6 hI  ) kyX11_findAll tb_1131 tb_1133 sp_24 0 rfl (eM_0 g kk _) rfl (Nat.le_of_ble_eq_true rfl) ⟨by decide, by decide⟩ dX11_findDifferences_1 rfl (fun vr ur hp => ?_)
  obtain ⟨rfl, w1, w2, w3, hu⟩ := hp
  replace hu := hu.symm
  subst hu
  refine j_aload_n C 0 rfl dX11_findDifferences_4 ?_
  refine j_iconst C (nI 0) (by decide) dX11_findDifferences_5 ?_
  refine pM_0_36 C tb_909 dX11_findDifferences_6 ?_
  refine j_iconst C (nI 0) (by decide) dX11_findDifferences_9 ?_
  refine j_istore_n C [(2, .int (nI 0)), (0, .ref (g 0)), (1, .int (nI c))] rfl (by decide) rfl dX11_findDifferences_10 ?_
  have L11 : ∀ (n11 : Nat) (d : Nat) (z11_F24 : Nat → Int32) (z11_F25 : Nat → Int32) (q : Nat) (i11_0 : d ≤ 28) (i11_1 : q ≤ d) (hm11 : 28 - d < n11), J X 0 0 (cM g kk (sI (sF (sF (sF (sF (sF σ 16 w1) 17 w2) 18 w3) 24 z11_F24) 25 z11_F25) 36 (nI q))) [(2, .int (nI d)), (0, .ref (g 0)), (1, .int (nI c))] 11 [] := by
    intro n11
    induction n11 with
    | zero => intro d z11_F24 z11_F25 q i11_0 i11_1 hm; exact absurd hm (Nat.not_lt_zero _)
    | succ n11 ih11 =>
      intro d z11_F24 z11_F25 q i11_0 i11_1 hm11
      refine j_iload_n C 0 rfl dX11_findDifferences_11 ?_
      refine j_bipush C (nI 28) (by decide) dX11_findDifferences_12 ?_
      refine j_icmp_geN C 99 (by decide) (by omega) (by omega) dX11_findDifferences_14 (fun c4 => ?_) (fun c4 => ?_)
      · exact j_vret C E (sI (sF (sF (sF (sF (sF σ 16 w1) 17 w2) 18 w3) 24 z11_F24) 25 z11_F25) 36 (nI q)) ⟨rfl, ⟨w1, w2, w3, z11_F24, z11_F25, q, rfl, (by omega)⟩⟩ rfl dX11_findDifferences_99
      · refine j_aload_n C 1 rfl dX11_findDifferences_17 ?_
        refine gM_0_24 C tb_897 dX11_findDifferences_18 ?_
        refine j_iload_n C 2 rfl dX11_findDifferences_21 ?_
        refine j_iload_n C 0 rfl dX11_findDifferences_22 ?_
        refine j_S01 C (m_at c d) kyX11_at tb_1060 tb_1061 rfl (Nat.le_of_ble_eq_true rfl) ⟨by decide, by decide⟩ ⟨by decide, by decide⟩ dX11_findDifferences_23 rfl ?_
        refine rM_18 C (28 * c + d) rfl (by omega) (w3 (28 * c + d)) rfl dX11_findDifferences_26 ?_
        refine j_if_lt C 93 (by decide) dX11_findDifferences_27 (fun c5 => ?_) (fun c5 => ?_)
        · refine j_iinc C (nI (d + 1)) [(2, .int (nI (d + 1))), (0, .ref (g 0)), (1, .int (nI c))] 0 rfl (by rw [show Int32.ofInt 1 = nI 1 from by decide, nI_add]) (by decide) rfl dX11_findDifferences_93 ?_
          refine j_goto C 11 (by decide) dX11_findDifferences_96 ?_
          exact ih11 (d + 1) z11_F24 z11_F25 q (by omega) (by omega) (by omega)
        · refine j_aload_n C 1 rfl dX11_findDifferences_30 ?_
          refine gM_0_23 C tb_896 dX11_findDifferences_31 ?_
          refine j_iload_n C 2 rfl dX11_findDifferences_34 ?_
          refine j_iload_n C 0 rfl dX11_findDifferences_35 ?_
          refine j_S01 C (m_at c d) kyX11_at tb_1060 tb_1061 rfl (Nat.le_of_ble_eq_true rfl) ⟨by decide, by decide⟩ ⟨by decide, by decide⟩ dX11_findDifferences_36 rfl ?_
          refine rM_17 C (28 * c + d) rfl (by omega) (w2 (28 * c + d)) rfl dX11_findDifferences_39 ?_
          refine j_if_lt C 93 (by decide) dX11_findDifferences_40 (fun c6 => ?_) (fun c6 => ?_)
          · refine j_iinc C (nI (d + 1)) [(2, .int (nI (d + 1))), (0, .ref (g 0)), (1, .int (nI c))] 0 rfl (by rw [show Int32.ofInt 1 = nI 1 from by decide, nI_add]) (by decide) rfl dX11_findDifferences_93 ?_
            refine j_goto C 11 (by decide) dX11_findDifferences_96 ?_
            exact ih11 (d + 1) z11_F24 z11_F25 q (by omega) (by omega) (by omega)
          · refine j_aload_n C 1 rfl dX11_findDifferences_43 ?_
            refine gM_0_34 C tb_907 dX11_findDifferences_44 ?_
            refine j_aload_n C 1 rfl dX11_findDifferences_47 ?_
            refine gM_0_36 C tb_909 (nI q) rfl dX11_findDifferences_48 ?_
            refine j_aload_n C 1 rfl dX11_findDifferences_51 ?_
            refine gM_0_24 C tb_897 dX11_findDifferences_52 ?_
            refine j_iload_n C 2 rfl dX11_findDifferences_55 ?_
            refine j_iload_n C 0 rfl dX11_findDifferences_56 ?_
            refine j_S01 C (m_at c d) kyX11_at tb_1060 tb_1061 rfl (Nat.le_of_ble_eq_true rfl) ⟨by decide, by decide⟩ ⟨by decide, by decide⟩ dX11_findDifferences_57 rfl ?_
            refine rM_18 C (28 * c + d) rfl (by omega) (w3 (28 * c + d)) rfl dX11_findDifferences_60 ?_
            refine j_aload_n C 1 rfl dX11_findDifferences_61 ?_
            refine gM_0_23 C tb_896 dX11_findDifferences_62 ?_
            refine j_iload_n C 2 rfl dX11_findDifferences_65 ?_
            refine j_iload_n C 0 rfl dX11_findDifferences_66 ?_
            refine j_S01 C (m_at c d) kyX11_at tb_1060 tb_1061 rfl (Nat.le_of_ble_eq_true rfl) ⟨by decide, by decide⟩ ⟨by decide, by decide⟩ dX11_findDifferences_67 rfl ?_
            refine rM_17 C (28 * c + d) rfl (by omega) (w2 (28 * c + d)) rfl dX11_findDifferences_70 ?_
            refine j_isub C dX11_findDifferences_71 ?_
            refine j_top (fun v7 => ?_)
            refine tM_24 C q rfl (by omega) dX11_findDifferences_72 ?_
            refine j_aload_n C 1 rfl dX11_findDifferences_73 ?_
            refine gM_0_35 C tb_908 dX11_findDifferences_74 ?_
            refine j_aload_n C 1 rfl dX11_findDifferences_77 ?_
            refine gM_0_36 C tb_909 (nI q) rfl dX11_findDifferences_78 ?_
            refine j_iload_n C 0 rfl dX11_findDifferences_81 ?_
            refine tM_25 C q rfl (by omega) dX11_findDifferences_82 ?_
            refine j_aload_n C 1 rfl dX11_findDifferences_83 ?_
            refine j_dup C rfl dX11_findDifferences_84 ?_
            refine gM_0_36 C tb_909 (nI q) rfl dX11_findDifferences_85 ?_
            refine j_iconst C (nI 1) (by decide) dX11_findDifferences_88 ?_
            refine j_iaddN C dX11_findDifferences_89 ?_
            refine pM_0_36 C tb_909 dX11_findDifferences_90 ?_
            refine j_iinc C (nI (d + 1)) [(2, .int (nI (d + 1))), (0, .ref (g 0)), (1, .int (nI c))] 0 rfl (by rw [show Int32.ofInt 1 = nI 1 from by decide, nI_add]) (by decide) rfl dX11_findDifferences_93 ?_
            refine j_goto C 11 (by decide) dX11_findDifferences_96 ?_
            refine j_w (cM g kk (sI (sF (sF (sF (sF (sF σ 16 w1) 17 w2) 18 w3) 24 (upd z11_F24 q v7)) 25 (upd z11_F25 q (nI d))) 36 (nI (q + 1)))) (congrArg (cM g kk) (show sI (sF (sF (sI (sF (sF (sF (sF (sF σ 16 w1) 17 w2) 18 w3) 24 z11_F24) 25 z11_F25) 36 (nI q)) 24 (upd z11_F24 q v7)) 25 (upd z11_F25 q (nI d))) 36 (nI (q + 1)) = sI (sF (sF (sF (sF (sF σ 16 w1) 17 w2) 18 w3) 24 (upd z11_F24 q v7)) 25 (upd z11_F25 q (nI d))) 36 (nI (q + 1)) from (Eq.trans (wrI (Eq.trans (wrF (Eq.trans wrFI (wrI (Eq.trans (wrFc (by decide)) (wrF wrFs))))) (Eq.trans wrFI (wrI wrFs)))) wrIs))) ?_
            exact ih11 (d + 1) (upd z11_F24 q v7) (upd z11_F25 q (nI d)) (q + 1) (by omega) (by omega) (by omega)
  refine j_w (cM g kk (sF (sI (sF (sF (sF σ 16 w1) 17 w2) 18 w3) 36 (nI 0)) 24 (σ.2.1 24))) (congrArg (cM g kk) (wrFi (S := (sI (sF (sF (sF σ 16 w1) 17 w2) 18 w3) 36 (nI 0))) (c := 24) (v := σ.2.1 24) (gtFI (gtFF (by decide) (gtFF (by decide) (gtFF (by decide) rfl)))))) ?_
  refine j_w (cM g kk (sF (sF (sI (sF (sF (sF σ 16 w1) 17 w2) 18 w3) 36 (nI 0)) 24 (σ.2.1 24)) 25 (σ.2.1 25))) (congrArg (cM g kk) (wrFi (S := (sF (sI (sF (sF (sF σ 16 w1) 17 w2) 18 w3) 36 (nI 0)) 24 (σ.2.1 24))) (c := 25) (v := σ.2.1 25) (gtFF (by decide) (gtFI (gtFF (by decide) (gtFF (by decide) (gtFF (by decide) rfl))))))) ?_
  refine j_w (cM g kk (sI (sF (sF (sF (sF (sF σ 16 w1) 17 w2) 18 w3) 24 (σ.2.1 24)) 25 (σ.2.1 25)) 36 (nI 0))) (congrArg (cM g kk) (show sF (sF (sI (sF (sF (sF σ 16 w1) 17 w2) 18 w3) 36 (nI 0)) 24 (σ.2.1 24)) 25 (σ.2.1 25) = sI (sF (sF (sF (sF (sF σ 16 w1) 17 w2) 18 w3) 24 (σ.2.1 24)) 25 (σ.2.1 25)) 36 (nI 0) from (Eq.trans (wrF wrFI) wrFI))) ?_
  exact L11 _ 0 (σ.2.1 24) (σ.2.1 25) 0 (by omega) (by omega) (Nat.lt_succ_self _)
set_option maxRecDepth 100000 in
set_option maxHeartbeats 4000000 in
theorem n_findPart (g kk : Nat → Nat) (σ : St) (k : Nat) (hk : σ.1 3 = nI k) (hk6 : k ≤ 6) (hI : iM σ) (q : Nat) (hq : σ.1 36 = nI q) (hqb : q ≤ 28)   : jM (S := St) yX11_findPart cX11_findPart 13 none { frames := 0, cells := 0, slots := 0, locals := 0 } kk (cM g kk σ) [.ref (g 0)] (cM g kk) (rV (fun u : St => ∃ (pI37 : Int32) (pL38 : Int64) (pL39 : Int64) (pL40 : Int64), u = sL (sL (sL (sI σ 37 pI37) 38 pL38) 39 pL39) 40 pL40 ∧ (q < 8 ∨ (∃ p : Nat, p ≤ 24 ∧ pI37 = nI p ∧ ¬ pL39 = 0)))) := by
  refine j_entry [(0, .ref (g 0))] (by decide) (Nat.le_of_ble_eq_true rfl) rfl ?_
  intro X C E HI
  refine j_lconst C 0 (by decide) dX11_findPart_0 ?_
  refine j_lstore_n C [(1, .long 0), (0, .ref (g 0))] rfl (by decide) rfl dX11_findPart_1 ?_
  refine j_iconst C (nI 0) (by decide) dX11_findPart_2 ?_
  refine j_istore_n C [(3, .int (nI 0)), (1, .long 0), (0, .ref (g 0))] rfl (by decide) rfl dX11_findPart_3 ?_
  have L4 : ∀ (n4 : Nat) (i : Nat) (y4_1 : Int64) (i4_0 : i ≤ q) (hm4 : q - i < n4), J X 0 0 (cM g kk σ) [(3, .int (nI i)), (1, .long y4_1), (0, .ref (g 0))] 4 [] := by
    intro n4
    induction n4 with
    | zero => intro i y4_1 i4_0 hm; exact absurd hm (Nat.not_lt_zero _)
    | succ n4 ih4 =>
      intro i y4_1 i4_0 hm4
      refine j_iload_n C 0 rfl dX11_findPart_4 ?_
      refine j_aload_n C 2 rfl dX11_findPart_5 ?_
      refine gM_0_36 C tb_909 (nI q) hq dX11_findPart_6 ?_
      refine j_icmp_geN C 28 (by decide) (by omega) (by omega) dX11_findPart_9 (fun c1 => ?_) (fun c1 => ?_)
      · refine j_aload_n C 2 rfl dX11_findPart_28 ?_
        refine j_bipush C ((-6)) (by decide) dX11_findPart_29 ?_
        refine pM_0_37 C tb_910 dX11_findPart_31 ?_
        refine j_lconst C 0 (by decide) dX11_findPart_34 ?_
        refine j_lstore_n C [(3, .long 0), (1, .long y4_1), (0, .ref (g 0))] rfl (by decide) rfl dX11_findPart_35 ?_
        refine j_iconst C (nI 0) (by decide) dX11_findPart_36 ?_
        refine j_istore C [(5, .int (nI 0)), (3, .long 0), (1, .long y4_1), (0, .ref (g 0))] (by decide) rfl dX11_findPart_37 ?_
        have L39 : ∀ (n39 : Nat) (j : Nat) (y39_3 : Int64) (pa : Int32) (z39_L38 : Int64) (pl : Int64) (z39_L40 : Int64) (i39_0 : j ≤ q) (hp : q < 8 ∨ (j ≤ 4 ∧ pa = -6) ∨ (∃ p : Nat, p ≤ 24 ∧ pa = nI p ∧ ¬ pl = 0)) (hm39 : q - j < n39), J X 0 0 (cM g kk (sL (sL (sL (sI σ 37 pa) 38 z39_L38) 39 pl) 40 z39_L40)) [(5, .int (nI j)), (3, .long y39_3), (1, .long y4_1), (0, .ref (g 0))] 39 [] := by
          intro n39
          induction n39 with
          | zero => intro j y39_3 pa z39_L38 pl z39_L40 i39_0 hp hm; exact absurd hm (Nat.not_lt_zero _)
          | succ n39 ih39 =>
            intro j y39_3 pa z39_L38 pl z39_L40 i39_0 hp hm39
            refine j_iload C 0 rfl dX11_findPart_39 ?_
            refine j_aload_n C 3 rfl dX11_findPart_41 ?_
            refine gM_0_36 C tb_909 (nI q) hq dX11_findPart_42 ?_
            refine j_icmp_geN C 167 (by decide) (by omega) (by omega) dX11_findPart_45 (fun c2 => ?_) (fun c2 => ?_)
            · exact j_vret C E (sL (sL (sL (sI σ 37 pa) 38 z39_L38) 39 pl) 40 z39_L40) ⟨rfl, ⟨pa, z39_L38, pl, z39_L40, rfl, (by rcases hp with h | h | h; exact Or.inl h; (exact Or.inl (by omega)); exact Or.inr h)⟩⟩ rfl dX11_findPart_167
            · refine j_aload_n C 3 rfl dX11_findPart_48 ?_
              refine gM_0_36 C tb_909 (nI q) hq dX11_findPart_49 ?_
              refine j_iload C 0 rfl dX11_findPart_52 ?_
              refine j_isubN C (by omega) dX11_findPart_54 ?_
              refine j_istore C [(6, .int (nI (q - j))), (5, .int (nI j)), (3, .long y39_3), (1, .long y4_1), (0, .ref (g 0))] (by decide) rfl dX11_findPart_55 ?_
              refine j_iload C 1 rfl dX11_findPart_57 ?_
              refine j_iconst C (nI 4) (by decide) dX11_findPart_59 ?_
              refine j_icmp_ltN C 150 (by decide) (by omega) (by omega) dX11_findPart_60 (fun c3 => ?_) (fun c3 => ?_)
              · refine j_lload_n C 2 rfl dX11_findPart_150 ?_
                refine j_aload_n C 4 rfl dX11_findPart_151 ?_
                refine gM_0_34 C tb_907 dX11_findPart_152 ?_
                refine j_iload C 1 rfl dX11_findPart_155 ?_
                refine rM_24 C j rfl (by omega) ((σ.2.1 24) j) rfl dX11_findPart_157 ?_
                refine j_i2l C dX11_findPart_158 ?_
                refine j_ladd C dX11_findPart_159 ?_
                refine j_topL (fun v4 => ?_)
                refine j_lstore_n C [(3, .long v4), (6, .int (nI (q - j))), (5, .int (nI j)), (1, .long y4_1), (0, .ref (g 0))] rfl (by decide) rfl dX11_findPart_160 ?_
                refine j_iinc C (nI (j + 1)) [(5, .int (nI (j + 1))), (3, .long v4), (6, .int (nI (q - j))), (1, .long y4_1), (0, .ref (g 0))] 2 rfl (by rw [show Int32.ofInt 1 = nI 1 from by decide, nI_add]) (by decide) rfl dX11_findPart_161 ?_
                refine j_goto C 39 (by decide) dX11_findPart_164 ?_
                refine j_sub (lv' := [(5, .int (nI (j + 1))), (3, .long v4), (1, .long y4_1), (0, .ref (g 0))]) [0, 1, 3, 4] rfl ?_
                exact ih39 (j + 1) v4 pa z39_L38 pl z39_L40 (by omega) (by first | exact hp_lt hp (by omega) | exact hp_ge hp (by assumption)) (by omega)
              · refine j_iload C 0 rfl dX11_findPart_63 ?_
                refine j_iconst C (nI 4) (by decide) dX11_findPart_65 ?_
                refine j_icmp_ltN C 150 (by decide) (by omega) (by omega) dX11_findPart_66 (fun c5 => ?_) (fun c5 => ?_)
                · refine j_lload_n C 2 rfl dX11_findPart_150 ?_
                  refine j_aload_n C 4 rfl dX11_findPart_151 ?_
                  refine gM_0_34 C tb_907 dX11_findPart_152 ?_
                  refine j_iload C 1 rfl dX11_findPart_155 ?_
                  refine rM_24 C j rfl (by omega) ((σ.2.1 24) j) rfl dX11_findPart_157 ?_
                  refine j_i2l C dX11_findPart_158 ?_
                  refine j_ladd C dX11_findPart_159 ?_
                  refine j_topL (fun v6 => ?_)
                  refine j_lstore_n C [(3, .long v6), (6, .int (nI (q - j))), (5, .int (nI j)), (1, .long y4_1), (0, .ref (g 0))] rfl (by decide) rfl dX11_findPart_160 ?_
                  refine j_iinc C (nI (j + 1)) [(5, .int (nI (j + 1))), (3, .long v6), (6, .int (nI (q - j))), (1, .long y4_1), (0, .ref (g 0))] 2 rfl (by rw [show Int32.ofInt 1 = nI 1 from by decide, nI_add]) (by decide) rfl dX11_findPart_161 ?_
                  refine j_goto C 39 (by decide) dX11_findPart_164 ?_
                  refine j_sub (lv' := [(5, .int (nI (j + 1))), (3, .long v6), (1, .long y4_1), (0, .ref (g 0))]) [0, 1, 3, 4] rfl ?_
                  exact ih39 (j + 1) v6 pa z39_L38 pl z39_L40 (by omega) (by first | exact hp_lt hp (by omega) | exact hp_ge hp (by assumption)) (by omega)
                · refine j_lload_n C 2 rfl dX11_findPart_69 ?_
                  refine j_iload C 0 rfl dX11_findPart_70 ?_
                  refine j_i2l C dX11_findPart_72 ?_
                  refine j_lmul C dX11_findPart_73 ?_
                  refine j_lload_n C 3 rfl dX11_findPart_74 ?_
                  refine j_lload_n C 2 rfl dX11_findPart_75 ?_
                  refine j_lsub C dX11_findPart_76 ?_
                  refine j_iload C 1 rfl dX11_findPart_77 ?_
                  refine j_i2l C dX11_findPart_79 ?_
                  refine j_lmul C dX11_findPart_80 ?_
                  refine j_topL (fun v7 => ?_)
                  refine j_lsub C dX11_findPart_81 ?_
                  refine j_topL (fun v8 => ?_)
                  refine j_lstore C [(7, .long v8), (6, .int (nI (q - j))), (5, .int (nI j)), (3, .long y39_3), (1, .long y4_1), (0, .ref (g 0))] (by decide) rfl dX11_findPart_82 ?_
                  refine j_lload C 0 rfl dX11_findPart_84 ?_
                  refine j_lload C 0 rfl dX11_findPart_86 ?_
                  refine j_lmul C dX11_findPart_88 ?_
                  refine j_lstore C [(9, .long (v8 * v8)), (7, .long v8), (6, .int (nI (q - j))), (5, .int (nI j)), (3, .long y39_3), (1, .long y4_1), (0, .ref (g 0))] (by decide) rfl dX11_findPart_89 ?_
                  refine j_iload C 3 rfl dX11_findPart_91 ?_
                  refine j_i2l C dX11_findPart_93 ?_
                  refine j_iload C 2 rfl dX11_findPart_94 ?_
                  refine j_i2l C dX11_findPart_96 ?_
                  refine j_lmul C dX11_findPart_97 ?_
                  refine j_topLe (fun lw hlw => ?_)
                  refine j_lstore C [(11, .long lw), (9, .long (v8 * v8)), (7, .long v8), (6, .int (nI (q - j))), (5, .int (nI j)), (3, .long y39_3), (1, .long y4_1), (0, .ref (g 0))] (by decide) rfl dX11_findPart_98 ?_
                  refine j_aload_n C 7 rfl dX11_findPart_100 ?_
                  refine gM_0_37 C tb_910 (pa) rfl dX11_findPart_101 ?_
                  refine j_if_lt C 125 (by decide) dX11_findPart_104 (fun c9 => ?_) (fun c9 => ?_)
                  · refine j_aload_n C 7 rfl dX11_findPart_125 ?_
                    refine j_iload C 4 rfl dX11_findPart_126 ?_
                    refine pM_0_37 C tb_910 dX11_findPart_128 ?_
                    refine j_aload_n C 7 rfl dX11_findPart_131 ?_
                    refine j_lload C 1 rfl dX11_findPart_132 ?_
                    refine pM_0_38 C tb_911 dX11_findPart_134 ?_
                    refine j_aload_n C 7 rfl dX11_findPart_137 ?_
                    refine j_lload C 0 rfl dX11_findPart_138 ?_
                    refine pM_0_39 C tb_912 dX11_findPart_140 ?_
                    refine j_aload_n C 7 rfl dX11_findPart_143 ?_
                    refine j_lload C 2 rfl dX11_findPart_144 ?_
                    refine j_lneg C dX11_findPart_146 ?_
                    refine pM_0_40 C tb_913 dX11_findPart_147 ?_
                    refine j_lload_n C 5 rfl dX11_findPart_150 ?_
                    refine j_aload_n C 7 rfl dX11_findPart_151 ?_
                    refine gM_0_34 C tb_907 dX11_findPart_152 ?_
                    refine j_iload C 4 rfl dX11_findPart_155 ?_
                    refine rM_24 C j rfl (by omega) ((σ.2.1 24) j) rfl dX11_findPart_157 ?_
                    refine j_i2l C dX11_findPart_158 ?_
                    refine j_ladd C dX11_findPart_159 ?_
                    refine j_topL (fun v10 => ?_)
                    refine j_lstore_n C [(3, .long v10), (11, .long lw), (9, .long (v8 * v8)), (7, .long v8), (6, .int (nI (q - j))), (5, .int (nI j)), (1, .long y4_1), (0, .ref (g 0))] rfl (by decide) rfl dX11_findPart_160 ?_
                    refine j_iinc C (nI (j + 1)) [(5, .int (nI (j + 1))), (3, .long v10), (11, .long lw), (9, .long (v8 * v8)), (7, .long v8), (6, .int (nI (q - j))), (1, .long y4_1), (0, .ref (g 0))] 5 rfl (by rw [show Int32.ofInt 1 = nI 1 from by decide, nI_add]) (by decide) rfl dX11_findPart_161 ?_
                    refine j_goto C 39 (by decide) dX11_findPart_164 ?_
                    refine j_sub (lv' := [(5, .int (nI (j + 1))), (3, .long v10), (1, .long y4_1), (0, .ref (g 0))]) [0, 1, 6, 7] rfl ?_
                    refine j_w (cM g kk (sL (sL (sL (sI σ 37 (nI j)) 38 (v8 * v8)) 39 lw) 40 (-v8))) (congrArg (cM g kk) (show sL (sL (sL (sI (sL (sL (sL (sI σ 37 pa) 38 z39_L38) 39 pl) 40 z39_L40) 37 (nI j)) 38 (v8 * v8)) 39 lw) 40 (-v8) = sL (sL (sL (sI σ 37 (nI j)) 38 (v8 * v8)) 39 lw) 40 (-v8) from (Eq.trans (wrL (Eq.trans (wrL (Eq.trans (wrL (Eq.trans wrIL (wrL (Eq.trans wrIL (wrL (Eq.trans wrIL (wrL wrIs))))))) (Eq.trans (wrLc (by decide)) (wrL (Eq.trans (wrLc (by decide)) (wrL wrLs)))))) (Eq.trans (wrLc (by decide)) (wrL wrLs)))) wrLs))) ?_
                    exact ih39 (j + 1) v10 (nI j) (v8 * v8) lw (-v8) (by omega) (Or.inr (Or.inr ⟨_, by omega, rfl, by rw [hlw]; exact lnzN (by omega) (by omega) (by omega) (by omega)⟩)) (by omega)
                  · refine j_lload C 1 rfl dX11_findPart_107 ?_
                    refine j_aload_n C 7 rfl dX11_findPart_109 ?_
                    refine gM_0_39 C tb_912 (pl) rfl dX11_findPart_110 ?_
                    refine j_lmul C dX11_findPart_113 ?_
                    refine j_aload_n C 7 rfl dX11_findPart_114 ?_
                    refine gM_0_38 C tb_911 (z39_L38) rfl dX11_findPart_115 ?_
                    refine j_lload C 0 rfl dX11_findPart_118 ?_
                    refine j_lmul C dX11_findPart_120 ?_
                    refine j_lcmp C dX11_findPart_121 ?_
                    refine j_top (fun v11 => ?_)
                    refine j_if_le C 150 (by decide) dX11_findPart_122 (fun c12 => ?_) (fun c12 => ?_)
                    · refine j_lload_n C 5 rfl dX11_findPart_150 ?_
                      refine j_aload_n C 7 rfl dX11_findPart_151 ?_
                      refine gM_0_34 C tb_907 dX11_findPart_152 ?_
                      refine j_iload C 4 rfl dX11_findPart_155 ?_
                      refine rM_24 C j rfl (by omega) ((σ.2.1 24) j) rfl dX11_findPart_157 ?_
                      refine j_i2l C dX11_findPart_158 ?_
                      refine j_ladd C dX11_findPart_159 ?_
                      refine j_topL (fun v13 => ?_)
                      refine j_lstore_n C [(3, .long v13), (11, .long lw), (9, .long (v8 * v8)), (7, .long v8), (6, .int (nI (q - j))), (5, .int (nI j)), (1, .long y4_1), (0, .ref (g 0))] rfl (by decide) rfl dX11_findPart_160 ?_
                      refine j_iinc C (nI (j + 1)) [(5, .int (nI (j + 1))), (3, .long v13), (11, .long lw), (9, .long (v8 * v8)), (7, .long v8), (6, .int (nI (q - j))), (1, .long y4_1), (0, .ref (g 0))] 5 rfl (by rw [show Int32.ofInt 1 = nI 1 from by decide, nI_add]) (by decide) rfl dX11_findPart_161 ?_
                      refine j_goto C 39 (by decide) dX11_findPart_164 ?_
                      refine j_sub (lv' := [(5, .int (nI (j + 1))), (3, .long v13), (1, .long y4_1), (0, .ref (g 0))]) [0, 1, 6, 7] rfl ?_
                      exact ih39 (j + 1) v13 pa z39_L38 pl z39_L40 (by omega) (by first | exact hp_lt hp (by omega) | exact hp_ge hp (by assumption)) (by omega)
                    · refine j_aload_n C 7 rfl dX11_findPart_125 ?_
                      refine j_iload C 4 rfl dX11_findPart_126 ?_
                      refine pM_0_37 C tb_910 dX11_findPart_128 ?_
                      refine j_aload_n C 7 rfl dX11_findPart_131 ?_
                      refine j_lload C 1 rfl dX11_findPart_132 ?_
                      refine pM_0_38 C tb_911 dX11_findPart_134 ?_
                      refine j_aload_n C 7 rfl dX11_findPart_137 ?_
                      refine j_lload C 0 rfl dX11_findPart_138 ?_
                      refine pM_0_39 C tb_912 dX11_findPart_140 ?_
                      refine j_aload_n C 7 rfl dX11_findPart_143 ?_
                      refine j_lload C 2 rfl dX11_findPart_144 ?_
                      refine j_lneg C dX11_findPart_146 ?_
                      refine pM_0_40 C tb_913 dX11_findPart_147 ?_
                      refine j_lload_n C 5 rfl dX11_findPart_150 ?_
                      refine j_aload_n C 7 rfl dX11_findPart_151 ?_
                      refine gM_0_34 C tb_907 dX11_findPart_152 ?_
                      refine j_iload C 4 rfl dX11_findPart_155 ?_
                      refine rM_24 C j rfl (by omega) ((σ.2.1 24) j) rfl dX11_findPart_157 ?_
                      refine j_i2l C dX11_findPart_158 ?_
                      refine j_ladd C dX11_findPart_159 ?_
                      refine j_topL (fun v14 => ?_)
                      refine j_lstore_n C [(3, .long v14), (11, .long lw), (9, .long (v8 * v8)), (7, .long v8), (6, .int (nI (q - j))), (5, .int (nI j)), (1, .long y4_1), (0, .ref (g 0))] rfl (by decide) rfl dX11_findPart_160 ?_
                      refine j_iinc C (nI (j + 1)) [(5, .int (nI (j + 1))), (3, .long v14), (11, .long lw), (9, .long (v8 * v8)), (7, .long v8), (6, .int (nI (q - j))), (1, .long y4_1), (0, .ref (g 0))] 5 rfl (by rw [show Int32.ofInt 1 = nI 1 from by decide, nI_add]) (by decide) rfl dX11_findPart_161 ?_
                      refine j_goto C 39 (by decide) dX11_findPart_164 ?_
                      refine j_sub (lv' := [(5, .int (nI (j + 1))), (3, .long v14), (1, .long y4_1), (0, .ref (g 0))]) [0, 1, 6, 7] rfl ?_
                      refine j_w (cM g kk (sL (sL (sL (sI σ 37 (nI j)) 38 (v8 * v8)) 39 lw) 40 (-v8))) (congrArg (cM g kk) (show sL (sL (sL (sI (sL (sL (sL (sI σ 37 pa) 38 z39_L38) 39 pl) 40 z39_L40) 37 (nI j)) 38 (v8 * v8)) 39 lw) 40 (-v8) = sL (sL (sL (sI σ 37 (nI j)) 38 (v8 * v8)) 39 lw) 40 (-v8) from (Eq.trans (wrL (Eq.trans (wrL (Eq.trans (wrL (Eq.trans wrIL (wrL (Eq.trans wrIL (wrL (Eq.trans wrIL (wrL wrIs))))))) (Eq.trans (wrLc (by decide)) (wrL (Eq.trans (wrLc (by decide)) (wrL wrLs)))))) (Eq.trans (wrLc (by decide)) (wrL wrLs)))) wrLs))) ?_
                      exact ih39 (j + 1) v14 (nI j) (v8 * v8) lw (-v8) (by omega) (Or.inr (Or.inr ⟨_, by omega, rfl, by rw [hlw]; exact lnzN (by omega) (by omega) (by omega) (by omega)⟩)) (by omega)
        refine j_w (cM g kk (sL (sI σ 37 (-6)) 38 (σ.2.2.1 38))) (congrArg (cM g kk) (wrLi (S := (sI σ 37 (-6))) (c := 38) (v := σ.2.2.1 38) (gtLI rfl))) ?_
        refine j_w (cM g kk (sL (sL (sI σ 37 (-6)) 38 (σ.2.2.1 38)) 39 (σ.2.2.1 39))) (congrArg (cM g kk) (wrLi (S := (sL (sI σ 37 (-6)) 38 (σ.2.2.1 38))) (c := 39) (v := σ.2.2.1 39) (gtLL (by decide) (gtLI rfl)))) ?_
        refine j_w (cM g kk (sL (sL (sL (sI σ 37 (-6)) 38 (σ.2.2.1 38)) 39 (σ.2.2.1 39)) 40 (σ.2.2.1 40))) (congrArg (cM g kk) (wrLi (S := (sL (sL (sI σ 37 (-6)) 38 (σ.2.2.1 38)) 39 (σ.2.2.1 39))) (c := 40) (v := σ.2.2.1 40) (gtLL (by decide) (gtLL (by decide) (gtLI rfl))))) ?_
        exact L39 _ 0 0 (-6) (σ.2.2.1 38) (σ.2.2.1 39) (σ.2.2.1 40) (by omega) (Or.inr (Or.inl ⟨by omega, rfl⟩)) (Nat.lt_succ_self _)
      · refine j_lload_n C 1 rfl dX11_findPart_12 ?_
        refine j_aload_n C 2 rfl dX11_findPart_13 ?_
        refine gM_0_34 C tb_907 dX11_findPart_14 ?_
        refine j_iload_n C 0 rfl dX11_findPart_17 ?_
        refine rM_24 C i rfl (by omega) ((σ.2.1 24) i) rfl dX11_findPart_18 ?_
        refine j_i2l C dX11_findPart_19 ?_
        refine j_ladd C dX11_findPart_20 ?_
        refine j_topL (fun v15 => ?_)
        refine j_lstore_n C [(1, .long v15), (3, .int (nI i)), (0, .ref (g 0))] rfl (by decide) rfl dX11_findPart_21 ?_
        refine j_iinc C (nI (i + 1)) [(3, .int (nI (i + 1))), (1, .long v15), (0, .ref (g 0))] 1 rfl (by rw [show Int32.ofInt 1 = nI 1 from by decide, nI_add]) (by decide) rfl dX11_findPart_22 ?_
        refine j_goto C 4 (by decide) dX11_findPart_25 ?_
        exact ih4 (i + 1) v15 (by omega) (by omega)
  exact L4 _ 0 0 (by omega) (Nat.lt_succ_self _)
set_option maxRecDepth 100000 in
set_option maxHeartbeats 4000000 in
theorem n_breaks (g kk : Nat → Nat) (σ : St) (k : Nat) (hk : σ.1 3 = nI k) (hk6 : k ≤ 6) (hI : iM σ)  (x : Int32) (y : Int32) : jM (S := St) yX11_breaks cX11_breaks 3 (some .int) { frames := 7, cells := 0, slots := 0, locals := 163 } kk (cM g kk σ) [.ref (g 0), .int x, .int y] (cM g kk) (rI (fun (r : Int32) (u : St) => ∃ (pF16 : Nat → Int32) (pF17 : Nat → Int32) (pF18 : Nat → Int32) (pF24 : Nat → Int32) (pF25 : Nat → Int32) (pI36 : Int32) (pI37 : Int32) (pL38 : Int64) (pL39 : Int64) (pL40 : Int64), u = sL (sL (sL (sI (sI (sF (sF (sF (sF (sF σ 16 pF16) 17 pF17) 18 pF18) 24 pF24) 25 pF25) 36 pI36) 37 pI37) 38 pL38) 39 pL39) 40 pL40)) := by
  refine j_entry [(0, .ref (g 0)), (1, .int x), (2, .int y)] (by decide) (Nat.le_of_ble_eq_true rfl) rfl ?_
  intro X C E HI
  refine j_aload_n C 0 rfl dX11_breaks_0 ?_
  refine j_iload_n C 1 rfl dX11_breaks_1 ?_
  refine j_V1 C (m_isCan g kk σ k hk hk6 x) kyX11_isCan tb_1067 tb_1069 sp_21 0 rfl (eM_0 g kk _) rfl (Nat.le_of_ble_eq_true rfl) ⟨by decide, by decide⟩ dX11_breaks_2 rfl (fun vr ur hp => ?_)
  obtain ⟨r, rfl, rfl, hu⟩ := hp
  replace hu := hu.symm
  subst hu
  refine j_if_ne C 12 (by decide) dX11_breaks_5 (fun c1 => ?_) (fun c1 => ?_)
  · replace c1 := bI_t c1
    obtain ⟨xn, xn1, rfl⟩ := cB_nat (by omega) c1
    refine j_iload_n C 2 rfl dX11_breaks_12 ?_
    refine j_i2l C dX11_breaks_13 ?_
    refine j_lconst C 0 (by decide) dX11_breaks_14 ?_
    refine j_lconst C 1 (by decide) dX11_breaks_15 ?_
    refine j_S01 C (m_inB y (nI 0) (nI 1) 0 1 (by decide) (by decide)) kyX11_in tb_1057 tb_1058 rfl (Nat.le_of_ble_eq_true rfl) ⟨by decide, by decide⟩ ⟨by decide, by decide⟩ dX11_breaks_16 rfl ?_
    refine j_if_ne C 26 (by decide) dX11_breaks_19 (fun c2 => ?_) (fun c2 => ?_)
    · replace c2 := bI_t c2
      obtain ⟨yn, yn1, yn2, rfl⟩ := wB_nat (by decide) (by decide) c2
      refine j_aload_n C 0 rfl dX11_breaks_26 ?_
      refine j_iload_n C 1 rfl dX11_breaks_27 ?_
      refine j_V1 C (n_findD g kk σ k hk hk6 hI  xn (by first | assumption | omega)) kyX11_findDifferences tb_1207 tb_1209 sp_37 0 rfl (eM_0 g kk _) rfl (Nat.le_of_ble_eq_true rfl) ⟨by decide, by decide⟩ dX11_breaks_28 rfl (fun vr ur hp => ?_)
      obtain ⟨rfl, w3, w4, w5, w6, w7, w8, hu, g9⟩ := hp
      replace hu := hu.symm
      subst hu
      refine j_aload_n C 0 rfl dX11_breaks_31 ?_
      refine gM_0_36 C tb_909 (nI w8) rfl dX11_breaks_32 ?_
      refine j_bipush C (nI 8) (by decide) dX11_breaks_35 ?_
      refine j_icmp_geN C 44 (by decide) (by omega) (by omega) dX11_breaks_37 (fun c10 => ?_) (fun c10 => ?_)
      · refine j_aload_n C 0 rfl dX11_breaks_44 ?_
        refine j_V1 C (n_findPart g kk (sI (sF (sF (sF (sF (sF σ 16 w3) 17 w4) 18 w5) 24 w6) 25 w7) 36 (nI w8)) k hk hk6 hI w8 rfl (by omega)  ) kyX11_findPart tb_1212 tb_1214 sp_38 0 rfl (eM_0 g kk _) rfl (Nat.le_of_ble_eq_true rfl) ⟨by decide, by decide⟩ dX11_breaks_45 rfl (fun vr ur hp => ?_)
        obtain ⟨rfl, w11, w12, w13, w14, hu, g15⟩ := hp
        replace hu := hu.symm
        subst hu
        obtain ⟨pp, hpp, epp, hpl⟩ := g15.resolve_left (by omega)
        subst epp
        refine j_iload_n C 2 rfl dX11_breaks_48 ?_
        refine j_if_neN C 64 (by decide) (by omega) dX11_breaks_49 (fun c16 => ?_) (fun c16 => ?_)
        · refine j_aload_n C 0 rfl dX11_breaks_64 ?_
          refine gM_0_40 C tb_913 (w14) rfl dX11_breaks_65 ?_
          refine j_aload_n C 0 rfl dX11_breaks_68 ?_
          refine gM_0_39 C tb_912 (w13) rfl dX11_breaks_69 ?_
          refine j_ldiv C (by first | decide | assumption | exact nI_ne0 (by omega) (by omega) | exact i64ne (by assumption) | exact i64ne (nI_ne0 (by omega) (by omega))) dX11_breaks_72 ?_
          refine j_l2i C dX11_breaks_73 ?_
          exact j_iret C E (sL (sL (sL (sI (sI (sF (sF (sF (sF (sF σ 16 w3) 17 w4) 18 w5) 24 w6) 25 w7) 36 (nI w8)) 37 (nI pp)) 38 w12) 39 w13) 40 w14) ⟨_, rfl, ⟨w3, w4, w5, w6, w7, (nI w8), (nI pp), w12, w13, w14, rfl⟩⟩ rfl dX11_breaks_74
        · refine j_aload_n C 0 rfl dX11_breaks_52 ?_
          refine gM_0_35 C tb_908 dX11_breaks_53 ?_
          refine j_aload_n C 0 rfl dX11_breaks_56 ?_
          refine gM_0_37 C tb_910 (nI pp) rfl dX11_breaks_57 ?_
          refine rM_25 C pp rfl (by omega) (w7 pp) rfl dX11_breaks_60 ?_
          refine j_goto C 74 (by decide) dX11_breaks_61 ?_
          exact j_iret C E (sL (sL (sL (sI (sI (sF (sF (sF (sF (sF σ 16 w3) 17 w4) 18 w5) 24 w6) 25 w7) 36 (nI w8)) 37 (nI pp)) 38 w12) 39 w13) 40 w14) ⟨_, rfl, ⟨w3, w4, w5, w6, w7, (nI w8), (nI pp), w12, w13, w14, rfl⟩⟩ rfl dX11_breaks_74
      · refine j_ldcw C tb_1211 dX11_breaks_40 ?_
        refine j_w (cM g kk (sI (sI (sF (sF (sF (sF (sF σ 16 w3) 17 w4) 18 w5) 24 w6) 25 w7) 36 (nI w8)) 37 (σ.1 37))) (congrArg (cM g kk) (wrIi (S := (sI (sF (sF (sF (sF (sF σ 16 w3) 17 w4) 18 w5) 24 w6) 25 w7) 36 (nI w8))) (c := 37) (v := σ.1 37) (gtII (by decide) (gtIF (gtIF (gtIF (gtIF (gtIF rfl)))))))) ?_
        refine j_w (cM g kk (sL (sI (sI (sF (sF (sF (sF (sF σ 16 w3) 17 w4) 18 w5) 24 w6) 25 w7) 36 (nI w8)) 37 (σ.1 37)) 38 (σ.2.2.1 38))) (congrArg (cM g kk) (wrLi (S := (sI (sI (sF (sF (sF (sF (sF σ 16 w3) 17 w4) 18 w5) 24 w6) 25 w7) 36 (nI w8)) 37 (σ.1 37))) (c := 38) (v := σ.2.2.1 38) (gtLI (gtLI (gtLF (gtLF (gtLF (gtLF (gtLF rfl))))))))) ?_
        refine j_w (cM g kk (sL (sL (sI (sI (sF (sF (sF (sF (sF σ 16 w3) 17 w4) 18 w5) 24 w6) 25 w7) 36 (nI w8)) 37 (σ.1 37)) 38 (σ.2.2.1 38)) 39 (σ.2.2.1 39))) (congrArg (cM g kk) (wrLi (S := (sL (sI (sI (sF (sF (sF (sF (sF σ 16 w3) 17 w4) 18 w5) 24 w6) 25 w7) 36 (nI w8)) 37 (σ.1 37)) 38 (σ.2.2.1 38))) (c := 39) (v := σ.2.2.1 39) (gtLL (by decide) (gtLI (gtLI (gtLF (gtLF (gtLF (gtLF (gtLF rfl)))))))))) ?_
        refine j_w (cM g kk (sL (sL (sL (sI (sI (sF (sF (sF (sF (sF σ 16 w3) 17 w4) 18 w5) 24 w6) 25 w7) 36 (nI w8)) 37 (σ.1 37)) 38 (σ.2.2.1 38)) 39 (σ.2.2.1 39)) 40 (σ.2.2.1 40))) (congrArg (cM g kk) (wrLi (S := (sL (sL (sI (sI (sF (sF (sF (sF (sF σ 16 w3) 17 w4) 18 w5) 24 w6) 25 w7) 36 (nI w8)) 37 (σ.1 37)) 38 (σ.2.2.1 38)) 39 (σ.2.2.1 39))) (c := 40) (v := σ.2.2.1 40) (gtLL (by decide) (gtLL (by decide) (gtLI (gtLI (gtLF (gtLF (gtLF (gtLF (gtLF rfl))))))))))) ?_
        exact j_iret C E (sL (sL (sL (sI (sI (sF (sF (sF (sF (sF σ 16 w3) 17 w4) 18 w5) 24 w6) 25 w7) 36 (nI w8)) 37 (σ.1 37)) 38 (σ.2.2.1 38)) 39 (σ.2.2.1 39)) 40 (σ.2.2.1 40)) ⟨_, rfl, ⟨w3, w4, w5, w6, w7, (nI w8), (σ.1 37), (σ.2.2.1 38), (σ.2.2.1 39), (σ.2.2.1 40), rfl⟩⟩ rfl dX11_breaks_43
    · replace c2 := bI_f c2
      refine j_ldcw C tb_1206 dX11_breaks_22 ?_
      refine j_w (cM g kk (sF σ 16 (σ.2.1 16))) (congrArg (cM g kk) (wrFi (S := σ) (c := 16) (v := σ.2.1 16) rfl)) ?_
      refine j_w (cM g kk (sF (sF σ 16 (σ.2.1 16)) 17 (σ.2.1 17))) (congrArg (cM g kk) (wrFi (S := (sF σ 16 (σ.2.1 16))) (c := 17) (v := σ.2.1 17) (gtFF (by decide) rfl))) ?_
      refine j_w (cM g kk (sF (sF (sF σ 16 (σ.2.1 16)) 17 (σ.2.1 17)) 18 (σ.2.1 18))) (congrArg (cM g kk) (wrFi (S := (sF (sF σ 16 (σ.2.1 16)) 17 (σ.2.1 17))) (c := 18) (v := σ.2.1 18) (gtFF (by decide) (gtFF (by decide) rfl)))) ?_
      refine j_w (cM g kk (sF (sF (sF (sF σ 16 (σ.2.1 16)) 17 (σ.2.1 17)) 18 (σ.2.1 18)) 24 (σ.2.1 24))) (congrArg (cM g kk) (wrFi (S := (sF (sF (sF σ 16 (σ.2.1 16)) 17 (σ.2.1 17)) 18 (σ.2.1 18))) (c := 24) (v := σ.2.1 24) (gtFF (by decide) (gtFF (by decide) (gtFF (by decide) rfl))))) ?_
      refine j_w (cM g kk (sF (sF (sF (sF (sF σ 16 (σ.2.1 16)) 17 (σ.2.1 17)) 18 (σ.2.1 18)) 24 (σ.2.1 24)) 25 (σ.2.1 25))) (congrArg (cM g kk) (wrFi (S := (sF (sF (sF (sF σ 16 (σ.2.1 16)) 17 (σ.2.1 17)) 18 (σ.2.1 18)) 24 (σ.2.1 24))) (c := 25) (v := σ.2.1 25) (gtFF (by decide) (gtFF (by decide) (gtFF (by decide) (gtFF (by decide) rfl)))))) ?_
      refine j_w (cM g kk (sI (sF (sF (sF (sF (sF σ 16 (σ.2.1 16)) 17 (σ.2.1 17)) 18 (σ.2.1 18)) 24 (σ.2.1 24)) 25 (σ.2.1 25)) 36 (σ.1 36))) (congrArg (cM g kk) (wrIi (S := (sF (sF (sF (sF (sF σ 16 (σ.2.1 16)) 17 (σ.2.1 17)) 18 (σ.2.1 18)) 24 (σ.2.1 24)) 25 (σ.2.1 25))) (c := 36) (v := σ.1 36) (gtIF (gtIF (gtIF (gtIF (gtIF rfl))))))) ?_
      refine j_w (cM g kk (sI (sI (sF (sF (sF (sF (sF σ 16 (σ.2.1 16)) 17 (σ.2.1 17)) 18 (σ.2.1 18)) 24 (σ.2.1 24)) 25 (σ.2.1 25)) 36 (σ.1 36)) 37 (σ.1 37))) (congrArg (cM g kk) (wrIi (S := (sI (sF (sF (sF (sF (sF σ 16 (σ.2.1 16)) 17 (σ.2.1 17)) 18 (σ.2.1 18)) 24 (σ.2.1 24)) 25 (σ.2.1 25)) 36 (σ.1 36))) (c := 37) (v := σ.1 37) (gtII (by decide) (gtIF (gtIF (gtIF (gtIF (gtIF rfl)))))))) ?_
      refine j_w (cM g kk (sL (sI (sI (sF (sF (sF (sF (sF σ 16 (σ.2.1 16)) 17 (σ.2.1 17)) 18 (σ.2.1 18)) 24 (σ.2.1 24)) 25 (σ.2.1 25)) 36 (σ.1 36)) 37 (σ.1 37)) 38 (σ.2.2.1 38))) (congrArg (cM g kk) (wrLi (S := (sI (sI (sF (sF (sF (sF (sF σ 16 (σ.2.1 16)) 17 (σ.2.1 17)) 18 (σ.2.1 18)) 24 (σ.2.1 24)) 25 (σ.2.1 25)) 36 (σ.1 36)) 37 (σ.1 37))) (c := 38) (v := σ.2.2.1 38) (gtLI (gtLI (gtLF (gtLF (gtLF (gtLF (gtLF rfl))))))))) ?_
      refine j_w (cM g kk (sL (sL (sI (sI (sF (sF (sF (sF (sF σ 16 (σ.2.1 16)) 17 (σ.2.1 17)) 18 (σ.2.1 18)) 24 (σ.2.1 24)) 25 (σ.2.1 25)) 36 (σ.1 36)) 37 (σ.1 37)) 38 (σ.2.2.1 38)) 39 (σ.2.2.1 39))) (congrArg (cM g kk) (wrLi (S := (sL (sI (sI (sF (sF (sF (sF (sF σ 16 (σ.2.1 16)) 17 (σ.2.1 17)) 18 (σ.2.1 18)) 24 (σ.2.1 24)) 25 (σ.2.1 25)) 36 (σ.1 36)) 37 (σ.1 37)) 38 (σ.2.2.1 38))) (c := 39) (v := σ.2.2.1 39) (gtLL (by decide) (gtLI (gtLI (gtLF (gtLF (gtLF (gtLF (gtLF rfl)))))))))) ?_
      refine j_w (cM g kk (sL (sL (sL (sI (sI (sF (sF (sF (sF (sF σ 16 (σ.2.1 16)) 17 (σ.2.1 17)) 18 (σ.2.1 18)) 24 (σ.2.1 24)) 25 (σ.2.1 25)) 36 (σ.1 36)) 37 (σ.1 37)) 38 (σ.2.2.1 38)) 39 (σ.2.2.1 39)) 40 (σ.2.2.1 40))) (congrArg (cM g kk) (wrLi (S := (sL (sL (sI (sI (sF (sF (sF (sF (sF σ 16 (σ.2.1 16)) 17 (σ.2.1 17)) 18 (σ.2.1 18)) 24 (σ.2.1 24)) 25 (σ.2.1 25)) 36 (σ.1 36)) 37 (σ.1 37)) 38 (σ.2.2.1 38)) 39 (σ.2.2.1 39))) (c := 40) (v := σ.2.2.1 40) (gtLL (by decide) (gtLL (by decide) (gtLI (gtLI (gtLF (gtLF (gtLF (gtLF (gtLF rfl))))))))))) ?_
      exact j_iret C E (sL (sL (sL (sI (sI (sF (sF (sF (sF (sF σ 16 (σ.2.1 16)) 17 (σ.2.1 17)) 18 (σ.2.1 18)) 24 (σ.2.1 24)) 25 (σ.2.1 25)) 36 (σ.1 36)) 37 (σ.1 37)) 38 (σ.2.2.1 38)) 39 (σ.2.2.1 39)) 40 (σ.2.2.1 40)) ⟨_, rfl, ⟨(σ.2.1 16), (σ.2.1 17), (σ.2.1 18), (σ.2.1 24), (σ.2.1 25), (σ.1 36), (σ.1 37), (σ.2.2.1 38), (σ.2.2.1 39), (σ.2.2.1 40), rfl⟩⟩ rfl dX11_breaks_25
  · replace c1 := bI_f c1
    refine j_ldcw C tb_1205 dX11_breaks_8 ?_
    refine j_w (cM g kk (sF σ 16 (σ.2.1 16))) (congrArg (cM g kk) (wrFi (S := σ) (c := 16) (v := σ.2.1 16) rfl)) ?_
    refine j_w (cM g kk (sF (sF σ 16 (σ.2.1 16)) 17 (σ.2.1 17))) (congrArg (cM g kk) (wrFi (S := (sF σ 16 (σ.2.1 16))) (c := 17) (v := σ.2.1 17) (gtFF (by decide) rfl))) ?_
    refine j_w (cM g kk (sF (sF (sF σ 16 (σ.2.1 16)) 17 (σ.2.1 17)) 18 (σ.2.1 18))) (congrArg (cM g kk) (wrFi (S := (sF (sF σ 16 (σ.2.1 16)) 17 (σ.2.1 17))) (c := 18) (v := σ.2.1 18) (gtFF (by decide) (gtFF (by decide) rfl)))) ?_
    refine j_w (cM g kk (sF (sF (sF (sF σ 16 (σ.2.1 16)) 17 (σ.2.1 17)) 18 (σ.2.1 18)) 24 (σ.2.1 24))) (congrArg (cM g kk) (wrFi (S := (sF (sF (sF σ 16 (σ.2.1 16)) 17 (σ.2.1 17)) 18 (σ.2.1 18))) (c := 24) (v := σ.2.1 24) (gtFF (by decide) (gtFF (by decide) (gtFF (by decide) rfl))))) ?_
    refine j_w (cM g kk (sF (sF (sF (sF (sF σ 16 (σ.2.1 16)) 17 (σ.2.1 17)) 18 (σ.2.1 18)) 24 (σ.2.1 24)) 25 (σ.2.1 25))) (congrArg (cM g kk) (wrFi (S := (sF (sF (sF (sF σ 16 (σ.2.1 16)) 17 (σ.2.1 17)) 18 (σ.2.1 18)) 24 (σ.2.1 24))) (c := 25) (v := σ.2.1 25) (gtFF (by decide) (gtFF (by decide) (gtFF (by decide) (gtFF (by decide) rfl)))))) ?_
    refine j_w (cM g kk (sI (sF (sF (sF (sF (sF σ 16 (σ.2.1 16)) 17 (σ.2.1 17)) 18 (σ.2.1 18)) 24 (σ.2.1 24)) 25 (σ.2.1 25)) 36 (σ.1 36))) (congrArg (cM g kk) (wrIi (S := (sF (sF (sF (sF (sF σ 16 (σ.2.1 16)) 17 (σ.2.1 17)) 18 (σ.2.1 18)) 24 (σ.2.1 24)) 25 (σ.2.1 25))) (c := 36) (v := σ.1 36) (gtIF (gtIF (gtIF (gtIF (gtIF rfl))))))) ?_
    refine j_w (cM g kk (sI (sI (sF (sF (sF (sF (sF σ 16 (σ.2.1 16)) 17 (σ.2.1 17)) 18 (σ.2.1 18)) 24 (σ.2.1 24)) 25 (σ.2.1 25)) 36 (σ.1 36)) 37 (σ.1 37))) (congrArg (cM g kk) (wrIi (S := (sI (sF (sF (sF (sF (sF σ 16 (σ.2.1 16)) 17 (σ.2.1 17)) 18 (σ.2.1 18)) 24 (σ.2.1 24)) 25 (σ.2.1 25)) 36 (σ.1 36))) (c := 37) (v := σ.1 37) (gtII (by decide) (gtIF (gtIF (gtIF (gtIF (gtIF rfl)))))))) ?_
    refine j_w (cM g kk (sL (sI (sI (sF (sF (sF (sF (sF σ 16 (σ.2.1 16)) 17 (σ.2.1 17)) 18 (σ.2.1 18)) 24 (σ.2.1 24)) 25 (σ.2.1 25)) 36 (σ.1 36)) 37 (σ.1 37)) 38 (σ.2.2.1 38))) (congrArg (cM g kk) (wrLi (S := (sI (sI (sF (sF (sF (sF (sF σ 16 (σ.2.1 16)) 17 (σ.2.1 17)) 18 (σ.2.1 18)) 24 (σ.2.1 24)) 25 (σ.2.1 25)) 36 (σ.1 36)) 37 (σ.1 37))) (c := 38) (v := σ.2.2.1 38) (gtLI (gtLI (gtLF (gtLF (gtLF (gtLF (gtLF rfl))))))))) ?_
    refine j_w (cM g kk (sL (sL (sI (sI (sF (sF (sF (sF (sF σ 16 (σ.2.1 16)) 17 (σ.2.1 17)) 18 (σ.2.1 18)) 24 (σ.2.1 24)) 25 (σ.2.1 25)) 36 (σ.1 36)) 37 (σ.1 37)) 38 (σ.2.2.1 38)) 39 (σ.2.2.1 39))) (congrArg (cM g kk) (wrLi (S := (sL (sI (sI (sF (sF (sF (sF (sF σ 16 (σ.2.1 16)) 17 (σ.2.1 17)) 18 (σ.2.1 18)) 24 (σ.2.1 24)) 25 (σ.2.1 25)) 36 (σ.1 36)) 37 (σ.1 37)) 38 (σ.2.2.1 38))) (c := 39) (v := σ.2.2.1 39) (gtLL (by decide) (gtLI (gtLI (gtLF (gtLF (gtLF (gtLF (gtLF rfl)))))))))) ?_
    refine j_w (cM g kk (sL (sL (sL (sI (sI (sF (sF (sF (sF (sF σ 16 (σ.2.1 16)) 17 (σ.2.1 17)) 18 (σ.2.1 18)) 24 (σ.2.1 24)) 25 (σ.2.1 25)) 36 (σ.1 36)) 37 (σ.1 37)) 38 (σ.2.2.1 38)) 39 (σ.2.2.1 39)) 40 (σ.2.2.1 40))) (congrArg (cM g kk) (wrLi (S := (sL (sL (sI (sI (sF (sF (sF (sF (sF σ 16 (σ.2.1 16)) 17 (σ.2.1 17)) 18 (σ.2.1 18)) 24 (σ.2.1 24)) 25 (σ.2.1 25)) 36 (σ.1 36)) 37 (σ.1 37)) 38 (σ.2.2.1 38)) 39 (σ.2.2.1 39))) (c := 40) (v := σ.2.2.1 40) (gtLL (by decide) (gtLL (by decide) (gtLI (gtLI (gtLF (gtLF (gtLF (gtLF (gtLF rfl))))))))))) ?_
    exact j_iret C E (sL (sL (sL (sI (sI (sF (sF (sF (sF (sF σ 16 (σ.2.1 16)) 17 (σ.2.1 17)) 18 (σ.2.1 18)) 24 (σ.2.1 24)) 25 (σ.2.1 25)) 36 (σ.1 36)) 37 (σ.1 37)) 38 (σ.2.2.1 38)) 39 (σ.2.2.1 39)) 40 (σ.2.2.1 40)) ⟨_, rfl, ⟨(σ.2.1 16), (σ.2.1 17), (σ.2.1 18), (σ.2.1 24), (σ.2.1 25), (σ.1 36), (σ.1 37), (σ.2.2.1 38), (σ.2.2.1 39), (σ.2.2.1 40), rfl⟩⟩ rfl dX11_breaks_11
set_option maxRecDepth 100000 in
set_option maxHeartbeats 4000000 in
theorem n_chance (g kk : Nat → Nat) (σ : St) (k : Nat) (hk : σ.1 3 = nI k) (hk6 : k ≤ 6) (hI : iM σ)  (x : Int32) (y : Int32) : jM (S := St) yX11_chance cX11_chance 13 (some .int) { frames := 7, cells := 0, slots := 0, locals := 163 } kk (cM g kk σ) [.ref (g 0), .int x, .int y] (cM g kk) (rI (fun (r : Int32) (u : St) => ∃ (pF16 : Nat → Int32) (pF17 : Nat → Int32) (pF18 : Nat → Int32) (pF24 : Nat → Int32) (pF25 : Nat → Int32) (pI36 : Int32) (pI37 : Int32) (pL38 : Int64) (pL39 : Int64) (pL40 : Int64), u = sL (sL (sL (sI (sI (sF (sF (sF (sF (sF σ 16 pF16) 17 pF17) 18 pF18) 24 pF24) 25 pF25) 36 pI36) 37 pI37) 38 pL38) 39 pL39) 40 pL40)) := by
  refine j_entry [(0, .ref (g 0)), (1, .int x), (2, .int y)] (by decide) (Nat.le_of_ble_eq_true rfl) rfl ?_
  intro X C E HI
  refine j_aload_n C 0 rfl dX11_chance_0 ?_
  refine j_iload_n C 1 rfl dX11_chance_1 ?_
  refine j_V1 C (m_isCan g kk σ k hk hk6 x) kyX11_isCan tb_1067 tb_1069 sp_21 0 rfl (eM_0 g kk _) rfl (Nat.le_of_ble_eq_true rfl) ⟨by decide, by decide⟩ dX11_chance_2 rfl (fun vr ur hp => ?_)
  obtain ⟨r, rfl, rfl, hu⟩ := hp
  replace hu := hu.symm
  subst hu
  refine j_if_ne C 10 (by decide) dX11_chance_5 (fun c1 => ?_) (fun c1 => ?_)
  · replace c1 := bI_t c1
    obtain ⟨xn, xn1, rfl⟩ := cB_nat (by omega) c1
    refine j_iload_n C 2 rfl dX11_chance_10 ?_
    refine j_i2l C dX11_chance_11 ?_
    refine j_lconst C 0 (by decide) dX11_chance_12 ?_
    refine j_ldc2 C tb_1220 dX11_chance_13 ?_
    refine j_S01 C (m_inB y (nI 0) (nI 9999) 0 (9999) (by decide) (by decide)) kyX11_in tb_1057 tb_1058 rfl (Nat.le_of_ble_eq_true rfl) ⟨by decide, by decide⟩ ⟨by decide, by decide⟩ dX11_chance_16 rfl ?_
    refine j_if_ne C 25 (by decide) dX11_chance_19 (fun c2 => ?_) (fun c2 => ?_)
    · replace c2 := bI_t c2
      obtain ⟨yn, yn1, yn2, rfl⟩ := wB_nat (by decide) (by decide) c2
      refine j_aload_n C 0 rfl dX11_chance_25 ?_
      refine j_iload_n C 1 rfl dX11_chance_26 ?_
      refine j_V1 C (n_findD g kk σ k hk hk6 hI  xn (by first | assumption | omega)) kyX11_findDifferences tb_1207 tb_1209 sp_37 0 rfl (eM_0 g kk _) rfl (Nat.le_of_ble_eq_true rfl) ⟨by decide, by decide⟩ dX11_chance_27 rfl (fun vr ur hp => ?_)
      obtain ⟨rfl, w3, w4, w5, w6, w7, w8, hu, g9⟩ := hp
      replace hu := hu.symm
      subst hu
      refine j_aload_n C 0 rfl dX11_chance_30 ?_
      refine gM_0_36 C tb_909 (nI w8) rfl dX11_chance_31 ?_
      refine j_bipush C (nI 8) (by decide) dX11_chance_34 ?_
      refine j_icmp_geN C 42 (by decide) (by omega) (by omega) dX11_chance_36 (fun c10 => ?_) (fun c10 => ?_)
      · refine j_aload_n C 0 rfl dX11_chance_42 ?_
        refine j_V1 C (n_findPart g kk (sI (sF (sF (sF (sF (sF σ 16 w3) 17 w4) 18 w5) 24 w6) 25 w7) 36 (nI w8)) k hk hk6 hI w8 rfl (by omega)  ) kyX11_findPart tb_1212 tb_1214 sp_38 0 rfl (eM_0 g kk _) rfl (Nat.le_of_ble_eq_true rfl) ⟨by decide, by decide⟩ dX11_chance_43 rfl (fun vr ur hp => ?_)
        obtain ⟨rfl, w11, w12, w13, w14, hu, g15⟩ := hp
        replace hu := hu.symm
        subst hu
        refine j_aload_n C 0 rfl dX11_chance_46 ?_
        refine gM_0_38 C tb_911 (w12) rfl dX11_chance_47 ?_
        refine j_lstore_n C [(3, .long w12), (0, .ref (g 0)), (1, .int (nI xn)), (2, .int (nI yn))] rfl (by decide) rfl dX11_chance_50 ?_
        refine j_aload_n C 1 rfl dX11_chance_51 ?_
        refine gM_0_39 C tb_912 (w13) rfl dX11_chance_52 ?_
        refine j_lstore C [(5, .long w13), (3, .long w12), (0, .ref (g 0)), (1, .int (nI xn)), (2, .int (nI yn))] (by decide) rfl dX11_chance_55 ?_
        refine j_iconst C (nI 0) (by decide) dX11_chance_57 ?_
        refine j_istore C [(7, .int (nI 0)), (5, .long w13), (3, .long w12), (0, .ref (g 0)), (1, .int (nI xn)), (2, .int (nI yn))] (by decide) rfl dX11_chance_58 ?_
        refine j_iload_n C 5 rfl dX11_chance_60 ?_
        refine j_istore C [(8, .int (nI yn)), (7, .int (nI 0)), (5, .long w13), (3, .long w12), (0, .ref (g 0)), (1, .int (nI xn)), (2, .int (nI yn))] (by decide) rfl dX11_chance_61 ?_
        refine j_iconst C (nI 0) (by decide) dX11_chance_63 ?_
        refine j_istore C [(9, .int (nI 0)), (8, .int (nI yn)), (7, .int (nI 0)), (5, .long w13), (3, .long w12), (0, .ref (g 0)), (1, .int (nI xn)), (2, .int (nI yn))] (by decide) rfl dX11_chance_64 ?_
        have L66 : ∀ (n66 : Nat) (m : Nat) (s : Nat) (y66_7 : Int32) (z66_F24 : Nat → Int32) (z66_I37 : Int32) (z66_L38 : Int64) (z66_L39 : Int64) (z66_L40 : Int64) (i66_0 : m ≤ 99) (i66_1 : s ≤ 65536) (hm66 : 99 - m < n66), J X 0 0 (cM g kk (sL (sL (sL (sI (sI (sF (sF (sF (sF (sF σ 16 w3) 17 w4) 18 w5) 24 z66_F24) 25 w7) 36 (nI w8)) 37 z66_I37) 38 z66_L38) 39 z66_L39) 40 z66_L40)) [(9, .int (nI m)), (8, .int (nI s)), (7, .int y66_7), (5, .long w13), (3, .long w12), (0, .ref (g 0)), (1, .int (nI xn)), (2, .int (nI yn))] 66 [] := by
          intro n66
          induction n66 with
          | zero => intro m s y66_7 z66_F24 z66_I37 z66_L38 z66_L39 z66_L40 i66_0 i66_1 hm; exact absurd hm (Nat.not_lt_zero _)
          | succ n66 ih66 =>
            intro m s y66_7 z66_F24 z66_I37 z66_L38 z66_L39 z66_L40 i66_0 i66_1 hm66
            refine j_iload C 0 rfl dX11_chance_66 ?_
            refine j_bipush C (nI 99) (by decide) dX11_chance_68 ?_
            refine j_icmp_geN C 184 (by decide) (by omega) (by omega) dX11_chance_70 (fun c16 => ?_) (fun c16 => ?_)
            · refine j_iload C 2 rfl dX11_chance_184 ?_
              exact j_iret C E (sL (sL (sL (sI (sI (sF (sF (sF (sF (sF σ 16 w3) 17 w4) 18 w5) 24 z66_F24) 25 w7) 36 (nI w8)) 37 z66_I37) 38 z66_L38) 39 z66_L39) 40 z66_L40) ⟨_, rfl, ⟨w3, w4, w5, z66_F24, w7, (nI w8), z66_I37, z66_L38, z66_L39, z66_L40, rfl⟩⟩ rfl dX11_chance_186
            · refine j_aload_n C 5 rfl dX11_chance_73 ?_
              refine gM_0_36 C tb_909 (nI w8) rfl dX11_chance_74 ?_
              refine j_iconst C (nI 1) (by decide) dX11_chance_77 ?_
              refine j_isubN C (by omega) dX11_chance_78 ?_
              refine j_istore C [(10, .int (nI (w8 - 1))), (9, .int (nI m)), (8, .int (nI s)), (7, .int y66_7), (5, .long w13), (3, .long w12), (0, .ref (g 0)), (1, .int (nI xn)), (2, .int (nI yn))] (by decide) rfl dX11_chance_79 ?_
              have L81 : ∀ (n81 : Nat) (i : Nat) (s1 : Nat) (z81_F24 : Nat → Int32) (i81_0 : i ≤ 27) (i81_1 : s1 ≤ 65536) (hm81 : i < n81), J X 0 0 (cM g kk (sL (sL (sL (sI (sI (sF (sF (sF (sF (sF σ 16 w3) 17 w4) 18 w5) 24 z81_F24) 25 w7) 36 (nI w8)) 37 z66_I37) 38 z66_L38) 39 z66_L39) 40 z66_L40)) [(10, .int (nI i)), (9, .int (nI m)), (8, .int (nI s1)), (7, .int y66_7), (5, .long w13), (3, .long w12), (0, .ref (g 0)), (1, .int (nI xn)), (2, .int (nI yn))] 81 [] := by
                intro n81
                induction n81 with
                | zero => intro i s1 z81_F24 i81_0 i81_1 hm; exact absurd hm (Nat.not_lt_zero _)
                | succ n81 ih81 =>
                  intro i s1 z81_F24 i81_0 i81_1 hm81
                  refine j_iload C 0 rfl dX11_chance_81 ?_
                  refine j_if_leN C 147 (by decide) (by omega) dX11_chance_83 (fun c17 => ?_) (fun c17 => ?_)
                  · refine j_aload_n C 6 rfl dX11_chance_147 ?_
                    refine j_V1 C (n_findPart g kk (sL (sL (sL (sI (sI (sF (sF (sF (sF (sF σ 16 w3) 17 w4) 18 w5) 24 z81_F24) 25 w7) 36 (nI w8)) 37 z66_I37) 38 z66_L38) 39 z66_L39) 40 z66_L40) k hk hk6 hI w8 rfl (by omega)  ) kyX11_findPart tb_1212 tb_1214 sp_38 0 rfl (eM_0 g kk _) rfl (Nat.le_of_ble_eq_true rfl) ⟨by decide, by decide⟩ dX11_chance_148 rfl (fun vr ur hp => ?_)
                    obtain ⟨rfl, w18, w19, w20, w21, hu, g22⟩ := hp
                    replace hu := hu.symm
                    subst hu
                    refine j_iload C 3 rfl dX11_chance_151 ?_
                    refine j_aload_n C 6 rfl dX11_chance_153 ?_
                    refine gM_0_38 C tb_911 (w19) rfl dX11_chance_154 ?_
                    refine j_lload C 4 rfl dX11_chance_157 ?_
                    refine j_lmul C dX11_chance_159 ?_
                    refine j_lload_n C 5 rfl dX11_chance_160 ?_
                    refine j_aload_n C 6 rfl dX11_chance_161 ?_
                    refine gM_0_39 C tb_912 (w20) rfl dX11_chance_162 ?_
                    refine j_lmul C dX11_chance_165 ?_
                    refine j_lcmp C dX11_chance_166 ?_
                    refine j_if_lt C 174 (by decide) dX11_chance_167 (fun c23 => ?_) (fun c23 => ?_)
                    · refine j_iconst C (nI 0) (by decide) dX11_chance_174 ?_
                      refine j_iadd C dX11_chance_175 ?_
                      refine j_istore C [(7, .int (y66_7 + (nI 0))), (10, .int (nI i)), (9, .int (nI m)), (8, .int (nI s1)), (5, .long w13), (3, .long w12), (0, .ref (g 0)), (1, .int (nI xn)), (2, .int (nI yn))] (by decide) rfl dX11_chance_176 ?_
                      refine j_iinc C (nI (m + 1)) [(9, .int (nI (m + 1))), (7, .int (y66_7 + (nI 0))), (10, .int (nI i)), (8, .int (nI s1)), (5, .long w13), (3, .long w12), (0, .ref (g 0)), (1, .int (nI xn)), (2, .int (nI yn))] 2 rfl (by rw [show Int32.ofInt 1 = nI 1 from by decide, nI_add]) (by decide) rfl dX11_chance_178 ?_
                      refine j_goto C 66 (by decide) dX11_chance_181 ?_
                      refine j_sub (lv' := [(9, .int (nI (m + 1))), (8, .int (nI s1)), (7, .int (y66_7 + (nI 0))), (5, .long w13), (3, .long w12), (0, .ref (g 0)), (1, .int (nI xn)), (2, .int (nI yn))]) [0, 3, 1, 4, 5, 6, 7, 8] rfl ?_
                      refine j_w (cM g kk (sL (sL (sL (sI (sI (sF (sF (sF (sF (sF σ 16 w3) 17 w4) 18 w5) 24 z81_F24) 25 w7) 36 (nI w8)) 37 w18) 38 w19) 39 w20) 40 w21)) (congrArg (cM g kk) (show sL (sL (sL (sI (sL (sL (sL (sI (sI (sF (sF (sF (sF (sF σ 16 w3) 17 w4) 18 w5) 24 z81_F24) 25 w7) 36 (nI w8)) 37 z66_I37) 38 z66_L38) 39 z66_L39) 40 z66_L40) 37 w18) 38 w19) 39 w20) 40 w21 = sL (sL (sL (sI (sI (sF (sF (sF (sF (sF σ 16 w3) 17 w4) 18 w5) 24 z81_F24) 25 w7) 36 (nI w8)) 37 w18) 38 w19) 39 w20) 40 w21 from (Eq.trans (wrL (Eq.trans (wrL (Eq.trans (wrL (Eq.trans wrIL (wrL (Eq.trans wrIL (wrL (Eq.trans wrIL (wrL wrIs))))))) (Eq.trans (wrLc (by decide)) (wrL (Eq.trans (wrLc (by decide)) (wrL wrLs)))))) (Eq.trans (wrLc (by decide)) (wrL wrLs)))) wrLs))) ?_
                      exact ih66 (m + 1) s1 (y66_7 + (nI 0)) z81_F24 w18 w19 w20 w21 (by omega) (by omega) (by omega)
                    · refine j_iconst C (nI 1) (by decide) dX11_chance_170 ?_
                      refine j_goto C 175 (by decide) dX11_chance_171 ?_
                      refine j_iadd C dX11_chance_175 ?_
                      refine j_istore C [(7, .int (y66_7 + (nI 1))), (10, .int (nI i)), (9, .int (nI m)), (8, .int (nI s1)), (5, .long w13), (3, .long w12), (0, .ref (g 0)), (1, .int (nI xn)), (2, .int (nI yn))] (by decide) rfl dX11_chance_176 ?_
                      refine j_iinc C (nI (m + 1)) [(9, .int (nI (m + 1))), (7, .int (y66_7 + (nI 1))), (10, .int (nI i)), (8, .int (nI s1)), (5, .long w13), (3, .long w12), (0, .ref (g 0)), (1, .int (nI xn)), (2, .int (nI yn))] 2 rfl (by rw [show Int32.ofInt 1 = nI 1 from by decide, nI_add]) (by decide) rfl dX11_chance_178 ?_
                      refine j_goto C 66 (by decide) dX11_chance_181 ?_
                      refine j_sub (lv' := [(9, .int (nI (m + 1))), (8, .int (nI s1)), (7, .int (y66_7 + (nI 1))), (5, .long w13), (3, .long w12), (0, .ref (g 0)), (1, .int (nI xn)), (2, .int (nI yn))]) [0, 3, 1, 4, 5, 6, 7, 8] rfl ?_
                      refine j_w (cM g kk (sL (sL (sL (sI (sI (sF (sF (sF (sF (sF σ 16 w3) 17 w4) 18 w5) 24 z81_F24) 25 w7) 36 (nI w8)) 37 w18) 38 w19) 39 w20) 40 w21)) (congrArg (cM g kk) (show sL (sL (sL (sI (sL (sL (sL (sI (sI (sF (sF (sF (sF (sF σ 16 w3) 17 w4) 18 w5) 24 z81_F24) 25 w7) 36 (nI w8)) 37 z66_I37) 38 z66_L38) 39 z66_L39) 40 z66_L40) 37 w18) 38 w19) 39 w20) 40 w21 = sL (sL (sL (sI (sI (sF (sF (sF (sF (sF σ 16 w3) 17 w4) 18 w5) 24 z81_F24) 25 w7) 36 (nI w8)) 37 w18) 38 w19) 39 w20) 40 w21 from (Eq.trans (wrL (Eq.trans (wrL (Eq.trans (wrL (Eq.trans wrIL (wrL (Eq.trans wrIL (wrL (Eq.trans wrIL (wrL wrIs))))))) (Eq.trans (wrLc (by decide)) (wrL (Eq.trans (wrLc (by decide)) (wrL wrLs)))))) (Eq.trans (wrLc (by decide)) (wrL wrLs)))) wrLs))) ?_
                      exact ih66 (m + 1) s1 (y66_7 + (nI 1)) z81_F24 w18 w19 w20 w21 (by omega) (by omega) (by omega)
                  · refine j_iload C 2 rfl dX11_chance_86 ?_
                    refine j_bipush C (nI 75) (by decide) dX11_chance_88 ?_
                    refine j_imulN C dX11_chance_90 ?_
                    refine j_bipush C (nI 74) (by decide) dX11_chance_91 ?_
                    refine j_iaddN C dX11_chance_93 ?_
                    refine j_ldcw (v := nI 65537) C tb_1221 dX11_chance_94 ?_
                    refine j_iremN C (by omega) (by omega) (by omega) dX11_chance_97 ?_
                    refine j_istore C [(8, .int (nI (((s1 * 75) + 74) % 65537))), (10, .int (nI i)), (9, .int (nI m)), (7, .int y66_7), (5, .long w13), (3, .long w12), (0, .ref (g 0)), (1, .int (nI xn)), (2, .int (nI yn))] (by decide) rfl dX11_chance_98 ?_
                    refine j_iload C 0 rfl dX11_chance_100 ?_
                    refine j_iload C 1 rfl dX11_chance_102 ?_
                    refine j_iconst C (nI 1) (by decide) dX11_chance_104 ?_
                    refine j_iaddN C dX11_chance_105 ?_
                    have hq24 := Nat.mod_lt (((s1 * 75) + 74) % 65537) (show 0 < (i + 1) by omega)
                    refine j_iremN C (by omega) (by omega) (by omega) dX11_chance_106 ?_
                    refine j_istore C [(11, .int (nI ((((s1 * 75) + 74) % 65537) % (i + 1)))), (8, .int (nI (((s1 * 75) + 74) % 65537))), (10, .int (nI i)), (9, .int (nI m)), (7, .int y66_7), (5, .long w13), (3, .long w12), (0, .ref (g 0)), (1, .int (nI xn)), (2, .int (nI yn))] (by decide) rfl dX11_chance_107 ?_
                    refine j_aload_n C 7 rfl dX11_chance_109 ?_
                    refine gM_0_34 C tb_907 dX11_chance_110 ?_
                    refine j_iload C 2 rfl dX11_chance_113 ?_
                    refine rM_24 C i rfl (by omega) (z81_F24 i) rfl dX11_chance_115 ?_
                    refine j_istore C [(12, .int (z81_F24 i)), (11, .int (nI ((((s1 * 75) + 74) % 65537) % (i + 1)))), (8, .int (nI (((s1 * 75) + 74) % 65537))), (10, .int (nI i)), (9, .int (nI m)), (7, .int y66_7), (5, .long w13), (3, .long w12), (0, .ref (g 0)), (1, .int (nI xn)), (2, .int (nI yn))] (by decide) rfl dX11_chance_116 ?_
                    refine j_aload_n C 8 rfl dX11_chance_118 ?_
                    refine gM_0_34 C tb_907 dX11_chance_119 ?_
                    refine j_iload C 3 rfl dX11_chance_122 ?_
                    refine j_aload_n C 8 rfl dX11_chance_124 ?_
                    refine gM_0_34 C tb_907 dX11_chance_125 ?_
                    refine j_iload C 1 rfl dX11_chance_128 ?_
                    refine rM_24 C ((((s1 * 75) + 74) % 65537) % (i + 1)) rfl (by omega) (z81_F24 ((((s1 * 75) + 74) % 65537) % (i + 1))) rfl dX11_chance_130 ?_
                    refine j_top (fun v25 => ?_)
                    refine tM_24 C i rfl (by omega) dX11_chance_131 ?_
                    refine j_aload_n C 8 rfl dX11_chance_132 ?_
                    refine gM_0_34 C tb_907 dX11_chance_133 ?_
                    refine j_iload C 1 rfl dX11_chance_136 ?_
                    refine j_iload C 0 rfl dX11_chance_138 ?_
                    refine tM_24 C ((((s1 * 75) + 74) % 65537) % (i + 1)) rfl (by omega) dX11_chance_140 ?_
                    refine j_iinc C (nI (i - 1)) [(10, .int (nI (i - 1))), (12, .int (z81_F24 i)), (11, .int (nI ((((s1 * 75) + 74) % 65537) % (i + 1)))), (8, .int (nI (((s1 * 75) + 74) % 65537))), (9, .int (nI m)), (7, .int y66_7), (5, .long w13), (3, .long w12), (0, .ref (g 0)), (1, .int (nI xn)), (2, .int (nI yn))] 3 rfl (nI_dec (by omega)) (by decide) rfl dX11_chance_141 ?_
                    refine j_goto C 81 (by decide) dX11_chance_144 ?_
                    refine j_sub (lv' := [(10, .int (nI (i - 1))), (9, .int (nI m)), (8, .int (nI (((s1 * 75) + 74) % 65537))), (7, .int y66_7), (5, .long w13), (3, .long w12), (0, .ref (g 0)), (1, .int (nI xn)), (2, .int (nI yn))]) [0, 4, 3, 5, 6, 7, 8, 9, 10] rfl ?_
                    refine j_w (cM g kk (sL (sL (sL (sI (sI (sF (sF (sF (sF (sF σ 16 w3) 17 w4) 18 w5) 24 (upd (upd z81_F24 i v25) ((((s1 * 75) + 74) % 65537) % (i + 1)) (z81_F24 i))) 25 w7) 36 (nI w8)) 37 z66_I37) 38 z66_L38) 39 z66_L39) 40 z66_L40)) (congrArg (cM g kk) (show sF (sF (sL (sL (sL (sI (sI (sF (sF (sF (sF (sF σ 16 w3) 17 w4) 18 w5) 24 z81_F24) 25 w7) 36 (nI w8)) 37 z66_I37) 38 z66_L38) 39 z66_L39) 40 z66_L40) 24 (upd z81_F24 i v25)) 24 (upd (upd z81_F24 i v25) ((((s1 * 75) + 74) % 65537) % (i + 1)) (z81_F24 i)) = sL (sL (sL (sI (sI (sF (sF (sF (sF (sF σ 16 w3) 17 w4) 18 w5) 24 (upd (upd z81_F24 i v25) ((((s1 * 75) + 74) % 65537) % (i + 1)) (z81_F24 i))) 25 w7) 36 (nI w8)) 37 z66_I37) 38 z66_L38) 39 z66_L39) 40 z66_L40 from (Eq.trans (wrF (Eq.trans wrFL (wrL (Eq.trans wrFL (wrL (Eq.trans wrFL (wrL (Eq.trans wrFI (wrI (Eq.trans wrFI (wrI (Eq.trans (wrFc (by decide)) (wrF wrFs))))))))))))) (Eq.trans wrFL (wrL (Eq.trans wrFL (wrL (Eq.trans wrFL (wrL (Eq.trans wrFI (wrI (Eq.trans wrFI (wrI (Eq.trans (wrFc (by decide)) (wrF wrFs))))))))))))))) ?_
                    exact ih81 (i - 1) (((s1 * 75) + 74) % 65537) (upd (upd z81_F24 i v25) ((((s1 * 75) + 74) % 65537) % (i + 1)) (z81_F24 i)) (by omega) (by omega) (by omega)
              exact L81 _ (w8 - 1) s z66_F24 (by omega) (by omega) (Nat.lt_succ_self _)
        exact L66 _ 0 yn (nI 0) w6 w11 w12 w13 w14 (by omega) (by omega) (Nat.lt_succ_self _)
      · refine j_bipush C ((-5)) (by decide) dX11_chance_39 ?_
        refine j_w (cM g kk (sI (sI (sF (sF (sF (sF (sF σ 16 w3) 17 w4) 18 w5) 24 w6) 25 w7) 36 (nI w8)) 37 (σ.1 37))) (congrArg (cM g kk) (wrIi (S := (sI (sF (sF (sF (sF (sF σ 16 w3) 17 w4) 18 w5) 24 w6) 25 w7) 36 (nI w8))) (c := 37) (v := σ.1 37) (gtII (by decide) (gtIF (gtIF (gtIF (gtIF (gtIF rfl)))))))) ?_
        refine j_w (cM g kk (sL (sI (sI (sF (sF (sF (sF (sF σ 16 w3) 17 w4) 18 w5) 24 w6) 25 w7) 36 (nI w8)) 37 (σ.1 37)) 38 (σ.2.2.1 38))) (congrArg (cM g kk) (wrLi (S := (sI (sI (sF (sF (sF (sF (sF σ 16 w3) 17 w4) 18 w5) 24 w6) 25 w7) 36 (nI w8)) 37 (σ.1 37))) (c := 38) (v := σ.2.2.1 38) (gtLI (gtLI (gtLF (gtLF (gtLF (gtLF (gtLF rfl))))))))) ?_
        refine j_w (cM g kk (sL (sL (sI (sI (sF (sF (sF (sF (sF σ 16 w3) 17 w4) 18 w5) 24 w6) 25 w7) 36 (nI w8)) 37 (σ.1 37)) 38 (σ.2.2.1 38)) 39 (σ.2.2.1 39))) (congrArg (cM g kk) (wrLi (S := (sL (sI (sI (sF (sF (sF (sF (sF σ 16 w3) 17 w4) 18 w5) 24 w6) 25 w7) 36 (nI w8)) 37 (σ.1 37)) 38 (σ.2.2.1 38))) (c := 39) (v := σ.2.2.1 39) (gtLL (by decide) (gtLI (gtLI (gtLF (gtLF (gtLF (gtLF (gtLF rfl)))))))))) ?_
        refine j_w (cM g kk (sL (sL (sL (sI (sI (sF (sF (sF (sF (sF σ 16 w3) 17 w4) 18 w5) 24 w6) 25 w7) 36 (nI w8)) 37 (σ.1 37)) 38 (σ.2.2.1 38)) 39 (σ.2.2.1 39)) 40 (σ.2.2.1 40))) (congrArg (cM g kk) (wrLi (S := (sL (sL (sI (sI (sF (sF (sF (sF (sF σ 16 w3) 17 w4) 18 w5) 24 w6) 25 w7) 36 (nI w8)) 37 (σ.1 37)) 38 (σ.2.2.1 38)) 39 (σ.2.2.1 39))) (c := 40) (v := σ.2.2.1 40) (gtLL (by decide) (gtLL (by decide) (gtLI (gtLI (gtLF (gtLF (gtLF (gtLF (gtLF rfl))))))))))) ?_
        exact j_iret C E (sL (sL (sL (sI (sI (sF (sF (sF (sF (sF σ 16 w3) 17 w4) 18 w5) 24 w6) 25 w7) 36 (nI w8)) 37 (σ.1 37)) 38 (σ.2.2.1 38)) 39 (σ.2.2.1 39)) 40 (σ.2.2.1 40)) ⟨_, rfl, ⟨w3, w4, w5, w6, w7, (nI w8), (σ.1 37), (σ.2.2.1 38), (σ.2.2.1 39), (σ.2.2.1 40), rfl⟩⟩ rfl dX11_chance_41
    · replace c2 := bI_f c2
      refine j_bipush C ((-2)) (by decide) dX11_chance_22 ?_
      refine j_w (cM g kk (sF σ 16 (σ.2.1 16))) (congrArg (cM g kk) (wrFi (S := σ) (c := 16) (v := σ.2.1 16) rfl)) ?_
      refine j_w (cM g kk (sF (sF σ 16 (σ.2.1 16)) 17 (σ.2.1 17))) (congrArg (cM g kk) (wrFi (S := (sF σ 16 (σ.2.1 16))) (c := 17) (v := σ.2.1 17) (gtFF (by decide) rfl))) ?_
      refine j_w (cM g kk (sF (sF (sF σ 16 (σ.2.1 16)) 17 (σ.2.1 17)) 18 (σ.2.1 18))) (congrArg (cM g kk) (wrFi (S := (sF (sF σ 16 (σ.2.1 16)) 17 (σ.2.1 17))) (c := 18) (v := σ.2.1 18) (gtFF (by decide) (gtFF (by decide) rfl)))) ?_
      refine j_w (cM g kk (sF (sF (sF (sF σ 16 (σ.2.1 16)) 17 (σ.2.1 17)) 18 (σ.2.1 18)) 24 (σ.2.1 24))) (congrArg (cM g kk) (wrFi (S := (sF (sF (sF σ 16 (σ.2.1 16)) 17 (σ.2.1 17)) 18 (σ.2.1 18))) (c := 24) (v := σ.2.1 24) (gtFF (by decide) (gtFF (by decide) (gtFF (by decide) rfl))))) ?_
      refine j_w (cM g kk (sF (sF (sF (sF (sF σ 16 (σ.2.1 16)) 17 (σ.2.1 17)) 18 (σ.2.1 18)) 24 (σ.2.1 24)) 25 (σ.2.1 25))) (congrArg (cM g kk) (wrFi (S := (sF (sF (sF (sF σ 16 (σ.2.1 16)) 17 (σ.2.1 17)) 18 (σ.2.1 18)) 24 (σ.2.1 24))) (c := 25) (v := σ.2.1 25) (gtFF (by decide) (gtFF (by decide) (gtFF (by decide) (gtFF (by decide) rfl)))))) ?_
      refine j_w (cM g kk (sI (sF (sF (sF (sF (sF σ 16 (σ.2.1 16)) 17 (σ.2.1 17)) 18 (σ.2.1 18)) 24 (σ.2.1 24)) 25 (σ.2.1 25)) 36 (σ.1 36))) (congrArg (cM g kk) (wrIi (S := (sF (sF (sF (sF (sF σ 16 (σ.2.1 16)) 17 (σ.2.1 17)) 18 (σ.2.1 18)) 24 (σ.2.1 24)) 25 (σ.2.1 25))) (c := 36) (v := σ.1 36) (gtIF (gtIF (gtIF (gtIF (gtIF rfl))))))) ?_
      refine j_w (cM g kk (sI (sI (sF (sF (sF (sF (sF σ 16 (σ.2.1 16)) 17 (σ.2.1 17)) 18 (σ.2.1 18)) 24 (σ.2.1 24)) 25 (σ.2.1 25)) 36 (σ.1 36)) 37 (σ.1 37))) (congrArg (cM g kk) (wrIi (S := (sI (sF (sF (sF (sF (sF σ 16 (σ.2.1 16)) 17 (σ.2.1 17)) 18 (σ.2.1 18)) 24 (σ.2.1 24)) 25 (σ.2.1 25)) 36 (σ.1 36))) (c := 37) (v := σ.1 37) (gtII (by decide) (gtIF (gtIF (gtIF (gtIF (gtIF rfl)))))))) ?_
      refine j_w (cM g kk (sL (sI (sI (sF (sF (sF (sF (sF σ 16 (σ.2.1 16)) 17 (σ.2.1 17)) 18 (σ.2.1 18)) 24 (σ.2.1 24)) 25 (σ.2.1 25)) 36 (σ.1 36)) 37 (σ.1 37)) 38 (σ.2.2.1 38))) (congrArg (cM g kk) (wrLi (S := (sI (sI (sF (sF (sF (sF (sF σ 16 (σ.2.1 16)) 17 (σ.2.1 17)) 18 (σ.2.1 18)) 24 (σ.2.1 24)) 25 (σ.2.1 25)) 36 (σ.1 36)) 37 (σ.1 37))) (c := 38) (v := σ.2.2.1 38) (gtLI (gtLI (gtLF (gtLF (gtLF (gtLF (gtLF rfl))))))))) ?_
      refine j_w (cM g kk (sL (sL (sI (sI (sF (sF (sF (sF (sF σ 16 (σ.2.1 16)) 17 (σ.2.1 17)) 18 (σ.2.1 18)) 24 (σ.2.1 24)) 25 (σ.2.1 25)) 36 (σ.1 36)) 37 (σ.1 37)) 38 (σ.2.2.1 38)) 39 (σ.2.2.1 39))) (congrArg (cM g kk) (wrLi (S := (sL (sI (sI (sF (sF (sF (sF (sF σ 16 (σ.2.1 16)) 17 (σ.2.1 17)) 18 (σ.2.1 18)) 24 (σ.2.1 24)) 25 (σ.2.1 25)) 36 (σ.1 36)) 37 (σ.1 37)) 38 (σ.2.2.1 38))) (c := 39) (v := σ.2.2.1 39) (gtLL (by decide) (gtLI (gtLI (gtLF (gtLF (gtLF (gtLF (gtLF rfl)))))))))) ?_
      refine j_w (cM g kk (sL (sL (sL (sI (sI (sF (sF (sF (sF (sF σ 16 (σ.2.1 16)) 17 (σ.2.1 17)) 18 (σ.2.1 18)) 24 (σ.2.1 24)) 25 (σ.2.1 25)) 36 (σ.1 36)) 37 (σ.1 37)) 38 (σ.2.2.1 38)) 39 (σ.2.2.1 39)) 40 (σ.2.2.1 40))) (congrArg (cM g kk) (wrLi (S := (sL (sL (sI (sI (sF (sF (sF (sF (sF σ 16 (σ.2.1 16)) 17 (σ.2.1 17)) 18 (σ.2.1 18)) 24 (σ.2.1 24)) 25 (σ.2.1 25)) 36 (σ.1 36)) 37 (σ.1 37)) 38 (σ.2.2.1 38)) 39 (σ.2.2.1 39))) (c := 40) (v := σ.2.2.1 40) (gtLL (by decide) (gtLL (by decide) (gtLI (gtLI (gtLF (gtLF (gtLF (gtLF (gtLF rfl))))))))))) ?_
      exact j_iret C E (sL (sL (sL (sI (sI (sF (sF (sF (sF (sF σ 16 (σ.2.1 16)) 17 (σ.2.1 17)) 18 (σ.2.1 18)) 24 (σ.2.1 24)) 25 (σ.2.1 25)) 36 (σ.1 36)) 37 (σ.1 37)) 38 (σ.2.2.1 38)) 39 (σ.2.2.1 39)) 40 (σ.2.2.1 40)) ⟨_, rfl, ⟨(σ.2.1 16), (σ.2.1 17), (σ.2.1 18), (σ.2.1 24), (σ.2.1 25), (σ.1 36), (σ.1 37), (σ.2.2.1 38), (σ.2.2.1 39), (σ.2.2.1 40), rfl⟩⟩ rfl dX11_chance_24
  · replace c1 := bI_f c1
    refine j_iconst C ((-1)) (by decide) dX11_chance_8 ?_
    refine j_w (cM g kk (sF σ 16 (σ.2.1 16))) (congrArg (cM g kk) (wrFi (S := σ) (c := 16) (v := σ.2.1 16) rfl)) ?_
    refine j_w (cM g kk (sF (sF σ 16 (σ.2.1 16)) 17 (σ.2.1 17))) (congrArg (cM g kk) (wrFi (S := (sF σ 16 (σ.2.1 16))) (c := 17) (v := σ.2.1 17) (gtFF (by decide) rfl))) ?_
    refine j_w (cM g kk (sF (sF (sF σ 16 (σ.2.1 16)) 17 (σ.2.1 17)) 18 (σ.2.1 18))) (congrArg (cM g kk) (wrFi (S := (sF (sF σ 16 (σ.2.1 16)) 17 (σ.2.1 17))) (c := 18) (v := σ.2.1 18) (gtFF (by decide) (gtFF (by decide) rfl)))) ?_
    refine j_w (cM g kk (sF (sF (sF (sF σ 16 (σ.2.1 16)) 17 (σ.2.1 17)) 18 (σ.2.1 18)) 24 (σ.2.1 24))) (congrArg (cM g kk) (wrFi (S := (sF (sF (sF σ 16 (σ.2.1 16)) 17 (σ.2.1 17)) 18 (σ.2.1 18))) (c := 24) (v := σ.2.1 24) (gtFF (by decide) (gtFF (by decide) (gtFF (by decide) rfl))))) ?_
    refine j_w (cM g kk (sF (sF (sF (sF (sF σ 16 (σ.2.1 16)) 17 (σ.2.1 17)) 18 (σ.2.1 18)) 24 (σ.2.1 24)) 25 (σ.2.1 25))) (congrArg (cM g kk) (wrFi (S := (sF (sF (sF (sF σ 16 (σ.2.1 16)) 17 (σ.2.1 17)) 18 (σ.2.1 18)) 24 (σ.2.1 24))) (c := 25) (v := σ.2.1 25) (gtFF (by decide) (gtFF (by decide) (gtFF (by decide) (gtFF (by decide) rfl)))))) ?_
    refine j_w (cM g kk (sI (sF (sF (sF (sF (sF σ 16 (σ.2.1 16)) 17 (σ.2.1 17)) 18 (σ.2.1 18)) 24 (σ.2.1 24)) 25 (σ.2.1 25)) 36 (σ.1 36))) (congrArg (cM g kk) (wrIi (S := (sF (sF (sF (sF (sF σ 16 (σ.2.1 16)) 17 (σ.2.1 17)) 18 (σ.2.1 18)) 24 (σ.2.1 24)) 25 (σ.2.1 25))) (c := 36) (v := σ.1 36) (gtIF (gtIF (gtIF (gtIF (gtIF rfl))))))) ?_
    refine j_w (cM g kk (sI (sI (sF (sF (sF (sF (sF σ 16 (σ.2.1 16)) 17 (σ.2.1 17)) 18 (σ.2.1 18)) 24 (σ.2.1 24)) 25 (σ.2.1 25)) 36 (σ.1 36)) 37 (σ.1 37))) (congrArg (cM g kk) (wrIi (S := (sI (sF (sF (sF (sF (sF σ 16 (σ.2.1 16)) 17 (σ.2.1 17)) 18 (σ.2.1 18)) 24 (σ.2.1 24)) 25 (σ.2.1 25)) 36 (σ.1 36))) (c := 37) (v := σ.1 37) (gtII (by decide) (gtIF (gtIF (gtIF (gtIF (gtIF rfl)))))))) ?_
    refine j_w (cM g kk (sL (sI (sI (sF (sF (sF (sF (sF σ 16 (σ.2.1 16)) 17 (σ.2.1 17)) 18 (σ.2.1 18)) 24 (σ.2.1 24)) 25 (σ.2.1 25)) 36 (σ.1 36)) 37 (σ.1 37)) 38 (σ.2.2.1 38))) (congrArg (cM g kk) (wrLi (S := (sI (sI (sF (sF (sF (sF (sF σ 16 (σ.2.1 16)) 17 (σ.2.1 17)) 18 (σ.2.1 18)) 24 (σ.2.1 24)) 25 (σ.2.1 25)) 36 (σ.1 36)) 37 (σ.1 37))) (c := 38) (v := σ.2.2.1 38) (gtLI (gtLI (gtLF (gtLF (gtLF (gtLF (gtLF rfl))))))))) ?_
    refine j_w (cM g kk (sL (sL (sI (sI (sF (sF (sF (sF (sF σ 16 (σ.2.1 16)) 17 (σ.2.1 17)) 18 (σ.2.1 18)) 24 (σ.2.1 24)) 25 (σ.2.1 25)) 36 (σ.1 36)) 37 (σ.1 37)) 38 (σ.2.2.1 38)) 39 (σ.2.2.1 39))) (congrArg (cM g kk) (wrLi (S := (sL (sI (sI (sF (sF (sF (sF (sF σ 16 (σ.2.1 16)) 17 (σ.2.1 17)) 18 (σ.2.1 18)) 24 (σ.2.1 24)) 25 (σ.2.1 25)) 36 (σ.1 36)) 37 (σ.1 37)) 38 (σ.2.2.1 38))) (c := 39) (v := σ.2.2.1 39) (gtLL (by decide) (gtLI (gtLI (gtLF (gtLF (gtLF (gtLF (gtLF rfl)))))))))) ?_
    refine j_w (cM g kk (sL (sL (sL (sI (sI (sF (sF (sF (sF (sF σ 16 (σ.2.1 16)) 17 (σ.2.1 17)) 18 (σ.2.1 18)) 24 (σ.2.1 24)) 25 (σ.2.1 25)) 36 (σ.1 36)) 37 (σ.1 37)) 38 (σ.2.2.1 38)) 39 (σ.2.2.1 39)) 40 (σ.2.2.1 40))) (congrArg (cM g kk) (wrLi (S := (sL (sL (sI (sI (sF (sF (sF (sF (sF σ 16 (σ.2.1 16)) 17 (σ.2.1 17)) 18 (σ.2.1 18)) 24 (σ.2.1 24)) 25 (σ.2.1 25)) 36 (σ.1 36)) 37 (σ.1 37)) 38 (σ.2.2.1 38)) 39 (σ.2.2.1 39))) (c := 40) (v := σ.2.2.1 40) (gtLL (by decide) (gtLL (by decide) (gtLI (gtLI (gtLF (gtLF (gtLF (gtLF (gtLF rfl))))))))))) ?_
    exact j_iret C E (sL (sL (sL (sI (sI (sF (sF (sF (sF (sF σ 16 (σ.2.1 16)) 17 (σ.2.1 17)) 18 (σ.2.1 18)) 24 (σ.2.1 24)) 25 (σ.2.1 25)) 36 (σ.1 36)) 37 (σ.1 37)) 38 (σ.2.2.1 38)) 39 (σ.2.2.1 39)) 40 (σ.2.2.1 40)) ⟨_, rfl, ⟨(σ.2.1 16), (σ.2.1 17), (σ.2.1 18), (σ.2.1 24), (σ.2.1 25), (σ.1 36), (σ.1 37), (σ.2.2.1 38), (σ.2.2.1 39), (σ.2.2.1 40), rfl⟩⟩ rfl dX11_chance_9
set_option maxRecDepth 100000 in
set_option maxHeartbeats 4000000 in
theorem n_hold (g kk : Nat → Nat) (σ : St) (k : Nat) (hk : σ.1 3 = nI k) (hk6 : k ≤ 6) (hI : iM σ)  (a : Int32) (b : Int32) (c : Int32) : jM (S := St) yX11_hold cX11_hold 6 none { frames := 0, cells := 0, slots := 0, locals := 0 } kk (cM g kk σ) [.ref (g 0), .int a, .int b, .int c] (cM g kk) (rV (fun u : St => ∃ (pI47 : Int32) (pI48 : Int32), u = sI (sI σ 47 pI47) 48 pI48)) := by
  refine j_entry [(0, .ref (g 0)), (1, .int a), (2, .int b), (3, .int c)] (by decide) (Nat.le_of_ble_eq_true rfl) rfl ?_
  intro X C E HI
  refine j_iload_n C 1 rfl dX11_hold_0 ?_
  refine j_aload_n C 0 rfl dX11_hold_1 ?_
  refine gM_0_12 C tb_885 (σ.1 12) rfl dX11_hold_2 ?_
  refine j_iload_n C 3 rfl dX11_hold_5 ?_
  refine j_imul C dX11_hold_6 ?_
  refine j_isub C dX11_hold_7 ?_
  refine j_istore C [(4, .int (a - ((σ.1 12) * c))), (0, .ref (g 0)), (1, .int a), (2, .int b), (3, .int c)] (by decide) rfl dX11_hold_8 ?_
  refine j_iload_n C 3 rfl dX11_hold_10 ?_
  refine j_aload_n C 1 rfl dX11_hold_11 ?_
  refine gM_0_12 C tb_885 (σ.1 12) rfl dX11_hold_12 ?_
  refine j_iload_n C 4 rfl dX11_hold_15 ?_
  refine j_imul C dX11_hold_16 ?_
  refine j_iadd C dX11_hold_17 ?_
  refine j_istore C [(5, .int (b + ((σ.1 12) * c))), (4, .int (a - ((σ.1 12) * c))), (0, .ref (g 0)), (1, .int a), (2, .int b), (3, .int c)] (by decide) rfl dX11_hold_18 ?_
  refine j_aload_n C 2 rfl dX11_hold_20 ?_
  refine j_iload C 1 rfl dX11_hold_21 ?_
  refine j_aload_n C 2 rfl dX11_hold_23 ?_
  refine gM_0_47 C tb_920 (σ.1 47) rfl dX11_hold_24 ?_
  refine j_icmp_le C 35 (by decide) dX11_hold_27 (fun c1 => ?_) (fun c1 => ?_)
  · refine j_aload_n C 2 rfl dX11_hold_35 ?_
    refine gM_0_47 C tb_920 (σ.1 47) rfl dX11_hold_36 ?_
    refine pM_0_47 C tb_920 dX11_hold_39 ?_
    refine j_aload_n C 2 rfl dX11_hold_42 ?_
    refine j_iload C 0 rfl dX11_hold_43 ?_
    refine j_aload_n C 2 rfl dX11_hold_45 ?_
    refine gM_0_48 C tb_921 (σ.1 48) rfl dX11_hold_46 ?_
    refine j_icmp_ge C 57 (by decide) dX11_hold_49 (fun c2 => ?_) (fun c2 => ?_)
    · refine j_aload_n C 2 rfl dX11_hold_57 ?_
      refine gM_0_48 C tb_921 (σ.1 48) rfl dX11_hold_58 ?_
      refine pM_0_48 C tb_921 dX11_hold_61 ?_
      exact j_vret C E (sI (sI σ 47 (σ.1 47)) 48 (σ.1 48)) ⟨rfl, ⟨(σ.1 47), (σ.1 48), rfl⟩⟩ rfl dX11_hold_64
    · refine j_iload C 0 rfl dX11_hold_52 ?_
      refine j_goto C 61 (by decide) dX11_hold_54 ?_
      refine pM_0_48 C tb_921 dX11_hold_61 ?_
      exact j_vret C E (sI (sI σ 47 (σ.1 47)) 48 (b + ((σ.1 12) * c))) ⟨rfl, ⟨(σ.1 47), (b + ((σ.1 12) * c)), rfl⟩⟩ rfl dX11_hold_64
  · refine j_iload C 1 rfl dX11_hold_30 ?_
    refine j_goto C 39 (by decide) dX11_hold_32 ?_
    refine pM_0_47 C tb_920 dX11_hold_39 ?_
    refine j_aload_n C 2 rfl dX11_hold_42 ?_
    refine j_iload C 0 rfl dX11_hold_43 ?_
    refine j_aload_n C 2 rfl dX11_hold_45 ?_
    refine gM_0_48 C tb_921 (σ.1 48) rfl dX11_hold_46 ?_
    refine j_icmp_ge C 57 (by decide) dX11_hold_49 (fun c3 => ?_) (fun c3 => ?_)
    · refine j_aload_n C 2 rfl dX11_hold_57 ?_
      refine gM_0_48 C tb_921 (σ.1 48) rfl dX11_hold_58 ?_
      refine pM_0_48 C tb_921 dX11_hold_61 ?_
      exact j_vret C E (sI (sI σ 47 (a - ((σ.1 12) * c))) 48 (σ.1 48)) ⟨rfl, ⟨(a - ((σ.1 12) * c)), (σ.1 48), rfl⟩⟩ rfl dX11_hold_64
    · refine j_iload C 0 rfl dX11_hold_52 ?_
      refine j_goto C 61 (by decide) dX11_hold_54 ?_
      refine pM_0_48 C tb_921 dX11_hold_61 ?_
      exact j_vret C E (sI (sI σ 47 (a - ((σ.1 12) * c))) 48 (b + ((σ.1 12) * c))) ⟨rfl, ⟨(a - ((σ.1 12) * c)), (b + ((σ.1 12) * c)), rfl⟩⟩ rfl dX11_hold_64
set_option maxRecDepth 100000 in
set_option maxHeartbeats 4000000 in
theorem n_findBound (g kk : Nat → Nat) (σ : St) (k : Nat) (hk : σ.1 3 = nI k) (hk6 : k ≤ 6) (hI : iM σ)  (d : Nat) (hd0 : d < 28) (x : Int32) (y : Int32) : jM (S := St) yX11_findBound cX11_findBound 6 (some .boolean) { frames := 1, cells := 0, slots := 0, locals := 25 } kk (cM g kk σ) [.ref (g 0), .int (nI d), .int x, .int y] (cM g kk) (rI (fun (r : Int32) (u : St) => ∃ (pI47 : Int32) (pI48 : Int32), u = sI (sI σ 47 pI47) 48 pI48)) := by
  refine j_entry [(0, .ref (g 0)), (1, .int (nI d)), (2, .int x), (3, .int y)] (by decide) (Nat.le_of_ble_eq_true rfl) rfl ?_
  intro X C E HI
  obtain ⟨ra, hra, era⟩ := id hI.rad
  refine j_aload_n C 0 rfl dX11_findBound_0 ?_
  refine j_iconst C (nI 0) (by decide) dX11_findBound_1 ?_
  refine pM_0_47 C tb_920 dX11_findBound_2 ?_
  refine j_aload_n C 0 rfl dX11_findBound_5 ?_
  refine j_sipush C (nI 9999) (by decide) dX11_findBound_6 ?_
  refine pM_0_48 C tb_921 dX11_findBound_9 ?_
  refine j_iconst C (nI 0) (by decide) dX11_findBound_12 ?_
  refine j_istore C [(4, .int (nI 0)), (0, .ref (g 0)), (1, .int (nI d)), (2, .int x), (3, .int y)] (by decide) rfl dX11_findBound_13 ?_
  have L15 : ∀ (n15 : Nat) (i : Nat) (z15_I47 : Int32) (z15_I48 : Int32) (i15_0 : i ≤ k) (hm15 : k - i < n15), J X 0 0 (cM g kk (sI (sI σ 47 z15_I47) 48 z15_I48)) [(4, .int (nI i)), (0, .ref (g 0)), (1, .int (nI d)), (2, .int x), (3, .int y)] 15 [] := by
    intro n15
    induction n15 with
    | zero => intro i z15_I47 z15_I48 i15_0 hm; exact absurd hm (Nat.not_lt_zero _)
    | succ n15 ih15 =>
      intro i z15_I47 z15_I48 i15_0 hm15
      refine j_iload C 0 rfl dX11_findBound_15 ?_
      refine j_aload_n C 1 rfl dX11_findBound_17 ?_
      refine gM_0_3 C tb_876 (nI k) hk dX11_findBound_18 ?_
      refine j_icmp_geN C 79 (by decide) (by omega) (by omega) dX11_findBound_21 (fun c1 => ?_) (fun c1 => ?_)
      · refine j_iconst C (nI 0) (by decide) dX11_findBound_79 ?_
        refine j_istore C [(4, .int (nI 0)), (0, .ref (g 0)), (1, .int (nI d)), (2, .int x), (3, .int y)] (by decide) rfl dX11_findBound_80 ?_
        have L82 : ∀ (n82 : Nat) (j : Nat) (z82_I47 : Int32) (z82_I48 : Int32) (i82_0 : j ≤ ra) (hm82 : ra - j < n82), J X 0 0 (cM g kk (sI (sI σ 47 z82_I47) 48 z82_I48)) [(4, .int (nI j)), (0, .ref (g 0)), (1, .int (nI d)), (2, .int x), (3, .int y)] 82 [] := by
          intro n82
          induction n82 with
          | zero => intro j z82_I47 z82_I48 i82_0 hm; exact absurd hm (Nat.not_lt_zero _)
          | succ n82 ih82 =>
            intro j z82_I47 z82_I48 i82_0 hm82
            refine j_iload C 0 rfl dX11_findBound_82 ?_
            refine j_aload_n C 1 rfl dX11_findBound_84 ?_
            refine gM_0_46 C tb_919 (nI ra) era dX11_findBound_85 ?_
            refine j_icmp_geN C 149 (by decide) (by omega) (by omega) dX11_findBound_88 (fun c2 => ?_) (fun c2 => ?_)
            · refine j_aload_n C 1 rfl dX11_findBound_149 ?_
              refine gM_0_47 C tb_920 (z82_I47) rfl dX11_findBound_150 ?_
              refine j_aload_n C 1 rfl dX11_findBound_153 ?_
              refine gM_0_48 C tb_921 (z82_I48) rfl dX11_findBound_154 ?_
              refine j_icmp_gt C 164 (by decide) dX11_findBound_157 (fun c3 => ?_) (fun c3 => ?_)
              · refine j_iconst C (nI 0) (by decide) dX11_findBound_164 ?_
                exact j_zret C E (by first | rfl | decide) (sI (sI σ 47 z82_I47) 48 z82_I48) ⟨_, rfl, ⟨z82_I47, z82_I48, rfl⟩⟩ rfl dX11_findBound_165
              · refine j_iconst C (nI 1) (by decide) dX11_findBound_160 ?_
                refine j_goto C 165 (by decide) dX11_findBound_161 ?_
                exact j_zret C E (by first | rfl | decide) (sI (sI σ 47 z82_I47) 48 z82_I48) ⟨_, rfl, ⟨z82_I47, z82_I48, rfl⟩⟩ rfl dX11_findBound_165
            · refine j_aload_n C 1 rfl dX11_findBound_91 ?_
              refine gM_0_41 C tb_914 dX11_findBound_92 ?_
              refine j_iload C 0 rfl dX11_findBound_95 ?_
              refine rM_26 C j rfl (by omega) ((σ.2.1 26) j) rfl dX11_findBound_97 ?_
              refine j_iload_n C 2 rfl dX11_findBound_98 ?_
              refine j_icmp_ne C 143 (by decide) dX11_findBound_99 (fun c4 => ?_) (fun c4 => ?_)
              · refine j_iinc C (nI (j + 1)) [(4, .int (nI (j + 1))), (0, .ref (g 0)), (1, .int (nI d)), (2, .int x), (3, .int y)] 0 rfl (by rw [show Int32.ofInt 1 = nI 1 from by decide, nI_add]) (by decide) rfl dX11_findBound_143 ?_
                refine j_goto C 82 (by decide) dX11_findBound_146 ?_
                exact ih82 (j + 1) z82_I47 z82_I48 (by omega) (by omega)
              · refine j_aload_n C 1 rfl dX11_findBound_102 ?_
                refine j_aload_n C 1 rfl dX11_findBound_103 ?_
                refine gM_0_44 C tb_917 dX11_findBound_104 ?_
                refine j_iload C 0 rfl dX11_findBound_107 ?_
                refine rM_29 C j rfl (by omega) ((σ.2.1 29) j) rfl dX11_findBound_109 ?_
                refine j_aload_n C 1 rfl dX11_findBound_110 ?_
                refine gM_0_45 C tb_918 dX11_findBound_111 ?_
                refine j_iload C 0 rfl dX11_findBound_114 ?_
                refine rM_30 C j rfl (by omega) ((σ.2.1 30) j) rfl dX11_findBound_116 ?_
                refine j_aload_n C 1 rfl dX11_findBound_117 ?_
                refine gM_0_42 C tb_915 dX11_findBound_118 ?_
                refine j_iload C 0 rfl dX11_findBound_121 ?_
                refine rM_27 C j rfl (by omega) ((σ.2.1 27) j) rfl dX11_findBound_123 ?_
                refine j_iload_n C 3 rfl dX11_findBound_124 ?_
                refine j_S01 C (m_off ((σ.2.1 27) j) x) kyX11_off tb_1155 tb_1156 rfl (Nat.le_of_ble_eq_true rfl) ⟨by decide, by decide⟩ ⟨by decide, by decide⟩ dX11_findBound_125 rfl ?_
                refine j_top (fun v5 => ?_)
                refine j_aload_n C 1 rfl dX11_findBound_128 ?_
                refine gM_0_43 C tb_916 dX11_findBound_129 ?_
                refine j_iload C 0 rfl dX11_findBound_132 ?_
                refine rM_28 C j rfl (by omega) ((σ.2.1 28) j) rfl dX11_findBound_134 ?_
                refine j_iload_n C 4 rfl dX11_findBound_135 ?_
                refine j_S01 C (m_off ((σ.2.1 28) j) y) kyX11_off tb_1155 tb_1156 rfl (Nat.le_of_ble_eq_true rfl) ⟨by decide, by decide⟩ ⟨by decide, by decide⟩ dX11_findBound_136 rfl ?_
                refine j_top (fun v6 => ?_)
                refine j_iadd C dX11_findBound_139 ?_
                refine j_V1 C (n_hold g kk (sI (sI σ 47 z82_I47) 48 z82_I48) k hk hk6 hI  ((σ.2.1 29) j) ((σ.2.1 30) j) (v5 + v6)) kyX11_hold tb_1241 tb_1243 sp_40 0 rfl (eM_0 g kk _) rfl (Nat.le_of_ble_eq_true rfl) ⟨by decide, by decide⟩ dX11_findBound_140 rfl (fun vr ur hp => ?_)
                obtain ⟨rfl, w7, w8, hu⟩ := hp
                replace hu := hu.symm
                subst hu
                refine j_iinc C (nI (j + 1)) [(4, .int (nI (j + 1))), (0, .ref (g 0)), (1, .int (nI d)), (2, .int x), (3, .int y)] 0 rfl (by rw [show Int32.ofInt 1 = nI 1 from by decide, nI_add]) (by decide) rfl dX11_findBound_143 ?_
                refine j_goto C 82 (by decide) dX11_findBound_146 ?_
                refine j_w (cM g kk (sI (sI σ 47 w7) 48 w8)) (congrArg (cM g kk) (show sI (sI (sI (sI σ 47 z82_I47) 48 z82_I48) 47 w7) 48 w8 = sI (sI σ 47 w7) 48 w8 from (Eq.trans (wrI (Eq.trans (wrIc (by decide)) (wrI wrIs))) wrIs))) ?_
                exact ih82 (j + 1) w7 w8 (by omega) (by omega)
        exact L82 _ 0 z15_I47 z15_I48 (by omega) (Nat.lt_succ_self _)
      · refine j_aload_n C 1 rfl dX11_findBound_24 ?_
        refine gM_0_24 C tb_897 dX11_findBound_25 ?_
        refine j_iload C 0 rfl dX11_findBound_28 ?_
        refine j_iload_n C 2 rfl dX11_findBound_30 ?_
        refine j_S01 C (m_at i d) kyX11_at tb_1060 tb_1061 rfl (Nat.le_of_ble_eq_true rfl) ⟨by decide, by decide⟩ ⟨by decide, by decide⟩ dX11_findBound_31 rfl ?_
        refine rM_18 C (28 * i + d) rfl (by omega) ((σ.2.1 18) (28 * i + d)) rfl dX11_findBound_34 ?_
        refine j_istore C [(5, .int ((σ.2.1 18) (28 * i + d))), (4, .int (nI i)), (0, .ref (g 0)), (1, .int (nI d)), (2, .int x), (3, .int y)] (by decide) rfl dX11_findBound_35 ?_
        refine j_iload C 0 rfl dX11_findBound_37 ?_
        refine j_if_lt C 73 (by decide) dX11_findBound_39 (fun c9 => ?_) (fun c9 => ?_)
        · refine j_iinc C (nI (i + 1)) [(4, .int (nI (i + 1))), (5, .int ((σ.2.1 18) (28 * i + d))), (0, .ref (g 0)), (1, .int (nI d)), (2, .int x), (3, .int y)] 1 rfl (by rw [show Int32.ofInt 1 = nI 1 from by decide, nI_add]) (by decide) rfl dX11_findBound_73 ?_
          refine j_goto C 15 (by decide) dX11_findBound_76 ?_
          refine j_sub (lv' := [(4, .int (nI (i + 1))), (0, .ref (g 0)), (1, .int (nI d)), (2, .int x), (3, .int y)]) [0, 2, 3, 4, 5] rfl ?_
          exact ih15 (i + 1) z15_I47 z15_I48 (by omega) (by omega)
        · refine j_aload_n C 2 rfl dX11_findBound_42 ?_
          refine j_iload C 0 rfl dX11_findBound_43 ?_
          refine j_iload C 0 rfl dX11_findBound_45 ?_
          refine j_aload_n C 2 rfl dX11_findBound_47 ?_
          refine gM_0_0 C tb_873 dX11_findBound_48 ?_
          refine j_iload C 1 rfl dX11_findBound_51 ?_
          refine rM_1 C i rfl (by omega) ((σ.2.1 1) i) rfl dX11_findBound_53 ?_
          refine j_iload_n C 4 rfl dX11_findBound_54 ?_
          refine j_S01 C (m_off ((σ.2.1 1) i) x) kyX11_off tb_1155 tb_1156 rfl (Nat.le_of_ble_eq_true rfl) ⟨by decide, by decide⟩ ⟨by decide, by decide⟩ dX11_findBound_55 rfl ?_
          refine j_top (fun v10 => ?_)
          refine j_aload_n C 2 rfl dX11_findBound_58 ?_
          refine gM_0_1 C tb_874 dX11_findBound_59 ?_
          refine j_iload C 1 rfl dX11_findBound_62 ?_
          refine rM_2 C i rfl (by omega) ((σ.2.1 2) i) rfl dX11_findBound_64 ?_
          refine j_iload_n C 5 rfl dX11_findBound_65 ?_
          refine j_S01 C (m_off ((σ.2.1 2) i) y) kyX11_off tb_1155 tb_1156 rfl (Nat.le_of_ble_eq_true rfl) ⟨by decide, by decide⟩ ⟨by decide, by decide⟩ dX11_findBound_66 rfl ?_
          refine j_top (fun v11 => ?_)
          refine j_iadd C dX11_findBound_69 ?_
          refine j_V1 C (n_hold g kk (sI (sI σ 47 z15_I47) 48 z15_I48) k hk hk6 hI  ((σ.2.1 18) (28 * i + d)) ((σ.2.1 18) (28 * i + d)) (v10 + v11)) kyX11_hold tb_1241 tb_1243 sp_40 0 rfl (eM_0 g kk _) rfl (Nat.le_of_ble_eq_true rfl) ⟨by decide, by decide⟩ dX11_findBound_70 rfl (fun vr ur hp => ?_)
          obtain ⟨rfl, w12, w13, hu⟩ := hp
          replace hu := hu.symm
          subst hu
          refine j_iinc C (nI (i + 1)) [(4, .int (nI (i + 1))), (5, .int ((σ.2.1 18) (28 * i + d))), (0, .ref (g 0)), (1, .int (nI d)), (2, .int x), (3, .int y)] 1 rfl (by rw [show Int32.ofInt 1 = nI 1 from by decide, nI_add]) (by decide) rfl dX11_findBound_73 ?_
          refine j_goto C 15 (by decide) dX11_findBound_76 ?_
          refine j_sub (lv' := [(4, .int (nI (i + 1))), (0, .ref (g 0)), (1, .int (nI d)), (2, .int x), (3, .int y)]) [0, 2, 3, 4, 5] rfl ?_
          refine j_w (cM g kk (sI (sI σ 47 w12) 48 w13)) (congrArg (cM g kk) (show sI (sI (sI (sI σ 47 z15_I47) 48 z15_I48) 47 w12) 48 w13 = sI (sI σ 47 w12) 48 w13 from (Eq.trans (wrI (Eq.trans (wrIc (by decide)) (wrI wrIs))) wrIs))) ?_
          exact ih15 (i + 1) w12 w13 (by omega) (by omega)
  exact L15 _ 0 (nI 0) (nI 9999) (by omega) (Nat.lt_succ_self _)
set_option maxRecDepth 100000 in
set_option maxHeartbeats 4000000 in
theorem n_bound (g kk : Nat → Nat) (σ : St) (k : Nat) (hk : σ.1 3 = nI k) (hk6 : k ≤ 6) (hI : iM σ)  (x : Int32) (y : Int32) (z : Int32) (w : Int32) : jM (S := St) yX11_bound cX11_bound 5 (some .int) { frames := 6, cells := 0, slots := 0, locals := 141 } kk (cM g kk σ) [.ref (g 0), .int x, .int y, .int z, .int w] (cM g kk) (rI (fun (r : Int32) (u : St) => ∃ (pF16 : Nat → Int32) (pF17 : Nat → Int32) (pF18 : Nat → Int32) (pI47 : Int32) (pI48 : Int32), u = sI (sI (sF (sF (sF σ 16 pF16) 17 pF17) 18 pF18) 47 pI47) 48 pI48)) := by
  refine j_entry [(0, .ref (g 0)), (1, .int x), (2, .int y), (3, .int z), (4, .int w)] (by decide) (Nat.le_of_ble_eq_true rfl) rfl ?_
  intro X C E HI
  refine j_iload_n C 1 rfl dX11_bound_0 ?_
  refine j_S01 C (m_isDay x) kyX11_isDay tb_1077 tb_1078 rfl (Nat.le_of_ble_eq_true rfl) ⟨by decide, by decide⟩ ⟨by decide, by decide⟩ dX11_bound_1 rfl ?_
  refine j_if_ne C 9 (by decide) dX11_bound_4 (fun c1 => ?_) (fun c1 => ?_)
  · replace c1 := bI_t c1
    obtain ⟨xn, xn1, xn2, rfl⟩ := wB_nat (by decide) (by decide) c1
    refine j_iload_n C 2 rfl dX11_bound_9 ?_
    refine j_iload_n C 3 rfl dX11_bound_10 ?_
    refine j_S01 C (m_isPlace y z) kyX11_isPlace tb_1053 tb_1054 rfl (Nat.le_of_ble_eq_true rfl) ⟨by decide, by decide⟩ ⟨by decide, by decide⟩ dX11_bound_11 rfl ?_
    refine j_if_eq C 25 (by decide) dX11_bound_14 (fun c2 => ?_) (fun c2 => ?_)
    · replace c2 := bI_f c2
      refine j_bipush C ((-2)) (by decide) dX11_bound_25 ?_
      refine j_w (cM g kk (sF σ 16 (σ.2.1 16))) (congrArg (cM g kk) (wrFi (S := σ) (c := 16) (v := σ.2.1 16) rfl)) ?_
      refine j_w (cM g kk (sF (sF σ 16 (σ.2.1 16)) 17 (σ.2.1 17))) (congrArg (cM g kk) (wrFi (S := (sF σ 16 (σ.2.1 16))) (c := 17) (v := σ.2.1 17) (gtFF (by decide) rfl))) ?_
      refine j_w (cM g kk (sF (sF (sF σ 16 (σ.2.1 16)) 17 (σ.2.1 17)) 18 (σ.2.1 18))) (congrArg (cM g kk) (wrFi (S := (sF (sF σ 16 (σ.2.1 16)) 17 (σ.2.1 17))) (c := 18) (v := σ.2.1 18) (gtFF (by decide) (gtFF (by decide) rfl)))) ?_
      refine j_w (cM g kk (sI (sF (sF (sF σ 16 (σ.2.1 16)) 17 (σ.2.1 17)) 18 (σ.2.1 18)) 47 (σ.1 47))) (congrArg (cM g kk) (wrIi (S := (sF (sF (sF σ 16 (σ.2.1 16)) 17 (σ.2.1 17)) 18 (σ.2.1 18))) (c := 47) (v := σ.1 47) (gtIF (gtIF (gtIF rfl))))) ?_
      refine j_w (cM g kk (sI (sI (sF (sF (sF σ 16 (σ.2.1 16)) 17 (σ.2.1 17)) 18 (σ.2.1 18)) 47 (σ.1 47)) 48 (σ.1 48))) (congrArg (cM g kk) (wrIi (S := (sI (sF (sF (sF σ 16 (σ.2.1 16)) 17 (σ.2.1 17)) 18 (σ.2.1 18)) 47 (σ.1 47))) (c := 48) (v := σ.1 48) (gtII (by decide) (gtIF (gtIF (gtIF rfl)))))) ?_
      exact j_iret C E (sI (sI (sF (sF (sF σ 16 (σ.2.1 16)) 17 (σ.2.1 17)) 18 (σ.2.1 18)) 47 (σ.1 47)) 48 (σ.1 48)) ⟨_, rfl, ⟨(σ.2.1 16), (σ.2.1 17), (σ.2.1 18), (σ.1 47), (σ.1 48), rfl⟩⟩ rfl dX11_bound_27
    · replace c2 := bI_t c2
      refine j_iload C 4 rfl dX11_bound_17 ?_
      refine j_S01 C (m_isEnd w) kyX11_isEnd tb_1234 tb_1235 rfl (Nat.le_of_ble_eq_true rfl) ⟨by decide, by decide⟩ ⟨by decide, by decide⟩ dX11_bound_19 rfl ?_
      refine j_if_ne C 28 (by decide) dX11_bound_22 (fun c3 => ?_) (fun c3 => ?_)
      · replace c3 := bI_t c3
        obtain ⟨wn, wn1, wn2, rfl⟩ := wB_nat (by decide) (by decide) c3
        refine j_aload_n C 0 rfl dX11_bound_28 ?_
        refine j_V1 C (n_findAll g kk σ k hk hk6 hI  ) kyX11_findAll tb_1131 tb_1133 sp_24 0 rfl (eM_0 g kk _) rfl (Nat.le_of_ble_eq_true rfl) ⟨by decide, by decide⟩ dX11_bound_29 rfl (fun vr ur hp => ?_)
        obtain ⟨rfl, w4, w5, w6, hu⟩ := hp
        replace hu := hu.symm
        subst hu
        refine j_aload_n C 0 rfl dX11_bound_32 ?_
        refine j_iload_n C 1 rfl dX11_bound_33 ?_
        refine j_iload_n C 2 rfl dX11_bound_34 ?_
        refine j_iload_n C 3 rfl dX11_bound_35 ?_
        refine j_V1 C (n_findBound g kk (sF (sF (sF σ 16 w4) 17 w5) 18 w6) k hk hk6 hI  xn (by first | assumption | omega) y z) kyX11_findBound tb_1237 tb_1239 sp_39 0 rfl (eM_0 g kk _) rfl (Nat.le_of_ble_eq_true rfl) ⟨by decide, by decide⟩ dX11_bound_36 rfl (fun vr ur hp => ?_)
        obtain ⟨r9, rfl, w7, w8, hu⟩ := hp
        replace hu := hu.symm
        subst hu
        refine j_if_ne C 47 (by decide) dX11_bound_39 (fun c10 => ?_) (fun c10 => ?_)
        · refine j_iload C 4 rfl dX11_bound_47 ?_
          refine j_if_neN C 59 (by decide) (by omega) dX11_bound_49 (fun c11 => ?_) (fun c11 => ?_)
          · refine j_aload_n C 0 rfl dX11_bound_59 ?_
            refine gM_0_48 C tb_921 (w8) rfl dX11_bound_60 ?_
            exact j_iret C E (sI (sI (sF (sF (sF σ 16 w4) 17 w5) 18 w6) 47 w7) 48 w8) ⟨_, rfl, ⟨w4, w5, w6, w7, w8, rfl⟩⟩ rfl dX11_bound_63
          · refine j_aload_n C 0 rfl dX11_bound_52 ?_
            refine gM_0_47 C tb_920 (w7) rfl dX11_bound_53 ?_
            refine j_goto C 63 (by decide) dX11_bound_56 ?_
            exact j_iret C E (sI (sI (sF (sF (sF σ 16 w4) 17 w5) 18 w6) 47 w7) 48 w8) ⟨_, rfl, ⟨w4, w5, w6, w7, w8, rfl⟩⟩ rfl dX11_bound_63
        · refine j_bipush C ((-5)) (by decide) dX11_bound_42 ?_
          refine j_goto C 63 (by decide) dX11_bound_44 ?_
          exact j_iret C E (sI (sI (sF (sF (sF σ 16 w4) 17 w5) 18 w6) 47 w7) 48 w8) ⟨_, rfl, ⟨w4, w5, w6, w7, w8, rfl⟩⟩ rfl dX11_bound_63
      · replace c3 := bI_f c3
        refine j_bipush C ((-2)) (by decide) dX11_bound_25 ?_
        refine j_w (cM g kk (sF σ 16 (σ.2.1 16))) (congrArg (cM g kk) (wrFi (S := σ) (c := 16) (v := σ.2.1 16) rfl)) ?_
        refine j_w (cM g kk (sF (sF σ 16 (σ.2.1 16)) 17 (σ.2.1 17))) (congrArg (cM g kk) (wrFi (S := (sF σ 16 (σ.2.1 16))) (c := 17) (v := σ.2.1 17) (gtFF (by decide) rfl))) ?_
        refine j_w (cM g kk (sF (sF (sF σ 16 (σ.2.1 16)) 17 (σ.2.1 17)) 18 (σ.2.1 18))) (congrArg (cM g kk) (wrFi (S := (sF (sF σ 16 (σ.2.1 16)) 17 (σ.2.1 17))) (c := 18) (v := σ.2.1 18) (gtFF (by decide) (gtFF (by decide) rfl)))) ?_
        refine j_w (cM g kk (sI (sF (sF (sF σ 16 (σ.2.1 16)) 17 (σ.2.1 17)) 18 (σ.2.1 18)) 47 (σ.1 47))) (congrArg (cM g kk) (wrIi (S := (sF (sF (sF σ 16 (σ.2.1 16)) 17 (σ.2.1 17)) 18 (σ.2.1 18))) (c := 47) (v := σ.1 47) (gtIF (gtIF (gtIF rfl))))) ?_
        refine j_w (cM g kk (sI (sI (sF (sF (sF σ 16 (σ.2.1 16)) 17 (σ.2.1 17)) 18 (σ.2.1 18)) 47 (σ.1 47)) 48 (σ.1 48))) (congrArg (cM g kk) (wrIi (S := (sI (sF (sF (sF σ 16 (σ.2.1 16)) 17 (σ.2.1 17)) 18 (σ.2.1 18)) 47 (σ.1 47))) (c := 48) (v := σ.1 48) (gtII (by decide) (gtIF (gtIF (gtIF rfl)))))) ?_
        exact j_iret C E (sI (sI (sF (sF (sF σ 16 (σ.2.1 16)) 17 (σ.2.1 17)) 18 (σ.2.1 18)) 47 (σ.1 47)) 48 (σ.1 48)) ⟨_, rfl, ⟨(σ.2.1 16), (σ.2.1 17), (σ.2.1 18), (σ.1 47), (σ.1 48), rfl⟩⟩ rfl dX11_bound_27
  · replace c1 := bI_f c1
    refine j_iconst C ((-1)) (by decide) dX11_bound_7 ?_
    refine j_w (cM g kk (sF σ 16 (σ.2.1 16))) (congrArg (cM g kk) (wrFi (S := σ) (c := 16) (v := σ.2.1 16) rfl)) ?_
    refine j_w (cM g kk (sF (sF σ 16 (σ.2.1 16)) 17 (σ.2.1 17))) (congrArg (cM g kk) (wrFi (S := (sF σ 16 (σ.2.1 16))) (c := 17) (v := σ.2.1 17) (gtFF (by decide) rfl))) ?_
    refine j_w (cM g kk (sF (sF (sF σ 16 (σ.2.1 16)) 17 (σ.2.1 17)) 18 (σ.2.1 18))) (congrArg (cM g kk) (wrFi (S := (sF (sF σ 16 (σ.2.1 16)) 17 (σ.2.1 17))) (c := 18) (v := σ.2.1 18) (gtFF (by decide) (gtFF (by decide) rfl)))) ?_
    refine j_w (cM g kk (sI (sF (sF (sF σ 16 (σ.2.1 16)) 17 (σ.2.1 17)) 18 (σ.2.1 18)) 47 (σ.1 47))) (congrArg (cM g kk) (wrIi (S := (sF (sF (sF σ 16 (σ.2.1 16)) 17 (σ.2.1 17)) 18 (σ.2.1 18))) (c := 47) (v := σ.1 47) (gtIF (gtIF (gtIF rfl))))) ?_
    refine j_w (cM g kk (sI (sI (sF (sF (sF σ 16 (σ.2.1 16)) 17 (σ.2.1 17)) 18 (σ.2.1 18)) 47 (σ.1 47)) 48 (σ.1 48))) (congrArg (cM g kk) (wrIi (S := (sI (sF (sF (sF σ 16 (σ.2.1 16)) 17 (σ.2.1 17)) 18 (σ.2.1 18)) 47 (σ.1 47))) (c := 48) (v := σ.1 48) (gtII (by decide) (gtIF (gtIF (gtIF rfl)))))) ?_
    exact j_iret C E (sI (sI (sF (sF (sF σ 16 (σ.2.1 16)) 17 (σ.2.1 17)) 18 (σ.2.1 18)) 47 (σ.1 47)) 48 (σ.1 48)) ⟨_, rfl, ⟨(σ.2.1 16), (σ.2.1 17), (σ.2.1 18), (σ.1 47), (σ.1 48), rfl⟩⟩ rfl dX11_bound_8
set_option maxRecDepth 100000 in
set_option maxHeartbeats 4000000 in
theorem n_findOver (g kk : Nat → Nat) (σ : St) (k : Nat) (hk : σ.1 3 = nI k) (hk6 : k ≤ 6) (hI : iM σ)  (d : Nat) (hd0 : d < 28) (i : Nat) (hi0 : i ≤ 20) (j : Nat) (hj0 : j ≤ 20) (m : Nat) (hm0 : m ≤ 20) (l : Nat) (hl0 : l ≤ 20) : jM (S := St) yX11_findOver cX11_findOver 8 (some .boolean) { frames := 6, cells := 0, slots := 0, locals := 141 } kk (cM g kk σ) [.ref (g 0), .int (nI d), .int (nI i), .int (nI j), .int (nI m), .int (nI l)] (cM g kk) (rI (fun (r : Int32) (u : St) => ∃ (pF16 : Nat → Int32) (pF17 : Nat → Int32) (pF18 : Nat → Int32) (pI47 : Int32) (pI48 : Int32) (pI49 : Int32) (pI50 : Int32), u = sI (sI (sI (sI (sF (sF (sF σ 16 pF16) 17 pF17) 18 pF18) 47 pI47) 48 pI48) 49 pI49) 50 pI50)) := by
  refine j_entry [(0, .ref (g 0)), (1, .int (nI d)), (2, .int (nI i)), (3, .int (nI j)), (4, .int (nI m)), (5, .int (nI l))] (by decide) (Nat.le_of_ble_eq_true rfl) rfl ?_
  intro X C E HI
  refine j_aload_n C 0 rfl dX11_findOver_0 ?_
  refine j_V1 C (n_findAll g kk σ k hk hk6 hI  ) kyX11_findAll tb_1131 tb_1133 sp_24 0 rfl (eM_0 g kk _) rfl (Nat.le_of_ble_eq_true rfl) ⟨by decide, by decide⟩ dX11_findOver_1 rfl (fun vr ur hp => ?_)
  obtain ⟨rfl, w1, w2, w3, hu⟩ := hp
  replace hu := hu.symm
  subst hu
  refine j_aload_n C 0 rfl dX11_findOver_4 ?_
  refine j_iconst C (nI 0) (by decide) dX11_findOver_5 ?_
  refine pM_0_49 C tb_922 dX11_findOver_6 ?_
  refine j_aload_n C 0 rfl dX11_findOver_9 ?_
  refine j_iconst C (nI 0) (by decide) dX11_findOver_10 ?_
  refine pM_0_50 C tb_923 dX11_findOver_11 ?_
  refine j_iload_n C 2 rfl dX11_findOver_14 ?_
  refine j_istore C [(6, .int (nI i)), (0, .ref (g 0)), (1, .int (nI d)), (2, .int (nI i)), (3, .int (nI j)), (4, .int (nI m)), (5, .int (nI l))] (by decide) rfl dX11_findOver_15 ?_
  have L17 : ∀ (n17 : Nat) (x : Nat) (z17_I47 : Int32) (z17_I48 : Int32) (z17_I49 : Int32) (z17_I50 : Int32) (i17_0 : x ≤ 21) (hm17 : 21 - x < n17), J X 0 0 (cM g kk (sI (sI (sI (sI (sF (sF (sF σ 16 w1) 17 w2) 18 w3) 47 z17_I47) 48 z17_I48) 49 z17_I49) 50 z17_I50)) [(6, .int (nI x)), (0, .ref (g 0)), (1, .int (nI d)), (2, .int (nI i)), (3, .int (nI j)), (4, .int (nI m)), (5, .int (nI l))] 17 [] := by
    intro n17
    induction n17 with
    | zero => intro x z17_I47 z17_I48 z17_I49 z17_I50 i17_0 hm; exact absurd hm (Nat.not_lt_zero _)
    | succ n17 ih17 =>
      intro x z17_I47 z17_I48 z17_I49 z17_I50 i17_0 hm17
      refine j_iload C 0 rfl dX11_findOver_17 ?_
      refine j_iload_n C 4 rfl dX11_findOver_19 ?_
      refine j_icmp_gtN C 86 (by decide) (by omega) (by omega) dX11_findOver_20 (fun c4 => ?_) (fun c4 => ?_)
      · refine j_iconst C (nI 1) (by decide) dX11_findOver_86 ?_
        exact j_zret C E (by first | rfl | decide) (sI (sI (sI (sI (sF (sF (sF σ 16 w1) 17 w2) 18 w3) 47 z17_I47) 48 z17_I48) 49 z17_I49) 50 z17_I50) ⟨_, rfl, ⟨w1, w2, w3, z17_I47, z17_I48, z17_I49, z17_I50, rfl⟩⟩ rfl dX11_findOver_87
      · refine j_iload C 5 rfl dX11_findOver_23 ?_
        refine j_istore C [(7, .int (nI m)), (6, .int (nI x)), (0, .ref (g 0)), (1, .int (nI d)), (2, .int (nI i)), (3, .int (nI j)), (4, .int (nI m)), (5, .int (nI l))] (by decide) rfl dX11_findOver_25 ?_
        have L27 : ∀ (n27 : Nat) (y : Nat) (z27_I47 : Int32) (z27_I48 : Int32) (z27_I49 : Int32) (z27_I50 : Int32) (i27_0 : y ≤ 21) (hm27 : 21 - y < n27), J X 0 0 (cM g kk (sI (sI (sI (sI (sF (sF (sF σ 16 w1) 17 w2) 18 w3) 47 z27_I47) 48 z27_I48) 49 z27_I49) 50 z27_I50)) [(7, .int (nI y)), (6, .int (nI x)), (0, .ref (g 0)), (1, .int (nI d)), (2, .int (nI i)), (3, .int (nI j)), (4, .int (nI m)), (5, .int (nI l))] 27 [] := by
          intro n27
          induction n27 with
          | zero => intro y z27_I47 z27_I48 z27_I49 z27_I50 i27_0 hm; exact absurd hm (Nat.not_lt_zero _)
          | succ n27 ih27 =>
            intro y z27_I47 z27_I48 z27_I49 z27_I50 i27_0 hm27
            refine j_iload C 0 rfl dX11_findOver_27 ?_
            refine j_iload C 7 rfl dX11_findOver_29 ?_
            refine j_icmp_gtN C 80 (by decide) (by omega) (by omega) dX11_findOver_31 (fun c5 => ?_) (fun c5 => ?_)
            · refine j_iinc C (nI (x + 1)) [(6, .int (nI (x + 1))), (7, .int (nI y)), (0, .ref (g 0)), (1, .int (nI d)), (2, .int (nI i)), (3, .int (nI j)), (4, .int (nI m)), (5, .int (nI l))] 1 rfl (by rw [show Int32.ofInt 1 = nI 1 from by decide, nI_add]) (by decide) rfl dX11_findOver_80 ?_
              refine j_goto C 17 (by decide) dX11_findOver_83 ?_
              refine j_sub (lv' := [(6, .int (nI (x + 1))), (0, .ref (g 0)), (1, .int (nI d)), (2, .int (nI i)), (3, .int (nI j)), (4, .int (nI m)), (5, .int (nI l))]) [0, 2, 3, 4, 5, 6, 7] rfl ?_
              exact ih17 (x + 1) z27_I47 z27_I48 z27_I49 z27_I50 (by omega) (by omega)
            · refine j_aload_n C 2 rfl dX11_findOver_34 ?_
              refine j_iload_n C 3 rfl dX11_findOver_35 ?_
              refine j_iload C 1 rfl dX11_findOver_36 ?_
              refine j_iload C 0 rfl dX11_findOver_38 ?_
              refine j_V1 C (n_findBound g kk (sI (sI (sI (sI (sF (sF (sF σ 16 w1) 17 w2) 18 w3) 47 z27_I47) 48 z27_I48) 49 z27_I49) 50 z27_I50) k hk hk6 hI  d (by first | assumption | omega) (nI x) (nI y)) kyX11_findBound tb_1237 tb_1239 sp_39 0 rfl (eM_0 g kk _) rfl (Nat.le_of_ble_eq_true rfl) ⟨by decide, by decide⟩ dX11_findOver_40 rfl (fun vr ur hp => ?_)
              obtain ⟨r8, rfl, w6, w7, hu⟩ := hp
              replace hu := hu.symm
              subst hu
              refine j_if_ne C 48 (by decide) dX11_findOver_43 (fun c9 => ?_) (fun c9 => ?_)
              · refine j_aload_n C 2 rfl dX11_findOver_48 ?_
                refine j_dup C rfl dX11_findOver_49 ?_
                refine gM_0_49 C tb_922 (z27_I49) rfl dX11_findOver_50 ?_
                refine j_aload_n C 2 rfl dX11_findOver_53 ?_
                refine gM_0_47 C tb_920 (w6) rfl dX11_findOver_54 ?_
                refine j_iadd C dX11_findOver_57 ?_
                refine pM_0_49 C tb_922 dX11_findOver_58 ?_
                refine j_aload_n C 2 rfl dX11_findOver_61 ?_
                refine j_dup C rfl dX11_findOver_62 ?_
                refine gM_0_50 C tb_923 (z27_I50) rfl dX11_findOver_63 ?_
                refine j_aload_n C 2 rfl dX11_findOver_66 ?_
                refine gM_0_48 C tb_921 (w7) rfl dX11_findOver_67 ?_
                refine j_iadd C dX11_findOver_70 ?_
                refine pM_0_50 C tb_923 dX11_findOver_71 ?_
                refine j_iinc C (nI (y + 1)) [(7, .int (nI (y + 1))), (6, .int (nI x)), (0, .ref (g 0)), (1, .int (nI d)), (2, .int (nI i)), (3, .int (nI j)), (4, .int (nI m)), (5, .int (nI l))] 0 rfl (by rw [show Int32.ofInt 1 = nI 1 from by decide, nI_add]) (by decide) rfl dX11_findOver_74 ?_
                refine j_goto C 27 (by decide) dX11_findOver_77 ?_
                refine j_w (cM g kk (sI (sI (sI (sI (sF (sF (sF σ 16 w1) 17 w2) 18 w3) 47 w6) 48 w7) 49 (z27_I49 + w6)) 50 (z27_I50 + w7))) (congrArg (cM g kk) (show sI (sI (sI (sI (sI (sI (sI (sI (sF (sF (sF σ 16 w1) 17 w2) 18 w3) 47 z27_I47) 48 z27_I48) 49 z27_I49) 50 z27_I50) 47 w6) 48 w7) 49 (z27_I49 + w6)) 50 (z27_I50 + w7) = sI (sI (sI (sI (sF (sF (sF σ 16 w1) 17 w2) 18 w3) 47 w6) 48 w7) 49 (z27_I49 + w6)) 50 (z27_I50 + w7) from (Eq.trans (wrI (Eq.trans (wrI (Eq.trans (wrI (Eq.trans (wrIc (by decide)) (wrI (Eq.trans (wrIc (by decide)) (wrI (Eq.trans (wrIc (by decide)) (wrI wrIs))))))) (Eq.trans (wrIc (by decide)) (wrI (Eq.trans (wrIc (by decide)) (wrI wrIs)))))) (Eq.trans (wrIc (by decide)) (wrI wrIs)))) wrIs))) ?_
                exact ih27 (y + 1) w6 w7 (z27_I49 + w6) (z27_I50 + w7) (by omega) (by omega)
              · refine j_iconst C (nI 0) (by decide) dX11_findOver_46 ?_
                refine j_w (cM g kk (sI (sI (sI (sI (sF (sF (sF σ 16 w1) 17 w2) 18 w3) 47 w6) 48 w7) 49 z27_I49) 50 z27_I50)) (congrArg (cM g kk) (show sI (sI (sI (sI (sI (sI (sF (sF (sF σ 16 w1) 17 w2) 18 w3) 47 z27_I47) 48 z27_I48) 49 z27_I49) 50 z27_I50) 47 w6) 48 w7 = sI (sI (sI (sI (sF (sF (sF σ 16 w1) 17 w2) 18 w3) 47 w6) 48 w7) 49 z27_I49) 50 z27_I50 from (Eq.trans (wrI (Eq.trans (wrIc (by decide)) (wrI (Eq.trans (wrIc (by decide)) (wrI (Eq.trans (wrIc (by decide)) (wrI wrIs))))))) (Eq.trans (wrIc (by decide)) (wrI (Eq.trans (wrIc (by decide)) (wrI wrIs))))))) ?_
                exact j_zret C E (by first | rfl | decide) (sI (sI (sI (sI (sF (sF (sF σ 16 w1) 17 w2) 18 w3) 47 w6) 48 w7) 49 z27_I49) 50 z27_I50) ⟨_, rfl, ⟨w1, w2, w3, w6, w7, z27_I49, z27_I50, rfl⟩⟩ rfl dX11_findOver_47
        exact L27 _ m z17_I47 z17_I48 z17_I49 z17_I50 (by omega) (Nat.lt_succ_self _)
  refine j_w (cM g kk (sI (sI (sI (sF (sF (sF σ 16 w1) 17 w2) 18 w3) 49 (nI 0)) 50 (nI 0)) 47 (σ.1 47))) (congrArg (cM g kk) (wrIi (S := (sI (sI (sF (sF (sF σ 16 w1) 17 w2) 18 w3) 49 (nI 0)) 50 (nI 0))) (c := 47) (v := σ.1 47) (gtII (by decide) (gtII (by decide) (gtIF (gtIF (gtIF rfl))))))) ?_
  refine j_w (cM g kk (sI (sI (sI (sI (sF (sF (sF σ 16 w1) 17 w2) 18 w3) 49 (nI 0)) 50 (nI 0)) 47 (σ.1 47)) 48 (σ.1 48))) (congrArg (cM g kk) (wrIi (S := (sI (sI (sI (sF (sF (sF σ 16 w1) 17 w2) 18 w3) 49 (nI 0)) 50 (nI 0)) 47 (σ.1 47))) (c := 48) (v := σ.1 48) (gtII (by decide) (gtII (by decide) (gtII (by decide) (gtIF (gtIF (gtIF rfl)))))))) ?_
  refine j_w (cM g kk (sI (sI (sI (sI (sF (sF (sF σ 16 w1) 17 w2) 18 w3) 47 (σ.1 47)) 48 (σ.1 48)) 49 (nI 0)) 50 (nI 0))) (congrArg (cM g kk) (show sI (sI (sI (sI (sF (sF (sF σ 16 w1) 17 w2) 18 w3) 49 (nI 0)) 50 (nI 0)) 47 (σ.1 47)) 48 (σ.1 48) = sI (sI (sI (sI (sF (sF (sF σ 16 w1) 17 w2) 18 w3) 47 (σ.1 47)) 48 (σ.1 48)) 49 (nI 0)) 50 (nI 0) from (Eq.trans (wrI (Eq.trans (wrIc (by decide)) (wrI (wrIc (by decide))))) (Eq.trans (wrIc (by decide)) (wrI (wrIc (by decide))))))) ?_
  exact L17 _ i (σ.1 47) (σ.1 48) (nI 0) (nI 0) (by omega) (Nat.lt_succ_self _)
set_option maxRecDepth 100000 in
set_option maxHeartbeats 4000000 in
theorem n_over (g kk : Nat → Nat) (σ : St) (k : Nat) (hk : σ.1 3 = nI k) (hk6 : k ≤ 6) (hI : iM σ)  (x : Int32) (a : Int32) (b : Int32) (c : Int32) (d : Int32) (w : Int32) : jM (S := St) yX11_over cX11_over 7 (some .int) { frames := 7, cells := 0, slots := 0, locals := 168 } kk (cM g kk σ) [.ref (g 0), .int x, .int a, .int b, .int c, .int d, .int w] (cM g kk) (rI (fun (r : Int32) (u : St) => ∃ (pF16 : Nat → Int32) (pF17 : Nat → Int32) (pF18 : Nat → Int32) (pI47 : Int32) (pI48 : Int32) (pI49 : Int32) (pI50 : Int32), u = sI (sI (sI (sI (sF (sF (sF σ 16 pF16) 17 pF17) 18 pF18) 47 pI47) 48 pI48) 49 pI49) 50 pI50)) := by
  refine j_entry [(0, .ref (g 0)), (1, .int x), (2, .int a), (3, .int b), (4, .int c), (5, .int d), (6, .int w)] (by decide) (Nat.le_of_ble_eq_true rfl) rfl ?_
  intro X C E HI
  refine j_iload_n C 1 rfl dX11_over_0 ?_
  refine j_S01 C (m_isDay x) kyX11_isDay tb_1077 tb_1078 rfl (Nat.le_of_ble_eq_true rfl) ⟨by decide, by decide⟩ ⟨by decide, by decide⟩ dX11_over_1 rfl ?_
  refine j_if_ne C 9 (by decide) dX11_over_4 (fun c1 => ?_) (fun c1 => ?_)
  · replace c1 := bI_t c1
    obtain ⟨xn, xn1, xn2, rfl⟩ := wB_nat (by decide) (by decide) c1
    refine j_iload_n C 2 rfl dX11_over_9 ?_
    refine j_iload_n C 3 rfl dX11_over_10 ?_
    refine j_iload C 4 rfl dX11_over_11 ?_
    refine j_iload C 5 rfl dX11_over_13 ?_
    refine j_S01 C (m_isLand a b c d) kyX11_isLand tb_1249 tb_1250 rfl (Nat.le_of_ble_eq_true rfl) ⟨by decide, by decide⟩ ⟨by decide, by decide⟩ dX11_over_15 rfl ?_
    refine j_if_eq C 29 (by decide) dX11_over_18 (fun c2 => ?_) (fun c2 => ?_)
    · replace c2 := bI_f c2
      refine j_bipush C ((-2)) (by decide) dX11_over_29 ?_
      refine j_w (cM g kk (sF σ 16 (σ.2.1 16))) (congrArg (cM g kk) (wrFi (S := σ) (c := 16) (v := σ.2.1 16) rfl)) ?_
      refine j_w (cM g kk (sF (sF σ 16 (σ.2.1 16)) 17 (σ.2.1 17))) (congrArg (cM g kk) (wrFi (S := (sF σ 16 (σ.2.1 16))) (c := 17) (v := σ.2.1 17) (gtFF (by decide) rfl))) ?_
      refine j_w (cM g kk (sF (sF (sF σ 16 (σ.2.1 16)) 17 (σ.2.1 17)) 18 (σ.2.1 18))) (congrArg (cM g kk) (wrFi (S := (sF (sF σ 16 (σ.2.1 16)) 17 (σ.2.1 17))) (c := 18) (v := σ.2.1 18) (gtFF (by decide) (gtFF (by decide) rfl)))) ?_
      refine j_w (cM g kk (sI (sF (sF (sF σ 16 (σ.2.1 16)) 17 (σ.2.1 17)) 18 (σ.2.1 18)) 47 (σ.1 47))) (congrArg (cM g kk) (wrIi (S := (sF (sF (sF σ 16 (σ.2.1 16)) 17 (σ.2.1 17)) 18 (σ.2.1 18))) (c := 47) (v := σ.1 47) (gtIF (gtIF (gtIF rfl))))) ?_
      refine j_w (cM g kk (sI (sI (sF (sF (sF σ 16 (σ.2.1 16)) 17 (σ.2.1 17)) 18 (σ.2.1 18)) 47 (σ.1 47)) 48 (σ.1 48))) (congrArg (cM g kk) (wrIi (S := (sI (sF (sF (sF σ 16 (σ.2.1 16)) 17 (σ.2.1 17)) 18 (σ.2.1 18)) 47 (σ.1 47))) (c := 48) (v := σ.1 48) (gtII (by decide) (gtIF (gtIF (gtIF rfl)))))) ?_
      refine j_w (cM g kk (sI (sI (sI (sF (sF (sF σ 16 (σ.2.1 16)) 17 (σ.2.1 17)) 18 (σ.2.1 18)) 47 (σ.1 47)) 48 (σ.1 48)) 49 (σ.1 49))) (congrArg (cM g kk) (wrIi (S := (sI (sI (sF (sF (sF σ 16 (σ.2.1 16)) 17 (σ.2.1 17)) 18 (σ.2.1 18)) 47 (σ.1 47)) 48 (σ.1 48))) (c := 49) (v := σ.1 49) (gtII (by decide) (gtII (by decide) (gtIF (gtIF (gtIF rfl))))))) ?_
      refine j_w (cM g kk (sI (sI (sI (sI (sF (sF (sF σ 16 (σ.2.1 16)) 17 (σ.2.1 17)) 18 (σ.2.1 18)) 47 (σ.1 47)) 48 (σ.1 48)) 49 (σ.1 49)) 50 (σ.1 50))) (congrArg (cM g kk) (wrIi (S := (sI (sI (sI (sF (sF (sF σ 16 (σ.2.1 16)) 17 (σ.2.1 17)) 18 (σ.2.1 18)) 47 (σ.1 47)) 48 (σ.1 48)) 49 (σ.1 49))) (c := 50) (v := σ.1 50) (gtII (by decide) (gtII (by decide) (gtII (by decide) (gtIF (gtIF (gtIF rfl)))))))) ?_
      exact j_iret C E (sI (sI (sI (sI (sF (sF (sF σ 16 (σ.2.1 16)) 17 (σ.2.1 17)) 18 (σ.2.1 18)) 47 (σ.1 47)) 48 (σ.1 48)) 49 (σ.1 49)) 50 (σ.1 50)) ⟨_, rfl, ⟨(σ.2.1 16), (σ.2.1 17), (σ.2.1 18), (σ.1 47), (σ.1 48), (σ.1 49), (σ.1 50), rfl⟩⟩ rfl dX11_over_31
    · replace c2 := bI_t c2
      obtain ⟨an, bn, cn, dn, hl1, hl2, hl3, hl4, rfl, rfl, rfl, rfl⟩ := ldB_nat c2
      refine j_iload C 6 rfl dX11_over_21 ?_
      refine j_S01 C (m_isEnd w) kyX11_isEnd tb_1234 tb_1235 rfl (Nat.le_of_ble_eq_true rfl) ⟨by decide, by decide⟩ ⟨by decide, by decide⟩ dX11_over_23 rfl ?_
      refine j_if_ne C 32 (by decide) dX11_over_26 (fun c3 => ?_) (fun c3 => ?_)
      · replace c3 := bI_t c3
        obtain ⟨wn, wn1, wn2, rfl⟩ := wB_nat (by decide) (by decide) c3
        refine j_aload_n C 0 rfl dX11_over_32 ?_
        refine j_iload_n C 1 rfl dX11_over_33 ?_
        refine j_iload_n C 2 rfl dX11_over_34 ?_
        refine j_iload_n C 3 rfl dX11_over_35 ?_
        refine j_iload C 4 rfl dX11_over_36 ?_
        refine j_iload C 5 rfl dX11_over_38 ?_
        refine j_V1 C (n_findOver g kk σ k hk hk6 hI  xn (by first | assumption | omega) an (by first | assumption | omega) bn (by first | assumption | omega) cn (by first | assumption | omega) dn (by first | assumption | omega)) kyX11_findOver tb_1252 tb_1254 sp_41 0 rfl (eM_0 g kk _) rfl (Nat.le_of_ble_eq_true rfl) ⟨by decide, by decide⟩ dX11_over_40 rfl (fun vr ur hp => ?_)
        obtain ⟨r11, rfl, w4, w5, w6, w7, w8, w9, w10, hu⟩ := hp
        replace hu := hu.symm
        subst hu
        refine j_if_ne C 51 (by decide) dX11_over_43 (fun c12 => ?_) (fun c12 => ?_)
        · refine j_iload C 6 rfl dX11_over_51 ?_
          refine j_if_neN C 63 (by decide) (by omega) dX11_over_53 (fun c13 => ?_) (fun c13 => ?_)
          · refine j_aload_n C 0 rfl dX11_over_63 ?_
            refine gM_0_50 C tb_923 (w10) rfl dX11_over_64 ?_
            exact j_iret C E (sI (sI (sI (sI (sF (sF (sF σ 16 w4) 17 w5) 18 w6) 47 w7) 48 w8) 49 w9) 50 w10) ⟨_, rfl, ⟨w4, w5, w6, w7, w8, w9, w10, rfl⟩⟩ rfl dX11_over_67
          · refine j_aload_n C 0 rfl dX11_over_56 ?_
            refine gM_0_49 C tb_922 (w9) rfl dX11_over_57 ?_
            refine j_goto C 67 (by decide) dX11_over_60 ?_
            exact j_iret C E (sI (sI (sI (sI (sF (sF (sF σ 16 w4) 17 w5) 18 w6) 47 w7) 48 w8) 49 w9) 50 w10) ⟨_, rfl, ⟨w4, w5, w6, w7, w8, w9, w10, rfl⟩⟩ rfl dX11_over_67
        · refine j_bipush C ((-5)) (by decide) dX11_over_46 ?_
          refine j_goto C 67 (by decide) dX11_over_48 ?_
          exact j_iret C E (sI (sI (sI (sI (sF (sF (sF σ 16 w4) 17 w5) 18 w6) 47 w7) 48 w8) 49 w9) 50 w10) ⟨_, rfl, ⟨w4, w5, w6, w7, w8, w9, w10, rfl⟩⟩ rfl dX11_over_67
      · replace c3 := bI_f c3
        refine j_bipush C ((-2)) (by decide) dX11_over_29 ?_
        refine j_w (cM g kk (sF σ 16 (σ.2.1 16))) (congrArg (cM g kk) (wrFi (S := σ) (c := 16) (v := σ.2.1 16) rfl)) ?_
        refine j_w (cM g kk (sF (sF σ 16 (σ.2.1 16)) 17 (σ.2.1 17))) (congrArg (cM g kk) (wrFi (S := (sF σ 16 (σ.2.1 16))) (c := 17) (v := σ.2.1 17) (gtFF (by decide) rfl))) ?_
        refine j_w (cM g kk (sF (sF (sF σ 16 (σ.2.1 16)) 17 (σ.2.1 17)) 18 (σ.2.1 18))) (congrArg (cM g kk) (wrFi (S := (sF (sF σ 16 (σ.2.1 16)) 17 (σ.2.1 17))) (c := 18) (v := σ.2.1 18) (gtFF (by decide) (gtFF (by decide) rfl)))) ?_
        refine j_w (cM g kk (sI (sF (sF (sF σ 16 (σ.2.1 16)) 17 (σ.2.1 17)) 18 (σ.2.1 18)) 47 (σ.1 47))) (congrArg (cM g kk) (wrIi (S := (sF (sF (sF σ 16 (σ.2.1 16)) 17 (σ.2.1 17)) 18 (σ.2.1 18))) (c := 47) (v := σ.1 47) (gtIF (gtIF (gtIF rfl))))) ?_
        refine j_w (cM g kk (sI (sI (sF (sF (sF σ 16 (σ.2.1 16)) 17 (σ.2.1 17)) 18 (σ.2.1 18)) 47 (σ.1 47)) 48 (σ.1 48))) (congrArg (cM g kk) (wrIi (S := (sI (sF (sF (sF σ 16 (σ.2.1 16)) 17 (σ.2.1 17)) 18 (σ.2.1 18)) 47 (σ.1 47))) (c := 48) (v := σ.1 48) (gtII (by decide) (gtIF (gtIF (gtIF rfl)))))) ?_
        refine j_w (cM g kk (sI (sI (sI (sF (sF (sF σ 16 (σ.2.1 16)) 17 (σ.2.1 17)) 18 (σ.2.1 18)) 47 (σ.1 47)) 48 (σ.1 48)) 49 (σ.1 49))) (congrArg (cM g kk) (wrIi (S := (sI (sI (sF (sF (sF σ 16 (σ.2.1 16)) 17 (σ.2.1 17)) 18 (σ.2.1 18)) 47 (σ.1 47)) 48 (σ.1 48))) (c := 49) (v := σ.1 49) (gtII (by decide) (gtII (by decide) (gtIF (gtIF (gtIF rfl))))))) ?_
        refine j_w (cM g kk (sI (sI (sI (sI (sF (sF (sF σ 16 (σ.2.1 16)) 17 (σ.2.1 17)) 18 (σ.2.1 18)) 47 (σ.1 47)) 48 (σ.1 48)) 49 (σ.1 49)) 50 (σ.1 50))) (congrArg (cM g kk) (wrIi (S := (sI (sI (sI (sF (sF (sF σ 16 (σ.2.1 16)) 17 (σ.2.1 17)) 18 (σ.2.1 18)) 47 (σ.1 47)) 48 (σ.1 48)) 49 (σ.1 49))) (c := 50) (v := σ.1 50) (gtII (by decide) (gtII (by decide) (gtII (by decide) (gtIF (gtIF (gtIF rfl)))))))) ?_
        exact j_iret C E (sI (sI (sI (sI (sF (sF (sF σ 16 (σ.2.1 16)) 17 (σ.2.1 17)) 18 (σ.2.1 18)) 47 (σ.1 47)) 48 (σ.1 48)) 49 (σ.1 49)) 50 (σ.1 50)) ⟨_, rfl, ⟨(σ.2.1 16), (σ.2.1 17), (σ.2.1 18), (σ.1 47), (σ.1 48), (σ.1 49), (σ.1 50), rfl⟩⟩ rfl dX11_over_31
  · replace c1 := bI_f c1
    refine j_iconst C ((-1)) (by decide) dX11_over_7 ?_
    refine j_w (cM g kk (sF σ 16 (σ.2.1 16))) (congrArg (cM g kk) (wrFi (S := σ) (c := 16) (v := σ.2.1 16) rfl)) ?_
    refine j_w (cM g kk (sF (sF σ 16 (σ.2.1 16)) 17 (σ.2.1 17))) (congrArg (cM g kk) (wrFi (S := (sF σ 16 (σ.2.1 16))) (c := 17) (v := σ.2.1 17) (gtFF (by decide) rfl))) ?_
    refine j_w (cM g kk (sF (sF (sF σ 16 (σ.2.1 16)) 17 (σ.2.1 17)) 18 (σ.2.1 18))) (congrArg (cM g kk) (wrFi (S := (sF (sF σ 16 (σ.2.1 16)) 17 (σ.2.1 17))) (c := 18) (v := σ.2.1 18) (gtFF (by decide) (gtFF (by decide) rfl)))) ?_
    refine j_w (cM g kk (sI (sF (sF (sF σ 16 (σ.2.1 16)) 17 (σ.2.1 17)) 18 (σ.2.1 18)) 47 (σ.1 47))) (congrArg (cM g kk) (wrIi (S := (sF (sF (sF σ 16 (σ.2.1 16)) 17 (σ.2.1 17)) 18 (σ.2.1 18))) (c := 47) (v := σ.1 47) (gtIF (gtIF (gtIF rfl))))) ?_
    refine j_w (cM g kk (sI (sI (sF (sF (sF σ 16 (σ.2.1 16)) 17 (σ.2.1 17)) 18 (σ.2.1 18)) 47 (σ.1 47)) 48 (σ.1 48))) (congrArg (cM g kk) (wrIi (S := (sI (sF (sF (sF σ 16 (σ.2.1 16)) 17 (σ.2.1 17)) 18 (σ.2.1 18)) 47 (σ.1 47))) (c := 48) (v := σ.1 48) (gtII (by decide) (gtIF (gtIF (gtIF rfl)))))) ?_
    refine j_w (cM g kk (sI (sI (sI (sF (sF (sF σ 16 (σ.2.1 16)) 17 (σ.2.1 17)) 18 (σ.2.1 18)) 47 (σ.1 47)) 48 (σ.1 48)) 49 (σ.1 49))) (congrArg (cM g kk) (wrIi (S := (sI (sI (sF (sF (sF σ 16 (σ.2.1 16)) 17 (σ.2.1 17)) 18 (σ.2.1 18)) 47 (σ.1 47)) 48 (σ.1 48))) (c := 49) (v := σ.1 49) (gtII (by decide) (gtII (by decide) (gtIF (gtIF (gtIF rfl))))))) ?_
    refine j_w (cM g kk (sI (sI (sI (sI (sF (sF (sF σ 16 (σ.2.1 16)) 17 (σ.2.1 17)) 18 (σ.2.1 18)) 47 (σ.1 47)) 48 (σ.1 48)) 49 (σ.1 49)) 50 (σ.1 50))) (congrArg (cM g kk) (wrIi (S := (sI (sI (sI (sF (sF (sF σ 16 (σ.2.1 16)) 17 (σ.2.1 17)) 18 (σ.2.1 18)) 47 (σ.1 47)) 48 (σ.1 48)) 49 (σ.1 49))) (c := 50) (v := σ.1 50) (gtII (by decide) (gtII (by decide) (gtII (by decide) (gtIF (gtIF (gtIF rfl)))))))) ?_
    exact j_iret C E (sI (sI (sI (sI (sF (sF (sF σ 16 (σ.2.1 16)) 17 (σ.2.1 17)) 18 (σ.2.1 18)) 47 (σ.1 47)) 48 (σ.1 48)) 49 (σ.1 49)) 50 (σ.1 50)) ⟨_, rfl, ⟨(σ.2.1 16), (σ.2.1 17), (σ.2.1 18), (σ.1 47), (σ.1 48), (σ.1 49), (σ.1 50), rfl⟩⟩ rfl dX11_over_8
set_option maxRecDepth 100000 in
set_option maxHeartbeats 4000000 in
theorem n_flow (g kk : Nat → Nat) (σ : St) (k : Nat) (hk : σ.1 3 = nI k) (hk6 : k ≤ 6) (hI : iM σ)  (x : Int32) (a : Int32) (b : Int32) (c : Int32) (d : Int32) (y : Int32) (z : Int32) : jM (S := St) yX11_flow cX11_flow 9 (some .int) { frames := 7, cells := 0, slots := 0, locals := 168 } kk (cM g kk σ) [.ref (g 0), .int x, .int a, .int b, .int c, .int d, .int y, .int z] (cM g kk) (rI (fun (r : Int32) (u : St) => ∃ (pF16 : Nat → Int32) (pF17 : Nat → Int32) (pF18 : Nat → Int32) (pI47 : Int32) (pI48 : Int32) (pI49 : Int32) (pI50 : Int32), u = sI (sI (sI (sI (sF (sF (sF σ 16 pF16) 17 pF17) 18 pF18) 47 pI47) 48 pI48) 49 pI49) 50 pI50)) := by
  refine j_entry [(0, .ref (g 0)), (1, .int x), (2, .int a), (3, .int b), (4, .int c), (5, .int d), (6, .int y), (7, .int z)] (by decide) (Nat.le_of_ble_eq_true rfl) rfl ?_
  intro X C E HI
  refine j_iload_n C 1 rfl dX11_flow_0 ?_
  refine j_S01 C (m_isDay x) kyX11_isDay tb_1077 tb_1078 rfl (Nat.le_of_ble_eq_true rfl) ⟨by decide, by decide⟩ ⟨by decide, by decide⟩ dX11_flow_1 rfl ?_
  refine j_if_ne C 11 (by decide) dX11_flow_4 (fun c1 => ?_) (fun c1 => ?_)
  · replace c1 := bI_t c1
    obtain ⟨xn, xn1, xn2, rfl⟩ := wB_nat (by decide) (by decide) c1
    refine j_iload_n C 2 rfl dX11_flow_11 ?_
    refine j_iload_n C 3 rfl dX11_flow_12 ?_
    refine j_iload C 4 rfl dX11_flow_13 ?_
    refine j_iload C 5 rfl dX11_flow_15 ?_
    refine j_S01 C (m_isLand a b c d) kyX11_isLand tb_1249 tb_1250 rfl (Nat.le_of_ble_eq_true rfl) ⟨by decide, by decide⟩ ⟨by decide, by decide⟩ dX11_flow_17 rfl ?_
    refine j_if_eq C 49 (by decide) dX11_flow_20 (fun c2 => ?_) (fun c2 => ?_)
    · replace c2 := bI_f c2
      refine j_ldcw C tb_1206 dX11_flow_49 ?_
      refine j_w (cM g kk (sF σ 16 (σ.2.1 16))) (congrArg (cM g kk) (wrFi (S := σ) (c := 16) (v := σ.2.1 16) rfl)) ?_
      refine j_w (cM g kk (sF (sF σ 16 (σ.2.1 16)) 17 (σ.2.1 17))) (congrArg (cM g kk) (wrFi (S := (sF σ 16 (σ.2.1 16))) (c := 17) (v := σ.2.1 17) (gtFF (by decide) rfl))) ?_
      refine j_w (cM g kk (sF (sF (sF σ 16 (σ.2.1 16)) 17 (σ.2.1 17)) 18 (σ.2.1 18))) (congrArg (cM g kk) (wrFi (S := (sF (sF σ 16 (σ.2.1 16)) 17 (σ.2.1 17))) (c := 18) (v := σ.2.1 18) (gtFF (by decide) (gtFF (by decide) rfl)))) ?_
      refine j_w (cM g kk (sI (sF (sF (sF σ 16 (σ.2.1 16)) 17 (σ.2.1 17)) 18 (σ.2.1 18)) 47 (σ.1 47))) (congrArg (cM g kk) (wrIi (S := (sF (sF (sF σ 16 (σ.2.1 16)) 17 (σ.2.1 17)) 18 (σ.2.1 18))) (c := 47) (v := σ.1 47) (gtIF (gtIF (gtIF rfl))))) ?_
      refine j_w (cM g kk (sI (sI (sF (sF (sF σ 16 (σ.2.1 16)) 17 (σ.2.1 17)) 18 (σ.2.1 18)) 47 (σ.1 47)) 48 (σ.1 48))) (congrArg (cM g kk) (wrIi (S := (sI (sF (sF (sF σ 16 (σ.2.1 16)) 17 (σ.2.1 17)) 18 (σ.2.1 18)) 47 (σ.1 47))) (c := 48) (v := σ.1 48) (gtII (by decide) (gtIF (gtIF (gtIF rfl)))))) ?_
      refine j_w (cM g kk (sI (sI (sI (sF (sF (sF σ 16 (σ.2.1 16)) 17 (σ.2.1 17)) 18 (σ.2.1 18)) 47 (σ.1 47)) 48 (σ.1 48)) 49 (σ.1 49))) (congrArg (cM g kk) (wrIi (S := (sI (sI (sF (sF (sF σ 16 (σ.2.1 16)) 17 (σ.2.1 17)) 18 (σ.2.1 18)) 47 (σ.1 47)) 48 (σ.1 48))) (c := 49) (v := σ.1 49) (gtII (by decide) (gtII (by decide) (gtIF (gtIF (gtIF rfl))))))) ?_
      refine j_w (cM g kk (sI (sI (sI (sI (sF (sF (sF σ 16 (σ.2.1 16)) 17 (σ.2.1 17)) 18 (σ.2.1 18)) 47 (σ.1 47)) 48 (σ.1 48)) 49 (σ.1 49)) 50 (σ.1 50))) (congrArg (cM g kk) (wrIi (S := (sI (sI (sI (sF (sF (sF σ 16 (σ.2.1 16)) 17 (σ.2.1 17)) 18 (σ.2.1 18)) 47 (σ.1 47)) 48 (σ.1 48)) 49 (σ.1 49))) (c := 50) (v := σ.1 50) (gtII (by decide) (gtII (by decide) (gtII (by decide) (gtIF (gtIF (gtIF rfl)))))))) ?_
      exact j_iret C E (sI (sI (sI (sI (sF (sF (sF σ 16 (σ.2.1 16)) 17 (σ.2.1 17)) 18 (σ.2.1 18)) 47 (σ.1 47)) 48 (σ.1 48)) 49 (σ.1 49)) 50 (σ.1 50)) ⟨_, rfl, ⟨(σ.2.1 16), (σ.2.1 17), (σ.2.1 18), (σ.1 47), (σ.1 48), (σ.1 49), (σ.1 50), rfl⟩⟩ rfl dX11_flow_52
    · replace c2 := bI_t c2
      obtain ⟨an, bn, cn, dn, hl1, hl2, hl3, hl4, rfl, rfl, rfl, rfl⟩ := ldB_nat c2
      refine j_iload C 6 rfl dX11_flow_23 ?_
      refine j_i2l C dX11_flow_25 ?_
      refine j_lconst C 0 (by decide) dX11_flow_26 ?_
      refine j_ldc2 C tb_1260 dX11_flow_27 ?_
      refine j_S01 C (m_inB y (nI 0) (nI 100) 0 (100) (by decide) (by decide)) kyX11_in tb_1057 tb_1058 rfl (Nat.le_of_ble_eq_true rfl) ⟨by decide, by decide⟩ ⟨by decide, by decide⟩ dX11_flow_30 rfl ?_
      refine j_if_eq C 49 (by decide) dX11_flow_33 (fun c3 => ?_) (fun c3 => ?_)
      · replace c3 := bI_f c3
        refine j_ldcw C tb_1206 dX11_flow_49 ?_
        refine j_w (cM g kk (sF σ 16 (σ.2.1 16))) (congrArg (cM g kk) (wrFi (S := σ) (c := 16) (v := σ.2.1 16) rfl)) ?_
        refine j_w (cM g kk (sF (sF σ 16 (σ.2.1 16)) 17 (σ.2.1 17))) (congrArg (cM g kk) (wrFi (S := (sF σ 16 (σ.2.1 16))) (c := 17) (v := σ.2.1 17) (gtFF (by decide) rfl))) ?_
        refine j_w (cM g kk (sF (sF (sF σ 16 (σ.2.1 16)) 17 (σ.2.1 17)) 18 (σ.2.1 18))) (congrArg (cM g kk) (wrFi (S := (sF (sF σ 16 (σ.2.1 16)) 17 (σ.2.1 17))) (c := 18) (v := σ.2.1 18) (gtFF (by decide) (gtFF (by decide) rfl)))) ?_
        refine j_w (cM g kk (sI (sF (sF (sF σ 16 (σ.2.1 16)) 17 (σ.2.1 17)) 18 (σ.2.1 18)) 47 (σ.1 47))) (congrArg (cM g kk) (wrIi (S := (sF (sF (sF σ 16 (σ.2.1 16)) 17 (σ.2.1 17)) 18 (σ.2.1 18))) (c := 47) (v := σ.1 47) (gtIF (gtIF (gtIF rfl))))) ?_
        refine j_w (cM g kk (sI (sI (sF (sF (sF σ 16 (σ.2.1 16)) 17 (σ.2.1 17)) 18 (σ.2.1 18)) 47 (σ.1 47)) 48 (σ.1 48))) (congrArg (cM g kk) (wrIi (S := (sI (sF (sF (sF σ 16 (σ.2.1 16)) 17 (σ.2.1 17)) 18 (σ.2.1 18)) 47 (σ.1 47))) (c := 48) (v := σ.1 48) (gtII (by decide) (gtIF (gtIF (gtIF rfl)))))) ?_
        refine j_w (cM g kk (sI (sI (sI (sF (sF (sF σ 16 (σ.2.1 16)) 17 (σ.2.1 17)) 18 (σ.2.1 18)) 47 (σ.1 47)) 48 (σ.1 48)) 49 (σ.1 49))) (congrArg (cM g kk) (wrIi (S := (sI (sI (sF (sF (sF σ 16 (σ.2.1 16)) 17 (σ.2.1 17)) 18 (σ.2.1 18)) 47 (σ.1 47)) 48 (σ.1 48))) (c := 49) (v := σ.1 49) (gtII (by decide) (gtII (by decide) (gtIF (gtIF (gtIF rfl))))))) ?_
        refine j_w (cM g kk (sI (sI (sI (sI (sF (sF (sF σ 16 (σ.2.1 16)) 17 (σ.2.1 17)) 18 (σ.2.1 18)) 47 (σ.1 47)) 48 (σ.1 48)) 49 (σ.1 49)) 50 (σ.1 50))) (congrArg (cM g kk) (wrIi (S := (sI (sI (sI (sF (sF (sF σ 16 (σ.2.1 16)) 17 (σ.2.1 17)) 18 (σ.2.1 18)) 47 (σ.1 47)) 48 (σ.1 48)) 49 (σ.1 49))) (c := 50) (v := σ.1 50) (gtII (by decide) (gtII (by decide) (gtII (by decide) (gtIF (gtIF (gtIF rfl)))))))) ?_
        exact j_iret C E (sI (sI (sI (sI (sF (sF (sF σ 16 (σ.2.1 16)) 17 (σ.2.1 17)) 18 (σ.2.1 18)) 47 (σ.1 47)) 48 (σ.1 48)) 49 (σ.1 49)) 50 (σ.1 50)) ⟨_, rfl, ⟨(σ.2.1 16), (σ.2.1 17), (σ.2.1 18), (σ.1 47), (σ.1 48), (σ.1 49), (σ.1 50), rfl⟩⟩ rfl dX11_flow_52
      · replace c3 := bI_t c3
        obtain ⟨yn, yn1, yn2, rfl⟩ := wB_nat (by decide) (by decide) c3
        refine j_iload C 7 rfl dX11_flow_36 ?_
        refine j_i2l C dX11_flow_38 ?_
        refine j_lconst C 0 (by decide) dX11_flow_39 ?_
        refine j_ldc2 C tb_1261 dX11_flow_40 ?_
        refine j_S01 C (m_inB z (nI 0) (nI 9999999) 0 (9999999) (by decide) (by decide)) kyX11_in tb_1057 tb_1058 rfl (Nat.le_of_ble_eq_true rfl) ⟨by decide, by decide⟩ ⟨by decide, by decide⟩ dX11_flow_43 rfl ?_
        refine j_if_ne C 53 (by decide) dX11_flow_46 (fun c4 => ?_) (fun c4 => ?_)
        · replace c4 := bI_t c4
          obtain ⟨zn, zn1, zn2, rfl⟩ := wB_nat (by decide) (by decide) c4
          refine j_aload_n C 0 rfl dX11_flow_53 ?_
          refine j_iload_n C 1 rfl dX11_flow_54 ?_
          refine j_iload_n C 2 rfl dX11_flow_55 ?_
          refine j_iload_n C 3 rfl dX11_flow_56 ?_
          refine j_iload C 4 rfl dX11_flow_57 ?_
          refine j_iload C 5 rfl dX11_flow_59 ?_
          refine j_V1 C (n_findOver g kk σ k hk hk6 hI  xn (by first | assumption | omega) an (by first | assumption | omega) bn (by first | assumption | omega) cn (by first | assumption | omega) dn (by first | assumption | omega)) kyX11_findOver tb_1252 tb_1254 sp_41 0 rfl (eM_0 g kk _) rfl (Nat.le_of_ble_eq_true rfl) ⟨by decide, by decide⟩ dX11_flow_61 rfl (fun vr ur hp => ?_)
          obtain ⟨r12, rfl, w5, w6, w7, w8, w9, w10, w11, hu⟩ := hp
          replace hu := hu.symm
          subst hu
          refine j_if_ne C 71 (by decide) dX11_flow_64 (fun c13 => ?_) (fun c13 => ?_)
          · refine j_aload_n C 0 rfl dX11_flow_71 ?_
            refine gM_0_49 C tb_922 (w10) rfl dX11_flow_72 ?_
            refine j_i2l C dX11_flow_75 ?_
            refine j_bipush C (nI 100) (by decide) dX11_flow_76 ?_
            refine j_iload C 6 rfl dX11_flow_78 ?_
            refine j_isub C dX11_flow_80 ?_
            refine j_i2l C dX11_flow_81 ?_
            refine j_lmul C dX11_flow_82 ?_
            refine j_topL (fun v14 => ?_)
            refine j_ldc2 C tb_1260 dX11_flow_83 ?_
            refine j_ldiv C (by first | decide | assumption | exact nI_ne0 (by omega) (by omega) | exact i64ne (by assumption) | exact i64ne (nI_ne0 (by omega) (by omega))) dX11_flow_86 ?_
            refine j_l2i C dX11_flow_87 ?_
            refine j_istore C [(8, .int ((v14 / (100)).toInt32)), (0, .ref (g 0)), (1, .int (nI xn)), (2, .int (nI an)), (3, .int (nI bn)), (4, .int (nI cn)), (5, .int (nI dn)), (6, .int (nI yn)), (7, .int (nI zn))] (by decide) rfl dX11_flow_88 ?_
            refine j_iload C 8 rfl dX11_flow_90 ?_
            refine j_iload C 0 rfl dX11_flow_92 ?_
            refine j_icmp_ge C 105 (by decide) dX11_flow_94 (fun c15 => ?_) (fun c15 => ?_)
            · refine j_iload C 8 rfl dX11_flow_105 ?_
              refine j_aload_n C 1 rfl dX11_flow_107 ?_
              refine gM_0_50 C tb_923 (w11) rfl dX11_flow_108 ?_
              refine j_icmp_le C 124 (by decide) dX11_flow_111 (fun c16 => ?_) (fun c16 => ?_)
              · refine j_iconst C (nI 0) (by decide) dX11_flow_124 ?_
                exact j_iret C E (sI (sI (sI (sI (sF (sF (sF σ 16 w5) 17 w6) 18 w7) 47 w8) 48 w9) 49 w10) 50 w11) ⟨_, rfl, ⟨w5, w6, w7, w8, w9, w10, w11, rfl⟩⟩ rfl dX11_flow_125
              · refine j_iload C 8 rfl dX11_flow_114 ?_
                refine j_aload_n C 1 rfl dX11_flow_116 ?_
                refine gM_0_50 C tb_923 (w11) rfl dX11_flow_117 ?_
                refine j_isub C dX11_flow_120 ?_
                refine j_goto C 125 (by decide) dX11_flow_121 ?_
                exact j_iret C E (sI (sI (sI (sI (sF (sF (sF σ 16 w5) 17 w6) 18 w7) 47 w8) 48 w9) 49 w10) 50 w11) ⟨_, rfl, ⟨w5, w6, w7, w8, w9, w10, w11, rfl⟩⟩ rfl dX11_flow_125
            · refine j_iload C 8 rfl dX11_flow_97 ?_
              refine j_iload C 0 rfl dX11_flow_99 ?_
              refine j_isub C dX11_flow_101 ?_
              refine j_top (fun v17 => ?_)
              refine j_goto C 125 (by decide) dX11_flow_102 ?_
              exact j_iret C E (sI (sI (sI (sI (sF (sF (sF σ 16 w5) 17 w6) 18 w7) 47 w8) 48 w9) 49 w10) 50 w11) ⟨_, rfl, ⟨w5, w6, w7, w8, w9, w10, w11, rfl⟩⟩ rfl dX11_flow_125
          · refine j_ldcw C tb_1211 dX11_flow_67 ?_
            exact j_iret C E (sI (sI (sI (sI (sF (sF (sF σ 16 w5) 17 w6) 18 w7) 47 w8) 48 w9) 49 w10) 50 w11) ⟨_, rfl, ⟨w5, w6, w7, w8, w9, w10, w11, rfl⟩⟩ rfl dX11_flow_70
        · replace c4 := bI_f c4
          refine j_ldcw C tb_1206 dX11_flow_49 ?_
          refine j_w (cM g kk (sF σ 16 (σ.2.1 16))) (congrArg (cM g kk) (wrFi (S := σ) (c := 16) (v := σ.2.1 16) rfl)) ?_
          refine j_w (cM g kk (sF (sF σ 16 (σ.2.1 16)) 17 (σ.2.1 17))) (congrArg (cM g kk) (wrFi (S := (sF σ 16 (σ.2.1 16))) (c := 17) (v := σ.2.1 17) (gtFF (by decide) rfl))) ?_
          refine j_w (cM g kk (sF (sF (sF σ 16 (σ.2.1 16)) 17 (σ.2.1 17)) 18 (σ.2.1 18))) (congrArg (cM g kk) (wrFi (S := (sF (sF σ 16 (σ.2.1 16)) 17 (σ.2.1 17))) (c := 18) (v := σ.2.1 18) (gtFF (by decide) (gtFF (by decide) rfl)))) ?_
          refine j_w (cM g kk (sI (sF (sF (sF σ 16 (σ.2.1 16)) 17 (σ.2.1 17)) 18 (σ.2.1 18)) 47 (σ.1 47))) (congrArg (cM g kk) (wrIi (S := (sF (sF (sF σ 16 (σ.2.1 16)) 17 (σ.2.1 17)) 18 (σ.2.1 18))) (c := 47) (v := σ.1 47) (gtIF (gtIF (gtIF rfl))))) ?_
          refine j_w (cM g kk (sI (sI (sF (sF (sF σ 16 (σ.2.1 16)) 17 (σ.2.1 17)) 18 (σ.2.1 18)) 47 (σ.1 47)) 48 (σ.1 48))) (congrArg (cM g kk) (wrIi (S := (sI (sF (sF (sF σ 16 (σ.2.1 16)) 17 (σ.2.1 17)) 18 (σ.2.1 18)) 47 (σ.1 47))) (c := 48) (v := σ.1 48) (gtII (by decide) (gtIF (gtIF (gtIF rfl)))))) ?_
          refine j_w (cM g kk (sI (sI (sI (sF (sF (sF σ 16 (σ.2.1 16)) 17 (σ.2.1 17)) 18 (σ.2.1 18)) 47 (σ.1 47)) 48 (σ.1 48)) 49 (σ.1 49))) (congrArg (cM g kk) (wrIi (S := (sI (sI (sF (sF (sF σ 16 (σ.2.1 16)) 17 (σ.2.1 17)) 18 (σ.2.1 18)) 47 (σ.1 47)) 48 (σ.1 48))) (c := 49) (v := σ.1 49) (gtII (by decide) (gtII (by decide) (gtIF (gtIF (gtIF rfl))))))) ?_
          refine j_w (cM g kk (sI (sI (sI (sI (sF (sF (sF σ 16 (σ.2.1 16)) 17 (σ.2.1 17)) 18 (σ.2.1 18)) 47 (σ.1 47)) 48 (σ.1 48)) 49 (σ.1 49)) 50 (σ.1 50))) (congrArg (cM g kk) (wrIi (S := (sI (sI (sI (sF (sF (sF σ 16 (σ.2.1 16)) 17 (σ.2.1 17)) 18 (σ.2.1 18)) 47 (σ.1 47)) 48 (σ.1 48)) 49 (σ.1 49))) (c := 50) (v := σ.1 50) (gtII (by decide) (gtII (by decide) (gtII (by decide) (gtIF (gtIF (gtIF rfl)))))))) ?_
          exact j_iret C E (sI (sI (sI (sI (sF (sF (sF σ 16 (σ.2.1 16)) 17 (σ.2.1 17)) 18 (σ.2.1 18)) 47 (σ.1 47)) 48 (σ.1 48)) 49 (σ.1 49)) 50 (σ.1 50)) ⟨_, rfl, ⟨(σ.2.1 16), (σ.2.1 17), (σ.2.1 18), (σ.1 47), (σ.1 48), (σ.1 49), (σ.1 50), rfl⟩⟩ rfl dX11_flow_52
  · replace c1 := bI_f c1
    refine j_ldcw C tb_1205 dX11_flow_7 ?_
    refine j_w (cM g kk (sF σ 16 (σ.2.1 16))) (congrArg (cM g kk) (wrFi (S := σ) (c := 16) (v := σ.2.1 16) rfl)) ?_
    refine j_w (cM g kk (sF (sF σ 16 (σ.2.1 16)) 17 (σ.2.1 17))) (congrArg (cM g kk) (wrFi (S := (sF σ 16 (σ.2.1 16))) (c := 17) (v := σ.2.1 17) (gtFF (by decide) rfl))) ?_
    refine j_w (cM g kk (sF (sF (sF σ 16 (σ.2.1 16)) 17 (σ.2.1 17)) 18 (σ.2.1 18))) (congrArg (cM g kk) (wrFi (S := (sF (sF σ 16 (σ.2.1 16)) 17 (σ.2.1 17))) (c := 18) (v := σ.2.1 18) (gtFF (by decide) (gtFF (by decide) rfl)))) ?_
    refine j_w (cM g kk (sI (sF (sF (sF σ 16 (σ.2.1 16)) 17 (σ.2.1 17)) 18 (σ.2.1 18)) 47 (σ.1 47))) (congrArg (cM g kk) (wrIi (S := (sF (sF (sF σ 16 (σ.2.1 16)) 17 (σ.2.1 17)) 18 (σ.2.1 18))) (c := 47) (v := σ.1 47) (gtIF (gtIF (gtIF rfl))))) ?_
    refine j_w (cM g kk (sI (sI (sF (sF (sF σ 16 (σ.2.1 16)) 17 (σ.2.1 17)) 18 (σ.2.1 18)) 47 (σ.1 47)) 48 (σ.1 48))) (congrArg (cM g kk) (wrIi (S := (sI (sF (sF (sF σ 16 (σ.2.1 16)) 17 (σ.2.1 17)) 18 (σ.2.1 18)) 47 (σ.1 47))) (c := 48) (v := σ.1 48) (gtII (by decide) (gtIF (gtIF (gtIF rfl)))))) ?_
    refine j_w (cM g kk (sI (sI (sI (sF (sF (sF σ 16 (σ.2.1 16)) 17 (σ.2.1 17)) 18 (σ.2.1 18)) 47 (σ.1 47)) 48 (σ.1 48)) 49 (σ.1 49))) (congrArg (cM g kk) (wrIi (S := (sI (sI (sF (sF (sF σ 16 (σ.2.1 16)) 17 (σ.2.1 17)) 18 (σ.2.1 18)) 47 (σ.1 47)) 48 (σ.1 48))) (c := 49) (v := σ.1 49) (gtII (by decide) (gtII (by decide) (gtIF (gtIF (gtIF rfl))))))) ?_
    refine j_w (cM g kk (sI (sI (sI (sI (sF (sF (sF σ 16 (σ.2.1 16)) 17 (σ.2.1 17)) 18 (σ.2.1 18)) 47 (σ.1 47)) 48 (σ.1 48)) 49 (σ.1 49)) 50 (σ.1 50))) (congrArg (cM g kk) (wrIi (S := (sI (sI (sI (sF (sF (sF σ 16 (σ.2.1 16)) 17 (σ.2.1 17)) 18 (σ.2.1 18)) 47 (σ.1 47)) 48 (σ.1 48)) 49 (σ.1 49))) (c := 50) (v := σ.1 50) (gtII (by decide) (gtII (by decide) (gtII (by decide) (gtIF (gtIF (gtIF rfl)))))))) ?_
    exact j_iret C E (sI (sI (sI (sI (sF (sF (sF σ 16 (σ.2.1 16)) 17 (σ.2.1 17)) 18 (σ.2.1 18)) 47 (σ.1 47)) 48 (σ.1 48)) 49 (σ.1 49)) 50 (σ.1 50)) ⟨_, rfl, ⟨(σ.2.1 16), (σ.2.1 17), (σ.2.1 18), (σ.1 47), (σ.1 48), (σ.1 49), (σ.1 50), rfl⟩⟩ rfl dX11_flow_10
set_option maxRecDepth 100000 in
set_option maxHeartbeats 4000000 in
theorem n_fill (g kk : Nat → Nat) (σ : St) (k : Nat) (hk : σ.1 3 = nI k) (hk6 : k ≤ 6) (hI : iM σ)  (x : Int32) (y : Int32) (z : Int32) : jM (S := St) yX11_fill cX11_fill 4 (some .int) { frames := 6, cells := 0, slots := 0, locals := 141 } kk (cM g kk σ) [.ref (g 0), .int x, .int y, .int z] (cM g kk) (rI (fun (r : Int32) (u : St) => ∃ (pF16 : Nat → Int32) (pF17 : Nat → Int32) (pF18 : Nat → Int32) (pI47 : Int32) (pI48 : Int32), u = sI (sI (sF (sF (sF σ 16 pF16) 17 pF17) 18 pF18) 47 pI47) 48 pI48)) := by
  refine j_entry [(0, .ref (g 0)), (1, .int x), (2, .int y), (3, .int z)] (by decide) (Nat.le_of_ble_eq_true rfl) rfl ?_
  intro X C E HI
  refine j_aload_n C 0 rfl dX11_fill_0 ?_
  refine j_iload_n C 1 rfl dX11_fill_1 ?_
  refine j_V1 C (m_isCan g kk σ k hk hk6 x) kyX11_isCan tb_1067 tb_1069 sp_21 0 rfl (eM_0 g kk _) rfl (Nat.le_of_ble_eq_true rfl) ⟨by decide, by decide⟩ dX11_fill_2 rfl (fun vr ur hp => ?_)
  obtain ⟨r, rfl, rfl, hu⟩ := hp
  replace hu := hu.symm
  subst hu
  refine j_if_eq C 15 (by decide) dX11_fill_5 (fun c1 => ?_) (fun c1 => ?_)
  · replace c1 := bI_f c1
    refine j_iconst C ((-1)) (by decide) dX11_fill_15 ?_
    refine j_w (cM g kk (sF σ 16 (σ.2.1 16))) (congrArg (cM g kk) (wrFi (S := σ) (c := 16) (v := σ.2.1 16) rfl)) ?_
    refine j_w (cM g kk (sF (sF σ 16 (σ.2.1 16)) 17 (σ.2.1 17))) (congrArg (cM g kk) (wrFi (S := (sF σ 16 (σ.2.1 16))) (c := 17) (v := σ.2.1 17) (gtFF (by decide) rfl))) ?_
    refine j_w (cM g kk (sF (sF (sF σ 16 (σ.2.1 16)) 17 (σ.2.1 17)) 18 (σ.2.1 18))) (congrArg (cM g kk) (wrFi (S := (sF (sF σ 16 (σ.2.1 16)) 17 (σ.2.1 17))) (c := 18) (v := σ.2.1 18) (gtFF (by decide) (gtFF (by decide) rfl)))) ?_
    refine j_w (cM g kk (sI (sF (sF (sF σ 16 (σ.2.1 16)) 17 (σ.2.1 17)) 18 (σ.2.1 18)) 47 (σ.1 47))) (congrArg (cM g kk) (wrIi (S := (sF (sF (sF σ 16 (σ.2.1 16)) 17 (σ.2.1 17)) 18 (σ.2.1 18))) (c := 47) (v := σ.1 47) (gtIF (gtIF (gtIF rfl))))) ?_
    refine j_w (cM g kk (sI (sI (sF (sF (sF σ 16 (σ.2.1 16)) 17 (σ.2.1 17)) 18 (σ.2.1 18)) 47 (σ.1 47)) 48 (σ.1 48))) (congrArg (cM g kk) (wrIi (S := (sI (sF (sF (sF σ 16 (σ.2.1 16)) 17 (σ.2.1 17)) 18 (σ.2.1 18)) 47 (σ.1 47))) (c := 48) (v := σ.1 48) (gtII (by decide) (gtIF (gtIF (gtIF rfl)))))) ?_
    exact j_iret C E (sI (sI (sF (sF (sF σ 16 (σ.2.1 16)) 17 (σ.2.1 17)) 18 (σ.2.1 18)) 47 (σ.1 47)) 48 (σ.1 48)) ⟨_, rfl, ⟨(σ.2.1 16), (σ.2.1 17), (σ.2.1 18), (σ.1 47), (σ.1 48), rfl⟩⟩ rfl dX11_fill_16
  · replace c1 := bI_t c1
    obtain ⟨xn, xn1, rfl⟩ := cB_nat (by omega) c1
    refine j_iload_n C 2 rfl dX11_fill_8 ?_
    refine j_S01 C (m_isDay y) kyX11_isDay tb_1077 tb_1078 rfl (Nat.le_of_ble_eq_true rfl) ⟨by decide, by decide⟩ ⟨by decide, by decide⟩ dX11_fill_9 rfl ?_
    refine j_if_ne C 17 (by decide) dX11_fill_12 (fun c2 => ?_) (fun c2 => ?_)
    · replace c2 := bI_t c2
      obtain ⟨yn, yn1, yn2, rfl⟩ := wB_nat (by decide) (by decide) c2
      refine j_iload_n C 3 rfl dX11_fill_17 ?_
      refine j_i2l C dX11_fill_18 ?_
      refine j_lconst C 0 (by decide) dX11_fill_19 ?_
      refine j_lconst C 1 (by decide) dX11_fill_20 ?_
      refine j_S01 C (m_inB z (nI 0) (nI 1) 0 1 (by decide) (by decide)) kyX11_in tb_1057 tb_1058 rfl (Nat.le_of_ble_eq_true rfl) ⟨by decide, by decide⟩ ⟨by decide, by decide⟩ dX11_fill_21 rfl ?_
      refine j_if_ne C 30 (by decide) dX11_fill_24 (fun c3 => ?_) (fun c3 => ?_)
      · replace c3 := bI_t c3
        obtain ⟨zn, zn1, zn2, rfl⟩ := wB_nat (by decide) (by decide) c3
        refine j_aload_n C 0 rfl dX11_fill_30 ?_
        refine j_V1 C (n_findAll g kk σ k hk hk6 hI  ) kyX11_findAll tb_1131 tb_1133 sp_24 0 rfl (eM_0 g kk _) rfl (Nat.le_of_ble_eq_true rfl) ⟨by decide, by decide⟩ dX11_fill_31 rfl (fun vr ur hp => ?_)
        obtain ⟨rfl, w4, w5, w6, hu⟩ := hp
        replace hu := hu.symm
        subst hu
        refine j_aload_n C 0 rfl dX11_fill_34 ?_
        refine gM_0_24 C tb_897 dX11_fill_35 ?_
        refine j_iload_n C 1 rfl dX11_fill_38 ?_
        refine j_iload_n C 2 rfl dX11_fill_39 ?_
        refine j_S01 C (m_at xn yn) kyX11_at tb_1060 tb_1061 rfl (Nat.le_of_ble_eq_true rfl) ⟨by decide, by decide⟩ ⟨by decide, by decide⟩ dX11_fill_40 rfl ?_
        refine rM_18 C (28 * xn + yn) rfl (by omega) (w6 (28 * xn + yn)) rfl dX11_fill_43 ?_
        refine j_if_lt C 50 (by decide) dX11_fill_44 (fun c7 => ?_) (fun c7 => ?_)
        · refine j_aload_n C 0 rfl dX11_fill_50 ?_
          refine j_iload_n C 2 rfl dX11_fill_51 ?_
          refine j_aload_n C 0 rfl dX11_fill_52 ?_
          refine gM_0_0 C tb_873 dX11_fill_53 ?_
          refine j_iload_n C 1 rfl dX11_fill_56 ?_
          refine rM_1 C xn rfl (by omega) ((σ.2.1 1) xn) rfl dX11_fill_57 ?_
          refine j_aload_n C 0 rfl dX11_fill_58 ?_
          refine gM_0_1 C tb_874 dX11_fill_59 ?_
          refine j_iload_n C 1 rfl dX11_fill_62 ?_
          refine rM_2 C xn rfl (by omega) ((σ.2.1 2) xn) rfl dX11_fill_63 ?_
          refine j_V1 C (n_findBound g kk (sF (sF (sF σ 16 w4) 17 w5) 18 w6) k hk hk6 hI  yn (by first | assumption | omega) ((σ.2.1 1) xn) ((σ.2.1 2) xn)) kyX11_findBound tb_1237 tb_1239 sp_39 0 rfl (eM_0 g kk _) rfl (Nat.le_of_ble_eq_true rfl) ⟨by decide, by decide⟩ dX11_fill_64 rfl (fun vr ur hp => ?_)
          obtain ⟨r10, rfl, w8, w9, hu⟩ := hp
          replace hu := hu.symm
          subst hu
          refine j_if_ne C 73 (by decide) dX11_fill_67 (fun c11 => ?_) (fun c11 => ?_)
          · refine j_iload_n C 3 rfl dX11_fill_73 ?_
            refine j_if_neN C 91 (by decide) (by omega) dX11_fill_74 (fun c12 => ?_) (fun c12 => ?_)
            · refine j_aload_n C 0 rfl dX11_fill_91 ?_
              refine gM_0_48 C tb_921 (w9) rfl dX11_fill_92 ?_
              refine j_aload_n C 0 rfl dX11_fill_95 ?_
              refine gM_0_47 C tb_920 (w8) rfl dX11_fill_96 ?_
              refine j_isub C dX11_fill_99 ?_
              refine j_iconst C (nI 2) (by decide) dX11_fill_100 ?_
              refine j_idiv C (by first | decide | assumption | exact nI_ne0 (by omega) (by omega) | exact i64ne (by assumption) | exact i64ne (nI_ne0 (by omega) (by omega))) dX11_fill_101 ?_
              refine j_iconst C (nI 1) (by decide) dX11_fill_102 ?_
              refine j_iadd C dX11_fill_103 ?_
              exact j_iret C E (sI (sI (sF (sF (sF σ 16 w4) 17 w5) 18 w6) 47 w8) 48 w9) ⟨_, rfl, ⟨w4, w5, w6, w8, w9, rfl⟩⟩ rfl dX11_fill_104
            · refine j_aload_n C 0 rfl dX11_fill_77 ?_
              refine gM_0_47 C tb_920 (w8) rfl dX11_fill_78 ?_
              refine j_aload_n C 0 rfl dX11_fill_81 ?_
              refine gM_0_48 C tb_921 (w9) rfl dX11_fill_82 ?_
              refine j_iadd C dX11_fill_85 ?_
              refine j_iconst C (nI 2) (by decide) dX11_fill_86 ?_
              refine j_idiv C (by first | decide | assumption | exact nI_ne0 (by omega) (by omega) | exact i64ne (by assumption) | exact i64ne (nI_ne0 (by omega) (by omega))) dX11_fill_87 ?_
              refine j_goto C 104 (by decide) dX11_fill_88 ?_
              exact j_iret C E (sI (sI (sF (sF (sF σ 16 w4) 17 w5) 18 w6) 47 w8) 48 w9) ⟨_, rfl, ⟨w4, w5, w6, w8, w9, rfl⟩⟩ rfl dX11_fill_104
          · refine j_bipush C ((-5)) (by decide) dX11_fill_70 ?_
            exact j_iret C E (sI (sI (sF (sF (sF σ 16 w4) 17 w5) 18 w6) 47 w8) 48 w9) ⟨_, rfl, ⟨w4, w5, w6, w8, w9, rfl⟩⟩ rfl dX11_fill_72
        · refine j_bipush C ((-3)) (by decide) dX11_fill_47 ?_
          refine j_w (cM g kk (sI (sF (sF (sF σ 16 w4) 17 w5) 18 w6) 47 (σ.1 47))) (congrArg (cM g kk) (wrIi (S := (sF (sF (sF σ 16 w4) 17 w5) 18 w6)) (c := 47) (v := σ.1 47) (gtIF (gtIF (gtIF rfl))))) ?_
          refine j_w (cM g kk (sI (sI (sF (sF (sF σ 16 w4) 17 w5) 18 w6) 47 (σ.1 47)) 48 (σ.1 48))) (congrArg (cM g kk) (wrIi (S := (sI (sF (sF (sF σ 16 w4) 17 w5) 18 w6) 47 (σ.1 47))) (c := 48) (v := σ.1 48) (gtII (by decide) (gtIF (gtIF (gtIF rfl)))))) ?_
          exact j_iret C E (sI (sI (sF (sF (sF σ 16 w4) 17 w5) 18 w6) 47 (σ.1 47)) 48 (σ.1 48)) ⟨_, rfl, ⟨w4, w5, w6, (σ.1 47), (σ.1 48), rfl⟩⟩ rfl dX11_fill_49
      · replace c3 := bI_f c3
        refine j_bipush C ((-2)) (by decide) dX11_fill_27 ?_
        refine j_w (cM g kk (sF σ 16 (σ.2.1 16))) (congrArg (cM g kk) (wrFi (S := σ) (c := 16) (v := σ.2.1 16) rfl)) ?_
        refine j_w (cM g kk (sF (sF σ 16 (σ.2.1 16)) 17 (σ.2.1 17))) (congrArg (cM g kk) (wrFi (S := (sF σ 16 (σ.2.1 16))) (c := 17) (v := σ.2.1 17) (gtFF (by decide) rfl))) ?_
        refine j_w (cM g kk (sF (sF (sF σ 16 (σ.2.1 16)) 17 (σ.2.1 17)) 18 (σ.2.1 18))) (congrArg (cM g kk) (wrFi (S := (sF (sF σ 16 (σ.2.1 16)) 17 (σ.2.1 17))) (c := 18) (v := σ.2.1 18) (gtFF (by decide) (gtFF (by decide) rfl)))) ?_
        refine j_w (cM g kk (sI (sF (sF (sF σ 16 (σ.2.1 16)) 17 (σ.2.1 17)) 18 (σ.2.1 18)) 47 (σ.1 47))) (congrArg (cM g kk) (wrIi (S := (sF (sF (sF σ 16 (σ.2.1 16)) 17 (σ.2.1 17)) 18 (σ.2.1 18))) (c := 47) (v := σ.1 47) (gtIF (gtIF (gtIF rfl))))) ?_
        refine j_w (cM g kk (sI (sI (sF (sF (sF σ 16 (σ.2.1 16)) 17 (σ.2.1 17)) 18 (σ.2.1 18)) 47 (σ.1 47)) 48 (σ.1 48))) (congrArg (cM g kk) (wrIi (S := (sI (sF (sF (sF σ 16 (σ.2.1 16)) 17 (σ.2.1 17)) 18 (σ.2.1 18)) 47 (σ.1 47))) (c := 48) (v := σ.1 48) (gtII (by decide) (gtIF (gtIF (gtIF rfl)))))) ?_
        exact j_iret C E (sI (sI (sF (sF (sF σ 16 (σ.2.1 16)) 17 (σ.2.1 17)) 18 (σ.2.1 18)) 47 (σ.1 47)) 48 (σ.1 48)) ⟨_, rfl, ⟨(σ.2.1 16), (σ.2.1 17), (σ.2.1 18), (σ.1 47), (σ.1 48), rfl⟩⟩ rfl dX11_fill_29
    · replace c2 := bI_f c2
      refine j_iconst C ((-1)) (by decide) dX11_fill_15 ?_
      refine j_w (cM g kk (sF σ 16 (σ.2.1 16))) (congrArg (cM g kk) (wrFi (S := σ) (c := 16) (v := σ.2.1 16) rfl)) ?_
      refine j_w (cM g kk (sF (sF σ 16 (σ.2.1 16)) 17 (σ.2.1 17))) (congrArg (cM g kk) (wrFi (S := (sF σ 16 (σ.2.1 16))) (c := 17) (v := σ.2.1 17) (gtFF (by decide) rfl))) ?_
      refine j_w (cM g kk (sF (sF (sF σ 16 (σ.2.1 16)) 17 (σ.2.1 17)) 18 (σ.2.1 18))) (congrArg (cM g kk) (wrFi (S := (sF (sF σ 16 (σ.2.1 16)) 17 (σ.2.1 17))) (c := 18) (v := σ.2.1 18) (gtFF (by decide) (gtFF (by decide) rfl)))) ?_
      refine j_w (cM g kk (sI (sF (sF (sF σ 16 (σ.2.1 16)) 17 (σ.2.1 17)) 18 (σ.2.1 18)) 47 (σ.1 47))) (congrArg (cM g kk) (wrIi (S := (sF (sF (sF σ 16 (σ.2.1 16)) 17 (σ.2.1 17)) 18 (σ.2.1 18))) (c := 47) (v := σ.1 47) (gtIF (gtIF (gtIF rfl))))) ?_
      refine j_w (cM g kk (sI (sI (sF (sF (sF σ 16 (σ.2.1 16)) 17 (σ.2.1 17)) 18 (σ.2.1 18)) 47 (σ.1 47)) 48 (σ.1 48))) (congrArg (cM g kk) (wrIi (S := (sI (sF (sF (sF σ 16 (σ.2.1 16)) 17 (σ.2.1 17)) 18 (σ.2.1 18)) 47 (σ.1 47))) (c := 48) (v := σ.1 48) (gtII (by decide) (gtIF (gtIF (gtIF rfl)))))) ?_
      exact j_iret C E (sI (sI (sF (sF (sF σ 16 (σ.2.1 16)) 17 (σ.2.1 17)) 18 (σ.2.1 18)) 47 (σ.1 47)) 48 (σ.1 48)) ⟨_, rfl, ⟨(σ.2.1 16), (σ.2.1 17), (σ.2.1 18), (σ.1 47), (σ.1 48), rfl⟩⟩ rfl dX11_fill_16
set_option maxRecDepth 100000 in
set_option maxHeartbeats 4000000 in
theorem n_nearest (g kk : Nat → Nat) (σ : St) (k : Nat) (hk : σ.1 3 = nI k) (hk6 : k ≤ 6) (hI : iM σ)  (x : Int32) (y : Int32) : jM (S := St) yX11_nearest cX11_nearest 6 (some .int) { frames := 1, cells := 0, slots := 0, locals := 21 } kk (cM g kk σ) [.ref (g 0), .int x, .int y] (cM g kk) (rI (fun (r : Int32) (u : St) => u = σ)) := by
  refine j_entry [(0, .ref (g 0)), (1, .int x), (2, .int y)] (by decide) (Nat.le_of_ble_eq_true rfl) rfl ?_
  intro X C E HI
  refine j_bipush C (nI 99) (by decide) dX11_nearest_0 ?_
  refine j_istore_n C [(3, .int (nI 99)), (0, .ref (g 0)), (1, .int x), (2, .int y)] rfl (by decide) rfl dX11_nearest_2 ?_
  refine j_iconst C (nI 0) (by decide) dX11_nearest_3 ?_
  refine j_istore C [(4, .int (nI 0)), (3, .int (nI 99)), (0, .ref (g 0)), (1, .int x), (2, .int y)] (by decide) rfl dX11_nearest_4 ?_
  have L6 : ∀ (n6 : Nat) (c : Nat) (y6_3 : Int32) (i6_0 : c ≤ k) (hm6 : k - c < n6), J X 0 0 (cM g kk σ) [(4, .int (nI c)), (3, .int y6_3), (0, .ref (g 0)), (1, .int x), (2, .int y)] 6 [] := by
    intro n6
    induction n6 with
    | zero => intro c y6_3 i6_0 hm; exact absurd hm (Nat.not_lt_zero _)
    | succ n6 ih6 =>
      intro c y6_3 i6_0 hm6
      refine j_iload C 0 rfl dX11_nearest_6 ?_
      refine j_aload_n C 2 rfl dX11_nearest_8 ?_
      refine gM_0_3 C tb_876 (nI k) hk dX11_nearest_9 ?_
      refine j_icmp_geN C 59 (by decide) (by omega) (by omega) dX11_nearest_12 (fun c1 => ?_) (fun c1 => ?_)
      · refine j_iload_n C 1 rfl dX11_nearest_59 ?_
        exact j_iret C E (σ) ⟨_, rfl, rfl⟩ rfl dX11_nearest_60
      · refine j_aload_n C 2 rfl dX11_nearest_15 ?_
        refine gM_0_0 C tb_873 dX11_nearest_16 ?_
        refine j_iload C 0 rfl dX11_nearest_19 ?_
        refine rM_1 C c rfl (by omega) ((σ.2.1 1) c) rfl dX11_nearest_21 ?_
        refine j_iload_n C 3 rfl dX11_nearest_22 ?_
        refine j_S01 C (m_off ((σ.2.1 1) c) x) kyX11_off tb_1155 tb_1156 rfl (Nat.le_of_ble_eq_true rfl) ⟨by decide, by decide⟩ ⟨by decide, by decide⟩ dX11_nearest_23 rfl ?_
        refine j_top (fun v2 => ?_)
        refine j_aload_n C 2 rfl dX11_nearest_26 ?_
        refine gM_0_1 C tb_874 dX11_nearest_27 ?_
        refine j_iload C 0 rfl dX11_nearest_30 ?_
        refine rM_2 C c rfl (by omega) ((σ.2.1 2) c) rfl dX11_nearest_32 ?_
        refine j_iload_n C 4 rfl dX11_nearest_33 ?_
        refine j_S01 C (m_off ((σ.2.1 2) c) y) kyX11_off tb_1155 tb_1156 rfl (Nat.le_of_ble_eq_true rfl) ⟨by decide, by decide⟩ ⟨by decide, by decide⟩ dX11_nearest_34 rfl ?_
        refine j_top (fun v3 => ?_)
        refine j_iadd C dX11_nearest_37 ?_
        refine j_istore C [(5, .int (v2 + v3)), (4, .int (nI c)), (3, .int y6_3), (0, .ref (g 0)), (1, .int x), (2, .int y)] (by decide) rfl dX11_nearest_38 ?_
        refine j_iload C 0 rfl dX11_nearest_40 ?_
        refine j_iload_n C 2 rfl dX11_nearest_42 ?_
        refine j_icmp_ge C 51 (by decide) dX11_nearest_43 (fun c4 => ?_) (fun c4 => ?_)
        · refine j_iload_n C 2 rfl dX11_nearest_51 ?_
          refine j_istore_n C [(3, .int y6_3), (5, .int (v2 + v3)), (4, .int (nI c)), (0, .ref (g 0)), (1, .int x), (2, .int y)] rfl (by decide) rfl dX11_nearest_52 ?_
          refine j_iinc C (nI (c + 1)) [(4, .int (nI (c + 1))), (3, .int y6_3), (5, .int (v2 + v3)), (0, .ref (g 0)), (1, .int x), (2, .int y)] 2 rfl (by rw [show Int32.ofInt 1 = nI 1 from by decide, nI_add]) (by decide) rfl dX11_nearest_53 ?_
          refine j_goto C 6 (by decide) dX11_nearest_56 ?_
          refine j_sub (lv' := [(4, .int (nI (c + 1))), (3, .int y6_3), (0, .ref (g 0)), (1, .int x), (2, .int y)]) [0, 1, 3, 4, 5] rfl ?_
          exact ih6 (c + 1) y6_3 (by omega) (by omega)
        · refine j_iload C 0 rfl dX11_nearest_46 ?_
          refine j_goto C 52 (by decide) dX11_nearest_48 ?_
          refine j_istore_n C [(3, .int (v2 + v3)), (5, .int (v2 + v3)), (4, .int (nI c)), (0, .ref (g 0)), (1, .int x), (2, .int y)] rfl (by decide) rfl dX11_nearest_52 ?_
          refine j_iinc C (nI (c + 1)) [(4, .int (nI (c + 1))), (3, .int (v2 + v3)), (5, .int (v2 + v3)), (0, .ref (g 0)), (1, .int x), (2, .int y)] 2 rfl (by rw [show Int32.ofInt 1 = nI 1 from by decide, nI_add]) (by decide) rfl dX11_nearest_53 ?_
          refine j_goto C 6 (by decide) dX11_nearest_56 ?_
          refine j_sub (lv' := [(4, .int (nI (c + 1))), (3, .int (v2 + v3)), (0, .ref (g 0)), (1, .int x), (2, .int y)]) [0, 1, 3, 4, 5] rfl ?_
          exact ih6 (c + 1) (v2 + v3) (by omega) (by omega)
  exact L6 _ 0 (nI 99) (by omega) (Nat.lt_succ_self _)
set_option maxRecDepth 100000 in
set_option maxHeartbeats 4000000 in
theorem n_place (g kk : Nat → Nat) (σ : St) (k : Nat) (hk : σ.1 3 = nI k) (hk6 : k ≤ 6) (hI : iM σ)  (a : Int32) (b : Int32) (c : Int32) (d : Int32) : jM (S := St) yX11_place cX11_place 14 (some .int) { frames := 2, cells := 0, slots := 0, locals := 48 } kk (cM g kk σ) [.ref (g 0), .int a, .int b, .int c, .int d] (cM g kk) (rI (fun (r : Int32) (u : St) => u = σ)) := by
  refine j_entry [(0, .ref (g 0)), (1, .int a), (2, .int b), (3, .int c), (4, .int d)] (by decide) (Nat.le_of_ble_eq_true rfl) rfl ?_
  intro X C E HI
  refine j_iload_n C 1 rfl dX11_place_0 ?_
  refine j_iload_n C 2 rfl dX11_place_1 ?_
  refine j_iload_n C 3 rfl dX11_place_2 ?_
  refine j_iload C 4 rfl dX11_place_3 ?_
  refine j_S01 C (m_isLand a b c d) kyX11_isLand tb_1249 tb_1250 rfl (Nat.le_of_ble_eq_true rfl) ⟨by decide, by decide⟩ ⟨by decide, by decide⟩ dX11_place_5 rfl ?_
  refine j_if_ne C 14 (by decide) dX11_place_8 (fun c1 => ?_) (fun c1 => ?_)
  · replace c1 := bI_t c1
    obtain ⟨an, bn, cn, dn, hl1, hl2, hl3, hl4, rfl, rfl, rfl, rfl⟩ := ldB_nat c1
    refine j_bipush C ((-6)) (by decide) dX11_place_14 ?_
    refine j_istore C [(5, .int (-6)), (0, .ref (g 0)), (1, .int (nI an)), (2, .int (nI bn)), (3, .int (nI cn)), (4, .int (nI dn))] (by decide) rfl dX11_place_16 ?_
    refine j_iconst C (nI 0) (by decide) dX11_place_18 ?_
    refine j_istore C [(6, .int (nI 0)), (5, .int (-6)), (0, .ref (g 0)), (1, .int (nI an)), (2, .int (nI bn)), (3, .int (nI cn)), (4, .int (nI dn))] (by decide) rfl dX11_place_19 ?_
    refine j_iconst C (nI 0) (by decide) dX11_place_21 ?_
    refine j_istore C [(7, .int (nI 0)), (6, .int (nI 0)), (5, .int (-6)), (0, .ref (g 0)), (1, .int (nI an)), (2, .int (nI bn)), (3, .int (nI cn)), (4, .int (nI dn))] (by decide) rfl dX11_place_22 ?_
    have L24 : ∀ (n24 : Nat) (u : Nat) (y24_6 : Int32) (y24_5 : Int32) (i24_0 : u ≤ 21) (hm24 : 21 - u < n24), J X 0 0 (cM g kk σ) [(7, .int (nI u)), (6, .int y24_6), (5, .int y24_5), (0, .ref (g 0)), (1, .int (nI an)), (2, .int (nI bn)), (3, .int (nI cn)), (4, .int (nI dn))] 24 [] := by
      intro n24
      induction n24 with
      | zero => intro u y24_6 y24_5 i24_0 hm; exact absurd hm (Nat.not_lt_zero _)
      | succ n24 ih24 =>
        intro u y24_6 y24_5 i24_0 hm24
        refine j_iload C 0 rfl dX11_place_24 ?_
        refine j_bipush C (nI 20) (by decide) dX11_place_26 ?_
        refine j_icmp_gtN C 159 (by decide) (by omega) (by omega) dX11_place_28 (fun c2 => ?_) (fun c2 => ?_)
        · refine j_iload C 2 rfl dX11_place_159 ?_
          exact j_iret C E (σ) ⟨_, rfl, rfl⟩ rfl dX11_place_161
        · refine j_iconst C (nI 0) (by decide) dX11_place_31 ?_
          refine j_istore C [(8, .int (nI 0)), (7, .int (nI u)), (6, .int y24_6), (5, .int y24_5), (0, .ref (g 0)), (1, .int (nI an)), (2, .int (nI bn)), (3, .int (nI cn)), (4, .int (nI dn))] (by decide) rfl dX11_place_32 ?_
          have L34 : ∀ (n34 : Nat) (v : Nat) (y34_6 : Int32) (y34_5 : Int32) (i34_0 : v ≤ 21) (hm34 : 21 - v < n34), J X 0 0 (cM g kk σ) [(8, .int (nI v)), (7, .int (nI u)), (6, .int y34_6), (5, .int y34_5), (0, .ref (g 0)), (1, .int (nI an)), (2, .int (nI bn)), (3, .int (nI cn)), (4, .int (nI dn))] 34 [] := by
            intro n34
            induction n34 with
            | zero => intro v y34_6 y34_5 i34_0 hm; exact absurd hm (Nat.not_lt_zero _)
            | succ n34 ih34 =>
              intro v y34_6 y34_5 i34_0 hm34
              refine j_iload C 0 rfl dX11_place_34 ?_
              refine j_bipush C (nI 20) (by decide) dX11_place_36 ?_
              refine j_icmp_gtN C 153 (by decide) (by omega) (by omega) dX11_place_38 (fun c3 => ?_) (fun c3 => ?_)
              · refine j_iinc C (nI (u + 1)) [(7, .int (nI (u + 1))), (8, .int (nI v)), (6, .int y34_6), (5, .int y34_5), (0, .ref (g 0)), (1, .int (nI an)), (2, .int (nI bn)), (3, .int (nI cn)), (4, .int (nI dn))] 1 rfl (by rw [show Int32.ofInt 1 = nI 1 from by decide, nI_add]) (by decide) rfl dX11_place_153 ?_
                refine j_goto C 24 (by decide) dX11_place_156 ?_
                refine j_sub (lv' := [(7, .int (nI (u + 1))), (6, .int y34_6), (5, .int y34_5), (0, .ref (g 0)), (1, .int (nI an)), (2, .int (nI bn)), (3, .int (nI cn)), (4, .int (nI dn))]) [0, 2, 3, 4, 5, 6, 7, 8] rfl ?_
                exact ih24 (u + 1) y34_6 y34_5 (by omega) (by omega)
              · refine j_iconst C (nI 0) (by decide) dX11_place_41 ?_
                refine j_istore C [(9, .int (nI 0)), (8, .int (nI v)), (7, .int (nI u)), (6, .int y34_6), (5, .int y34_5), (0, .ref (g 0)), (1, .int (nI an)), (2, .int (nI bn)), (3, .int (nI cn)), (4, .int (nI dn))] (by decide) rfl dX11_place_42 ?_
                refine j_iload_n C 6 rfl dX11_place_44 ?_
                refine j_istore C [(10, .int (nI an)), (9, .int (nI 0)), (8, .int (nI v)), (7, .int (nI u)), (6, .int y34_6), (5, .int y34_5), (0, .ref (g 0)), (1, .int (nI an)), (2, .int (nI bn)), (3, .int (nI cn)), (4, .int (nI dn))] (by decide) rfl dX11_place_45 ?_
                have L47 : ∀ (n47 : Nat) (x : Nat) (y47_9 : Int32) (i47_0 : x ≤ 21) (hm47 : 21 - x < n47), J X 0 0 (cM g kk σ) [(10, .int (nI x)), (9, .int y47_9), (8, .int (nI v)), (7, .int (nI u)), (6, .int y34_6), (5, .int y34_5), (0, .ref (g 0)), (1, .int (nI an)), (2, .int (nI bn)), (3, .int (nI cn)), (4, .int (nI dn))] 47 [] := by
                  intro n47
                  induction n47 with
                  | zero => intro x y47_9 i47_0 hm; exact absurd hm (Nat.not_lt_zero _)
                  | succ n47 ih47 =>
                    intro x y47_9 i47_0 hm47
                    refine j_iload C 0 rfl dX11_place_47 ?_
                    refine j_iload_n C 8 rfl dX11_place_49 ?_
                    refine j_icmp_gtN C 121 (by decide) (by omega) (by omega) dX11_place_50 (fun c4 => ?_) (fun c4 => ?_)
                    · refine j_iload C 5 rfl dX11_place_121 ?_
                      refine j_if_lt C 133 (by decide) dX11_place_123 (fun c5 => ?_) (fun c5 => ?_)
                      · refine j_bipush C (nI 100) (by decide) dX11_place_133 ?_
                        refine j_iload C 3 rfl dX11_place_135 ?_
                        refine j_imulN C dX11_place_137 ?_
                        refine j_iload C 2 rfl dX11_place_138 ?_
                        refine j_iaddN C dX11_place_140 ?_
                        refine j_istore C [(5, .int (nI ((100 * u) + v))), (10, .int (nI x)), (9, .int y47_9), (8, .int (nI v)), (7, .int (nI u)), (6, .int y34_6), (0, .ref (g 0)), (1, .int (nI an)), (2, .int (nI bn)), (3, .int (nI cn)), (4, .int (nI dn))] (by decide) rfl dX11_place_141 ?_
                        refine j_iload C 2 rfl dX11_place_143 ?_
                        refine j_istore C [(6, .int y47_9), (5, .int (nI ((100 * u) + v))), (10, .int (nI x)), (9, .int y47_9), (8, .int (nI v)), (7, .int (nI u)), (0, .ref (g 0)), (1, .int (nI an)), (2, .int (nI bn)), (3, .int (nI cn)), (4, .int (nI dn))] (by decide) rfl dX11_place_145 ?_
                        refine j_iinc C (nI (v + 1)) [(8, .int (nI (v + 1))), (6, .int y47_9), (5, .int (nI ((100 * u) + v))), (10, .int (nI x)), (9, .int y47_9), (7, .int (nI u)), (0, .ref (g 0)), (1, .int (nI an)), (2, .int (nI bn)), (3, .int (nI cn)), (4, .int (nI dn))] 4 rfl (by rw [show Int32.ofInt 1 = nI 1 from by decide, nI_add]) (by decide) rfl dX11_place_147 ?_
                        refine j_goto C 34 (by decide) dX11_place_150 ?_
                        refine j_sub (lv' := [(8, .int (nI (v + 1))), (7, .int (nI u)), (6, .int y47_9), (5, .int (nI ((100 * u) + v))), (0, .ref (g 0)), (1, .int (nI an)), (2, .int (nI bn)), (3, .int (nI cn)), (4, .int (nI dn))]) [0, 5, 1, 2, 6, 7, 8, 9, 10] rfl ?_
                        exact ih34 (v + 1) y47_9 (nI ((100 * u) + v)) (by omega) (by omega)
                      · refine j_iload C 1 rfl dX11_place_126 ?_
                        refine j_iload C 4 rfl dX11_place_128 ?_
                        refine j_icmp_ge C 147 (by decide) dX11_place_130 (fun c6 => ?_) (fun c6 => ?_)
                        · refine j_iinc C (nI (v + 1)) [(8, .int (nI (v + 1))), (10, .int (nI x)), (9, .int y47_9), (7, .int (nI u)), (6, .int y34_6), (5, .int y34_5), (0, .ref (g 0)), (1, .int (nI an)), (2, .int (nI bn)), (3, .int (nI cn)), (4, .int (nI dn))] 2 rfl (by rw [show Int32.ofInt 1 = nI 1 from by decide, nI_add]) (by decide) rfl dX11_place_147 ?_
                          refine j_goto C 34 (by decide) dX11_place_150 ?_
                          refine j_sub (lv' := [(8, .int (nI (v + 1))), (7, .int (nI u)), (6, .int y34_6), (5, .int y34_5), (0, .ref (g 0)), (1, .int (nI an)), (2, .int (nI bn)), (3, .int (nI cn)), (4, .int (nI dn))]) [0, 3, 4, 5, 6, 7, 8, 9, 10] rfl ?_
                          exact ih34 (v + 1) y34_6 y34_5 (by omega) (by omega)
                        · refine j_bipush C (nI 100) (by decide) dX11_place_133 ?_
                          refine j_iload C 3 rfl dX11_place_135 ?_
                          refine j_imulN C dX11_place_137 ?_
                          refine j_iload C 2 rfl dX11_place_138 ?_
                          refine j_iaddN C dX11_place_140 ?_
                          refine j_istore C [(5, .int (nI ((100 * u) + v))), (10, .int (nI x)), (9, .int y47_9), (8, .int (nI v)), (7, .int (nI u)), (6, .int y34_6), (0, .ref (g 0)), (1, .int (nI an)), (2, .int (nI bn)), (3, .int (nI cn)), (4, .int (nI dn))] (by decide) rfl dX11_place_141 ?_
                          refine j_iload C 2 rfl dX11_place_143 ?_
                          refine j_istore C [(6, .int y47_9), (5, .int (nI ((100 * u) + v))), (10, .int (nI x)), (9, .int y47_9), (8, .int (nI v)), (7, .int (nI u)), (0, .ref (g 0)), (1, .int (nI an)), (2, .int (nI bn)), (3, .int (nI cn)), (4, .int (nI dn))] (by decide) rfl dX11_place_145 ?_
                          refine j_iinc C (nI (v + 1)) [(8, .int (nI (v + 1))), (6, .int y47_9), (5, .int (nI ((100 * u) + v))), (10, .int (nI x)), (9, .int y47_9), (7, .int (nI u)), (0, .ref (g 0)), (1, .int (nI an)), (2, .int (nI bn)), (3, .int (nI cn)), (4, .int (nI dn))] 4 rfl (by rw [show Int32.ofInt 1 = nI 1 from by decide, nI_add]) (by decide) rfl dX11_place_147 ?_
                          refine j_goto C 34 (by decide) dX11_place_150 ?_
                          refine j_sub (lv' := [(8, .int (nI (v + 1))), (7, .int (nI u)), (6, .int y47_9), (5, .int (nI ((100 * u) + v))), (0, .ref (g 0)), (1, .int (nI an)), (2, .int (nI bn)), (3, .int (nI cn)), (4, .int (nI dn))]) [0, 5, 1, 2, 6, 7, 8, 9, 10] rfl ?_
                          exact ih34 (v + 1) y47_9 (nI ((100 * u) + v)) (by omega) (by omega)
                    · refine j_iload_n C 9 rfl dX11_place_53 ?_
                      refine j_istore C [(11, .int (nI cn)), (10, .int (nI x)), (9, .int y47_9), (8, .int (nI v)), (7, .int (nI u)), (6, .int y34_6), (5, .int y34_5), (0, .ref (g 0)), (1, .int (nI an)), (2, .int (nI bn)), (3, .int (nI cn)), (4, .int (nI dn))] (by decide) rfl dX11_place_54 ?_
                      have L56 : ∀ (n56 : Nat) (y : Nat) (y56_9 : Int32) (i56_0 : y ≤ 21) (hm56 : 21 - y < n56), J X 0 0 (cM g kk σ) [(11, .int (nI y)), (10, .int (nI x)), (9, .int y56_9), (8, .int (nI v)), (7, .int (nI u)), (6, .int y34_6), (5, .int y34_5), (0, .ref (g 0)), (1, .int (nI an)), (2, .int (nI bn)), (3, .int (nI cn)), (4, .int (nI dn))] 56 [] := by
                        intro n56
                        induction n56 with
                        | zero => intro y y56_9 i56_0 hm; exact absurd hm (Nat.not_lt_zero _)
                        | succ n56 ih56 =>
                          intro y y56_9 i56_0 hm56
                          refine j_iload C 0 rfl dX11_place_56 ?_
                          refine j_iload C 11 rfl dX11_place_58 ?_
                          refine j_icmp_gtN C 115 (by decide) (by omega) (by omega) dX11_place_60 (fun c7 => ?_) (fun c7 => ?_)
                          · refine j_iinc C (nI (x + 1)) [(10, .int (nI (x + 1))), (11, .int (nI y)), (9, .int y56_9), (8, .int (nI v)), (7, .int (nI u)), (6, .int y34_6), (5, .int y34_5), (0, .ref (g 0)), (1, .int (nI an)), (2, .int (nI bn)), (3, .int (nI cn)), (4, .int (nI dn))] 1 rfl (by rw [show Int32.ofInt 1 = nI 1 from by decide, nI_add]) (by decide) rfl dX11_place_115 ?_
                            refine j_goto C 47 (by decide) dX11_place_118 ?_
                            refine j_sub (lv' := [(10, .int (nI (x + 1))), (9, .int y56_9), (8, .int (nI v)), (7, .int (nI u)), (6, .int y34_6), (5, .int y34_5), (0, .ref (g 0)), (1, .int (nI an)), (2, .int (nI bn)), (3, .int (nI cn)), (4, .int (nI dn))]) [0, 2, 3, 4, 5, 6, 7, 8, 9, 10, 11] rfl ?_
                            exact ih47 (x + 1) y56_9 (by omega) (by omega)
                          · refine j_iload C 4 rfl dX11_place_63 ?_
                            refine j_iload C 1 rfl dX11_place_65 ?_
                            refine j_S01 C (m_off (nI u) (nI x)) kyX11_off tb_1155 tb_1156 rfl (Nat.le_of_ble_eq_true rfl) ⟨by decide, by decide⟩ ⟨by decide, by decide⟩ dX11_place_67 rfl ?_
                            refine j_top (fun v8 => ?_)
                            refine j_iload C 3 rfl dX11_place_70 ?_
                            refine j_iload C 0 rfl dX11_place_72 ?_
                            refine j_S01 C (m_off (nI v) (nI y)) kyX11_off tb_1155 tb_1156 rfl (Nat.le_of_ble_eq_true rfl) ⟨by decide, by decide⟩ ⟨by decide, by decide⟩ dX11_place_74 rfl ?_
                            refine j_top (fun v9 => ?_)
                            refine j_iadd C dX11_place_77 ?_
                            refine j_istore C [(12, .int (v8 + v9)), (11, .int (nI y)), (10, .int (nI x)), (9, .int y56_9), (8, .int (nI v)), (7, .int (nI u)), (6, .int y34_6), (5, .int y34_5), (0, .ref (g 0)), (1, .int (nI an)), (2, .int (nI bn)), (3, .int (nI cn)), (4, .int (nI dn))] (by decide) rfl dX11_place_78 ?_
                            refine j_aload_n C 8 rfl dX11_place_80 ?_
                            refine j_iload C 2 rfl dX11_place_81 ?_
                            refine j_iload C 1 rfl dX11_place_83 ?_
                            refine j_V1 C (n_nearest g kk σ k hk hk6 hI  (nI x) (nI y)) kyX11_nearest tb_1270 tb_1272 sp_42 0 rfl (eM_0 g kk _) rfl (Nat.le_of_ble_eq_true rfl) ⟨by decide, by decide⟩ dX11_place_85 rfl (fun vr ur hp => ?_)
                            obtain ⟨r10, rfl, hu⟩ := hp
                            replace hu := hu.symm
                            subst hu
                            refine j_istore C [(13, .int r10), (12, .int (v8 + v9)), (11, .int (nI y)), (10, .int (nI x)), (9, .int y56_9), (8, .int (nI v)), (7, .int (nI u)), (6, .int y34_6), (5, .int y34_5), (0, .ref (g 0)), (1, .int (nI an)), (2, .int (nI bn)), (3, .int (nI cn)), (4, .int (nI dn))] (by decide) rfl dX11_place_88 ?_
                            refine j_iload C 4 rfl dX11_place_90 ?_
                            refine j_iload C 1 rfl dX11_place_92 ?_
                            refine j_iload C 0 rfl dX11_place_94 ?_
                            refine j_icmp_ge C 104 (by decide) dX11_place_96 (fun c11 => ?_) (fun c11 => ?_)
                            · refine j_iload C 0 rfl dX11_place_104 ?_
                              refine j_iadd C dX11_place_106 ?_
                              refine j_istore C [(9, .int (y56_9 + r10)), (13, .int r10), (12, .int (v8 + v9)), (11, .int (nI y)), (10, .int (nI x)), (8, .int (nI v)), (7, .int (nI u)), (6, .int y34_6), (5, .int y34_5), (0, .ref (g 0)), (1, .int (nI an)), (2, .int (nI bn)), (3, .int (nI cn)), (4, .int (nI dn))] (by decide) rfl dX11_place_107 ?_
                              refine j_iinc C (nI (y + 1)) [(11, .int (nI (y + 1))), (9, .int (y56_9 + r10)), (13, .int r10), (12, .int (v8 + v9)), (10, .int (nI x)), (8, .int (nI v)), (7, .int (nI u)), (6, .int y34_6), (5, .int y34_5), (0, .ref (g 0)), (1, .int (nI an)), (2, .int (nI bn)), (3, .int (nI cn)), (4, .int (nI dn))] 3 rfl (by rw [show Int32.ofInt 1 = nI 1 from by decide, nI_add]) (by decide) rfl dX11_place_109 ?_
                              refine j_goto C 56 (by decide) dX11_place_112 ?_
                              refine j_sub (lv' := [(11, .int (nI (y + 1))), (10, .int (nI x)), (9, .int (y56_9 + r10)), (8, .int (nI v)), (7, .int (nI u)), (6, .int y34_6), (5, .int y34_5), (0, .ref (g 0)), (1, .int (nI an)), (2, .int (nI bn)), (3, .int (nI cn)), (4, .int (nI dn))]) [0, 4, 1, 5, 6, 7, 8, 9, 10, 11, 12, 13] rfl ?_
                              exact ih56 (y + 1) (y56_9 + r10) (by omega) (by omega)
                            · refine j_iload C 1 rfl dX11_place_99 ?_
                              refine j_goto C 106 (by decide) dX11_place_101 ?_
                              refine j_iadd C dX11_place_106 ?_
                              refine j_istore C [(9, .int (y56_9 + (v8 + v9))), (13, .int r10), (12, .int (v8 + v9)), (11, .int (nI y)), (10, .int (nI x)), (8, .int (nI v)), (7, .int (nI u)), (6, .int y34_6), (5, .int y34_5), (0, .ref (g 0)), (1, .int (nI an)), (2, .int (nI bn)), (3, .int (nI cn)), (4, .int (nI dn))] (by decide) rfl dX11_place_107 ?_
                              refine j_iinc C (nI (y + 1)) [(11, .int (nI (y + 1))), (9, .int (y56_9 + (v8 + v9))), (13, .int r10), (12, .int (v8 + v9)), (10, .int (nI x)), (8, .int (nI v)), (7, .int (nI u)), (6, .int y34_6), (5, .int y34_5), (0, .ref (g 0)), (1, .int (nI an)), (2, .int (nI bn)), (3, .int (nI cn)), (4, .int (nI dn))] 3 rfl (by rw [show Int32.ofInt 1 = nI 1 from by decide, nI_add]) (by decide) rfl dX11_place_109 ?_
                              refine j_goto C 56 (by decide) dX11_place_112 ?_
                              refine j_sub (lv' := [(11, .int (nI (y + 1))), (10, .int (nI x)), (9, .int (y56_9 + (v8 + v9))), (8, .int (nI v)), (7, .int (nI u)), (6, .int y34_6), (5, .int y34_5), (0, .ref (g 0)), (1, .int (nI an)), (2, .int (nI bn)), (3, .int (nI cn)), (4, .int (nI dn))]) [0, 4, 1, 5, 6, 7, 8, 9, 10, 11, 12, 13] rfl ?_
                              exact ih56 (y + 1) (y56_9 + (v8 + v9)) (by omega) (by omega)
                      exact L56 _ cn y47_9 (by omega) (Nat.lt_succ_self _)
                exact L47 _ an (nI 0) (by omega) (Nat.lt_succ_self _)
          exact L34 _ 0 y24_6 y24_5 (by omega) (Nat.lt_succ_self _)
    exact L24 _ 0 (nI 0) (-6) (by omega) (Nat.lt_succ_self _)
  · replace c1 := bI_f c1
    refine j_bipush C ((-2)) (by decide) dX11_place_11 ?_
    exact j_iret C E (σ) ⟨_, rfl, rfl⟩ rfl dX11_place_13
