set_option maxRecDepth 100000 in
set_option maxHeartbeats 4000000 in
theorem c_fcopy_56_1 (g kk : Nat → Nat) (σ : St) : jM (S := St) yX1_copyFrom cX1_copyFrom 2 none { frames := 1, cells := 0, slots := 0, locals := 60 } kk (cX g kk σ) [.ref (g 66), .ref (g 11)] (cX g kk) (rV (fun u : St => (u = sF (sF (sF (sF (sI σ 1056 (σ.1 176)) 67 (va_cpy (σ.2.1 12) (σ.2.1 67) 0 0 20)) 68 (va_cpy (σ.2.1 13) (σ.2.1 68) 0 0 20)) 69 (va_cpy (σ.2.1 14) (σ.2.1 69) 0 0 20)) 70 (va_cpy (σ.2.1 15) (σ.2.1 70) 0 0 168)))) := by
  refine j_entry [(0, .ref (g 66)), (1, .ref (g 11))] (by decide) (Nat.le_of_ble_eq_true rfl) rfl ?_
  intro X C E HI
  refine j_aload_n C 0 rfl dX1_copyFrom_0 ?_
  refine j_aload_n C 1 rfl dX1_copyFrom_1 ?_
  refine gX_11_0 C tb_39 (σ.1 176) rfl dX1_copyFrom_2 ?_
  refine pX_66_0 C tb_39 dX1_copyFrom_5 ?_
  refine j_aload_n C 1 rfl dX1_copyFrom_8 ?_
  refine gX_11_1 C tb_41 dX1_copyFrom_9 ?_
  refine j_iconst C (nI 0) (by decide) dX1_copyFrom_12 ?_
  refine j_aload_n C 0 rfl dX1_copyFrom_13 ?_
  refine gX_66_1 C tb_41 dX1_copyFrom_14 ?_
  refine j_iconst C (nI 0) (by decide) dX1_copyFrom_17 ?_
  refine j_bipush C (nI 20) (by decide) dX1_copyFrom_18 ?_
  refine j_copy C tb_853 tb_96 tb_95 tb_6 12 67 rfl rfl 0 0 20 rfl rfl rfl (by omega) (by omega) (by decide) (by decide) (by decide) (Nat.le_of_ble_eq_true rfl) (w' := (cX g kk (sF (sI σ 1056 (σ.1 176)) 67 (va_cpy (σ.2.1 12) (σ.2.1 67) 0 0 20)))) rfl dX1_copyFrom_20 ?_
  refine j_aload_n C 1 rfl dX1_copyFrom_23 ?_
  refine gX_11_2 C tb_42 dX1_copyFrom_24 ?_
  refine j_iconst C (nI 0) (by decide) dX1_copyFrom_27 ?_
  refine j_aload_n C 0 rfl dX1_copyFrom_28 ?_
  refine gX_66_2 C tb_42 dX1_copyFrom_29 ?_
  refine j_iconst C (nI 0) (by decide) dX1_copyFrom_32 ?_
  refine j_bipush C (nI 20) (by decide) dX1_copyFrom_33 ?_
  refine j_copy C tb_853 tb_96 tb_95 tb_6 13 68 rfl rfl 0 0 20 rfl rfl rfl (by omega) (by omega) (by decide) (by decide) (by decide) (Nat.le_of_ble_eq_true rfl) (w' := (cX g kk (sF (sF (sI σ 1056 (σ.1 176)) 67 (va_cpy (σ.2.1 12) (σ.2.1 67) 0 0 20)) 68 (va_cpy (σ.2.1 13) (σ.2.1 68) 0 0 20)))) rfl dX1_copyFrom_35 ?_
  refine j_aload_n C 1 rfl dX1_copyFrom_38 ?_
  refine gX_11_3 C tb_44 dX1_copyFrom_39 ?_
  refine j_iconst C (nI 0) (by decide) dX1_copyFrom_42 ?_
  refine j_aload_n C 0 rfl dX1_copyFrom_43 ?_
  refine gX_66_3 C tb_44 dX1_copyFrom_44 ?_
  refine j_iconst C (nI 0) (by decide) dX1_copyFrom_47 ?_
  refine j_bipush C (nI 20) (by decide) dX1_copyFrom_48 ?_
  refine j_copy C tb_853 tb_96 tb_95 tb_6 14 69 rfl rfl 0 0 20 rfl rfl rfl (by omega) (by omega) (by decide) (by decide) (by decide) (Nat.le_of_ble_eq_true rfl) (w' := (cX g kk (sF (sF (sF (sI σ 1056 (σ.1 176)) 67 (va_cpy (σ.2.1 12) (σ.2.1 67) 0 0 20)) 68 (va_cpy (σ.2.1 13) (σ.2.1 68) 0 0 20)) 69 (va_cpy (σ.2.1 14) (σ.2.1 69) 0 0 20)))) rfl dX1_copyFrom_50 ?_
  refine j_aload_n C 1 rfl dX1_copyFrom_53 ?_
  refine gX_11_4 C tb_45 dX1_copyFrom_54 ?_
  refine j_iconst C (nI 0) (by decide) dX1_copyFrom_57 ?_
  refine j_aload_n C 0 rfl dX1_copyFrom_58 ?_
  refine gX_66_4 C tb_45 dX1_copyFrom_59 ?_
  refine j_iconst C (nI 0) (by decide) dX1_copyFrom_62 ?_
  refine j_sipush C (nI 168) (by decide) dX1_copyFrom_63 ?_
  refine j_copy C tb_853 tb_96 tb_95 tb_6 15 70 rfl rfl 0 0 168 rfl rfl rfl (by omega) (by omega) (by decide) (by decide) (by decide) (Nat.le_of_ble_eq_true rfl) (w' := (cX g kk (sF (sF (sF (sF (sI σ 1056 (σ.1 176)) 67 (va_cpy (σ.2.1 12) (σ.2.1 67) 0 0 20)) 68 (va_cpy (σ.2.1 13) (σ.2.1 68) 0 0 20)) 69 (va_cpy (σ.2.1 14) (σ.2.1 69) 0 0 20)) 70 (va_cpy (σ.2.1 15) (σ.2.1 70) 0 0 168)))) rfl dX1_copyFrom_66 ?_
  exact j_vret C E (sF (sF (sF (sF (sI σ 1056 (σ.1 176)) 67 (va_cpy (σ.2.1 12) (σ.2.1 67) 0 0 20)) 68 (va_cpy (σ.2.1 13) (σ.2.1 68) 0 0 20)) 69 (va_cpy (σ.2.1 14) (σ.2.1 69) 0 0 20)) 70 (va_cpy (σ.2.1 15) (σ.2.1 70) 0 0 168)) ⟨rfl, rfl⟩ rfl dX1_copyFrom_69
set_option maxRecDepth 100000 in
set_option maxHeartbeats 4000000 in
theorem c_rcopy_56_1 (g kk : Nat → Nat) (σ : St) : jM (S := St) yX6_copyFrom cX6_copyFrom 2 none { frames := 1, cells := 0, slots := 0, locals := 60 } kk (cX g kk σ) [.ref (g 71), .ref (g 16)] (cX g kk) (rV (fun u : St => (u = sF (sF (sF (sF (sF (sI σ 1136 (σ.1 256)) 72 (va_cpy (σ.2.1 17) (σ.2.1 72) 0 0 6)) 73 (va_cpy (σ.2.1 18) (σ.2.1 73) 0 0 6)) 74 (va_cpy (σ.2.1 19) (σ.2.1 74) 0 0 6)) 75 (va_cpy (σ.2.1 20) (σ.2.1 75) 0 0 6)) 76 (va_cpy (σ.2.1 21) (σ.2.1 76) 0 0 6)))) := by
  refine j_entry [(0, .ref (g 71)), (1, .ref (g 16))] (by decide) (Nat.le_of_ble_eq_true rfl) rfl ?_
  intro X C E HI
  refine j_aload_n C 0 rfl dX6_copyFrom_0 ?_
  refine j_aload_n C 1 rfl dX6_copyFrom_1 ?_
  refine gX_16_0 C tb_65 (σ.1 256) rfl dX6_copyFrom_2 ?_
  refine pX_71_0 C tb_65 dX6_copyFrom_5 ?_
  refine j_aload_n C 1 rfl dX6_copyFrom_8 ?_
  refine gX_16_1 C tb_68 dX6_copyFrom_9 ?_
  refine j_iconst C (nI 0) (by decide) dX6_copyFrom_12 ?_
  refine j_aload_n C 0 rfl dX6_copyFrom_13 ?_
  refine gX_71_1 C tb_68 dX6_copyFrom_14 ?_
  refine j_iconst C (nI 0) (by decide) dX6_copyFrom_17 ?_
  refine j_bipush C (nI 6) (by decide) dX6_copyFrom_18 ?_
  refine j_copy C tb_858 tb_96 tb_95 tb_6 17 72 rfl rfl 0 0 6 rfl rfl rfl (by omega) (by omega) (by decide) (by decide) (by decide) (Nat.le_of_ble_eq_true rfl) (w' := (cX g kk (sF (sI σ 1136 (σ.1 256)) 72 (va_cpy (σ.2.1 17) (σ.2.1 72) 0 0 6)))) rfl dX6_copyFrom_20 ?_
  refine j_aload_n C 1 rfl dX6_copyFrom_23 ?_
  refine gX_16_2 C tb_70 dX6_copyFrom_24 ?_
  refine j_iconst C (nI 0) (by decide) dX6_copyFrom_27 ?_
  refine j_aload_n C 0 rfl dX6_copyFrom_28 ?_
  refine gX_71_2 C tb_70 dX6_copyFrom_29 ?_
  refine j_iconst C (nI 0) (by decide) dX6_copyFrom_32 ?_
  refine j_bipush C (nI 6) (by decide) dX6_copyFrom_33 ?_
  refine j_copy C tb_858 tb_96 tb_95 tb_6 18 73 rfl rfl 0 0 6 rfl rfl rfl (by omega) (by omega) (by decide) (by decide) (by decide) (Nat.le_of_ble_eq_true rfl) (w' := (cX g kk (sF (sF (sI σ 1136 (σ.1 256)) 72 (va_cpy (σ.2.1 17) (σ.2.1 72) 0 0 6)) 73 (va_cpy (σ.2.1 18) (σ.2.1 73) 0 0 6)))) rfl dX6_copyFrom_35 ?_
  refine j_aload_n C 1 rfl dX6_copyFrom_38 ?_
  refine gX_16_3 C tb_72 dX6_copyFrom_39 ?_
  refine j_iconst C (nI 0) (by decide) dX6_copyFrom_42 ?_
  refine j_aload_n C 0 rfl dX6_copyFrom_43 ?_
  refine gX_71_3 C tb_72 dX6_copyFrom_44 ?_
  refine j_iconst C (nI 0) (by decide) dX6_copyFrom_47 ?_
  refine j_bipush C (nI 6) (by decide) dX6_copyFrom_48 ?_
  refine j_copy C tb_858 tb_96 tb_95 tb_6 19 74 rfl rfl 0 0 6 rfl rfl rfl (by omega) (by omega) (by decide) (by decide) (by decide) (Nat.le_of_ble_eq_true rfl) (w' := (cX g kk (sF (sF (sF (sI σ 1136 (σ.1 256)) 72 (va_cpy (σ.2.1 17) (σ.2.1 72) 0 0 6)) 73 (va_cpy (σ.2.1 18) (σ.2.1 73) 0 0 6)) 74 (va_cpy (σ.2.1 19) (σ.2.1 74) 0 0 6)))) rfl dX6_copyFrom_50 ?_
  refine j_aload_n C 1 rfl dX6_copyFrom_53 ?_
  refine gX_16_4 C tb_74 dX6_copyFrom_54 ?_
  refine j_iconst C (nI 0) (by decide) dX6_copyFrom_57 ?_
  refine j_aload_n C 0 rfl dX6_copyFrom_58 ?_
  refine gX_71_4 C tb_74 dX6_copyFrom_59 ?_
  refine j_iconst C (nI 0) (by decide) dX6_copyFrom_62 ?_
  refine j_bipush C (nI 6) (by decide) dX6_copyFrom_63 ?_
  refine j_copy C tb_858 tb_96 tb_95 tb_6 20 75 rfl rfl 0 0 6 rfl rfl rfl (by omega) (by omega) (by decide) (by decide) (by decide) (Nat.le_of_ble_eq_true rfl) (w' := (cX g kk (sF (sF (sF (sF (sI σ 1136 (σ.1 256)) 72 (va_cpy (σ.2.1 17) (σ.2.1 72) 0 0 6)) 73 (va_cpy (σ.2.1 18) (σ.2.1 73) 0 0 6)) 74 (va_cpy (σ.2.1 19) (σ.2.1 74) 0 0 6)) 75 (va_cpy (σ.2.1 20) (σ.2.1 75) 0 0 6)))) rfl dX6_copyFrom_65 ?_
  refine j_aload_n C 1 rfl dX6_copyFrom_68 ?_
  refine gX_16_5 C tb_76 dX6_copyFrom_69 ?_
  refine j_iconst C (nI 0) (by decide) dX6_copyFrom_72 ?_
  refine j_aload_n C 0 rfl dX6_copyFrom_73 ?_
  refine gX_71_5 C tb_76 dX6_copyFrom_74 ?_
  refine j_iconst C (nI 0) (by decide) dX6_copyFrom_77 ?_
  refine j_bipush C (nI 6) (by decide) dX6_copyFrom_78 ?_
  refine j_copy C tb_858 tb_96 tb_95 tb_6 21 76 rfl rfl 0 0 6 rfl rfl rfl (by omega) (by omega) (by decide) (by decide) (by decide) (Nat.le_of_ble_eq_true rfl) (w' := (cX g kk (sF (sF (sF (sF (sF (sI σ 1136 (σ.1 256)) 72 (va_cpy (σ.2.1 17) (σ.2.1 72) 0 0 6)) 73 (va_cpy (σ.2.1 18) (σ.2.1 73) 0 0 6)) 74 (va_cpy (σ.2.1 19) (σ.2.1 74) 0 0 6)) 75 (va_cpy (σ.2.1 20) (σ.2.1 75) 0 0 6)) 76 (va_cpy (σ.2.1 21) (σ.2.1 76) 0 0 6)))) rfl dX6_copyFrom_80 ?_
  exact j_vret C E (sF (sF (sF (sF (sF (sI σ 1136 (σ.1 256)) 72 (va_cpy (σ.2.1 17) (σ.2.1 72) 0 0 6)) 73 (va_cpy (σ.2.1 18) (σ.2.1 73) 0 0 6)) 74 (va_cpy (σ.2.1 19) (σ.2.1 74) 0 0 6)) 75 (va_cpy (σ.2.1 20) (σ.2.1 75) 0 0 6)) 76 (va_cpy (σ.2.1 21) (σ.2.1 76) 0 0 6)) ⟨rfl, rfl⟩ rfl dX6_copyFrom_83
set_option maxRecDepth 100000 in
set_option maxHeartbeats 4000000 in
theorem c_gcopy_56_1 (g kk : Nat → Nat) (σ : St) : jM (S := St) yX2_copyFrom cX2_copyFrom 2 none { frames := 2, cells := 0, slots := 0, locals := 81 } kk (cX g kk σ) [.ref (g 56), .ref (g 1)] (cX g kk) (rV (fun u : St => (u = sF (sF (sF (sF (sF (sI (sF (sF (sF (sF (sI (sF (sF (sF (sF (sF (sF (sF (sF (sF (sI σ 896 (σ.1 16)) 57 (va_cpy (σ.2.1 2) (σ.2.1 57) 0 0 6)) 58 (va_cpy (σ.2.1 3) (σ.2.1 58) 0 0 6)) 59 (va_cpy (σ.2.1 4) (σ.2.1 59) 0 0 18)) 60 (va_cpy (σ.2.1 5) (σ.2.1 60) 0 0 28)) 61 (va_cpy (σ.2.1 6) (σ.2.1 61) 0 0 168)) 62 (va_cpy (σ.2.1 7) (σ.2.1 62) 0 0 168)) 63 (va_cpy (σ.2.1 8) (σ.2.1 63) 0 0 168)) 64 (va_cpy (σ.2.1 9) (σ.2.1 64) 0 0 168)) 65 (va_cpy (σ.2.1 10) (σ.2.1 65) 0 0 4)) 1056 (σ.1 176)) 67 (va_cpy (σ.2.1 12) (σ.2.1 67) 0 0 20)) 68 (va_cpy (σ.2.1 13) (σ.2.1 68) 0 0 20)) 69 (va_cpy (σ.2.1 14) (σ.2.1 69) 0 0 20)) 70 (va_cpy (σ.2.1 15) (σ.2.1 70) 0 0 168)) 1136 (σ.1 256)) 72 (va_cpy (σ.2.1 17) (σ.2.1 72) 0 0 6)) 73 (va_cpy (σ.2.1 18) (σ.2.1 73) 0 0 6)) 74 (va_cpy (σ.2.1 19) (σ.2.1 74) 0 0 6)) 75 (va_cpy (σ.2.1 20) (σ.2.1 75) 0 0 6)) 76 (va_cpy (σ.2.1 21) (σ.2.1 76) 0 0 6)))) := by
  refine j_entry [(0, .ref (g 56)), (1, .ref (g 1))] (by decide) (Nat.le_of_ble_eq_true rfl) rfl ?_
  intro X C E HI
  refine j_aload_n C 0 rfl dX2_copyFrom_0 ?_
  refine j_aload_n C 1 rfl dX2_copyFrom_1 ?_
  refine gX_1_0 C tb_97 (σ.1 16) rfl dX2_copyFrom_2 ?_
  refine pX_56_0 C tb_97 dX2_copyFrom_5 ?_
  refine j_aload_n C 1 rfl dX2_copyFrom_8 ?_
  refine gX_1_1 C tb_102 dX2_copyFrom_9 ?_
  refine j_iconst C (nI 0) (by decide) dX2_copyFrom_12 ?_
  refine j_aload_n C 0 rfl dX2_copyFrom_13 ?_
  refine gX_56_1 C tb_102 dX2_copyFrom_14 ?_
  refine j_iconst C (nI 0) (by decide) dX2_copyFrom_17 ?_
  refine j_bipush C (nI 6) (by decide) dX2_copyFrom_18 ?_
  refine j_copy C tb_94 tb_96 tb_95 tb_6 2 57 rfl rfl 0 0 6 rfl rfl rfl (by omega) (by omega) (by decide) (by decide) (by decide) (Nat.le_of_ble_eq_true rfl) (w' := (cX g kk (sF (sI σ 896 (σ.1 16)) 57 (va_cpy (σ.2.1 2) (σ.2.1 57) 0 0 6)))) rfl dX2_copyFrom_20 ?_
  refine j_aload_n C 1 rfl dX2_copyFrom_23 ?_
  refine gX_1_2 C tb_106 dX2_copyFrom_24 ?_
  refine j_iconst C (nI 0) (by decide) dX2_copyFrom_27 ?_
  refine j_aload_n C 0 rfl dX2_copyFrom_28 ?_
  refine gX_56_2 C tb_106 dX2_copyFrom_29 ?_
  refine j_iconst C (nI 0) (by decide) dX2_copyFrom_32 ?_
  refine j_bipush C (nI 6) (by decide) dX2_copyFrom_33 ?_
  refine j_copy C tb_94 tb_96 tb_95 tb_6 3 58 rfl rfl 0 0 6 rfl rfl rfl (by omega) (by omega) (by decide) (by decide) (by decide) (Nat.le_of_ble_eq_true rfl) (w' := (cX g kk (sF (sF (sI σ 896 (σ.1 16)) 57 (va_cpy (σ.2.1 2) (σ.2.1 57) 0 0 6)) 58 (va_cpy (σ.2.1 3) (σ.2.1 58) 0 0 6)))) rfl dX2_copyFrom_35 ?_
  refine j_aload_n C 1 rfl dX2_copyFrom_38 ?_
  refine gX_1_3 C tb_110 dX2_copyFrom_39 ?_
  refine j_iconst C (nI 0) (by decide) dX2_copyFrom_42 ?_
  refine j_aload_n C 0 rfl dX2_copyFrom_43 ?_
  refine gX_56_3 C tb_110 dX2_copyFrom_44 ?_
  refine j_iconst C (nI 0) (by decide) dX2_copyFrom_47 ?_
  refine j_bipush C (nI 18) (by decide) dX2_copyFrom_48 ?_
  refine j_copy C tb_94 tb_96 tb_95 tb_6 4 59 rfl rfl 0 0 18 rfl rfl rfl (by omega) (by omega) (by decide) (by decide) (by decide) (Nat.le_of_ble_eq_true rfl) (w' := (cX g kk (sF (sF (sF (sI σ 896 (σ.1 16)) 57 (va_cpy (σ.2.1 2) (σ.2.1 57) 0 0 6)) 58 (va_cpy (σ.2.1 3) (σ.2.1 58) 0 0 6)) 59 (va_cpy (σ.2.1 4) (σ.2.1 59) 0 0 18)))) rfl dX2_copyFrom_50 ?_
  refine j_aload_n C 1 rfl dX2_copyFrom_53 ?_
  refine gX_1_4 C tb_113 dX2_copyFrom_54 ?_
  refine j_iconst C (nI 0) (by decide) dX2_copyFrom_57 ?_
  refine j_aload_n C 0 rfl dX2_copyFrom_58 ?_
  refine gX_56_4 C tb_113 dX2_copyFrom_59 ?_
  refine j_iconst C (nI 0) (by decide) dX2_copyFrom_62 ?_
  refine j_bipush C (nI 28) (by decide) dX2_copyFrom_63 ?_
  refine j_copy C tb_94 tb_96 tb_95 tb_6 5 60 rfl rfl 0 0 28 rfl rfl rfl (by omega) (by omega) (by decide) (by decide) (by decide) (Nat.le_of_ble_eq_true rfl) (w' := (cX g kk (sF (sF (sF (sF (sI σ 896 (σ.1 16)) 57 (va_cpy (σ.2.1 2) (σ.2.1 57) 0 0 6)) 58 (va_cpy (σ.2.1 3) (σ.2.1 58) 0 0 6)) 59 (va_cpy (σ.2.1 4) (σ.2.1 59) 0 0 18)) 60 (va_cpy (σ.2.1 5) (σ.2.1 60) 0 0 28)))) rfl dX2_copyFrom_65 ?_
  refine j_aload_n C 1 rfl dX2_copyFrom_68 ?_
  refine gX_1_5 C tb_116 dX2_copyFrom_69 ?_
  refine j_iconst C (nI 0) (by decide) dX2_copyFrom_72 ?_
  refine j_aload_n C 0 rfl dX2_copyFrom_73 ?_
  refine gX_56_5 C tb_116 dX2_copyFrom_74 ?_
  refine j_iconst C (nI 0) (by decide) dX2_copyFrom_77 ?_
  refine j_sipush C (nI 168) (by decide) dX2_copyFrom_78 ?_
  refine j_copy C tb_94 tb_96 tb_95 tb_6 6 61 rfl rfl 0 0 168 rfl rfl rfl (by omega) (by omega) (by decide) (by decide) (by decide) (Nat.le_of_ble_eq_true rfl) (w' := (cX g kk (sF (sF (sF (sF (sF (sI σ 896 (σ.1 16)) 57 (va_cpy (σ.2.1 2) (σ.2.1 57) 0 0 6)) 58 (va_cpy (σ.2.1 3) (σ.2.1 58) 0 0 6)) 59 (va_cpy (σ.2.1 4) (σ.2.1 59) 0 0 18)) 60 (va_cpy (σ.2.1 5) (σ.2.1 60) 0 0 28)) 61 (va_cpy (σ.2.1 6) (σ.2.1 61) 0 0 168)))) rfl dX2_copyFrom_81 ?_
  refine j_aload_n C 1 rfl dX2_copyFrom_84 ?_
  refine gX_1_6 C tb_120 dX2_copyFrom_85 ?_
  refine j_iconst C (nI 0) (by decide) dX2_copyFrom_88 ?_
  refine j_aload_n C 0 rfl dX2_copyFrom_89 ?_
  refine gX_56_6 C tb_120 dX2_copyFrom_90 ?_
  refine j_iconst C (nI 0) (by decide) dX2_copyFrom_93 ?_
  refine j_sipush C (nI 168) (by decide) dX2_copyFrom_94 ?_
  refine j_copy C tb_94 tb_96 tb_95 tb_6 7 62 rfl rfl 0 0 168 rfl rfl rfl (by omega) (by omega) (by decide) (by decide) (by decide) (Nat.le_of_ble_eq_true rfl) (w' := (cX g kk (sF (sF (sF (sF (sF (sF (sI σ 896 (σ.1 16)) 57 (va_cpy (σ.2.1 2) (σ.2.1 57) 0 0 6)) 58 (va_cpy (σ.2.1 3) (σ.2.1 58) 0 0 6)) 59 (va_cpy (σ.2.1 4) (σ.2.1 59) 0 0 18)) 60 (va_cpy (σ.2.1 5) (σ.2.1 60) 0 0 28)) 61 (va_cpy (σ.2.1 6) (σ.2.1 61) 0 0 168)) 62 (va_cpy (σ.2.1 7) (σ.2.1 62) 0 0 168)))) rfl dX2_copyFrom_97 ?_
  refine j_aload_n C 1 rfl dX2_copyFrom_100 ?_
  refine gX_1_7 C tb_122 dX2_copyFrom_101 ?_
  refine j_iconst C (nI 0) (by decide) dX2_copyFrom_104 ?_
  refine j_aload_n C 0 rfl dX2_copyFrom_105 ?_
  refine gX_56_7 C tb_122 dX2_copyFrom_106 ?_
  refine j_iconst C (nI 0) (by decide) dX2_copyFrom_109 ?_
  refine j_sipush C (nI 168) (by decide) dX2_copyFrom_110 ?_
  refine j_copy C tb_94 tb_96 tb_95 tb_6 8 63 rfl rfl 0 0 168 rfl rfl rfl (by omega) (by omega) (by decide) (by decide) (by decide) (Nat.le_of_ble_eq_true rfl) (w' := (cX g kk (sF (sF (sF (sF (sF (sF (sF (sI σ 896 (σ.1 16)) 57 (va_cpy (σ.2.1 2) (σ.2.1 57) 0 0 6)) 58 (va_cpy (σ.2.1 3) (σ.2.1 58) 0 0 6)) 59 (va_cpy (σ.2.1 4) (σ.2.1 59) 0 0 18)) 60 (va_cpy (σ.2.1 5) (σ.2.1 60) 0 0 28)) 61 (va_cpy (σ.2.1 6) (σ.2.1 61) 0 0 168)) 62 (va_cpy (σ.2.1 7) (σ.2.1 62) 0 0 168)) 63 (va_cpy (σ.2.1 8) (σ.2.1 63) 0 0 168)))) rfl dX2_copyFrom_113 ?_
  refine j_aload_n C 1 rfl dX2_copyFrom_116 ?_
  refine gX_1_8 C tb_124 dX2_copyFrom_117 ?_
  refine j_iconst C (nI 0) (by decide) dX2_copyFrom_120 ?_
  refine j_aload_n C 0 rfl dX2_copyFrom_121 ?_
  refine gX_56_8 C tb_124 dX2_copyFrom_122 ?_
  refine j_iconst C (nI 0) (by decide) dX2_copyFrom_125 ?_
  refine j_sipush C (nI 168) (by decide) dX2_copyFrom_126 ?_
  refine j_copy C tb_94 tb_96 tb_95 tb_6 9 64 rfl rfl 0 0 168 rfl rfl rfl (by omega) (by omega) (by decide) (by decide) (by decide) (Nat.le_of_ble_eq_true rfl) (w' := (cX g kk (sF (sF (sF (sF (sF (sF (sF (sF (sI σ 896 (σ.1 16)) 57 (va_cpy (σ.2.1 2) (σ.2.1 57) 0 0 6)) 58 (va_cpy (σ.2.1 3) (σ.2.1 58) 0 0 6)) 59 (va_cpy (σ.2.1 4) (σ.2.1 59) 0 0 18)) 60 (va_cpy (σ.2.1 5) (σ.2.1 60) 0 0 28)) 61 (va_cpy (σ.2.1 6) (σ.2.1 61) 0 0 168)) 62 (va_cpy (σ.2.1 7) (σ.2.1 62) 0 0 168)) 63 (va_cpy (σ.2.1 8) (σ.2.1 63) 0 0 168)) 64 (va_cpy (σ.2.1 9) (σ.2.1 64) 0 0 168)))) rfl dX2_copyFrom_129 ?_
  refine j_aload_n C 1 rfl dX2_copyFrom_132 ?_
  refine gX_1_9 C tb_126 dX2_copyFrom_133 ?_
  refine j_iconst C (nI 0) (by decide) dX2_copyFrom_136 ?_
  refine j_aload_n C 0 rfl dX2_copyFrom_137 ?_
  refine gX_56_9 C tb_126 dX2_copyFrom_138 ?_
  refine j_iconst C (nI 0) (by decide) dX2_copyFrom_141 ?_
  refine j_iconst C (nI 4) (by decide) dX2_copyFrom_142 ?_
  refine j_copy C tb_94 tb_96 tb_95 tb_6 10 65 rfl rfl 0 0 4 rfl rfl rfl (by omega) (by omega) (by decide) (by decide) (by decide) (Nat.le_of_ble_eq_true rfl) (w' := (cX g kk (sF (sF (sF (sF (sF (sF (sF (sF (sF (sI σ 896 (σ.1 16)) 57 (va_cpy (σ.2.1 2) (σ.2.1 57) 0 0 6)) 58 (va_cpy (σ.2.1 3) (σ.2.1 58) 0 0 6)) 59 (va_cpy (σ.2.1 4) (σ.2.1 59) 0 0 18)) 60 (va_cpy (σ.2.1 5) (σ.2.1 60) 0 0 28)) 61 (va_cpy (σ.2.1 6) (σ.2.1 61) 0 0 168)) 62 (va_cpy (σ.2.1 7) (σ.2.1 62) 0 0 168)) 63 (va_cpy (σ.2.1 8) (σ.2.1 63) 0 0 168)) 64 (va_cpy (σ.2.1 9) (σ.2.1 64) 0 0 168)) 65 (va_cpy (σ.2.1 10) (σ.2.1 65) 0 0 4)))) rfl dX2_copyFrom_143 ?_
  refine j_aload_n C 0 rfl dX2_copyFrom_146 ?_
  refine gX_56_10 C tb_132 dX2_copyFrom_147 ?_
  refine j_aload_n C 1 rfl dX2_copyFrom_150 ?_
  refine gX_1_10 C tb_132 dX2_copyFrom_151 ?_
  refine j_V1 C (c_fcopy_56_1 g kk (sF (sF (sF (sF (sF (sF (sF (sF (sF (sI σ 896 (σ.1 16)) 57 (va_cpy (σ.2.1 2) (σ.2.1 57) 0 0 6)) 58 (va_cpy (σ.2.1 3) (σ.2.1 58) 0 0 6)) 59 (va_cpy (σ.2.1 4) (σ.2.1 59) 0 0 18)) 60 (va_cpy (σ.2.1 5) (σ.2.1 60) 0 0 28)) 61 (va_cpy (σ.2.1 6) (σ.2.1 61) 0 0 168)) 62 (va_cpy (σ.2.1 7) (σ.2.1 62) 0 0 168)) 63 (va_cpy (σ.2.1 8) (σ.2.1 63) 0 0 168)) 64 (va_cpy (σ.2.1 9) (σ.2.1 64) 0 0 168)) 65 (va_cpy (σ.2.1 10) (σ.2.1 65) 0 0 4))) kyX1_copyFrom tb_849 tb_850 tb_851 66 rfl (eX_66 g kk _) rfl (Nat.le_of_ble_eq_true rfl) ⟨by decide, by decide⟩ dX2_copyFrom_154 rfl (fun vr ur hp => ?_)
  obtain ⟨rfl, hu⟩ := hp
  replace hu := hu.symm
  subst hu
  refine j_aload_n C 0 rfl dX2_copyFrom_157 ?_
  refine gX_56_11 C tb_134 dX2_copyFrom_158 ?_
  refine j_aload_n C 1 rfl dX2_copyFrom_161 ?_
  refine gX_1_11 C tb_134 dX2_copyFrom_162 ?_
  refine j_V1 C (c_rcopy_56_1 g kk (sF (sF (sF (sF (sI (sF (sF (sF (sF (sF (sF (sF (sF (sF (sI σ 896 (σ.1 16)) 57 (va_cpy (σ.2.1 2) (σ.2.1 57) 0 0 6)) 58 (va_cpy (σ.2.1 3) (σ.2.1 58) 0 0 6)) 59 (va_cpy (σ.2.1 4) (σ.2.1 59) 0 0 18)) 60 (va_cpy (σ.2.1 5) (σ.2.1 60) 0 0 28)) 61 (va_cpy (σ.2.1 6) (σ.2.1 61) 0 0 168)) 62 (va_cpy (σ.2.1 7) (σ.2.1 62) 0 0 168)) 63 (va_cpy (σ.2.1 8) (σ.2.1 63) 0 0 168)) 64 (va_cpy (σ.2.1 9) (σ.2.1 64) 0 0 168)) 65 (va_cpy (σ.2.1 10) (σ.2.1 65) 0 0 4)) 1056 (σ.1 176)) 67 (va_cpy (σ.2.1 12) (σ.2.1 67) 0 0 20)) 68 (va_cpy (σ.2.1 13) (σ.2.1 68) 0 0 20)) 69 (va_cpy (σ.2.1 14) (σ.2.1 69) 0 0 20)) 70 (va_cpy (σ.2.1 15) (σ.2.1 70) 0 0 168))) kyX6_copyFrom tb_854 tb_855 tb_856 71 rfl (eX_71 g kk _) rfl (Nat.le_of_ble_eq_true rfl) ⟨by decide, by decide⟩ dX2_copyFrom_165 rfl (fun vr ur hp => ?_)
  obtain ⟨rfl, hu⟩ := hp
  replace hu := hu.symm
  subst hu
  exact j_vret C E (sF (sF (sF (sF (sF (sI (sF (sF (sF (sF (sI (sF (sF (sF (sF (sF (sF (sF (sF (sF (sI σ 896 (σ.1 16)) 57 (va_cpy (σ.2.1 2) (σ.2.1 57) 0 0 6)) 58 (va_cpy (σ.2.1 3) (σ.2.1 58) 0 0 6)) 59 (va_cpy (σ.2.1 4) (σ.2.1 59) 0 0 18)) 60 (va_cpy (σ.2.1 5) (σ.2.1 60) 0 0 28)) 61 (va_cpy (σ.2.1 6) (σ.2.1 61) 0 0 168)) 62 (va_cpy (σ.2.1 7) (σ.2.1 62) 0 0 168)) 63 (va_cpy (σ.2.1 8) (σ.2.1 63) 0 0 168)) 64 (va_cpy (σ.2.1 9) (σ.2.1 64) 0 0 168)) 65 (va_cpy (σ.2.1 10) (σ.2.1 65) 0 0 4)) 1056 (σ.1 176)) 67 (va_cpy (σ.2.1 12) (σ.2.1 67) 0 0 20)) 68 (va_cpy (σ.2.1 13) (σ.2.1 68) 0 0 20)) 69 (va_cpy (σ.2.1 14) (σ.2.1 69) 0 0 20)) 70 (va_cpy (σ.2.1 15) (σ.2.1 70) 0 0 168)) 1136 (σ.1 256)) 72 (va_cpy (σ.2.1 17) (σ.2.1 72) 0 0 6)) 73 (va_cpy (σ.2.1 18) (σ.2.1 73) 0 0 6)) 74 (va_cpy (σ.2.1 19) (σ.2.1 74) 0 0 6)) 75 (va_cpy (σ.2.1 20) (σ.2.1 75) 0 0 6)) 76 (va_cpy (σ.2.1 21) (σ.2.1 76) 0 0 6)) ⟨rfl, rfl⟩ rfl dX2_copyFrom_168
set_option maxRecDepth 100000 in
set_option maxHeartbeats 4000000 in
theorem c_fcopy_77_1 (g kk : Nat → Nat) (σ : St) : jM (S := St) yX1_copyFrom cX1_copyFrom 2 none { frames := 1, cells := 0, slots := 0, locals := 60 } kk (cX g kk σ) [.ref (g 87), .ref (g 11)] (cX g kk) (rV (fun u : St => (u = sF (sF (sF (sF (sI σ 1392 (σ.1 176)) 88 (va_cpy (σ.2.1 12) (σ.2.1 88) 0 0 20)) 89 (va_cpy (σ.2.1 13) (σ.2.1 89) 0 0 20)) 90 (va_cpy (σ.2.1 14) (σ.2.1 90) 0 0 20)) 91 (va_cpy (σ.2.1 15) (σ.2.1 91) 0 0 168)))) := by
  refine j_entry [(0, .ref (g 87)), (1, .ref (g 11))] (by decide) (Nat.le_of_ble_eq_true rfl) rfl ?_
  intro X C E HI
  refine j_aload_n C 0 rfl dX1_copyFrom_0 ?_
  refine j_aload_n C 1 rfl dX1_copyFrom_1 ?_
  refine gX_11_0 C tb_39 (σ.1 176) rfl dX1_copyFrom_2 ?_
  refine pX_87_0 C tb_39 dX1_copyFrom_5 ?_
  refine j_aload_n C 1 rfl dX1_copyFrom_8 ?_
  refine gX_11_1 C tb_41 dX1_copyFrom_9 ?_
  refine j_iconst C (nI 0) (by decide) dX1_copyFrom_12 ?_
  refine j_aload_n C 0 rfl dX1_copyFrom_13 ?_
  refine gX_87_1 C tb_41 dX1_copyFrom_14 ?_
  refine j_iconst C (nI 0) (by decide) dX1_copyFrom_17 ?_
  refine j_bipush C (nI 20) (by decide) dX1_copyFrom_18 ?_
  refine j_copy C tb_853 tb_96 tb_95 tb_6 12 88 rfl rfl 0 0 20 rfl rfl rfl (by omega) (by omega) (by decide) (by decide) (by decide) (Nat.le_of_ble_eq_true rfl) (w' := (cX g kk (sF (sI σ 1392 (σ.1 176)) 88 (va_cpy (σ.2.1 12) (σ.2.1 88) 0 0 20)))) rfl dX1_copyFrom_20 ?_
  refine j_aload_n C 1 rfl dX1_copyFrom_23 ?_
  refine gX_11_2 C tb_42 dX1_copyFrom_24 ?_
  refine j_iconst C (nI 0) (by decide) dX1_copyFrom_27 ?_
  refine j_aload_n C 0 rfl dX1_copyFrom_28 ?_
  refine gX_87_2 C tb_42 dX1_copyFrom_29 ?_
  refine j_iconst C (nI 0) (by decide) dX1_copyFrom_32 ?_
  refine j_bipush C (nI 20) (by decide) dX1_copyFrom_33 ?_
  refine j_copy C tb_853 tb_96 tb_95 tb_6 13 89 rfl rfl 0 0 20 rfl rfl rfl (by omega) (by omega) (by decide) (by decide) (by decide) (Nat.le_of_ble_eq_true rfl) (w' := (cX g kk (sF (sF (sI σ 1392 (σ.1 176)) 88 (va_cpy (σ.2.1 12) (σ.2.1 88) 0 0 20)) 89 (va_cpy (σ.2.1 13) (σ.2.1 89) 0 0 20)))) rfl dX1_copyFrom_35 ?_
  refine j_aload_n C 1 rfl dX1_copyFrom_38 ?_
  refine gX_11_3 C tb_44 dX1_copyFrom_39 ?_
  refine j_iconst C (nI 0) (by decide) dX1_copyFrom_42 ?_
  refine j_aload_n C 0 rfl dX1_copyFrom_43 ?_
  refine gX_87_3 C tb_44 dX1_copyFrom_44 ?_
  refine j_iconst C (nI 0) (by decide) dX1_copyFrom_47 ?_
  refine j_bipush C (nI 20) (by decide) dX1_copyFrom_48 ?_
  refine j_copy C tb_853 tb_96 tb_95 tb_6 14 90 rfl rfl 0 0 20 rfl rfl rfl (by omega) (by omega) (by decide) (by decide) (by decide) (Nat.le_of_ble_eq_true rfl) (w' := (cX g kk (sF (sF (sF (sI σ 1392 (σ.1 176)) 88 (va_cpy (σ.2.1 12) (σ.2.1 88) 0 0 20)) 89 (va_cpy (σ.2.1 13) (σ.2.1 89) 0 0 20)) 90 (va_cpy (σ.2.1 14) (σ.2.1 90) 0 0 20)))) rfl dX1_copyFrom_50 ?_
  refine j_aload_n C 1 rfl dX1_copyFrom_53 ?_
  refine gX_11_4 C tb_45 dX1_copyFrom_54 ?_
  refine j_iconst C (nI 0) (by decide) dX1_copyFrom_57 ?_
  refine j_aload_n C 0 rfl dX1_copyFrom_58 ?_
  refine gX_87_4 C tb_45 dX1_copyFrom_59 ?_
  refine j_iconst C (nI 0) (by decide) dX1_copyFrom_62 ?_
  refine j_sipush C (nI 168) (by decide) dX1_copyFrom_63 ?_
  refine j_copy C tb_853 tb_96 tb_95 tb_6 15 91 rfl rfl 0 0 168 rfl rfl rfl (by omega) (by omega) (by decide) (by decide) (by decide) (Nat.le_of_ble_eq_true rfl) (w' := (cX g kk (sF (sF (sF (sF (sI σ 1392 (σ.1 176)) 88 (va_cpy (σ.2.1 12) (σ.2.1 88) 0 0 20)) 89 (va_cpy (σ.2.1 13) (σ.2.1 89) 0 0 20)) 90 (va_cpy (σ.2.1 14) (σ.2.1 90) 0 0 20)) 91 (va_cpy (σ.2.1 15) (σ.2.1 91) 0 0 168)))) rfl dX1_copyFrom_66 ?_
  exact j_vret C E (sF (sF (sF (sF (sI σ 1392 (σ.1 176)) 88 (va_cpy (σ.2.1 12) (σ.2.1 88) 0 0 20)) 89 (va_cpy (σ.2.1 13) (σ.2.1 89) 0 0 20)) 90 (va_cpy (σ.2.1 14) (σ.2.1 90) 0 0 20)) 91 (va_cpy (σ.2.1 15) (σ.2.1 91) 0 0 168)) ⟨rfl, rfl⟩ rfl dX1_copyFrom_69
set_option maxRecDepth 100000 in
set_option maxHeartbeats 4000000 in
theorem c_rcopy_77_1 (g kk : Nat → Nat) (σ : St) : jM (S := St) yX6_copyFrom cX6_copyFrom 2 none { frames := 1, cells := 0, slots := 0, locals := 60 } kk (cX g kk σ) [.ref (g 92), .ref (g 16)] (cX g kk) (rV (fun u : St => (u = sF (sF (sF (sF (sF (sI σ 1472 (σ.1 256)) 93 (va_cpy (σ.2.1 17) (σ.2.1 93) 0 0 6)) 94 (va_cpy (σ.2.1 18) (σ.2.1 94) 0 0 6)) 95 (va_cpy (σ.2.1 19) (σ.2.1 95) 0 0 6)) 96 (va_cpy (σ.2.1 20) (σ.2.1 96) 0 0 6)) 97 (va_cpy (σ.2.1 21) (σ.2.1 97) 0 0 6)))) := by
  refine j_entry [(0, .ref (g 92)), (1, .ref (g 16))] (by decide) (Nat.le_of_ble_eq_true rfl) rfl ?_
  intro X C E HI
  refine j_aload_n C 0 rfl dX6_copyFrom_0 ?_
  refine j_aload_n C 1 rfl dX6_copyFrom_1 ?_
  refine gX_16_0 C tb_65 (σ.1 256) rfl dX6_copyFrom_2 ?_
  refine pX_92_0 C tb_65 dX6_copyFrom_5 ?_
  refine j_aload_n C 1 rfl dX6_copyFrom_8 ?_
  refine gX_16_1 C tb_68 dX6_copyFrom_9 ?_
  refine j_iconst C (nI 0) (by decide) dX6_copyFrom_12 ?_
  refine j_aload_n C 0 rfl dX6_copyFrom_13 ?_
  refine gX_92_1 C tb_68 dX6_copyFrom_14 ?_
  refine j_iconst C (nI 0) (by decide) dX6_copyFrom_17 ?_
  refine j_bipush C (nI 6) (by decide) dX6_copyFrom_18 ?_
  refine j_copy C tb_858 tb_96 tb_95 tb_6 17 93 rfl rfl 0 0 6 rfl rfl rfl (by omega) (by omega) (by decide) (by decide) (by decide) (Nat.le_of_ble_eq_true rfl) (w' := (cX g kk (sF (sI σ 1472 (σ.1 256)) 93 (va_cpy (σ.2.1 17) (σ.2.1 93) 0 0 6)))) rfl dX6_copyFrom_20 ?_
  refine j_aload_n C 1 rfl dX6_copyFrom_23 ?_
  refine gX_16_2 C tb_70 dX6_copyFrom_24 ?_
  refine j_iconst C (nI 0) (by decide) dX6_copyFrom_27 ?_
  refine j_aload_n C 0 rfl dX6_copyFrom_28 ?_
  refine gX_92_2 C tb_70 dX6_copyFrom_29 ?_
  refine j_iconst C (nI 0) (by decide) dX6_copyFrom_32 ?_
  refine j_bipush C (nI 6) (by decide) dX6_copyFrom_33 ?_
  refine j_copy C tb_858 tb_96 tb_95 tb_6 18 94 rfl rfl 0 0 6 rfl rfl rfl (by omega) (by omega) (by decide) (by decide) (by decide) (Nat.le_of_ble_eq_true rfl) (w' := (cX g kk (sF (sF (sI σ 1472 (σ.1 256)) 93 (va_cpy (σ.2.1 17) (σ.2.1 93) 0 0 6)) 94 (va_cpy (σ.2.1 18) (σ.2.1 94) 0 0 6)))) rfl dX6_copyFrom_35 ?_
  refine j_aload_n C 1 rfl dX6_copyFrom_38 ?_
  refine gX_16_3 C tb_72 dX6_copyFrom_39 ?_
  refine j_iconst C (nI 0) (by decide) dX6_copyFrom_42 ?_
  refine j_aload_n C 0 rfl dX6_copyFrom_43 ?_
  refine gX_92_3 C tb_72 dX6_copyFrom_44 ?_
  refine j_iconst C (nI 0) (by decide) dX6_copyFrom_47 ?_
  refine j_bipush C (nI 6) (by decide) dX6_copyFrom_48 ?_
  refine j_copy C tb_858 tb_96 tb_95 tb_6 19 95 rfl rfl 0 0 6 rfl rfl rfl (by omega) (by omega) (by decide) (by decide) (by decide) (Nat.le_of_ble_eq_true rfl) (w' := (cX g kk (sF (sF (sF (sI σ 1472 (σ.1 256)) 93 (va_cpy (σ.2.1 17) (σ.2.1 93) 0 0 6)) 94 (va_cpy (σ.2.1 18) (σ.2.1 94) 0 0 6)) 95 (va_cpy (σ.2.1 19) (σ.2.1 95) 0 0 6)))) rfl dX6_copyFrom_50 ?_
  refine j_aload_n C 1 rfl dX6_copyFrom_53 ?_
  refine gX_16_4 C tb_74 dX6_copyFrom_54 ?_
  refine j_iconst C (nI 0) (by decide) dX6_copyFrom_57 ?_
  refine j_aload_n C 0 rfl dX6_copyFrom_58 ?_
  refine gX_92_4 C tb_74 dX6_copyFrom_59 ?_
  refine j_iconst C (nI 0) (by decide) dX6_copyFrom_62 ?_
  refine j_bipush C (nI 6) (by decide) dX6_copyFrom_63 ?_
  refine j_copy C tb_858 tb_96 tb_95 tb_6 20 96 rfl rfl 0 0 6 rfl rfl rfl (by omega) (by omega) (by decide) (by decide) (by decide) (Nat.le_of_ble_eq_true rfl) (w' := (cX g kk (sF (sF (sF (sF (sI σ 1472 (σ.1 256)) 93 (va_cpy (σ.2.1 17) (σ.2.1 93) 0 0 6)) 94 (va_cpy (σ.2.1 18) (σ.2.1 94) 0 0 6)) 95 (va_cpy (σ.2.1 19) (σ.2.1 95) 0 0 6)) 96 (va_cpy (σ.2.1 20) (σ.2.1 96) 0 0 6)))) rfl dX6_copyFrom_65 ?_
  refine j_aload_n C 1 rfl dX6_copyFrom_68 ?_
  refine gX_16_5 C tb_76 dX6_copyFrom_69 ?_
  refine j_iconst C (nI 0) (by decide) dX6_copyFrom_72 ?_
  refine j_aload_n C 0 rfl dX6_copyFrom_73 ?_
  refine gX_92_5 C tb_76 dX6_copyFrom_74 ?_
  refine j_iconst C (nI 0) (by decide) dX6_copyFrom_77 ?_
  refine j_bipush C (nI 6) (by decide) dX6_copyFrom_78 ?_
  refine j_copy C tb_858 tb_96 tb_95 tb_6 21 97 rfl rfl 0 0 6 rfl rfl rfl (by omega) (by omega) (by decide) (by decide) (by decide) (Nat.le_of_ble_eq_true rfl) (w' := (cX g kk (sF (sF (sF (sF (sF (sI σ 1472 (σ.1 256)) 93 (va_cpy (σ.2.1 17) (σ.2.1 93) 0 0 6)) 94 (va_cpy (σ.2.1 18) (σ.2.1 94) 0 0 6)) 95 (va_cpy (σ.2.1 19) (σ.2.1 95) 0 0 6)) 96 (va_cpy (σ.2.1 20) (σ.2.1 96) 0 0 6)) 97 (va_cpy (σ.2.1 21) (σ.2.1 97) 0 0 6)))) rfl dX6_copyFrom_80 ?_
  exact j_vret C E (sF (sF (sF (sF (sF (sI σ 1472 (σ.1 256)) 93 (va_cpy (σ.2.1 17) (σ.2.1 93) 0 0 6)) 94 (va_cpy (σ.2.1 18) (σ.2.1 94) 0 0 6)) 95 (va_cpy (σ.2.1 19) (σ.2.1 95) 0 0 6)) 96 (va_cpy (σ.2.1 20) (σ.2.1 96) 0 0 6)) 97 (va_cpy (σ.2.1 21) (σ.2.1 97) 0 0 6)) ⟨rfl, rfl⟩ rfl dX6_copyFrom_83
set_option maxRecDepth 100000 in
set_option maxHeartbeats 4000000 in
theorem c_gcopy_77_1 (g kk : Nat → Nat) (σ : St) : jM (S := St) yX2_copyFrom cX2_copyFrom 2 none { frames := 2, cells := 0, slots := 0, locals := 81 } kk (cX g kk σ) [.ref (g 77), .ref (g 1)] (cX g kk) (rV (fun u : St => (u = sF (sF (sF (sF (sF (sI (sF (sF (sF (sF (sI (sF (sF (sF (sF (sF (sF (sF (sF (sF (sI σ 1232 (σ.1 16)) 78 (va_cpy (σ.2.1 2) (σ.2.1 78) 0 0 6)) 79 (va_cpy (σ.2.1 3) (σ.2.1 79) 0 0 6)) 80 (va_cpy (σ.2.1 4) (σ.2.1 80) 0 0 18)) 81 (va_cpy (σ.2.1 5) (σ.2.1 81) 0 0 28)) 82 (va_cpy (σ.2.1 6) (σ.2.1 82) 0 0 168)) 83 (va_cpy (σ.2.1 7) (σ.2.1 83) 0 0 168)) 84 (va_cpy (σ.2.1 8) (σ.2.1 84) 0 0 168)) 85 (va_cpy (σ.2.1 9) (σ.2.1 85) 0 0 168)) 86 (va_cpy (σ.2.1 10) (σ.2.1 86) 0 0 4)) 1392 (σ.1 176)) 88 (va_cpy (σ.2.1 12) (σ.2.1 88) 0 0 20)) 89 (va_cpy (σ.2.1 13) (σ.2.1 89) 0 0 20)) 90 (va_cpy (σ.2.1 14) (σ.2.1 90) 0 0 20)) 91 (va_cpy (σ.2.1 15) (σ.2.1 91) 0 0 168)) 1472 (σ.1 256)) 93 (va_cpy (σ.2.1 17) (σ.2.1 93) 0 0 6)) 94 (va_cpy (σ.2.1 18) (σ.2.1 94) 0 0 6)) 95 (va_cpy (σ.2.1 19) (σ.2.1 95) 0 0 6)) 96 (va_cpy (σ.2.1 20) (σ.2.1 96) 0 0 6)) 97 (va_cpy (σ.2.1 21) (σ.2.1 97) 0 0 6)))) := by
  refine j_entry [(0, .ref (g 77)), (1, .ref (g 1))] (by decide) (Nat.le_of_ble_eq_true rfl) rfl ?_
  intro X C E HI
  refine j_aload_n C 0 rfl dX2_copyFrom_0 ?_
  refine j_aload_n C 1 rfl dX2_copyFrom_1 ?_
  refine gX_1_0 C tb_97 (σ.1 16) rfl dX2_copyFrom_2 ?_
  refine pX_77_0 C tb_97 dX2_copyFrom_5 ?_
  refine j_aload_n C 1 rfl dX2_copyFrom_8 ?_
  refine gX_1_1 C tb_102 dX2_copyFrom_9 ?_
  refine j_iconst C (nI 0) (by decide) dX2_copyFrom_12 ?_
  refine j_aload_n C 0 rfl dX2_copyFrom_13 ?_
  refine gX_77_1 C tb_102 dX2_copyFrom_14 ?_
  refine j_iconst C (nI 0) (by decide) dX2_copyFrom_17 ?_
  refine j_bipush C (nI 6) (by decide) dX2_copyFrom_18 ?_
  refine j_copy C tb_94 tb_96 tb_95 tb_6 2 78 rfl rfl 0 0 6 rfl rfl rfl (by omega) (by omega) (by decide) (by decide) (by decide) (Nat.le_of_ble_eq_true rfl) (w' := (cX g kk (sF (sI σ 1232 (σ.1 16)) 78 (va_cpy (σ.2.1 2) (σ.2.1 78) 0 0 6)))) rfl dX2_copyFrom_20 ?_
  refine j_aload_n C 1 rfl dX2_copyFrom_23 ?_
  refine gX_1_2 C tb_106 dX2_copyFrom_24 ?_
  refine j_iconst C (nI 0) (by decide) dX2_copyFrom_27 ?_
  refine j_aload_n C 0 rfl dX2_copyFrom_28 ?_
  refine gX_77_2 C tb_106 dX2_copyFrom_29 ?_
  refine j_iconst C (nI 0) (by decide) dX2_copyFrom_32 ?_
  refine j_bipush C (nI 6) (by decide) dX2_copyFrom_33 ?_
  refine j_copy C tb_94 tb_96 tb_95 tb_6 3 79 rfl rfl 0 0 6 rfl rfl rfl (by omega) (by omega) (by decide) (by decide) (by decide) (Nat.le_of_ble_eq_true rfl) (w' := (cX g kk (sF (sF (sI σ 1232 (σ.1 16)) 78 (va_cpy (σ.2.1 2) (σ.2.1 78) 0 0 6)) 79 (va_cpy (σ.2.1 3) (σ.2.1 79) 0 0 6)))) rfl dX2_copyFrom_35 ?_
  refine j_aload_n C 1 rfl dX2_copyFrom_38 ?_
  refine gX_1_3 C tb_110 dX2_copyFrom_39 ?_
  refine j_iconst C (nI 0) (by decide) dX2_copyFrom_42 ?_
  refine j_aload_n C 0 rfl dX2_copyFrom_43 ?_
  refine gX_77_3 C tb_110 dX2_copyFrom_44 ?_
  refine j_iconst C (nI 0) (by decide) dX2_copyFrom_47 ?_
  refine j_bipush C (nI 18) (by decide) dX2_copyFrom_48 ?_
  refine j_copy C tb_94 tb_96 tb_95 tb_6 4 80 rfl rfl 0 0 18 rfl rfl rfl (by omega) (by omega) (by decide) (by decide) (by decide) (Nat.le_of_ble_eq_true rfl) (w' := (cX g kk (sF (sF (sF (sI σ 1232 (σ.1 16)) 78 (va_cpy (σ.2.1 2) (σ.2.1 78) 0 0 6)) 79 (va_cpy (σ.2.1 3) (σ.2.1 79) 0 0 6)) 80 (va_cpy (σ.2.1 4) (σ.2.1 80) 0 0 18)))) rfl dX2_copyFrom_50 ?_
  refine j_aload_n C 1 rfl dX2_copyFrom_53 ?_
  refine gX_1_4 C tb_113 dX2_copyFrom_54 ?_
  refine j_iconst C (nI 0) (by decide) dX2_copyFrom_57 ?_
  refine j_aload_n C 0 rfl dX2_copyFrom_58 ?_
  refine gX_77_4 C tb_113 dX2_copyFrom_59 ?_
  refine j_iconst C (nI 0) (by decide) dX2_copyFrom_62 ?_
  refine j_bipush C (nI 28) (by decide) dX2_copyFrom_63 ?_
  refine j_copy C tb_94 tb_96 tb_95 tb_6 5 81 rfl rfl 0 0 28 rfl rfl rfl (by omega) (by omega) (by decide) (by decide) (by decide) (Nat.le_of_ble_eq_true rfl) (w' := (cX g kk (sF (sF (sF (sF (sI σ 1232 (σ.1 16)) 78 (va_cpy (σ.2.1 2) (σ.2.1 78) 0 0 6)) 79 (va_cpy (σ.2.1 3) (σ.2.1 79) 0 0 6)) 80 (va_cpy (σ.2.1 4) (σ.2.1 80) 0 0 18)) 81 (va_cpy (σ.2.1 5) (σ.2.1 81) 0 0 28)))) rfl dX2_copyFrom_65 ?_
  refine j_aload_n C 1 rfl dX2_copyFrom_68 ?_
  refine gX_1_5 C tb_116 dX2_copyFrom_69 ?_
  refine j_iconst C (nI 0) (by decide) dX2_copyFrom_72 ?_
  refine j_aload_n C 0 rfl dX2_copyFrom_73 ?_
  refine gX_77_5 C tb_116 dX2_copyFrom_74 ?_
  refine j_iconst C (nI 0) (by decide) dX2_copyFrom_77 ?_
  refine j_sipush C (nI 168) (by decide) dX2_copyFrom_78 ?_
  refine j_copy C tb_94 tb_96 tb_95 tb_6 6 82 rfl rfl 0 0 168 rfl rfl rfl (by omega) (by omega) (by decide) (by decide) (by decide) (Nat.le_of_ble_eq_true rfl) (w' := (cX g kk (sF (sF (sF (sF (sF (sI σ 1232 (σ.1 16)) 78 (va_cpy (σ.2.1 2) (σ.2.1 78) 0 0 6)) 79 (va_cpy (σ.2.1 3) (σ.2.1 79) 0 0 6)) 80 (va_cpy (σ.2.1 4) (σ.2.1 80) 0 0 18)) 81 (va_cpy (σ.2.1 5) (σ.2.1 81) 0 0 28)) 82 (va_cpy (σ.2.1 6) (σ.2.1 82) 0 0 168)))) rfl dX2_copyFrom_81 ?_
  refine j_aload_n C 1 rfl dX2_copyFrom_84 ?_
  refine gX_1_6 C tb_120 dX2_copyFrom_85 ?_
  refine j_iconst C (nI 0) (by decide) dX2_copyFrom_88 ?_
  refine j_aload_n C 0 rfl dX2_copyFrom_89 ?_
  refine gX_77_6 C tb_120 dX2_copyFrom_90 ?_
  refine j_iconst C (nI 0) (by decide) dX2_copyFrom_93 ?_
  refine j_sipush C (nI 168) (by decide) dX2_copyFrom_94 ?_
  refine j_copy C tb_94 tb_96 tb_95 tb_6 7 83 rfl rfl 0 0 168 rfl rfl rfl (by omega) (by omega) (by decide) (by decide) (by decide) (Nat.le_of_ble_eq_true rfl) (w' := (cX g kk (sF (sF (sF (sF (sF (sF (sI σ 1232 (σ.1 16)) 78 (va_cpy (σ.2.1 2) (σ.2.1 78) 0 0 6)) 79 (va_cpy (σ.2.1 3) (σ.2.1 79) 0 0 6)) 80 (va_cpy (σ.2.1 4) (σ.2.1 80) 0 0 18)) 81 (va_cpy (σ.2.1 5) (σ.2.1 81) 0 0 28)) 82 (va_cpy (σ.2.1 6) (σ.2.1 82) 0 0 168)) 83 (va_cpy (σ.2.1 7) (σ.2.1 83) 0 0 168)))) rfl dX2_copyFrom_97 ?_
  refine j_aload_n C 1 rfl dX2_copyFrom_100 ?_
  refine gX_1_7 C tb_122 dX2_copyFrom_101 ?_
  refine j_iconst C (nI 0) (by decide) dX2_copyFrom_104 ?_
  refine j_aload_n C 0 rfl dX2_copyFrom_105 ?_
  refine gX_77_7 C tb_122 dX2_copyFrom_106 ?_
  refine j_iconst C (nI 0) (by decide) dX2_copyFrom_109 ?_
  refine j_sipush C (nI 168) (by decide) dX2_copyFrom_110 ?_
  refine j_copy C tb_94 tb_96 tb_95 tb_6 8 84 rfl rfl 0 0 168 rfl rfl rfl (by omega) (by omega) (by decide) (by decide) (by decide) (Nat.le_of_ble_eq_true rfl) (w' := (cX g kk (sF (sF (sF (sF (sF (sF (sF (sI σ 1232 (σ.1 16)) 78 (va_cpy (σ.2.1 2) (σ.2.1 78) 0 0 6)) 79 (va_cpy (σ.2.1 3) (σ.2.1 79) 0 0 6)) 80 (va_cpy (σ.2.1 4) (σ.2.1 80) 0 0 18)) 81 (va_cpy (σ.2.1 5) (σ.2.1 81) 0 0 28)) 82 (va_cpy (σ.2.1 6) (σ.2.1 82) 0 0 168)) 83 (va_cpy (σ.2.1 7) (σ.2.1 83) 0 0 168)) 84 (va_cpy (σ.2.1 8) (σ.2.1 84) 0 0 168)))) rfl dX2_copyFrom_113 ?_
  refine j_aload_n C 1 rfl dX2_copyFrom_116 ?_
  refine gX_1_8 C tb_124 dX2_copyFrom_117 ?_
  refine j_iconst C (nI 0) (by decide) dX2_copyFrom_120 ?_
  refine j_aload_n C 0 rfl dX2_copyFrom_121 ?_
  refine gX_77_8 C tb_124 dX2_copyFrom_122 ?_
  refine j_iconst C (nI 0) (by decide) dX2_copyFrom_125 ?_
  refine j_sipush C (nI 168) (by decide) dX2_copyFrom_126 ?_
  refine j_copy C tb_94 tb_96 tb_95 tb_6 9 85 rfl rfl 0 0 168 rfl rfl rfl (by omega) (by omega) (by decide) (by decide) (by decide) (Nat.le_of_ble_eq_true rfl) (w' := (cX g kk (sF (sF (sF (sF (sF (sF (sF (sF (sI σ 1232 (σ.1 16)) 78 (va_cpy (σ.2.1 2) (σ.2.1 78) 0 0 6)) 79 (va_cpy (σ.2.1 3) (σ.2.1 79) 0 0 6)) 80 (va_cpy (σ.2.1 4) (σ.2.1 80) 0 0 18)) 81 (va_cpy (σ.2.1 5) (σ.2.1 81) 0 0 28)) 82 (va_cpy (σ.2.1 6) (σ.2.1 82) 0 0 168)) 83 (va_cpy (σ.2.1 7) (σ.2.1 83) 0 0 168)) 84 (va_cpy (σ.2.1 8) (σ.2.1 84) 0 0 168)) 85 (va_cpy (σ.2.1 9) (σ.2.1 85) 0 0 168)))) rfl dX2_copyFrom_129 ?_
  refine j_aload_n C 1 rfl dX2_copyFrom_132 ?_
  refine gX_1_9 C tb_126 dX2_copyFrom_133 ?_
  refine j_iconst C (nI 0) (by decide) dX2_copyFrom_136 ?_
  refine j_aload_n C 0 rfl dX2_copyFrom_137 ?_
  refine gX_77_9 C tb_126 dX2_copyFrom_138 ?_
  refine j_iconst C (nI 0) (by decide) dX2_copyFrom_141 ?_
  refine j_iconst C (nI 4) (by decide) dX2_copyFrom_142 ?_
  refine j_copy C tb_94 tb_96 tb_95 tb_6 10 86 rfl rfl 0 0 4 rfl rfl rfl (by omega) (by omega) (by decide) (by decide) (by decide) (Nat.le_of_ble_eq_true rfl) (w' := (cX g kk (sF (sF (sF (sF (sF (sF (sF (sF (sF (sI σ 1232 (σ.1 16)) 78 (va_cpy (σ.2.1 2) (σ.2.1 78) 0 0 6)) 79 (va_cpy (σ.2.1 3) (σ.2.1 79) 0 0 6)) 80 (va_cpy (σ.2.1 4) (σ.2.1 80) 0 0 18)) 81 (va_cpy (σ.2.1 5) (σ.2.1 81) 0 0 28)) 82 (va_cpy (σ.2.1 6) (σ.2.1 82) 0 0 168)) 83 (va_cpy (σ.2.1 7) (σ.2.1 83) 0 0 168)) 84 (va_cpy (σ.2.1 8) (σ.2.1 84) 0 0 168)) 85 (va_cpy (σ.2.1 9) (σ.2.1 85) 0 0 168)) 86 (va_cpy (σ.2.1 10) (σ.2.1 86) 0 0 4)))) rfl dX2_copyFrom_143 ?_
  refine j_aload_n C 0 rfl dX2_copyFrom_146 ?_
  refine gX_77_10 C tb_132 dX2_copyFrom_147 ?_
  refine j_aload_n C 1 rfl dX2_copyFrom_150 ?_
  refine gX_1_10 C tb_132 dX2_copyFrom_151 ?_
  refine j_V1 C (c_fcopy_77_1 g kk (sF (sF (sF (sF (sF (sF (sF (sF (sF (sI σ 1232 (σ.1 16)) 78 (va_cpy (σ.2.1 2) (σ.2.1 78) 0 0 6)) 79 (va_cpy (σ.2.1 3) (σ.2.1 79) 0 0 6)) 80 (va_cpy (σ.2.1 4) (σ.2.1 80) 0 0 18)) 81 (va_cpy (σ.2.1 5) (σ.2.1 81) 0 0 28)) 82 (va_cpy (σ.2.1 6) (σ.2.1 82) 0 0 168)) 83 (va_cpy (σ.2.1 7) (σ.2.1 83) 0 0 168)) 84 (va_cpy (σ.2.1 8) (σ.2.1 84) 0 0 168)) 85 (va_cpy (σ.2.1 9) (σ.2.1 85) 0 0 168)) 86 (va_cpy (σ.2.1 10) (σ.2.1 86) 0 0 4))) kyX1_copyFrom tb_849 tb_850 tb_851 87 rfl (eX_87 g kk _) rfl (Nat.le_of_ble_eq_true rfl) ⟨by decide, by decide⟩ dX2_copyFrom_154 rfl (fun vr ur hp => ?_)
  obtain ⟨rfl, hu⟩ := hp
  replace hu := hu.symm
  subst hu
  refine j_aload_n C 0 rfl dX2_copyFrom_157 ?_
  refine gX_77_11 C tb_134 dX2_copyFrom_158 ?_
  refine j_aload_n C 1 rfl dX2_copyFrom_161 ?_
  refine gX_1_11 C tb_134 dX2_copyFrom_162 ?_
  refine j_V1 C (c_rcopy_77_1 g kk (sF (sF (sF (sF (sI (sF (sF (sF (sF (sF (sF (sF (sF (sF (sI σ 1232 (σ.1 16)) 78 (va_cpy (σ.2.1 2) (σ.2.1 78) 0 0 6)) 79 (va_cpy (σ.2.1 3) (σ.2.1 79) 0 0 6)) 80 (va_cpy (σ.2.1 4) (σ.2.1 80) 0 0 18)) 81 (va_cpy (σ.2.1 5) (σ.2.1 81) 0 0 28)) 82 (va_cpy (σ.2.1 6) (σ.2.1 82) 0 0 168)) 83 (va_cpy (σ.2.1 7) (σ.2.1 83) 0 0 168)) 84 (va_cpy (σ.2.1 8) (σ.2.1 84) 0 0 168)) 85 (va_cpy (σ.2.1 9) (σ.2.1 85) 0 0 168)) 86 (va_cpy (σ.2.1 10) (σ.2.1 86) 0 0 4)) 1392 (σ.1 176)) 88 (va_cpy (σ.2.1 12) (σ.2.1 88) 0 0 20)) 89 (va_cpy (σ.2.1 13) (σ.2.1 89) 0 0 20)) 90 (va_cpy (σ.2.1 14) (σ.2.1 90) 0 0 20)) 91 (va_cpy (σ.2.1 15) (σ.2.1 91) 0 0 168))) kyX6_copyFrom tb_854 tb_855 tb_856 92 rfl (eX_92 g kk _) rfl (Nat.le_of_ble_eq_true rfl) ⟨by decide, by decide⟩ dX2_copyFrom_165 rfl (fun vr ur hp => ?_)
  obtain ⟨rfl, hu⟩ := hp
  replace hu := hu.symm
  subst hu
  exact j_vret C E (sF (sF (sF (sF (sF (sI (sF (sF (sF (sF (sI (sF (sF (sF (sF (sF (sF (sF (sF (sF (sI σ 1232 (σ.1 16)) 78 (va_cpy (σ.2.1 2) (σ.2.1 78) 0 0 6)) 79 (va_cpy (σ.2.1 3) (σ.2.1 79) 0 0 6)) 80 (va_cpy (σ.2.1 4) (σ.2.1 80) 0 0 18)) 81 (va_cpy (σ.2.1 5) (σ.2.1 81) 0 0 28)) 82 (va_cpy (σ.2.1 6) (σ.2.1 82) 0 0 168)) 83 (va_cpy (σ.2.1 7) (σ.2.1 83) 0 0 168)) 84 (va_cpy (σ.2.1 8) (σ.2.1 84) 0 0 168)) 85 (va_cpy (σ.2.1 9) (σ.2.1 85) 0 0 168)) 86 (va_cpy (σ.2.1 10) (σ.2.1 86) 0 0 4)) 1392 (σ.1 176)) 88 (va_cpy (σ.2.1 12) (σ.2.1 88) 0 0 20)) 89 (va_cpy (σ.2.1 13) (σ.2.1 89) 0 0 20)) 90 (va_cpy (σ.2.1 14) (σ.2.1 90) 0 0 20)) 91 (va_cpy (σ.2.1 15) (σ.2.1 91) 0 0 168)) 1472 (σ.1 256)) 93 (va_cpy (σ.2.1 17) (σ.2.1 93) 0 0 6)) 94 (va_cpy (σ.2.1 18) (σ.2.1 94) 0 0 6)) 95 (va_cpy (σ.2.1 19) (σ.2.1 95) 0 0 6)) 96 (va_cpy (σ.2.1 20) (σ.2.1 96) 0 0 6)) 97 (va_cpy (σ.2.1 21) (σ.2.1 97) 0 0 6)) ⟨rfl, rfl⟩ rfl dX2_copyFrom_168
set_option maxRecDepth 100000 in
set_option maxHeartbeats 4000000 in
theorem c_image0 (g kk : Nat → Nat) (σ : St)  : jM (S := St) yX10_image cX10_image 2 (some .int) { frames := 3, cells := 0, slots := 0, locals := 102 } kk (cX g kk σ) [.ref (g 0), .int (nI 0)] (cX g kk) (rI (fun r _ => r = nI 1)) := by
  refine j_entry [(0, .ref (g 0)), (1, .int (nI 0))] (by decide) (Nat.le_of_ble_eq_true rfl) rfl ?_
  intro X C E HI
  refine j_iload_n C 1 rfl dX10_image_0 ?_
  refine j_iconst C (nI 0) (by decide) dX10_image_1 ?_
  refine j_iconst C (nI 1) (by decide) dX10_image_2 ?_
  refine j_S01 C (c_isWithin (nI 0) (nI 0) (nI 1)) kyX10_isWithin tb_467 tb_468 rfl (Nat.le_of_ble_eq_true rfl) ⟨by decide, by decide⟩ ⟨by decide, by decide⟩ dX10_image_3 rfl ?_
  refine j_if_ne C 12 (by decide) dX10_image_6 (fun c1 => ?_) (fun c1 => ?_)
  · replace c1 := bI_t c1
    refine j_aload_n C 0 rfl dX10_image_12 ?_
    refine gX_0_8 C tb_436 dX10_image_13 ?_
    refine j_iload_n C 1 rfl dX10_image_16 ?_
    refine rX_55 C 0 rfl (by omega) dX10_image_17 ?_
    refine j_aload_n C 0 rfl dX10_image_18 ?_
    refine gX_0_0 C tb_428 dX10_image_19 ?_
    refine j_V1 C (c_gcopy_56_1 g kk σ) kyX2_copyFrom tb_845 tb_846 tb_847 56 rfl (eX_56 g kk _) rfl (Nat.le_of_ble_eq_true rfl) ⟨by decide, by decide⟩ dX10_image_22 rfl (fun vr ur hp => ?_)
    obtain ⟨rfl, hu⟩ := hp
    replace hu := hu.symm
    subst hu
    refine j_aload_n C 0 rfl dX10_image_25 ?_
    refine gX_0_9 C tb_437 dX10_image_26 ?_
    refine j_iload_n C 1 rfl dX10_image_29 ?_
    refine j_iconst C (nI 1) (by decide) dX10_image_30 ?_
    refine tX_98 C 0 rfl (by omega) dX10_image_31 ?_
    refine j_iconst C (nI 1) (by decide) dX10_image_32 ?_
    exact j_iret C E (sF (sF (sF (sF (sF (sF (sI (sF (sF (sF (sF (sI (sF (sF (sF (sF (sF (sF (sF (sF (sF (sI σ 896 (σ.1 16)) 57 (va_cpy (σ.2.1 2) (σ.2.1 57) 0 0 6)) 58 (va_cpy (σ.2.1 3) (σ.2.1 58) 0 0 6)) 59 (va_cpy (σ.2.1 4) (σ.2.1 59) 0 0 18)) 60 (va_cpy (σ.2.1 5) (σ.2.1 60) 0 0 28)) 61 (va_cpy (σ.2.1 6) (σ.2.1 61) 0 0 168)) 62 (va_cpy (σ.2.1 7) (σ.2.1 62) 0 0 168)) 63 (va_cpy (σ.2.1 8) (σ.2.1 63) 0 0 168)) 64 (va_cpy (σ.2.1 9) (σ.2.1 64) 0 0 168)) 65 (va_cpy (σ.2.1 10) (σ.2.1 65) 0 0 4)) 1056 (σ.1 176)) 67 (va_cpy (σ.2.1 12) (σ.2.1 67) 0 0 20)) 68 (va_cpy (σ.2.1 13) (σ.2.1 68) 0 0 20)) 69 (va_cpy (σ.2.1 14) (σ.2.1 69) 0 0 20)) 70 (va_cpy (σ.2.1 15) (σ.2.1 70) 0 0 168)) 1136 (σ.1 256)) 72 (va_cpy (σ.2.1 17) (σ.2.1 72) 0 0 6)) 73 (va_cpy (σ.2.1 18) (σ.2.1 73) 0 0 6)) 74 (va_cpy (σ.2.1 19) (σ.2.1 74) 0 0 6)) 75 (va_cpy (σ.2.1 20) (σ.2.1 75) 0 0 6)) 76 (va_cpy (σ.2.1 21) (σ.2.1 76) 0 0 6)) 98 (upd (σ.2.1 98) 0 (vp_nar .boolean (nI 1)))) ⟨_, rfl, rfl⟩ rfl dX10_image_33
  · replace c1 := bI_f c1
    exact absurd c1 (by decide)
set_option maxRecDepth 100000 in
set_option maxHeartbeats 4000000 in
theorem c_image1 (g kk : Nat → Nat) (σ : St)  : jM (S := St) yX10_image cX10_image 2 (some .int) { frames := 3, cells := 0, slots := 0, locals := 102 } kk (cX g kk σ) [.ref (g 0), .int (nI 1)] (cX g kk) (rI (fun r _ => r = nI 1)) := by
  refine j_entry [(0, .ref (g 0)), (1, .int (nI 1))] (by decide) (Nat.le_of_ble_eq_true rfl) rfl ?_
  intro X C E HI
  refine j_iload_n C 1 rfl dX10_image_0 ?_
  refine j_iconst C (nI 0) (by decide) dX10_image_1 ?_
  refine j_iconst C (nI 1) (by decide) dX10_image_2 ?_
  refine j_S01 C (c_isWithin (nI 1) (nI 0) (nI 1)) kyX10_isWithin tb_467 tb_468 rfl (Nat.le_of_ble_eq_true rfl) ⟨by decide, by decide⟩ ⟨by decide, by decide⟩ dX10_image_3 rfl ?_
  refine j_if_ne C 12 (by decide) dX10_image_6 (fun c1 => ?_) (fun c1 => ?_)
  · replace c1 := bI_t c1
    refine j_aload_n C 0 rfl dX10_image_12 ?_
    refine gX_0_8 C tb_436 dX10_image_13 ?_
    refine j_iload_n C 1 rfl dX10_image_16 ?_
    refine rX_55 C 1 rfl (by omega) dX10_image_17 ?_
    refine j_aload_n C 0 rfl dX10_image_18 ?_
    refine gX_0_0 C tb_428 dX10_image_19 ?_
    refine j_V1 C (c_gcopy_77_1 g kk σ) kyX2_copyFrom tb_845 tb_846 tb_847 77 rfl (eX_77 g kk _) rfl (Nat.le_of_ble_eq_true rfl) ⟨by decide, by decide⟩ dX10_image_22 rfl (fun vr ur hp => ?_)
    obtain ⟨rfl, hu⟩ := hp
    replace hu := hu.symm
    subst hu
    refine j_aload_n C 0 rfl dX10_image_25 ?_
    refine gX_0_9 C tb_437 dX10_image_26 ?_
    refine j_iload_n C 1 rfl dX10_image_29 ?_
    refine j_iconst C (nI 1) (by decide) dX10_image_30 ?_
    refine tX_98 C 1 rfl (by omega) dX10_image_31 ?_
    refine j_iconst C (nI 1) (by decide) dX10_image_32 ?_
    exact j_iret C E (sF (sF (sF (sF (sF (sF (sI (sF (sF (sF (sF (sI (sF (sF (sF (sF (sF (sF (sF (sF (sF (sI σ 1232 (σ.1 16)) 78 (va_cpy (σ.2.1 2) (σ.2.1 78) 0 0 6)) 79 (va_cpy (σ.2.1 3) (σ.2.1 79) 0 0 6)) 80 (va_cpy (σ.2.1 4) (σ.2.1 80) 0 0 18)) 81 (va_cpy (σ.2.1 5) (σ.2.1 81) 0 0 28)) 82 (va_cpy (σ.2.1 6) (σ.2.1 82) 0 0 168)) 83 (va_cpy (σ.2.1 7) (σ.2.1 83) 0 0 168)) 84 (va_cpy (σ.2.1 8) (σ.2.1 84) 0 0 168)) 85 (va_cpy (σ.2.1 9) (σ.2.1 85) 0 0 168)) 86 (va_cpy (σ.2.1 10) (σ.2.1 86) 0 0 4)) 1392 (σ.1 176)) 88 (va_cpy (σ.2.1 12) (σ.2.1 88) 0 0 20)) 89 (va_cpy (σ.2.1 13) (σ.2.1 89) 0 0 20)) 90 (va_cpy (σ.2.1 14) (σ.2.1 90) 0 0 20)) 91 (va_cpy (σ.2.1 15) (σ.2.1 91) 0 0 168)) 1472 (σ.1 256)) 93 (va_cpy (σ.2.1 17) (σ.2.1 93) 0 0 6)) 94 (va_cpy (σ.2.1 18) (σ.2.1 94) 0 0 6)) 95 (va_cpy (σ.2.1 19) (σ.2.1 95) 0 0 6)) 96 (va_cpy (σ.2.1 20) (σ.2.1 96) 0 0 6)) 97 (va_cpy (σ.2.1 21) (σ.2.1 97) 0 0 6)) 98 (upd (σ.2.1 98) 1 (vp_nar .boolean (nI 1)))) ⟨_, rfl, rfl⟩ rfl dX10_image_33
  · replace c1 := bI_f c1
    exact absurd c1 (by decide)
set_option maxRecDepth 100000 in
set_option maxHeartbeats 4000000 in
theorem c_imageO (g kk : Nat → Nat) (σ : St) (x : Int32) (hx : wB x (nI 0) (nI 1) = false) : jM (S := St) yX10_image cX10_image 2 (some .int) { frames := 3, cells := 0, slots := 0, locals := 102 } kk (cX g kk σ) [.ref (g 0), .int x] (cX g kk) (rI (fun (r : Int32) (u : St) => (((wB x (nI 0) (nI 1)) = false) ∧ r = (-2) ∧ u = σ))) := by
  refine j_entry [(0, .ref (g 0)), (1, .int x)] (by decide) (Nat.le_of_ble_eq_true rfl) rfl ?_
  intro X C E HI
  refine j_iload_n C 1 rfl dX10_image_0 ?_
  refine j_iconst C (nI 0) (by decide) dX10_image_1 ?_
  refine j_iconst C (nI 1) (by decide) dX10_image_2 ?_
  refine j_S01 C (c_isWithin x (nI 0) (nI 1)) kyX10_isWithin tb_467 tb_468 rfl (Nat.le_of_ble_eq_true rfl) ⟨by decide, by decide⟩ ⟨by decide, by decide⟩ dX10_image_3 rfl ?_
  refine j_if_ne C 12 (by decide) dX10_image_6 (fun c1 => ?_) (fun c1 => ?_)
  · replace c1 := bI_t c1
    rw [hx] at c1
    cases c1
  · replace c1 := bI_f c1
    refine j_bipush C ((-2)) (by decide) dX10_image_9 ?_
    exact j_iret C E (σ) ⟨_, rfl, ⟨c1, rfl, rfl⟩⟩ rfl dX10_image_11
set_option maxRecDepth 100000 in
set_option maxHeartbeats 4000000 in
theorem m_pass (g kk : Nat → Nat) (σ : St) (t : Nat) (ht : σ.1 56 = nI t) (hb : t < 1800) (v : Int32) : jM (S := St) yX11_pass cX11_pass 3 (some .int) { frames := 0, cells := 0, slots := 0, locals := 0 } kk (cM g kk σ) [.ref (g 0), .int v] (cM g kk) (rI (fun r u => r = (if σ.1 57 = 0 then σ.2.1 32 t else v) ∧ u = sI (sF σ 32 (upd (σ.2.1 32) t r)) 56 (nI (t + 1)))) := by
  refine j_entry [(0, .ref (g 0)), (1, .int v)] (by decide) (Nat.le_of_ble_eq_true rfl) rfl ?_
  intro X C E HI
  refine j_aload_n C 0 rfl dX11_pass_0 ?_
  refine gM_0_57 C tb_930 (σ.1 57) rfl dX11_pass_1 ?_
  refine j_if_eq C 11 (by decide) dX11_pass_4 (fun c1 => ?_) (fun c1 => ?_)
  · refine j_aload_n C 0 rfl dX11_pass_11 ?_
    refine gM_0_54 C tb_927 dX11_pass_12 ?_
    refine j_aload_n C 0 rfl dX11_pass_15 ?_
    refine gM_0_56 C tb_929 (nI t) ht dX11_pass_16 ?_
    refine rM_32 C t rfl (by omega) ((σ.2.1 32) t) rfl dX11_pass_19 ?_
    refine j_istore_n C [(2, .int ((σ.2.1 32) t)), (0, .ref (g 0)), (1, .int v)] rfl (by decide) rfl dX11_pass_20 ?_
    refine j_aload_n C 1 rfl dX11_pass_21 ?_
    refine gM_0_54 C tb_927 dX11_pass_22 ?_
    refine j_aload_n C 1 rfl dX11_pass_25 ?_
    refine gM_0_56 C tb_929 (nI t) ht dX11_pass_26 ?_
    refine j_iload_n C 0 rfl dX11_pass_29 ?_
    refine tM_32 C t rfl (by omega) dX11_pass_30 ?_
    refine j_aload_n C 1 rfl dX11_pass_31 ?_
    refine j_dup C rfl dX11_pass_32 ?_
    refine gM_0_56 C tb_929 (nI t) ht dX11_pass_33 ?_
    refine j_iconst C (nI 1) (by decide) dX11_pass_36 ?_
    refine j_iaddN C dX11_pass_37 ?_
    refine pM_0_56 C tb_929 dX11_pass_38 ?_
    refine j_iload_n C 0 rfl dX11_pass_41 ?_
    exact j_iret C E (sI (sF σ 32 (upd (σ.2.1 32) t ((σ.2.1 32) t))) 56 (nI (t + 1))) ⟨_, rfl, (if_pos c1).symm, rfl⟩ rfl dX11_pass_42
  · refine j_iload_n C 1 rfl dX11_pass_7 ?_
    refine j_goto C 20 (by decide) dX11_pass_8 ?_
    refine j_istore_n C [(2, .int v), (0, .ref (g 0)), (1, .int v)] rfl (by decide) rfl dX11_pass_20 ?_
    refine j_aload_n C 1 rfl dX11_pass_21 ?_
    refine gM_0_54 C tb_927 dX11_pass_22 ?_
    refine j_aload_n C 1 rfl dX11_pass_25 ?_
    refine gM_0_56 C tb_929 (nI t) ht dX11_pass_26 ?_
    refine j_iload_n C 0 rfl dX11_pass_29 ?_
    refine tM_32 C t rfl (by omega) dX11_pass_30 ?_
    refine j_aload_n C 1 rfl dX11_pass_31 ?_
    refine j_dup C rfl dX11_pass_32 ?_
    refine gM_0_56 C tb_929 (nI t) ht dX11_pass_33 ?_
    refine j_iconst C (nI 1) (by decide) dX11_pass_36 ?_
    refine j_iaddN C dX11_pass_37 ?_
    refine pM_0_56 C tb_929 dX11_pass_38 ?_
    refine j_iload_n C 0 rfl dX11_pass_41 ?_
    exact j_iret C E (sI (sF σ 32 (upd (σ.2.1 32) t v)) 56 (nI (t + 1))) ⟨_, rfl, (if_neg c1).symm, rfl⟩ rfl dX11_pass_42
set_option maxRecDepth 100000 in
set_option maxHeartbeats 4000000 in
theorem m_passAllL (g kk : Nat → Nat) (σ : St) (t : Nat) (ht : σ.1 56 = nI t) (hb : t + 827 ≤ 1800) : jM (S := St) yX11_passAll cX11_passAll 2 none { frames := 1, cells := 0, slots := 0, locals := 22 } kk (cM g kk σ) [.ref (g 0)] (cM g kk) (rV (fun _ => True)) := by
  refine j_entry [(0, .ref (g 0))] (by decide) (Nat.le_of_ble_eq_true rfl) rfl ?_
  intro X C E HI
  refine j_aload_n C 0 rfl dX11_passAll_0 ?_
  refine j_aload_n C 0 rfl dX11_passAll_1 ?_
  refine j_aload_n C 0 rfl dX11_passAll_2 ?_
  refine gM_0_3 C tb_876 (σ.1 3) rfl dX11_passAll_3 ?_
  refine j_V1 C (m_pass g kk σ t ht (by omega) (σ.1 3)) kyX11_pass tb_1326 tb_1328 sp_47 0 rfl (eM_0 g kk _) rfl (Nat.le_of_ble_eq_true rfl) ⟨by decide, by decide⟩ dX11_passAll_6 rfl (fun vr ur hp => ?_)
  obtain ⟨r1, rfl, hr1, hu⟩ := hp
  replace hu := hu.symm
  subst hu
  refine pM_0_3 C tb_876 dX11_passAll_9 ?_
  refine j_aload_n C 0 rfl dX11_passAll_12 ?_
  refine j_aload_n C 0 rfl dX11_passAll_13 ?_
  refine j_aload_n C 0 rfl dX11_passAll_14 ?_
  refine gM_0_9 C tb_882 (σ.1 9) rfl dX11_passAll_15 ?_
  refine j_V1 C (m_pass g kk (sI (sI (sF σ 32 (upd (σ.2.1 32) t r1)) 56 (nI (t + 1))) 3 r1) (t + 1) rfl (by omega) (σ.1 9)) kyX11_pass tb_1326 tb_1328 sp_47 0 rfl (eM_0 g kk _) rfl (Nat.le_of_ble_eq_true rfl) ⟨by decide, by decide⟩ dX11_passAll_18 rfl (fun vr ur hp => ?_)
  obtain ⟨r2, rfl, hr2, hu⟩ := hp
  replace hu := hu.symm
  subst hu
  refine pM_0_9 C tb_882 dX11_passAll_21 ?_
  refine j_aload_n C 0 rfl dX11_passAll_24 ?_
  refine j_aload_n C 0 rfl dX11_passAll_25 ?_
  refine j_aload_n C 0 rfl dX11_passAll_26 ?_
  refine gM_0_46 C tb_919 (σ.1 46) rfl dX11_passAll_27 ?_
  refine j_V1 C (m_pass g kk (sI (sI (sF (sI (sI (sF σ 32 (upd (σ.2.1 32) t r1)) 56 (nI (t + 1))) 3 r1) 32 (upd (upd (σ.2.1 32) t r1) (t + 1) r2)) 56 (nI ((t + 1) + 1))) 9 r2) ((t + 1) + 1) rfl (by omega) (σ.1 46)) kyX11_pass tb_1326 tb_1328 sp_47 0 rfl (eM_0 g kk _) rfl (Nat.le_of_ble_eq_true rfl) ⟨by decide, by decide⟩ dX11_passAll_30 rfl (fun vr ur hp => ?_)
  obtain ⟨r3, rfl, hr3, hu⟩ := hp
  replace hu := hu.symm
  subst hu
  refine pM_0_46 C tb_919 dX11_passAll_33 ?_
  refine j_aload_n C 0 rfl dX11_passAll_36 ?_
  refine j_aload_n C 0 rfl dX11_passAll_37 ?_
  refine j_aload_n C 0 rfl dX11_passAll_38 ?_
  refine gM_0_10 C tb_883 (σ.1 10) rfl dX11_passAll_39 ?_
  refine j_V1 C (m_pass g kk (sI (sI (sF (sI (sI (sF (sI (sI (sF σ 32 (upd (σ.2.1 32) t r1)) 56 (nI (t + 1))) 3 r1) 32 (upd (upd (σ.2.1 32) t r1) (t + 1) r2)) 56 (nI ((t + 1) + 1))) 9 r2) 32 (upd (upd (upd (σ.2.1 32) t r1) (t + 1) r2) ((t + 1) + 1) r3)) 56 (nI (((t + 1) + 1) + 1))) 46 r3) (((t + 1) + 1) + 1) rfl (by omega) (σ.1 10)) kyX11_pass tb_1326 tb_1328 sp_47 0 rfl (eM_0 g kk _) rfl (Nat.le_of_ble_eq_true rfl) ⟨by decide, by decide⟩ dX11_passAll_42 rfl (fun vr ur hp => ?_)
  obtain ⟨r4, rfl, hr4, hu⟩ := hp
  replace hu := hu.symm
  subst hu
  refine pM_0_10 C tb_883 dX11_passAll_45 ?_
  refine j_aload_n C 0 rfl dX11_passAll_48 ?_
  refine j_aload_n C 0 rfl dX11_passAll_49 ?_
  refine j_aload_n C 0 rfl dX11_passAll_50 ?_
  refine gM_0_11 C tb_884 (σ.1 11) rfl dX11_passAll_51 ?_
  refine j_V1 C (m_pass g kk (sI (sI (sF (sI (sI (sF (sI (sI (sF (sI (sI (sF σ 32 (upd (σ.2.1 32) t r1)) 56 (nI (t + 1))) 3 r1) 32 (upd (upd (σ.2.1 32) t r1) (t + 1) r2)) 56 (nI ((t + 1) + 1))) 9 r2) 32 (upd (upd (upd (σ.2.1 32) t r1) (t + 1) r2) ((t + 1) + 1) r3)) 56 (nI (((t + 1) + 1) + 1))) 46 r3) 32 (upd (upd (upd (upd (σ.2.1 32) t r1) (t + 1) r2) ((t + 1) + 1) r3) (((t + 1) + 1) + 1) r4)) 56 (nI ((((t + 1) + 1) + 1) + 1))) 10 r4) ((((t + 1) + 1) + 1) + 1) rfl (by omega) (σ.1 11)) kyX11_pass tb_1326 tb_1328 sp_47 0 rfl (eM_0 g kk _) rfl (Nat.le_of_ble_eq_true rfl) ⟨by decide, by decide⟩ dX11_passAll_54 rfl (fun vr ur hp => ?_)
  obtain ⟨r5, rfl, hr5, hu⟩ := hp
  replace hu := hu.symm
  subst hu
  refine pM_0_11 C tb_884 dX11_passAll_57 ?_
  refine j_aload_n C 0 rfl dX11_passAll_60 ?_
  refine j_aload_n C 0 rfl dX11_passAll_61 ?_
  refine j_aload_n C 0 rfl dX11_passAll_62 ?_
  refine gM_0_12 C tb_885 (σ.1 12) rfl dX11_passAll_63 ?_
  refine j_V1 C (m_pass g kk (sI (sI (sF (sI (sI (sF (sI (sI (sF (sI (sI (sF (sI (sI (sF σ 32 (upd (σ.2.1 32) t r1)) 56 (nI (t + 1))) 3 r1) 32 (upd (upd (σ.2.1 32) t r1) (t + 1) r2)) 56 (nI ((t + 1) + 1))) 9 r2) 32 (upd (upd (upd (σ.2.1 32) t r1) (t + 1) r2) ((t + 1) + 1) r3)) 56 (nI (((t + 1) + 1) + 1))) 46 r3) 32 (upd (upd (upd (upd (σ.2.1 32) t r1) (t + 1) r2) ((t + 1) + 1) r3) (((t + 1) + 1) + 1) r4)) 56 (nI ((((t + 1) + 1) + 1) + 1))) 10 r4) 32 (upd (upd (upd (upd (upd (σ.2.1 32) t r1) (t + 1) r2) ((t + 1) + 1) r3) (((t + 1) + 1) + 1) r4) ((((t + 1) + 1) + 1) + 1) r5)) 56 (nI (((((t + 1) + 1) + 1) + 1) + 1))) 11 r5) (((((t + 1) + 1) + 1) + 1) + 1) rfl (by omega) (σ.1 12)) kyX11_pass tb_1326 tb_1328 sp_47 0 rfl (eM_0 g kk _) rfl (Nat.le_of_ble_eq_true rfl) ⟨by decide, by decide⟩ dX11_passAll_66 rfl (fun vr ur hp => ?_)
  obtain ⟨r6, rfl, hr6, hu⟩ := hp
  replace hu := hu.symm
  subst hu
  refine pM_0_12 C tb_885 dX11_passAll_69 ?_
  refine j_aload_n C 0 rfl dX11_passAll_72 ?_
  refine j_aload_n C 0 rfl dX11_passAll_73 ?_
  refine j_aload_n C 0 rfl dX11_passAll_74 ?_
  refine gM_0_13 C tb_886 (σ.1 13) rfl dX11_passAll_75 ?_
  refine j_V1 C (m_pass g kk (sI (sI (sF (sI (sI (sF (sI (sI (sF (sI (sI (sF (sI (sI (sF (sI (sI (sF σ 32 (upd (σ.2.1 32) t r1)) 56 (nI (t + 1))) 3 r1) 32 (upd (upd (σ.2.1 32) t r1) (t + 1) r2)) 56 (nI ((t + 1) + 1))) 9 r2) 32 (upd (upd (upd (σ.2.1 32) t r1) (t + 1) r2) ((t + 1) + 1) r3)) 56 (nI (((t + 1) + 1) + 1))) 46 r3) 32 (upd (upd (upd (upd (σ.2.1 32) t r1) (t + 1) r2) ((t + 1) + 1) r3) (((t + 1) + 1) + 1) r4)) 56 (nI ((((t + 1) + 1) + 1) + 1))) 10 r4) 32 (upd (upd (upd (upd (upd (σ.2.1 32) t r1) (t + 1) r2) ((t + 1) + 1) r3) (((t + 1) + 1) + 1) r4) ((((t + 1) + 1) + 1) + 1) r5)) 56 (nI (((((t + 1) + 1) + 1) + 1) + 1))) 11 r5) 32 (upd (upd (upd (upd (upd (upd (σ.2.1 32) t r1) (t + 1) r2) ((t + 1) + 1) r3) (((t + 1) + 1) + 1) r4) ((((t + 1) + 1) + 1) + 1) r5) (((((t + 1) + 1) + 1) + 1) + 1) r6)) 56 (nI ((((((t + 1) + 1) + 1) + 1) + 1) + 1))) 12 r6) ((((((t + 1) + 1) + 1) + 1) + 1) + 1) rfl (by omega) (σ.1 13)) kyX11_pass tb_1326 tb_1328 sp_47 0 rfl (eM_0 g kk _) rfl (Nat.le_of_ble_eq_true rfl) ⟨by decide, by decide⟩ dX11_passAll_78 rfl (fun vr ur hp => ?_)
  obtain ⟨r7, rfl, hr7, hu⟩ := hp
  replace hu := hu.symm
  subst hu
  refine pM_0_13 C tb_886 dX11_passAll_81 ?_
  refine j_iconst C (nI 0) (by decide) dX11_passAll_84 ?_
  refine j_istore_n C [(1, .int (nI 0)), (0, .ref (g 0))] rfl (by decide) rfl dX11_passAll_85 ?_
  have L86 : ∀ (nL86 : Nat) (i0 t0 : Nat) (τ0 : St) (ht0 : τ0.1 56 = nI t0) (hi0 : i0 ≤ 6) (hb0 : t0 + 2 * (6 - i0) + 808 ≤ 1800) (hmL86 : 6 - i0 < nL86), J X 0 0 (cM g kk τ0) [(0, .ref (g 0)), (1, .int (nI i0))] 86 [] := by
    intro nL86
    induction nL86 with
    | zero => intro i0 t0 τ0 ht0 hi0 hb0 hm; exact absurd hm (Nat.not_lt_zero _)
    | succ nL86 ihL86 =>
      intro i0 t0 τ0 ht0 hi0 hb0 hmL86
      refine j_iload_n C 1 rfl dX11_passAll_86 ?_
      refine j_bipush C (nI 6) (by decide) dX11_passAll_87 ?_
      refine j_icmp_geN C 130 (by decide) (by omega) (by omega) dX11_passAll_89 (fun c8 => ?_) (fun c8 => ?_)
      · refine j_iconst C (nI 0) (by decide) dX11_passAll_130 ?_
        refine j_istore_n C [(1, .int (nI 0)), (0, .ref (g 0))] rfl (by decide) rfl dX11_passAll_131 ?_
        have L132 : ∀ (nL132 : Nat) (i1 t1 : Nat) (τ1 : St) (ht1 : τ1.1 56 = nI t1) (hi1 : i1 ≤ 18) (hb1 : t1 + 1 * (18 - i1) + 790 ≤ 1800) (hmL132 : 18 - i1 < nL132), J X 0 0 (cM g kk τ1) [(0, .ref (g 0)), (1, .int (nI i1))] 132 [] := by
          intro nL132
          induction nL132 with
          | zero => intro i1 t1 τ1 ht1 hi1 hb1 hm; exact absurd hm (Nat.not_lt_zero _)
          | succ nL132 ihL132 =>
            intro i1 t1 τ1 ht1 hi1 hb1 hmL132
            refine j_iload_n C 1 rfl dX11_passAll_132 ?_
            refine j_bipush C (nI 18) (by decide) dX11_passAll_133 ?_
            refine j_icmp_geN C 160 (by decide) (by omega) (by omega) dX11_passAll_135 (fun c9 => ?_) (fun c9 => ?_)
            · refine j_iconst C (nI 0) (by decide) dX11_passAll_160 ?_
              refine j_istore_n C [(1, .int (nI 0)), (0, .ref (g 0))] rfl (by decide) rfl dX11_passAll_161 ?_
              have L162 : ∀ (nL162 : Nat) (i2 t2 : Nat) (τ2 : St) (ht2 : τ2.1 56 = nI t2) (hi2 : i2 ≤ 28) (hb2 : t2 + 1 * (28 - i2) + 762 ≤ 1800) (hmL162 : 28 - i2 < nL162), J X 0 0 (cM g kk τ2) [(0, .ref (g 0)), (1, .int (nI i2))] 162 [] := by
                intro nL162
                induction nL162 with
                | zero => intro i2 t2 τ2 ht2 hi2 hb2 hm; exact absurd hm (Nat.not_lt_zero _)
                | succ nL162 ihL162 =>
                  intro i2 t2 τ2 ht2 hi2 hb2 hmL162
                  refine j_iload_n C 1 rfl dX11_passAll_162 ?_
                  refine j_bipush C (nI 28) (by decide) dX11_passAll_163 ?_
                  refine j_icmp_geN C 190 (by decide) (by omega) (by omega) dX11_passAll_165 (fun c10 => ?_) (fun c10 => ?_)
                  · refine j_iconst C (nI 0) (by decide) dX11_passAll_190 ?_
                    refine j_istore_n C [(1, .int (nI 0)), (0, .ref (g 0))] rfl (by decide) rfl dX11_passAll_191 ?_
                    have L192 : ∀ (nL192 : Nat) (i3 t3 : Nat) (τ3 : St) (ht3 : τ3.1 56 = nI t3) (hi3 : i3 ≤ 168) (hb3 : t3 + 4 * (168 - i3) + 90 ≤ 1800) (hmL192 : 168 - i3 < nL192), J X 0 0 (cM g kk τ3) [(0, .ref (g 0)), (1, .int (nI i3))] 192 [] := by
                      intro nL192
                      induction nL192 with
                      | zero => intro i3 t3 τ3 ht3 hi3 hb3 hm; exact absurd hm (Nat.not_lt_zero _)
                      | succ nL192 ihL192 =>
                        intro i3 t3 τ3 ht3 hi3 hb3 hmL192
                        refine j_iload_n C 1 rfl dX11_passAll_192 ?_
                        refine j_sipush C (nI 168) (by decide) dX11_passAll_193 ?_
                        refine j_icmp_geN C 269 (by decide) (by omega) (by omega) dX11_passAll_196 (fun c11 => ?_) (fun c11 => ?_)
                        · refine j_iconst C (nI 0) (by decide) dX11_passAll_269 ?_
                          refine j_istore_n C [(1, .int (nI 0)), (0, .ref (g 0))] rfl (by decide) rfl dX11_passAll_270 ?_
                          have L271 : ∀ (nL271 : Nat) (i4 t4 : Nat) (τ4 : St) (ht4 : τ4.1 56 = nI t4) (hi4 : i4 ≤ 20) (hb4 : t4 + 3 * (20 - i4) + 30 ≤ 1800) (hmL271 : 20 - i4 < nL271), J X 0 0 (cM g kk τ4) [(0, .ref (g 0)), (1, .int (nI i4))] 271 [] := by
                            intro nL271
                            induction nL271 with
                            | zero => intro i4 t4 τ4 ht4 hi4 hb4 hm; exact absurd hm (Nat.not_lt_zero _)
                            | succ nL271 ihL271 =>
                              intro i4 t4 τ4 ht4 hi4 hb4 hmL271
                              refine j_iload_n C 1 rfl dX11_passAll_271 ?_
                              refine j_bipush C (nI 20) (by decide) dX11_passAll_272 ?_
                              refine j_icmp_geN C 331 (by decide) (by omega) (by omega) dX11_passAll_274 (fun c12 => ?_) (fun c12 => ?_)
                              · refine j_iconst C (nI 0) (by decide) dX11_passAll_331 ?_
                                refine j_istore_n C [(1, .int (nI 0)), (0, .ref (g 0))] rfl (by decide) rfl dX11_passAll_332 ?_
                                have L333 : ∀ (nL333 : Nat) (i5 t5 : Nat) (τ5 : St) (ht5 : τ5.1 56 = nI t5) (hi5 : i5 ≤ 6) (hb5 : t5 + 5 * (6 - i5) + 0 ≤ 1800) (hmL333 : 6 - i5 < nL333), J X 0 0 (cM g kk τ5) [(0, .ref (g 0)), (1, .int (nI i5))] 333 [] := by
                                  intro nL333
                                  induction nL333 with
                                  | zero => intro i5 t5 τ5 ht5 hi5 hb5 hm; exact absurd hm (Nat.not_lt_zero _)
                                  | succ nL333 ihL333 =>
                                    intro i5 t5 τ5 ht5 hi5 hb5 hmL333
                                    refine j_iload_n C 1 rfl dX11_passAll_333 ?_
                                    refine j_bipush C (nI 6) (by decide) dX11_passAll_334 ?_
                                    refine j_icmp_geN C 425 (by decide) (by omega) (by omega) dX11_passAll_336 (fun c13 => ?_) (fun c13 => ?_)
                                    · exact j_vret C E (τ5) ⟨rfl, trivial⟩ rfl dX11_passAll_425
                                    · refine j_aload_n C 0 rfl dX11_passAll_339 ?_
                                      refine gM_0_41 C tb_914 dX11_passAll_340 ?_
                                      refine j_iload_n C 1 rfl dX11_passAll_343 ?_
                                      refine j_aload_n C 0 rfl dX11_passAll_344 ?_
                                      refine j_aload_n C 0 rfl dX11_passAll_345 ?_
                                      refine gM_0_41 C tb_914 dX11_passAll_346 ?_
                                      refine j_iload_n C 1 rfl dX11_passAll_349 ?_
                                      refine rM_26 C i5 rfl (by omega) ((τ5.2.1 26) i5) rfl dX11_passAll_350 ?_
                                      refine j_V1 C (m_pass g kk τ5 t5 ht5 (by omega) ((τ5.2.1 26) i5)) kyX11_pass tb_1326 tb_1328 sp_47 0 rfl (eM_0 g kk _) rfl (Nat.le_of_ble_eq_true rfl) ⟨by decide, by decide⟩ dX11_passAll_351 rfl (fun vr ur hp => ?_)
                                      obtain ⟨r14, rfl, hr14, hu⟩ := hp
                                      replace hu := hu.symm
                                      subst hu
                                      refine tM_26 C i5 rfl (by omega) dX11_passAll_354 ?_
                                      refine j_aload_n C 0 rfl dX11_passAll_355 ?_
                                      refine gM_0_42 C tb_915 dX11_passAll_356 ?_
                                      refine j_iload_n C 1 rfl dX11_passAll_359 ?_
                                      refine j_aload_n C 0 rfl dX11_passAll_360 ?_
                                      refine j_aload_n C 0 rfl dX11_passAll_361 ?_
                                      refine gM_0_42 C tb_915 dX11_passAll_362 ?_
                                      refine j_iload_n C 1 rfl dX11_passAll_365 ?_
                                      refine rM_27 C i5 rfl (by omega) ((τ5.2.1 27) i5) rfl dX11_passAll_366 ?_
                                      refine j_V1 C (m_pass g kk (sF (sI (sF τ5 32 (upd (τ5.2.1 32) t5 r14)) 56 (nI (t5 + 1))) 26 (upd (τ5.2.1 26) i5 r14)) (t5 + 1) rfl (by omega) ((τ5.2.1 27) i5)) kyX11_pass tb_1326 tb_1328 sp_47 0 rfl (eM_0 g kk _) rfl (Nat.le_of_ble_eq_true rfl) ⟨by decide, by decide⟩ dX11_passAll_367 rfl (fun vr ur hp => ?_)
                                      obtain ⟨r15, rfl, hr15, hu⟩ := hp
                                      replace hu := hu.symm
                                      subst hu
                                      refine tM_27 C i5 rfl (by omega) dX11_passAll_370 ?_
                                      refine j_aload_n C 0 rfl dX11_passAll_371 ?_
                                      refine gM_0_43 C tb_916 dX11_passAll_372 ?_
                                      refine j_iload_n C 1 rfl dX11_passAll_375 ?_
                                      refine j_aload_n C 0 rfl dX11_passAll_376 ?_
                                      refine j_aload_n C 0 rfl dX11_passAll_377 ?_
                                      refine gM_0_43 C tb_916 dX11_passAll_378 ?_
                                      refine j_iload_n C 1 rfl dX11_passAll_381 ?_
                                      refine rM_28 C i5 rfl (by omega) ((τ5.2.1 28) i5) rfl dX11_passAll_382 ?_
                                      refine j_V1 C (m_pass g kk (sF (sI (sF (sF (sI (sF τ5 32 (upd (τ5.2.1 32) t5 r14)) 56 (nI (t5 + 1))) 26 (upd (τ5.2.1 26) i5 r14)) 32 (upd (upd (τ5.2.1 32) t5 r14) (t5 + 1) r15)) 56 (nI ((t5 + 1) + 1))) 27 (upd (τ5.2.1 27) i5 r15)) ((t5 + 1) + 1) rfl (by omega) ((τ5.2.1 28) i5)) kyX11_pass tb_1326 tb_1328 sp_47 0 rfl (eM_0 g kk _) rfl (Nat.le_of_ble_eq_true rfl) ⟨by decide, by decide⟩ dX11_passAll_383 rfl (fun vr ur hp => ?_)
                                      obtain ⟨r16, rfl, hr16, hu⟩ := hp
                                      replace hu := hu.symm
                                      subst hu
                                      refine tM_28 C i5 rfl (by omega) dX11_passAll_386 ?_
                                      refine j_aload_n C 0 rfl dX11_passAll_387 ?_
                                      refine gM_0_44 C tb_917 dX11_passAll_388 ?_
                                      refine j_iload_n C 1 rfl dX11_passAll_391 ?_
                                      refine j_aload_n C 0 rfl dX11_passAll_392 ?_
                                      refine j_aload_n C 0 rfl dX11_passAll_393 ?_
                                      refine gM_0_44 C tb_917 dX11_passAll_394 ?_
                                      refine j_iload_n C 1 rfl dX11_passAll_397 ?_
                                      refine rM_29 C i5 rfl (by omega) ((τ5.2.1 29) i5) rfl dX11_passAll_398 ?_
                                      refine j_V1 C (m_pass g kk (sF (sI (sF (sF (sI (sF (sF (sI (sF τ5 32 (upd (τ5.2.1 32) t5 r14)) 56 (nI (t5 + 1))) 26 (upd (τ5.2.1 26) i5 r14)) 32 (upd (upd (τ5.2.1 32) t5 r14) (t5 + 1) r15)) 56 (nI ((t5 + 1) + 1))) 27 (upd (τ5.2.1 27) i5 r15)) 32 (upd (upd (upd (τ5.2.1 32) t5 r14) (t5 + 1) r15) ((t5 + 1) + 1) r16)) 56 (nI (((t5 + 1) + 1) + 1))) 28 (upd (τ5.2.1 28) i5 r16)) (((t5 + 1) + 1) + 1) rfl (by omega) ((τ5.2.1 29) i5)) kyX11_pass tb_1326 tb_1328 sp_47 0 rfl (eM_0 g kk _) rfl (Nat.le_of_ble_eq_true rfl) ⟨by decide, by decide⟩ dX11_passAll_399 rfl (fun vr ur hp => ?_)
                                      obtain ⟨r17, rfl, hr17, hu⟩ := hp
                                      replace hu := hu.symm
                                      subst hu
                                      refine tM_29 C i5 rfl (by omega) dX11_passAll_402 ?_
                                      refine j_aload_n C 0 rfl dX11_passAll_403 ?_
                                      refine gM_0_45 C tb_918 dX11_passAll_404 ?_
                                      refine j_iload_n C 1 rfl dX11_passAll_407 ?_
                                      refine j_aload_n C 0 rfl dX11_passAll_408 ?_
                                      refine j_aload_n C 0 rfl dX11_passAll_409 ?_
                                      refine gM_0_45 C tb_918 dX11_passAll_410 ?_
                                      refine j_iload_n C 1 rfl dX11_passAll_413 ?_
                                      refine rM_30 C i5 rfl (by omega) ((τ5.2.1 30) i5) rfl dX11_passAll_414 ?_
                                      refine j_V1 C (m_pass g kk (sF (sI (sF (sF (sI (sF (sF (sI (sF (sF (sI (sF τ5 32 (upd (τ5.2.1 32) t5 r14)) 56 (nI (t5 + 1))) 26 (upd (τ5.2.1 26) i5 r14)) 32 (upd (upd (τ5.2.1 32) t5 r14) (t5 + 1) r15)) 56 (nI ((t5 + 1) + 1))) 27 (upd (τ5.2.1 27) i5 r15)) 32 (upd (upd (upd (τ5.2.1 32) t5 r14) (t5 + 1) r15) ((t5 + 1) + 1) r16)) 56 (nI (((t5 + 1) + 1) + 1))) 28 (upd (τ5.2.1 28) i5 r16)) 32 (upd (upd (upd (upd (τ5.2.1 32) t5 r14) (t5 + 1) r15) ((t5 + 1) + 1) r16) (((t5 + 1) + 1) + 1) r17)) 56 (nI ((((t5 + 1) + 1) + 1) + 1))) 29 (upd (τ5.2.1 29) i5 r17)) ((((t5 + 1) + 1) + 1) + 1) rfl (by omega) ((τ5.2.1 30) i5)) kyX11_pass tb_1326 tb_1328 sp_47 0 rfl (eM_0 g kk _) rfl (Nat.le_of_ble_eq_true rfl) ⟨by decide, by decide⟩ dX11_passAll_415 rfl (fun vr ur hp => ?_)
                                      obtain ⟨r18, rfl, hr18, hu⟩ := hp
                                      replace hu := hu.symm
                                      subst hu
                                      refine tM_30 C i5 rfl (by omega) dX11_passAll_418 ?_
                                      refine j_iinc C (nI (i5 + 1)) [(1, .int (nI (i5 + 1))), (0, .ref (g 0))] 1 rfl (by rw [show Int32.ofInt 1 = nI 1 from by decide, nI_add]) (by decide) rfl dX11_passAll_419 ?_
                                      refine j_goto C 333 (by decide) dX11_passAll_422 ?_
                                      refine j_sub (lv' := [(0, .ref (g 0)), (1, .int (nI (i5 + 1)))]) [1, 0] rfl ?_
                                      exact ihL333 (i5 + 1) (((((t5 + 1) + 1) + 1) + 1) + 1) (sF (sI (sF (sF (sI (sF (sF (sI (sF (sF (sI (sF (sF (sI (sF τ5 32 (upd (τ5.2.1 32) t5 r14)) 56 (nI (t5 + 1))) 26 (upd (τ5.2.1 26) i5 r14)) 32 (upd (upd (τ5.2.1 32) t5 r14) (t5 + 1) r15)) 56 (nI ((t5 + 1) + 1))) 27 (upd (τ5.2.1 27) i5 r15)) 32 (upd (upd (upd (τ5.2.1 32) t5 r14) (t5 + 1) r15) ((t5 + 1) + 1) r16)) 56 (nI (((t5 + 1) + 1) + 1))) 28 (upd (τ5.2.1 28) i5 r16)) 32 (upd (upd (upd (upd (τ5.2.1 32) t5 r14) (t5 + 1) r15) ((t5 + 1) + 1) r16) (((t5 + 1) + 1) + 1) r17)) 56 (nI ((((t5 + 1) + 1) + 1) + 1))) 29 (upd (τ5.2.1 29) i5 r17)) 32 (upd (upd (upd (upd (upd (τ5.2.1 32) t5 r14) (t5 + 1) r15) ((t5 + 1) + 1) r16) (((t5 + 1) + 1) + 1) r17) ((((t5 + 1) + 1) + 1) + 1) r18)) 56 (nI (((((t5 + 1) + 1) + 1) + 1) + 1))) 30 (upd (τ5.2.1 30) i5 r18)) rfl (by omega) (by omega) (by omega)
                                refine j_sub (lv' := [(0, .ref (g 0)), (1, .int (nI 0))]) [1, 0] rfl ?_
                                exact L333 _ 0 t4 (τ4) ht4 (by decide) (by omega) (Nat.lt_succ_self _)
                              · refine j_aload_n C 0 rfl dX11_passAll_277 ?_
                                refine gM_0_6 C tb_879 dX11_passAll_278 ?_
                                refine j_iload_n C 1 rfl dX11_passAll_281 ?_
                                refine j_aload_n C 0 rfl dX11_passAll_282 ?_
                                refine j_aload_n C 0 rfl dX11_passAll_283 ?_
                                refine gM_0_6 C tb_879 dX11_passAll_284 ?_
                                refine j_iload_n C 1 rfl dX11_passAll_287 ?_
                                refine rM_6 C i4 rfl (by omega) ((τ4.2.1 6) i4) rfl dX11_passAll_288 ?_
                                refine j_V1 C (m_pass g kk τ4 t4 ht4 (by omega) ((τ4.2.1 6) i4)) kyX11_pass tb_1326 tb_1328 sp_47 0 rfl (eM_0 g kk _) rfl (Nat.le_of_ble_eq_true rfl) ⟨by decide, by decide⟩ dX11_passAll_289 rfl (fun vr ur hp => ?_)
                                obtain ⟨r19, rfl, hr19, hu⟩ := hp
                                replace hu := hu.symm
                                subst hu
                                refine tM_6 C i4 rfl (by omega) dX11_passAll_292 ?_
                                refine j_aload_n C 0 rfl dX11_passAll_293 ?_
                                refine gM_0_7 C tb_880 dX11_passAll_294 ?_
                                refine j_iload_n C 1 rfl dX11_passAll_297 ?_
                                refine j_aload_n C 0 rfl dX11_passAll_298 ?_
                                refine j_aload_n C 0 rfl dX11_passAll_299 ?_
                                refine gM_0_7 C tb_880 dX11_passAll_300 ?_
                                refine j_iload_n C 1 rfl dX11_passAll_303 ?_
                                refine rM_7 C i4 rfl (by omega) ((τ4.2.1 7) i4) rfl dX11_passAll_304 ?_
                                refine j_V1 C (m_pass g kk (sF (sI (sF τ4 32 (upd (τ4.2.1 32) t4 r19)) 56 (nI (t4 + 1))) 6 (upd (τ4.2.1 6) i4 r19)) (t4 + 1) rfl (by omega) ((τ4.2.1 7) i4)) kyX11_pass tb_1326 tb_1328 sp_47 0 rfl (eM_0 g kk _) rfl (Nat.le_of_ble_eq_true rfl) ⟨by decide, by decide⟩ dX11_passAll_305 rfl (fun vr ur hp => ?_)
                                obtain ⟨r20, rfl, hr20, hu⟩ := hp
                                replace hu := hu.symm
                                subst hu
                                refine tM_7 C i4 rfl (by omega) dX11_passAll_308 ?_
                                refine j_aload_n C 0 rfl dX11_passAll_309 ?_
                                refine gM_0_8 C tb_881 dX11_passAll_310 ?_
                                refine j_iload_n C 1 rfl dX11_passAll_313 ?_
                                refine j_aload_n C 0 rfl dX11_passAll_314 ?_
                                refine j_aload_n C 0 rfl dX11_passAll_315 ?_
                                refine gM_0_8 C tb_881 dX11_passAll_316 ?_
                                refine j_iload_n C 1 rfl dX11_passAll_319 ?_
                                refine rM_8 C i4 rfl (by omega) ((τ4.2.1 8) i4) rfl dX11_passAll_320 ?_
                                refine j_V1 C (m_pass g kk (sF (sI (sF (sF (sI (sF τ4 32 (upd (τ4.2.1 32) t4 r19)) 56 (nI (t4 + 1))) 6 (upd (τ4.2.1 6) i4 r19)) 32 (upd (upd (τ4.2.1 32) t4 r19) (t4 + 1) r20)) 56 (nI ((t4 + 1) + 1))) 7 (upd (τ4.2.1 7) i4 r20)) ((t4 + 1) + 1) rfl (by omega) ((τ4.2.1 8) i4)) kyX11_pass tb_1326 tb_1328 sp_47 0 rfl (eM_0 g kk _) rfl (Nat.le_of_ble_eq_true rfl) ⟨by decide, by decide⟩ dX11_passAll_321 rfl (fun vr ur hp => ?_)
                                obtain ⟨r21, rfl, hr21, hu⟩ := hp
                                replace hu := hu.symm
                                subst hu
                                refine tM_8 C i4 rfl (by omega) dX11_passAll_324 ?_
                                refine j_iinc C (nI (i4 + 1)) [(1, .int (nI (i4 + 1))), (0, .ref (g 0))] 1 rfl (by rw [show Int32.ofInt 1 = nI 1 from by decide, nI_add]) (by decide) rfl dX11_passAll_325 ?_
                                refine j_goto C 271 (by decide) dX11_passAll_328 ?_
                                refine j_sub (lv' := [(0, .ref (g 0)), (1, .int (nI (i4 + 1)))]) [1, 0] rfl ?_
                                exact ihL271 (i4 + 1) (((t4 + 1) + 1) + 1) (sF (sI (sF (sF (sI (sF (sF (sI (sF τ4 32 (upd (τ4.2.1 32) t4 r19)) 56 (nI (t4 + 1))) 6 (upd (τ4.2.1 6) i4 r19)) 32 (upd (upd (τ4.2.1 32) t4 r19) (t4 + 1) r20)) 56 (nI ((t4 + 1) + 1))) 7 (upd (τ4.2.1 7) i4 r20)) 32 (upd (upd (upd (τ4.2.1 32) t4 r19) (t4 + 1) r20) ((t4 + 1) + 1) r21)) 56 (nI (((t4 + 1) + 1) + 1))) 8 (upd (τ4.2.1 8) i4 r21)) rfl (by omega) (by omega) (by omega)
                          refine j_sub (lv' := [(0, .ref (g 0)), (1, .int (nI 0))]) [1, 0] rfl ?_
                          exact L271 _ 0 t3 (τ3) ht3 (by decide) (by omega) (Nat.lt_succ_self _)
                        · refine j_aload_n C 0 rfl dX11_passAll_199 ?_
                          refine gM_0_5 C tb_878 dX11_passAll_200 ?_
                          refine j_iload_n C 1 rfl dX11_passAll_203 ?_
                          refine j_aload_n C 0 rfl dX11_passAll_204 ?_
                          refine j_aload_n C 0 rfl dX11_passAll_205 ?_
                          refine gM_0_5 C tb_878 dX11_passAll_206 ?_
                          refine j_iload_n C 1 rfl dX11_passAll_209 ?_
                          refine rM_5 C i3 rfl (by omega) ((τ3.2.1 5) i3) rfl dX11_passAll_210 ?_
                          refine j_V1 C (m_pass g kk τ3 t3 ht3 (by omega) ((τ3.2.1 5) i3)) kyX11_pass tb_1326 tb_1328 sp_47 0 rfl (eM_0 g kk _) rfl (Nat.le_of_ble_eq_true rfl) ⟨by decide, by decide⟩ dX11_passAll_211 rfl (fun vr ur hp => ?_)
                          obtain ⟨r22, rfl, hr22, hu⟩ := hp
                          replace hu := hu.symm
                          subst hu
                          refine tM_5 C i3 rfl (by omega) dX11_passAll_214 ?_
                          refine j_aload_n C 0 rfl dX11_passAll_215 ?_
                          refine gM_0_16 C tb_889 dX11_passAll_216 ?_
                          refine j_iload_n C 1 rfl dX11_passAll_219 ?_
                          refine j_aload_n C 0 rfl dX11_passAll_220 ?_
                          refine j_aload_n C 0 rfl dX11_passAll_221 ?_
                          refine gM_0_16 C tb_889 dX11_passAll_222 ?_
                          refine j_iload_n C 1 rfl dX11_passAll_225 ?_
                          refine rM_10 C i3 rfl (by omega) ((τ3.2.1 10) i3) rfl dX11_passAll_226 ?_
                          refine j_V1 C (m_pass g kk (sF (sI (sF τ3 32 (upd (τ3.2.1 32) t3 r22)) 56 (nI (t3 + 1))) 5 (upd (τ3.2.1 5) i3 r22)) (t3 + 1) rfl (by omega) ((τ3.2.1 10) i3)) kyX11_pass tb_1326 tb_1328 sp_47 0 rfl (eM_0 g kk _) rfl (Nat.le_of_ble_eq_true rfl) ⟨by decide, by decide⟩ dX11_passAll_227 rfl (fun vr ur hp => ?_)
                          obtain ⟨r23, rfl, hr23, hu⟩ := hp
                          replace hu := hu.symm
                          subst hu
                          refine tM_10 C i3 rfl (by omega) dX11_passAll_230 ?_
                          refine j_aload_n C 0 rfl dX11_passAll_231 ?_
                          refine gM_0_17 C tb_890 dX11_passAll_232 ?_
                          refine j_iload_n C 1 rfl dX11_passAll_235 ?_
                          refine j_aload_n C 0 rfl dX11_passAll_236 ?_
                          refine j_aload_n C 0 rfl dX11_passAll_237 ?_
                          refine gM_0_17 C tb_890 dX11_passAll_238 ?_
                          refine j_iload_n C 1 rfl dX11_passAll_241 ?_
                          refine rM_11 C i3 rfl (by omega) ((τ3.2.1 11) i3) rfl dX11_passAll_242 ?_
                          refine j_V1 C (m_pass g kk (sF (sI (sF (sF (sI (sF τ3 32 (upd (τ3.2.1 32) t3 r22)) 56 (nI (t3 + 1))) 5 (upd (τ3.2.1 5) i3 r22)) 32 (upd (upd (τ3.2.1 32) t3 r22) (t3 + 1) r23)) 56 (nI ((t3 + 1) + 1))) 10 (upd (τ3.2.1 10) i3 r23)) ((t3 + 1) + 1) rfl (by omega) ((τ3.2.1 11) i3)) kyX11_pass tb_1326 tb_1328 sp_47 0 rfl (eM_0 g kk _) rfl (Nat.le_of_ble_eq_true rfl) ⟨by decide, by decide⟩ dX11_passAll_243 rfl (fun vr ur hp => ?_)
                          obtain ⟨r24, rfl, hr24, hu⟩ := hp
                          replace hu := hu.symm
                          subst hu
                          refine tM_11 C i3 rfl (by omega) dX11_passAll_246 ?_
                          refine j_aload_n C 0 rfl dX11_passAll_247 ?_
                          refine gM_0_18 C tb_891 dX11_passAll_248 ?_
                          refine j_iload_n C 1 rfl dX11_passAll_251 ?_
                          refine j_aload_n C 0 rfl dX11_passAll_252 ?_
                          refine j_aload_n C 0 rfl dX11_passAll_253 ?_
                          refine gM_0_18 C tb_891 dX11_passAll_254 ?_
                          refine j_iload_n C 1 rfl dX11_passAll_257 ?_
                          refine rM_12 C i3 rfl (by omega) ((τ3.2.1 12) i3) rfl dX11_passAll_258 ?_
                          refine j_V1 C (m_pass g kk (sF (sI (sF (sF (sI (sF (sF (sI (sF τ3 32 (upd (τ3.2.1 32) t3 r22)) 56 (nI (t3 + 1))) 5 (upd (τ3.2.1 5) i3 r22)) 32 (upd (upd (τ3.2.1 32) t3 r22) (t3 + 1) r23)) 56 (nI ((t3 + 1) + 1))) 10 (upd (τ3.2.1 10) i3 r23)) 32 (upd (upd (upd (τ3.2.1 32) t3 r22) (t3 + 1) r23) ((t3 + 1) + 1) r24)) 56 (nI (((t3 + 1) + 1) + 1))) 11 (upd (τ3.2.1 11) i3 r24)) (((t3 + 1) + 1) + 1) rfl (by omega) ((τ3.2.1 12) i3)) kyX11_pass tb_1326 tb_1328 sp_47 0 rfl (eM_0 g kk _) rfl (Nat.le_of_ble_eq_true rfl) ⟨by decide, by decide⟩ dX11_passAll_259 rfl (fun vr ur hp => ?_)
                          obtain ⟨r25, rfl, hr25, hu⟩ := hp
                          replace hu := hu.symm
                          subst hu
                          refine tM_12 C i3 rfl (by omega) dX11_passAll_262 ?_
                          refine j_iinc C (nI (i3 + 1)) [(1, .int (nI (i3 + 1))), (0, .ref (g 0))] 1 rfl (by rw [show Int32.ofInt 1 = nI 1 from by decide, nI_add]) (by decide) rfl dX11_passAll_263 ?_
                          refine j_goto C 192 (by decide) dX11_passAll_266 ?_
                          refine j_sub (lv' := [(0, .ref (g 0)), (1, .int (nI (i3 + 1)))]) [1, 0] rfl ?_
                          exact ihL192 (i3 + 1) ((((t3 + 1) + 1) + 1) + 1) (sF (sI (sF (sF (sI (sF (sF (sI (sF (sF (sI (sF τ3 32 (upd (τ3.2.1 32) t3 r22)) 56 (nI (t3 + 1))) 5 (upd (τ3.2.1 5) i3 r22)) 32 (upd (upd (τ3.2.1 32) t3 r22) (t3 + 1) r23)) 56 (nI ((t3 + 1) + 1))) 10 (upd (τ3.2.1 10) i3 r23)) 32 (upd (upd (upd (τ3.2.1 32) t3 r22) (t3 + 1) r23) ((t3 + 1) + 1) r24)) 56 (nI (((t3 + 1) + 1) + 1))) 11 (upd (τ3.2.1 11) i3 r24)) 32 (upd (upd (upd (upd (τ3.2.1 32) t3 r22) (t3 + 1) r23) ((t3 + 1) + 1) r24) (((t3 + 1) + 1) + 1) r25)) 56 (nI ((((t3 + 1) + 1) + 1) + 1))) 12 (upd (τ3.2.1 12) i3 r25)) rfl (by omega) (by omega) (by omega)
                    refine j_sub (lv' := [(0, .ref (g 0)), (1, .int (nI 0))]) [1, 0] rfl ?_
                    exact L192 _ 0 t2 (τ2) ht2 (by decide) (by omega) (Nat.lt_succ_self _)
                  · refine j_aload_n C 0 rfl dX11_passAll_168 ?_
                    refine gM_0_4 C tb_877 dX11_passAll_169 ?_
                    refine j_iload_n C 1 rfl dX11_passAll_172 ?_
                    refine j_aload_n C 0 rfl dX11_passAll_173 ?_
                    refine j_aload_n C 0 rfl dX11_passAll_174 ?_
                    refine gM_0_4 C tb_877 dX11_passAll_175 ?_
                    refine j_iload_n C 1 rfl dX11_passAll_178 ?_
                    refine rM_4 C i2 rfl (by omega) ((τ2.2.1 4) i2) rfl dX11_passAll_179 ?_
                    refine j_V1 C (m_pass g kk τ2 t2 ht2 (by omega) ((τ2.2.1 4) i2)) kyX11_pass tb_1326 tb_1328 sp_47 0 rfl (eM_0 g kk _) rfl (Nat.le_of_ble_eq_true rfl) ⟨by decide, by decide⟩ dX11_passAll_180 rfl (fun vr ur hp => ?_)
                    obtain ⟨r26, rfl, hr26, hu⟩ := hp
                    replace hu := hu.symm
                    subst hu
                    refine tM_4 C i2 rfl (by omega) dX11_passAll_183 ?_
                    refine j_iinc C (nI (i2 + 1)) [(1, .int (nI (i2 + 1))), (0, .ref (g 0))] 1 rfl (by rw [show Int32.ofInt 1 = nI 1 from by decide, nI_add]) (by decide) rfl dX11_passAll_184 ?_
                    refine j_goto C 162 (by decide) dX11_passAll_187 ?_
                    refine j_sub (lv' := [(0, .ref (g 0)), (1, .int (nI (i2 + 1)))]) [1, 0] rfl ?_
                    exact ihL162 (i2 + 1) (t2 + 1) (sF (sI (sF τ2 32 (upd (τ2.2.1 32) t2 r26)) 56 (nI (t2 + 1))) 4 (upd (τ2.2.1 4) i2 r26)) rfl (by omega) (by omega) (by omega)
              refine j_sub (lv' := [(0, .ref (g 0)), (1, .int (nI 0))]) [1, 0] rfl ?_
              exact L162 _ 0 t1 (τ1) ht1 (by decide) (by omega) (Nat.lt_succ_self _)
            · refine j_aload_n C 0 rfl dX11_passAll_138 ?_
              refine gM_0_2 C tb_875 dX11_passAll_139 ?_
              refine j_iload_n C 1 rfl dX11_passAll_142 ?_
              refine j_aload_n C 0 rfl dX11_passAll_143 ?_
              refine j_aload_n C 0 rfl dX11_passAll_144 ?_
              refine gM_0_2 C tb_875 dX11_passAll_145 ?_
              refine j_iload_n C 1 rfl dX11_passAll_148 ?_
              refine rM_3 C i1 rfl (by omega) ((τ1.2.1 3) i1) rfl dX11_passAll_149 ?_
              refine j_V1 C (m_pass g kk τ1 t1 ht1 (by omega) ((τ1.2.1 3) i1)) kyX11_pass tb_1326 tb_1328 sp_47 0 rfl (eM_0 g kk _) rfl (Nat.le_of_ble_eq_true rfl) ⟨by decide, by decide⟩ dX11_passAll_150 rfl (fun vr ur hp => ?_)
              obtain ⟨r27, rfl, hr27, hu⟩ := hp
              replace hu := hu.symm
              subst hu
              refine tM_3 C i1 rfl (by omega) dX11_passAll_153 ?_
              refine j_iinc C (nI (i1 + 1)) [(1, .int (nI (i1 + 1))), (0, .ref (g 0))] 1 rfl (by rw [show Int32.ofInt 1 = nI 1 from by decide, nI_add]) (by decide) rfl dX11_passAll_154 ?_
              refine j_goto C 132 (by decide) dX11_passAll_157 ?_
              refine j_sub (lv' := [(0, .ref (g 0)), (1, .int (nI (i1 + 1)))]) [1, 0] rfl ?_
              exact ihL132 (i1 + 1) (t1 + 1) (sF (sI (sF τ1 32 (upd (τ1.2.1 32) t1 r27)) 56 (nI (t1 + 1))) 3 (upd (τ1.2.1 3) i1 r27)) rfl (by omega) (by omega) (by omega)
        refine j_sub (lv' := [(0, .ref (g 0)), (1, .int (nI 0))]) [1, 0] rfl ?_
        exact L132 _ 0 t0 (τ0) ht0 (by decide) (by omega) (Nat.lt_succ_self _)
      · refine j_aload_n C 0 rfl dX11_passAll_92 ?_
        refine gM_0_0 C tb_873 dX11_passAll_93 ?_
        refine j_iload_n C 1 rfl dX11_passAll_96 ?_
        refine j_aload_n C 0 rfl dX11_passAll_97 ?_
        refine j_aload_n C 0 rfl dX11_passAll_98 ?_
        refine gM_0_0 C tb_873 dX11_passAll_99 ?_
        refine j_iload_n C 1 rfl dX11_passAll_102 ?_
        refine rM_1 C i0 rfl (by omega) ((τ0.2.1 1) i0) rfl dX11_passAll_103 ?_
        refine j_V1 C (m_pass g kk τ0 t0 ht0 (by omega) ((τ0.2.1 1) i0)) kyX11_pass tb_1326 tb_1328 sp_47 0 rfl (eM_0 g kk _) rfl (Nat.le_of_ble_eq_true rfl) ⟨by decide, by decide⟩ dX11_passAll_104 rfl (fun vr ur hp => ?_)
        obtain ⟨r28, rfl, hr28, hu⟩ := hp
        replace hu := hu.symm
        subst hu
        refine tM_1 C i0 rfl (by omega) dX11_passAll_107 ?_
        refine j_aload_n C 0 rfl dX11_passAll_108 ?_
        refine gM_0_1 C tb_874 dX11_passAll_109 ?_
        refine j_iload_n C 1 rfl dX11_passAll_112 ?_
        refine j_aload_n C 0 rfl dX11_passAll_113 ?_
        refine j_aload_n C 0 rfl dX11_passAll_114 ?_
        refine gM_0_1 C tb_874 dX11_passAll_115 ?_
        refine j_iload_n C 1 rfl dX11_passAll_118 ?_
        refine rM_2 C i0 rfl (by omega) ((τ0.2.1 2) i0) rfl dX11_passAll_119 ?_
        refine j_V1 C (m_pass g kk (sF (sI (sF τ0 32 (upd (τ0.2.1 32) t0 r28)) 56 (nI (t0 + 1))) 1 (upd (τ0.2.1 1) i0 r28)) (t0 + 1) rfl (by omega) ((τ0.2.1 2) i0)) kyX11_pass tb_1326 tb_1328 sp_47 0 rfl (eM_0 g kk _) rfl (Nat.le_of_ble_eq_true rfl) ⟨by decide, by decide⟩ dX11_passAll_120 rfl (fun vr ur hp => ?_)
        obtain ⟨r29, rfl, hr29, hu⟩ := hp
        replace hu := hu.symm
        subst hu
        refine tM_2 C i0 rfl (by omega) dX11_passAll_123 ?_
        refine j_iinc C (nI (i0 + 1)) [(1, .int (nI (i0 + 1))), (0, .ref (g 0))] 1 rfl (by rw [show Int32.ofInt 1 = nI 1 from by decide, nI_add]) (by decide) rfl dX11_passAll_124 ?_
        refine j_goto C 86 (by decide) dX11_passAll_127 ?_
        refine j_sub (lv' := [(0, .ref (g 0)), (1, .int (nI (i0 + 1)))]) [1, 0] rfl ?_
        exact ihL86 (i0 + 1) ((t0 + 1) + 1) (sF (sI (sF (sF (sI (sF τ0 32 (upd (τ0.2.1 32) t0 r28)) 56 (nI (t0 + 1))) 1 (upd (τ0.2.1 1) i0 r28)) 32 (upd (upd (τ0.2.1 32) t0 r28) (t0 + 1) r29)) 56 (nI ((t0 + 1) + 1))) 2 (upd (τ0.2.1 2) i0 r29)) rfl (by omega) (by omega) (by omega)
  refine j_sub (lv' := [(0, .ref (g 0)), (1, .int (nI 0))]) [1, 0] rfl ?_
  exact L86 _ 0 (((((((t + 1) + 1) + 1) + 1) + 1) + 1) + 1) (sI (sI (sF (sI (sI (sF (sI (sI (sF (sI (sI (sF (sI (sI (sF (sI (sI (sF (sI (sI (sF σ 32 (upd (σ.2.1 32) t r1)) 56 (nI (t + 1))) 3 r1) 32 (upd (upd (σ.2.1 32) t r1) (t + 1) r2)) 56 (nI ((t + 1) + 1))) 9 r2) 32 (upd (upd (upd (σ.2.1 32) t r1) (t + 1) r2) ((t + 1) + 1) r3)) 56 (nI (((t + 1) + 1) + 1))) 46 r3) 32 (upd (upd (upd (upd (σ.2.1 32) t r1) (t + 1) r2) ((t + 1) + 1) r3) (((t + 1) + 1) + 1) r4)) 56 (nI ((((t + 1) + 1) + 1) + 1))) 10 r4) 32 (upd (upd (upd (upd (upd (σ.2.1 32) t r1) (t + 1) r2) ((t + 1) + 1) r3) (((t + 1) + 1) + 1) r4) ((((t + 1) + 1) + 1) + 1) r5)) 56 (nI (((((t + 1) + 1) + 1) + 1) + 1))) 11 r5) 32 (upd (upd (upd (upd (upd (upd (σ.2.1 32) t r1) (t + 1) r2) ((t + 1) + 1) r3) (((t + 1) + 1) + 1) r4) ((((t + 1) + 1) + 1) + 1) r5) (((((t + 1) + 1) + 1) + 1) + 1) r6)) 56 (nI ((((((t + 1) + 1) + 1) + 1) + 1) + 1))) 12 r6) 32 (upd (upd (upd (upd (upd (upd (upd (σ.2.1 32) t r1) (t + 1) r2) ((t + 1) + 1) r3) (((t + 1) + 1) + 1) r4) ((((t + 1) + 1) + 1) + 1) r5) (((((t + 1) + 1) + 1) + 1) + 1) r6) ((((((t + 1) + 1) + 1) + 1) + 1) + 1) r7)) 56 (nI (((((((t + 1) + 1) + 1) + 1) + 1) + 1) + 1))) 13 r7) rfl (by decide) (by omega) (Nat.lt_succ_self _)
set_option maxRecDepth 100000 in
set_option maxHeartbeats 4000000 in
theorem m_imageN (g kk : Nat → Nat) (σ : St) (n : Nat) (hn : n ≤ 1) : jM (S := St) yX11_image cX11_image 2 (some .int) { frames := 2, cells := 0, slots := 0, locals := 43 } kk (cM g kk σ) [.ref (g 0), .int (nI n)] (cM g kk) (rI (fun r _ => r = nI 1)) := by
  refine j_entry [(0, .ref (g 0)), (1, .int (nI n))] (by decide) (Nat.le_of_ble_eq_true rfl) rfl ?_
  intro X C E HI
  refine j_iload_n C 1 rfl dX11_image_0 ?_
  refine j_i2l C dX11_image_1 ?_
  refine j_lconst C 0 (by decide) dX11_image_2 ?_
  refine j_lconst C 1 (by decide) dX11_image_3 ?_
  refine j_S01 C (m_inB (nI n) (nI 0) (nI 1) 0 1 (by decide) (by decide)) kyX11_in tb_1057 tb_1058 rfl (Nat.le_of_ble_eq_true rfl) ⟨by decide, by decide⟩ ⟨by decide, by decide⟩ dX11_image_4 rfl ?_
  refine j_if_ne C 13 (by decide) dX11_image_7 (fun c1 => ?_) (fun c1 => ?_)
  · replace c1 := bI_t c1
    refine j_aload_n C 0 rfl dX11_image_13 ?_
    refine j_sipush C (nI 900) (by decide) dX11_image_14 ?_
    refine j_iload_n C 1 rfl dX11_image_17 ?_
    refine j_imulN C dX11_image_18 ?_
    refine pM_0_56 C tb_929 dX11_image_19 ?_
    refine j_aload_n C 0 rfl dX11_image_22 ?_
    refine j_iconst C (nI 1) (by decide) dX11_image_23 ?_
    refine pM_0_57 C tb_930 rfl rfl dX11_image_24 ?_
    refine j_aload_n C 0 rfl dX11_image_27 ?_
    refine j_V1 C (m_passAllL g kk (sI (sI σ 56 (nI (900 * n))) 57 (nI 1)) _ rfl (by omega)) kyX11_passAll tb_1322 tb_1324 sp_46 0 rfl (eM_0 g kk _) rfl (Nat.le_of_ble_eq_true rfl) ⟨by decide, by decide⟩ dX11_image_28 rfl (fun vr ur hp => ?_)
    obtain ⟨rfl, -⟩ := hp
    refine j_aload_n C 0 rfl dX11_image_31 ?_
    refine gM_0_55 C tb_928 dX11_image_32 ?_
    refine j_iload_n C 1 rfl dX11_image_35 ?_
    refine j_iconst C (nI 1) (by decide) dX11_image_36 ?_
    refine tM_33 C n rfl (by omega) dX11_image_37 ?_
    refine j_iconst C (nI 1) (by decide) dX11_image_38 ?_
    exact j_iret C E (sF ur 33 (upd (ur.2.1 33) n (vp_nar .boolean (nI 1)))) ⟨_, rfl, rfl⟩ rfl dX11_image_39
  · replace c1 := bI_f c1
    rw [wB_of (by decide) (Nat.zero_le n) hn] at c1
    cases c1
set_option maxRecDepth 100000 in
set_option maxHeartbeats 4000000 in
theorem m_imageO (g kk : Nat → Nat) (σ : St) (x : Int32) (hx : wB x (nI 0) (nI 1) = false) : jM (S := St) yX11_image cX11_image 2 (some .int) { frames := 2, cells := 0, slots := 0, locals := 43 } kk (cM g kk σ) [.ref (g 0), .int x] (cM g kk) (rI (fun (r : Int32) (u : St) => (((wB x (nI 0) (nI 1)) = false) ∧ r = (-2) ∧ u = σ))) := by
  refine j_entry [(0, .ref (g 0)), (1, .int x)] (by decide) (Nat.le_of_ble_eq_true rfl) rfl ?_
  intro X C E HI
  refine j_iload_n C 1 rfl dX11_image_0 ?_
  refine j_i2l C dX11_image_1 ?_
  refine j_lconst C 0 (by decide) dX11_image_2 ?_
  refine j_lconst C 1 (by decide) dX11_image_3 ?_
  refine j_S01 C (m_inB x (nI 0) (nI 1) 0 1 (by decide) (by decide)) kyX11_in tb_1057 tb_1058 rfl (Nat.le_of_ble_eq_true rfl) ⟨by decide, by decide⟩ ⟨by decide, by decide⟩ dX11_image_4 rfl ?_
  refine j_if_ne C 13 (by decide) dX11_image_7 (fun c1 => ?_) (fun c1 => ?_)
  · replace c1 := bI_t c1
    rw [hx] at c1
    cases c1
  · replace c1 := bI_f c1
    refine j_bipush C ((-2)) (by decide) dX11_image_10 ?_
    exact j_iret C E (σ) ⟨_, rfl, ⟨c1, rfl, rfl⟩⟩ rfl dX11_image_12
