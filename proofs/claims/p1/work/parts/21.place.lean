theorem gstep {f4 f5 f6 : Nat → Int32} {i k h x y n : Nat} (hx : i ≤ x) (hy : k ≤ y) (hb : y - k < h) (hn : n = (x - i) * h + (y - k)) (hF : ∀ m, m < n → f4 m = nI (i + m / h) ∧ f5 m = nI (k + m % h) ∧ f6 m = nI 42) : ∀ m, m < n + 1 → upd f4 n (nI x) m = nI (i + m / h) ∧ upd f5 n (nI y) m = nI (k + m % h) ∧ upd f6 n (nI 42) m = nI 42 := by
  intro m hm
  by_cases e : m = n
  · rw [e, pk_us, pk_us, pk_us, hn, gdiv hb, gmod hb, show i + (x - i) = x by omega, show k + (y - k) = y by omega]
    exact ⟨rfl, rfl, rfl⟩
  · rw [pk_un e, pk_un e, pk_un e]
    exact hF m (by omega)
theorem sc_at {i k h P x y : Nat} (hy : y < 21) : sc i k h P (21 * x + y) = psum (pf i k h x y) P := by
  unfold sc
  rw [show (21 * x + y) / 21 = x by omega, show (21 * x + y) % 21 = y by omega]
theorem bstep_t {i k h P x y b s t : Nat} (hy : y < 21) (hbm : (b, s) = bm (sc i k h P) (21 * x + y)) (h2 : t = psum (pf i k h x y) P ∨ (s ≤ t ∧ s ≤ psum (pf i k h x y) P)) (hlt : t < s) : (100 * x + y, t) = bm (sc i k h P) (21 * x + (y + 1)) := by
  have ht : t = psum (pf i k h x y) P := h2.elim id (fun q => absurd q.1 (by omega))
  have hs : (bm (sc i k h P) (21 * x + y)).2 = s := by rw [← hbm]
  have e := bm_t (s := sc i k h P) (t := 21 * x + y) (by rw [sc_at hy, hs]; omega)
  rw [show 21 * x + (y + 1) = 21 * x + y + 1 by omega, e, sc_at hy, ht, show (21 * x + y) / 21 = x by omega, show (21 * x + y) % 21 = y by omega]
theorem bstep_f {i k h P x y b s t : Nat} (hy : y < 21) (hbm : (b, s) = bm (sc i k h P) (21 * x + y)) (h2 : t = psum (pf i k h x y) P ∨ (s ≤ t ∧ s ≤ psum (pf i k h x y) P)) (hge : s ≤ t) : (b, s) = bm (sc i k h P) (21 * x + (y + 1)) := by
  have hs : (bm (sc i k h P) (21 * x + y)).2 = s := by rw [← hbm]
  have e := bm_f (s := sc i k h P) (t := 21 * x + y) (by rw [sc_at hy, hs]; rcases h2 with q | q <;> omega)
  rw [show 21 * x + (y + 1) = 21 * x + y + 1 by omega, e, hbm]
def bi (s : Nat → Nat) (t : Nat) (be le : Int32) : Prop := (t = 0 ∧ be = -6 ∧ le = nI 0) ∨ (0 < t ∧ be = nI (bm s t).1 ∧ le = nI (bm s t).2)
theorem bi_A {i k h P u v t : Nat} {be le : Int32} (hv : v < 21) (hu : u < 21) (hB : bi (sc i k h P) (21 * u + v) be le) (ht : t = psum (pf i k h u v) P) (ht2 : t ≤ 17640) (hn : be < 0) : bi (sc i k h P) (21 * u + (v + 1)) (nI (100 * u + v)) (nI t) := by
  rcases hB with ⟨h0, -, -⟩ | ⟨h0, h1, -⟩
  · have hu0 : u = 0 := by omega
    have hv0 : v = 0 := by omega
    subst hu0 hv0
    have e0 : sc i k h P 0 = t := by rw [ht]; exact sc_at (x := 0) (y := 0) (by decide)
    have e := bm_1 (s := sc i k h P) (by rw [e0]; exact ht2)
    refine Or.inr ⟨by decide, ?_, ?_⟩
    · show nI _ = nI (bm (sc i k h P) 1).1
      rw [e]
    · show nI t = nI (bm (sc i k h P) 1).2
      rw [e, e0]
  · rw [h1] at hn
    exact absurd hn (nI_pos (by have := bm_lt (sc i k h P) (21 * u + v) (by omega); omega))
theorem bi_B {i k h P u v t : Nat} {be le : Int32} (hv : v < 21) (hu : u < 21) (hB : bi (sc i k h P) (21 * u + v) be le) (ht : t = psum (pf i k h u v) P) (ht2 : t ≤ 17640) (hn : ¬ be < 0) (hl : ¬ le ≤ nI t) : bi (sc i k h P) (21 * u + (v + 1)) (nI (100 * u + v)) (nI t) := by
  rcases hB with ⟨-, h0, -⟩ | ⟨h0, -, h1⟩
  · subst h0
    exact absurd (by decide) hn
  · subst h1
    have hm := bm_le (sc i k h P) (21 * u + v)
    have hlt : t < (bm (sc i k h P) (21 * u + v)).2 := Nat.not_le.mp (fun q => hl ((nI_leI (by omega) (by omega)).mpr q))
    have e := bm_t (s := sc i k h P) (t := 21 * u + v) (by rw [sc_at hv, ← ht]; exact hlt)
    refine Or.inr ⟨by omega, ?_, ?_⟩
    · rw [show 21 * u + (v + 1) = 21 * u + v + 1 by omega, e, show (21 * u + v) / 21 = u by omega, show (21 * u + v) % 21 = v by omega]
    · rw [show 21 * u + (v + 1) = 21 * u + v + 1 by omega, e, sc_at hv, ht]
theorem bi_C {i k h P u v t : Nat} {be le : Int32} (hv : v < 21) (hu : u < 21) (hB : bi (sc i k h P) (21 * u + v) be le) (ht : t = psum (pf i k h u v) P) (ht2 : t ≤ 17640) (hn : ¬ be < 0) (hl : le ≤ nI t) : bi (sc i k h P) (21 * u + (v + 1)) be le := by
  rcases hB with ⟨-, h0, -⟩ | ⟨h0, h2, h1⟩
  · subst h0
    exact absurd (by decide) hn
  · have hm := bm_le (sc i k h P) (21 * u + v)
    rw [h1] at hl
    have hge : (bm (sc i k h P) (21 * u + v)).2 ≤ t := (nI_leI (by omega) (by omega)).mp hl
    have e := bm_f (s := sc i k h P) (t := 21 * u + v) (by rw [sc_at hv, ← ht]; omega)
    refine Or.inr ⟨by omega, ?_, ?_⟩
    · rw [show 21 * u + (v + 1) = 21 * u + v + 1 by omega, e, h2]
    · rw [show 21 * u + (v + 1) = 21 * u + v + 1 by omega, e, h1]
theorem bi_end {s : Nat → Nat} {t : Nat} {be le : Int32} (hB : bi s t be le) (ht : t = 441) : be = nI (bm s 441).1 := by
  subst ht
  rcases hB with ⟨h, -, -⟩ | ⟨-, h, -⟩
  · exact absurd h (by decide)
  · exact h
set_option maxRecDepth 100000 in
set_option maxHeartbeats 4000000 in
theorem c_nearestZ (g kk : Nat → Nat) (σ : St) (hk : σ.1 16 = nI 0) (x y : Int32) : jM (S := St) yX4_nearestCan cX4_nearestCan 5 (some .int) { frames := 0, cells := 0, slots := 0, locals := 0 } kk (cX g kk σ) [.ref (g 42), .int x, .int y] (cX g kk) (rI (fun (r : Int32) (u : St) => (r = (nI 42) ∧ u = σ))) := by
  refine j_entry [(0, .ref (g 42)), (1, .int x), (2, .int y)] (by decide) (Nat.le_of_ble_eq_true rfl) rfl ?_
  intro X C E HI
  refine j_bipush C (nI 42) (by decide) dX4_nearestCan_0 ?_
  refine j_istore_n C [(3, .int (nI 42)), (0, .ref (g 42)), (1, .int x), (2, .int y)] rfl (by decide) rfl dX4_nearestCan_2 ?_
  refine j_iconst C (nI 0) (by decide) dX4_nearestCan_3 ?_
  refine j_istore C [(4, .int (nI 0)), (3, .int (nI 42)), (0, .ref (g 42)), (1, .int x), (2, .int y)] (by decide) rfl dX4_nearestCan_4 ?_
  refine j_iload C 0 rfl dX4_nearestCan_6 ?_
  refine j_aload_n C 2 rfl dX4_nearestCan_8 ?_
  refine gX_42_1 C tb_313 dX4_nearestCan_9 ?_
  refine gX_1_0 C tb_98 (nI 0) hk dX4_nearestCan_12 ?_
  refine j_icmp_geN C 54 (by decide) (by omega) (by omega) dX4_nearestCan_15 (fun c1 => ?_) (fun c1 => ?_)
  · refine j_iload_n C 1 rfl dX4_nearestCan_54 ?_
    exact j_iret C E (σ) ⟨_, rfl, ⟨rfl, rfl⟩⟩ rfl dX4_nearestCan_55
  · exact absurd c1 (by decide)
set_option maxRecDepth 100000 in
set_option maxHeartbeats 4000000 in
theorem c_gnearZ (g kk : Nat → Nat) (σ : St) (hk : σ.1 16 = nI 0) (i j k l : Nat) (hij : i ≤ j) (hj : j ≤ 20) (hkl : k ≤ l) (hl : l ≤ 20) : jM (S := St) yX4_gatherNearest cX4_gatherNearest 7 none { frames := 1, cells := 0, slots := 0, locals := 24 } kk (cX g kk σ) [.ref (g 42), .int (nI i), .int (nI j), .int (nI k), .int (nI l)] (cX g kk) (rV (fun u => ∃ f1 f2 f3 : Nat → Int32, u = sI (sF (sF (sF σ 47 f1) 48 f2) 49 f3) 686 (nI ((j + 1 - i) * (l + 1 - k))) ∧ ∀ m, m < ((j + 1 - i) * (l + 1 - k)) → f1 m = nI (i + m / (l + 1 - k)) ∧ f2 m = nI (k + m % (l + 1 - k)) ∧ f3 m = nI 42)) := by
  refine j_entry [(0, .ref (g 42)), (1, .int (nI i)), (2, .int (nI j)), (3, .int (nI k)), (4, .int (nI l))] (by decide) (Nat.le_of_ble_eq_true rfl) rfl ?_
  intro X C E HI
  refine j_aload_n C 0 rfl dX4_gatherNearest_0 ?_
  refine j_iconst C (nI 0) (by decide) dX4_gatherNearest_1 ?_
  refine pX_42_14 C tb_330 dX4_gatherNearest_2 ?_
  refine j_iload_n C 1 rfl dX4_gatherNearest_5 ?_
  refine j_istore C [(5, .int (nI i)), (0, .ref (g 42)), (1, .int (nI i)), (2, .int (nI j)), (3, .int (nI k)), (4, .int (nI l))] (by decide) rfl dX4_gatherNearest_6 ?_
  have L8 : ∀ (nL8 : Nat) (x n : Nat) (f1 f2 f3 : Nat → Int32) (h1 : i ≤ x) (h2 : x ≤ j + 1) (h3 : n = (x - i) * (l + 1 - k)) (hF : ∀ m, m < n → f1 m = nI (i + m / (l + 1 - k)) ∧ f2 m = nI (k + m % (l + 1 - k)) ∧ f3 m = nI 42) (hmL8 : j + 1 - x < nL8), J X 0 0 (cX g kk (sI (sF (sF (sF (sI σ 686 (nI 0)) 47 f1) 48 f2) 49 f3) 686 (nI n))) [(0, .ref (g 42)), (1, .int (nI i)), (2, .int (nI j)), (3, .int (nI k)), (4, .int (nI l)), (5, .int (nI x))] 8 [] := by
    intro nL8
    induction nL8 with
    | zero => intro x n f1 f2 f3 h1 h2 h3 hF hm; exact absurd hm (Nat.not_lt_zero _)
    | succ nL8 ihL8 =>
      intro x n f1 f2 f3 h1 h2 h3 hF hmL8
      refine j_iload C 5 rfl dX4_gatherNearest_8 ?_
      refine j_iload_n C 2 rfl dX4_gatherNearest_10 ?_
      refine j_icmp_gtN C 85 (by decide) (by omega) (by omega) dX4_gatherNearest_11 (fun c1 => ?_) (fun c1 => ?_)
      · have ex : x = j + 1 := by omega
        subst ex
        subst h3
        exact j_vret C E (_) ⟨rfl, f1, f2, f3, rfl, hF⟩ rfl dX4_gatherNearest_85
      · refine j_iload_n C 3 rfl dX4_gatherNearest_14 ?_
        refine j_istore C [(6, .int (nI k)), (0, .ref (g 42)), (1, .int (nI i)), (2, .int (nI j)), (3, .int (nI k)), (4, .int (nI l)), (5, .int (nI x))] (by decide) rfl dX4_gatherNearest_15 ?_
        have L17 : ∀ (nL17 : Nat) (y n2 : Nat) (f4 f5 f6 : Nat → Int32) (g1 : k ≤ y) (g2 : y ≤ l + 1) (g3 : n2 = n + (y - k)) (hF2 : ∀ m, m < n2 → f4 m = nI (i + m / (l + 1 - k)) ∧ f5 m = nI (k + m % (l + 1 - k)) ∧ f6 m = nI 42) (hmL17 : l + 1 - y < nL17), J X 0 0 (cX g kk (sI (sF (sF (sF (sI (sF (sF (sF (sI σ 686 (nI 0)) 47 f1) 48 f2) 49 f3) 686 (nI n)) 47 f4) 48 f5) 49 f6) 686 (nI n2))) [(0, .ref (g 42)), (1, .int (nI i)), (2, .int (nI j)), (3, .int (nI k)), (4, .int (nI l)), (5, .int (nI x)), (6, .int (nI y))] 17 [] := by
          intro nL17
          induction nL17 with
          | zero => intro y n2 f4 f5 f6 g1 g2 g3 hF2 hm; exact absurd hm (Nat.not_lt_zero _)
          | succ nL17 ihL17 =>
            intro y n2 f4 f5 f6 g1 g2 g3 hF2 hmL17
            have gb := rect_m (x := x + 1) (i := i) (k := k) (j := j) (by omega) hj hl
            rw [← rect_s h1 h3] at gb
            refine j_iload C 6 rfl dX4_gatherNearest_17 ?_
            refine j_iload C 4 rfl dX4_gatherNearest_19 ?_
            refine j_icmp_gtN C 79 (by decide) (by omega) (by omega) dX4_gatherNearest_21 (fun c2 => ?_) (fun c2 => ?_)
            · refine j_iinc C (nI (x + 1)) [(5, .int (nI (x + 1))), (0, .ref (g 42)), (1, .int (nI i)), (2, .int (nI j)), (3, .int (nI k)), (4, .int (nI l)), (6, .int (nI y))] 5 rfl (by rw [show Int32.ofInt 1 = nI 1 from by decide, nI_add]) (by decide) rfl dX4_gatherNearest_79 ?_
              refine j_goto C 8 (by decide) dX4_gatherNearest_82 ?_
              refine j_sub (lv' := [(0, .ref (g 42)), (1, .int (nI i)), (2, .int (nI j)), (3, .int (nI k)), (4, .int (nI l)), (5, .int (nI (x + 1)))]) [1, 2, 3, 4, 5, 0] rfl ?_
              refine j_w (cX g kk (sI (sF (sF (sF (sI σ 686 (nI 0)) 47 f4) 48 f5) 49 f6) 686 (nI n2))) rfl ?_
              exact ihL8 (x + 1) n2 _ _ _ (by omega) (by omega) (by rw [← rect_s h1 h3]; omega) hF2 (by omega)
            · refine j_aload_n C 0 rfl dX4_gatherNearest_24 ?_
              refine gX_42_11 C tb_327 dX4_gatherNearest_25 ?_
              refine j_aload_n C 0 rfl dX4_gatherNearest_28 ?_
              refine gX_42_14 C tb_330 (nI n2) rfl dX4_gatherNearest_29 ?_
              refine j_iload C 5 rfl dX4_gatherNearest_32 ?_
              refine tX_47 C n2 rfl (by omega) dX4_gatherNearest_34 ?_
              refine j_aload_n C 0 rfl dX4_gatherNearest_35 ?_
              refine gX_42_12 C tb_328 dX4_gatherNearest_36 ?_
              refine j_aload_n C 0 rfl dX4_gatherNearest_39 ?_
              refine gX_42_14 C tb_330 (nI n2) rfl dX4_gatherNearest_40 ?_
              refine j_iload C 6 rfl dX4_gatherNearest_43 ?_
              refine tX_48 C n2 rfl (by omega) dX4_gatherNearest_45 ?_
              refine j_aload_n C 0 rfl dX4_gatherNearest_46 ?_
              refine gX_42_13 C tb_329 dX4_gatherNearest_47 ?_
              refine j_aload_n C 0 rfl dX4_gatherNearest_50 ?_
              refine gX_42_14 C tb_330 (nI n2) rfl dX4_gatherNearest_51 ?_
              refine j_aload_n C 0 rfl dX4_gatherNearest_54 ?_
              refine j_iload C 5 rfl dX4_gatherNearest_55 ?_
              refine j_iload C 6 rfl dX4_gatherNearest_57 ?_
              refine j_V1 C (c_nearestZ g kk (sF (sF (sI (sF (sF (sF (sI (sF (sF (sF (sI σ 686 (nI 0)) 47 f1) 48 f2) 49 f3) 686 (nI n)) 47 f4) 48 f5) 49 f6) 686 (nI n2)) 47 (upd f4 n2 (nI x))) 48 (upd f5 n2 (nI y))) hk (nI x) (nI y)) kyX4_nearestCan tb_762 tb_764 sp_18 42 rfl (eX_42 g kk _) rfl (Nat.le_of_ble_eq_true rfl) ⟨by decide, by decide⟩ dX4_gatherNearest_59 rfl (fun vr ur hp => ?_)
              obtain ⟨r, rfl, rfl, hu⟩ := hp
              replace hu := hu.symm
              subst hu
              refine tX_49 C n2 rfl (by omega) dX4_gatherNearest_62 ?_
              refine j_aload_n C 0 rfl dX4_gatherNearest_63 ?_
              refine j_dup C rfl dX4_gatherNearest_64 ?_
              refine gX_42_14 C tb_330 (nI n2) rfl dX4_gatherNearest_65 ?_
              refine j_iconst C (nI 1) (by decide) dX4_gatherNearest_68 ?_
              refine j_iaddN C dX4_gatherNearest_69 ?_
              refine pX_42_14 C tb_330 dX4_gatherNearest_70 ?_
              refine j_iinc C (nI (y + 1)) [(6, .int (nI (y + 1))), (0, .ref (g 42)), (1, .int (nI i)), (2, .int (nI j)), (3, .int (nI k)), (4, .int (nI l)), (5, .int (nI x))] 6 rfl (by rw [show Int32.ofInt 1 = nI 1 from by decide, nI_add]) (by decide) rfl dX4_gatherNearest_73 ?_
              refine j_goto C 17 (by decide) dX4_gatherNearest_76 ?_
              refine j_sub (lv' := [(0, .ref (g 42)), (1, .int (nI i)), (2, .int (nI j)), (3, .int (nI k)), (4, .int (nI l)), (5, .int (nI x)), (6, .int (nI (y + 1)))]) [1, 2, 3, 4, 5, 6, 0] rfl ?_
              refine j_w (cX g kk (sI (sF (sF (sF (sI (sF (sF (sF (sI σ 686 (nI 0)) 47 f1) 48 f2) 49 f3) 686 (nI n)) 47 (upd f4 n2 (nI x))) 48 (upd f5 n2 (nI y))) 49 (upd f6 n2 (nI 42))) 686 (nI (n2 + 1)))) rfl ?_
              exact ihL17 (y + 1) (n2 + 1) _ _ _ (by omega) (by omega) (by omega) (gstep h1 g1 (by omega) (by rw [g3, h3]) hF2) (by omega)
        refine j_sub (lv' := [(0, .ref (g 42)), (1, .int (nI i)), (2, .int (nI j)), (3, .int (nI k)), (4, .int (nI l)), (5, .int (nI x)), (6, .int (nI k))]) [1, 2, 3, 4, 5, 6, 0] rfl ?_
        refine j_w (cX g kk (sI (sF (sF (sF (sI (sF (sF (sF (sI σ 686 (nI 0)) 47 f1) 48 f2) 49 f3) 686 (nI n)) 47 f1) 48 f2) 49 f3) 686 (nI n))) rfl ?_
        exact L17 _ k n _ _ _ (Nat.le_refl _) (by omega) (by omega) hF (Nat.lt_succ_self _)
  refine j_sub (lv' := [(0, .ref (g 42)), (1, .int (nI i)), (2, .int (nI j)), (3, .int (nI k)), (4, .int (nI l)), (5, .int (nI i))]) [1, 2, 3, 4, 5, 0] rfl ?_
  refine j_w (cX g kk (sI (sF (sF (sF (sI σ 686 (nI 0)) 47 (σ.2.1 47)) 48 (σ.2.1 48)) 49 (σ.2.1 49)) 686 (nI 0))) rfl ?_
  exact L8 _ i 0 _ _ _ (Nat.le_refl _) (by omega) (by rw [Nat.sub_self, Nat.zero_mul]) (fun m hm => absurd hm (Nat.not_lt_zero m)) (Nat.lt_succ_self _)
set_option maxRecDepth 100000 in
set_option maxHeartbeats 4000000 in
theorem c_farness (g kk : Nat → Nat) (σ : St) (P : Nat) (hP : σ.1 686 = nI P) (hP4 : P ≤ 441) (i k h : Nat) (hF : ∀ m, m < P → σ.2.1 47 m = nI (i + m / h) ∧ σ.2.1 48 m = nI (k + m % h) ∧ σ.2.1 49 m = nI 42) (hB : ∀ m, m < P → i + m / h ≤ 20 ∧ k + m % h ≤ 20) (a b en : Nat) (ha : a ≤ 20) (hb : b ≤ 20) (he : en ≤ 18522) : jM (S := St) yX4_farness cX4_farness 6 (some .int) { frames := 2, cells := 0, slots := 0, locals := 44 } kk (cX g kk σ) [.ref (g 42), .int (nI a), .int (nI b), .int (nI en)] (cX g kk) (rI (fun r u => ∃ t : Nat, r = nI t ∧ t ≤ 17640 ∧ (t = psum (pf i k h a b) P ∨ (en ≤ t ∧ en ≤ psum (pf i k h a b) P)) ∧ u = σ)) := by
  refine j_entry [(0, .ref (g 42)), (1, .int (nI a)), (2, .int (nI b)), (3, .int (nI en))] (by decide) (Nat.le_of_ble_eq_true rfl) rfl ?_
  intro X C E HI
  refine j_iconst C (nI 0) (by decide) dX4_farness_0 ?_
  refine j_istore C [(4, .int (nI 0)), (0, .ref (g 42)), (1, .int (nI a)), (2, .int (nI b)), (3, .int (nI en))] (by decide) rfl dX4_farness_1 ?_
  refine j_iconst C (nI 0) (by decide) dX4_farness_3 ?_
  refine j_istore C [(5, .int (nI 0)), (4, .int (nI 0)), (0, .ref (g 42)), (1, .int (nI a)), (2, .int (nI b)), (3, .int (nI en))] (by decide) rfl dX4_farness_4 ?_
  have L6 : ∀ (nL6 : Nat) (n t : Nat) (hn : n ≤ P) (ht : t = psum (pf i k h a b) n) (hmL6 : P - n < nL6), J X 0 0 (cX g kk σ) [(0, .ref (g 42)), (1, .int (nI a)), (2, .int (nI b)), (3, .int (nI en)), (4, .int (nI t)), (5, .int (nI n))] 6 [] := by
    intro nL6
    induction nL6 with
    | zero => intro n t hn ht hm; exact absurd hm (Nat.not_lt_zero _)
    | succ nL6 ihL6 =>
      intro n t hn ht hmL6
      have hpl := psum_le (f := pf i k h a b) (P := P) (fun m hm => fr_le ha hb (hB m hm).1 (hB m hm).2) n hn
      rw [← ht] at hpl
      refine j_iload C 5 rfl dX4_farness_6 ?_
      refine j_aload_n C 0 rfl dX4_farness_8 ?_
      refine gX_42_14 C tb_330 (nI P) hP dX4_farness_9 ?_
      refine j_icmp_geN C 61 (by decide) (by omega) (by omega) dX4_farness_12 (fun c1 => ?_) (fun c1 => ?_)
      · refine j_iload C 4 rfl dX4_farness_61 ?_
        exact j_iret C E (σ) ⟨_, rfl, t, rfl, by omega, Or.inl (by rw [ht, show n = P by omega]), rfl⟩ rfl dX4_farness_63
      · refine j_iload C 4 rfl dX4_farness_15 ?_
        refine j_iload_n C 3 rfl dX4_farness_17 ?_
        refine j_icmp_geN C 61 (by decide) (by omega) (by omega) dX4_farness_18 (fun c2 => ?_) (fun c2 => ?_)
        · refine j_iload C 4 rfl dX4_farness_61 ?_
          exact j_iret C E (σ) ⟨_, rfl, t, rfl, by omega, Or.inr ⟨c2, Nat.le_trans c2 (by rw [ht]; exact psum_mono hn)⟩, rfl⟩ rfl dX4_farness_63
        · refine j_iload C 4 rfl dX4_farness_21 ?_
          refine j_aload_n C 0 rfl dX4_farness_23 ?_
          refine gX_42_13 C tb_329 dX4_farness_24 ?_
          refine j_iload C 5 rfl dX4_farness_27 ?_
          refine rX_49 C n rfl (by omega) (nI 42) (hF n (by omega)).2.2 dX4_farness_29 ?_
          refine j_iload_n C 1 rfl dX4_farness_30 ?_
          refine j_iload_n C 2 rfl dX4_farness_31 ?_
          refine j_aload_n C 0 rfl dX4_farness_32 ?_
          refine gX_42_11 C tb_327 dX4_farness_33 ?_
          refine j_iload C 5 rfl dX4_farness_36 ?_
          refine rX_47 C n rfl (by omega) (nI (i + n / h)) (hF n (by omega)).1 dX4_farness_38 ?_
          refine j_aload_n C 0 rfl dX4_farness_39 ?_
          refine gX_42_12 C tb_328 dX4_farness_40 ?_
          refine j_iload C 5 rfl dX4_farness_43 ?_
          refine rX_48 C n rfl (by omega) (nI (k + n % h)) (hF n (by omega)).2.1 dX4_farness_45 ?_
          refine j_SN01 C (c_far (nI a) (nI b) (nI (i + n / h)) (nI (k + n % h))) kyX10_far (fun _ h => h.2.2.2.2.2.1) tb_587 rfl (Nat.le_of_ble_eq_true rfl) ⟨by decide, by decide⟩ ⟨by decide, by decide⟩ dX4_farness_46 rfl ?_
          rw [farN ha hb (hB n (by omega)).1 (hB n (by omega)).2]
          refine j_mmin C tb_726 tb_727 tb_15 tb_728 (by decide) (Nat.le_of_ble_eq_true rfl) (by decide) (by decide) dX4_farness_49 ?_
          have hfr := fr_le ha hb (hB n (by omega)).1 (hB n (by omega)).2
          rw [minN (by omega) (by decide) (by omega)]
          refine j_iaddN C dX4_farness_52 ?_
          refine j_istore C [(4, .int (nI (t + (fr a b (i + n / h) (k + n % h))))), (0, .ref (g 42)), (1, .int (nI a)), (2, .int (nI b)), (3, .int (nI en)), (5, .int (nI n))] (by decide) rfl dX4_farness_53 ?_
          refine j_iinc C (nI (n + 1)) [(5, .int (nI (n + 1))), (4, .int (nI (t + (fr a b (i + n / h) (k + n % h))))), (0, .ref (g 42)), (1, .int (nI a)), (2, .int (nI b)), (3, .int (nI en))] 5 rfl (by rw [show Int32.ofInt 1 = nI 1 from by decide, nI_add]) (by decide) rfl dX4_farness_55 ?_
          refine j_goto C 6 (by decide) dX4_farness_58 ?_
          refine j_sub (lv' := [(0, .ref (g 42)), (1, .int (nI a)), (2, .int (nI b)), (3, .int (nI en)), (4, .int (nI (t + (fr a b (i + n / h) (k + n % h))))), (5, .int (nI (n + 1)))]) [2, 3, 4, 5, 1, 0] rfl ?_
          exact ihL6 (n + 1) (t + fr a b (i + n / h) (k + n % h)) (by omega) (by rw [ht]; rfl) (by omega)
  refine j_sub (lv' := [(0, .ref (g 42)), (1, .int (nI a)), (2, .int (nI b)), (3, .int (nI en)), (4, .int (nI 0)), (5, .int (nI 0))]) [2, 3, 4, 5, 1, 0] rfl ?_
  exact L6 _ 0 0 (Nat.zero_le _) rfl (Nat.lt_succ_self _)
set_option maxRecDepth 100000 in
set_option maxHeartbeats 4000000 in
theorem c_bestNew (g kk : Nat → Nat) (σ : St) (P : Nat) (hP : σ.1 686 = nI P) (hP4 : P ≤ 441) (i k h : Nat) (hF : ∀ m, m < P → σ.2.1 47 m = nI (i + m / h) ∧ σ.2.1 48 m = nI (k + m % h) ∧ σ.2.1 49 m = nI 42) (hB : ∀ m, m < P → i + m / h ≤ 20 ∧ k + m % h ≤ 20) : jM (S := St) yX4_bestNew cX4_bestNew 6 (some .int) { frames := 3, cells := 0, slots := 0, locals := 69 } kk (cX g kk σ) [.ref (g 42)] (cX g kk) (rI (fun r u => r = nI (bm (sc i k h P) 441).1 ∧ u = σ)) := by
  refine j_entry [(0, .ref (g 42))] (by decide) (Nat.le_of_ble_eq_true rfl) rfl ?_
  intro X C E HI
  refine j_iconst C (nI 0) (by decide) dX4_bestNew_0 ?_
  refine j_istore_n C [(1, .int (nI 0)), (0, .ref (g 42))] rfl (by decide) rfl dX4_bestNew_1 ?_
  refine j_sipush C (nI 18522) (by decide) dX4_bestNew_2 ?_
  refine j_istore_n C [(2, .int (nI 18522)), (1, .int (nI 0)), (0, .ref (g 42))] rfl (by decide) rfl dX4_bestNew_5 ?_
  refine j_iconst C (nI 0) (by decide) dX4_bestNew_6 ?_
  refine j_istore_n C [(3, .int (nI 0)), (2, .int (nI 18522)), (1, .int (nI 0)), (0, .ref (g 42))] rfl (by decide) rfl dX4_bestNew_7 ?_
  have L8 : ∀ (nL8 : Nat) (x b s : Nat) (hx : x ≤ 21) (hm : (b, s) = bm (sc i k h P) (21 * x)) (hs : s ≤ 18522) (hb : b ≤ 2020) (hmL8 : 21 - x < nL8), J X 0 0 (cX g kk σ) [(0, .ref (g 42)), (1, .int (nI b)), (2, .int (nI s)), (3, .int (nI x))] 8 [] := by
    intro nL8
    induction nL8 with
    | zero => intro x b s hx hm hs hb hm; exact absurd hm (Nat.not_lt_zero _)
    | succ nL8 ihL8 =>
      intro x b s hx hm hs hb hmL8
      refine j_iload_n C 3 rfl dX4_bestNew_8 ?_
      refine j_bipush C (nI 21) (by decide) dX4_bestNew_9 ?_
      refine j_icmp_geN C 63 (by decide) (by omega) (by omega) dX4_bestNew_11 (fun c1 => ?_) (fun c1 => ?_)
      · refine j_iload_n C 1 rfl dX4_bestNew_63 ?_
        exact j_iret C E (σ) ⟨_, rfl, by rw [← (show (b, s) = bm (sc i k h P) 441 from by rw [hm, show 21 * x = 441 by omega])], rfl⟩ rfl dX4_bestNew_64
      · refine j_iconst C (nI 0) (by decide) dX4_bestNew_14 ?_
        refine j_istore C [(4, .int (nI 0)), (0, .ref (g 42)), (1, .int (nI b)), (2, .int (nI s)), (3, .int (nI x))] (by decide) rfl dX4_bestNew_15 ?_
        have L17 : ∀ (nL17 : Nat) (y b2 s2 : Nat) (hy : y ≤ 21) (hm2 : (b2, s2) = bm (sc i k h P) (21 * x + y)) (hs2 : s2 ≤ 18522) (hb2 : b2 ≤ 2020) (hmL17 : 21 - y < nL17), J X 0 0 (cX g kk σ) [(0, .ref (g 42)), (1, .int (nI b2)), (2, .int (nI s2)), (3, .int (nI x)), (4, .int (nI y))] 17 [] := by
          intro nL17
          induction nL17 with
          | zero => intro y b2 s2 hy hm2 hs2 hb2 hm; exact absurd hm (Nat.not_lt_zero _)
          | succ nL17 ihL17 =>
            intro y b2 s2 hy hm2 hs2 hb2 hmL17
            refine j_iload C 4 rfl dX4_bestNew_17 ?_
            refine j_bipush C (nI 21) (by decide) dX4_bestNew_19 ?_
            refine j_icmp_geN C 57 (by decide) (by omega) (by omega) dX4_bestNew_21 (fun c2 => ?_) (fun c2 => ?_)
            · refine j_iinc C (nI (x + 1)) [(3, .int (nI (x + 1))), (0, .ref (g 42)), (1, .int (nI b2)), (2, .int (nI s2)), (4, .int (nI y))] 3 rfl (by rw [show Int32.ofInt 1 = nI 1 from by decide, nI_add]) (by decide) rfl dX4_bestNew_57 ?_
              refine j_goto C 8 (by decide) dX4_bestNew_60 ?_
              refine j_sub (lv' := [(0, .ref (g 42)), (1, .int (nI b2)), (2, .int (nI s2)), (3, .int (nI (x + 1)))]) [1, 2, 3, 0] rfl ?_
              exact ihL8 (x + 1) b2 s2 (by omega) (by rw [hm2, show 21 * x + y = 21 * (x + 1) by omega]) hs2 hb2 (by omega)
            · refine j_aload_n C 0 rfl dX4_bestNew_24 ?_
              refine j_iload_n C 3 rfl dX4_bestNew_25 ?_
              refine j_iload C 4 rfl dX4_bestNew_26 ?_
              refine j_iload_n C 2 rfl dX4_bestNew_28 ?_
              refine j_V1 C (c_farness g kk σ P hP hP4 i k h hF hB x y s2 (by omega) (by omega) (by omega)) kyX4_farness tb_770 tb_772 sp_19 42 rfl (eX_42 g kk _) rfl (Nat.le_of_ble_eq_true rfl) ⟨by decide, by decide⟩ dX4_bestNew_29 rfl (fun vr ur hp => ?_)
              obtain ⟨r, rfl, t, rfl, ht1, ht2, hu⟩ := hp
              replace hu := hu.symm
              subst hu
              refine j_istore C [(5, .int (nI t)), (0, .ref (g 42)), (1, .int (nI b2)), (2, .int (nI s2)), (3, .int (nI x)), (4, .int (nI y))] (by decide) rfl dX4_bestNew_32 ?_
              refine j_iload C 0 rfl dX4_bestNew_34 ?_
              refine j_iload_n C 3 rfl dX4_bestNew_36 ?_
              refine j_icmp_geN C 51 (by decide) (by omega) (by omega) dX4_bestNew_37 (fun c3 => ?_) (fun c3 => ?_)
              · refine j_iinc C (nI (y + 1)) [(4, .int (nI (y + 1))), (5, .int (nI t)), (0, .ref (g 42)), (1, .int (nI b2)), (2, .int (nI s2)), (3, .int (nI x))] 5 rfl (by rw [show Int32.ofInt 1 = nI 1 from by decide, nI_add]) (by decide) rfl dX4_bestNew_51 ?_
                refine j_goto C 17 (by decide) dX4_bestNew_54 ?_
                refine j_sub (lv' := [(0, .ref (g 42)), (1, .int (nI b2)), (2, .int (nI s2)), (3, .int (nI x)), (4, .int (nI (y + 1)))]) [2, 3, 4, 5, 0] rfl ?_
                exact ihL17 (y + 1) b2 s2 (by omega) (bstep_f (by omega) hm2 ht2 (by omega)) hs2 hb2 (by omega)
              · refine j_iload C 0 rfl dX4_bestNew_40 ?_
                refine j_istore_n C [(2, .int (nI t)), (5, .int (nI t)), (0, .ref (g 42)), (1, .int (nI b2)), (3, .int (nI x)), (4, .int (nI y))] rfl (by decide) rfl dX4_bestNew_42 ?_
                refine j_bipush C (nI 100) (by decide) dX4_bestNew_43 ?_
                refine j_iload_n C 4 rfl dX4_bestNew_45 ?_
                refine j_imulN C dX4_bestNew_46 ?_
                refine j_iload C 5 rfl dX4_bestNew_47 ?_
                refine j_iaddN C dX4_bestNew_49 ?_
                refine j_istore_n C [(1, .int (nI ((100 * x) + y))), (2, .int (nI t)), (5, .int (nI t)), (0, .ref (g 42)), (3, .int (nI x)), (4, .int (nI y))] rfl (by decide) rfl dX4_bestNew_50 ?_
                refine j_iinc C (nI (y + 1)) [(4, .int (nI (y + 1))), (1, .int (nI ((100 * x) + y))), (2, .int (nI t)), (5, .int (nI t)), (0, .ref (g 42)), (3, .int (nI x))] 5 rfl (by rw [show Int32.ofInt 1 = nI 1 from by decide, nI_add]) (by decide) rfl dX4_bestNew_51 ?_
                refine j_goto C 17 (by decide) dX4_bestNew_54 ?_
                refine j_sub (lv' := [(0, .ref (g 42)), (1, .int (nI ((100 * x) + y))), (2, .int (nI t)), (3, .int (nI x)), (4, .int (nI (y + 1)))]) [4, 1, 2, 5, 0] rfl ?_
                exact ihL17 (y + 1) (100 * x + y) t (by omega) (bstep_t (by omega) hm2 ht2 (by omega)) (by omega) (by omega) (by omega)
        refine j_sub (lv' := [(0, .ref (g 42)), (1, .int (nI b)), (2, .int (nI s)), (3, .int (nI x)), (4, .int (nI 0))]) [1, 2, 3, 4, 0] rfl ?_
        exact L17 _ 0 b s (by decide) hm hs hb (Nat.lt_succ_self _)
  refine j_sub (lv' := [(0, .ref (g 42)), (1, .int (nI 0)), (2, .int (nI 18522)), (3, .int (nI 0))]) [3, 2, 1, 0] rfl ?_
  exact L8 _ 0 0 18522 (by decide) rfl (by decide) (by decide) (Nat.lt_succ_self _)
set_option maxRecDepth 100000 in
set_option maxHeartbeats 4000000 in
theorem c_placeZ (g kk : Nat → Nat) (σ : St) (hk : σ.1 16 = nI 0) (a b c d : Int32) : jM (S := St) yX10_place cX10_place 5 (some .int) { frames := 4, cells := 0, slots := 0, locals := 94 } kk (cX g kk σ) [.ref (g 0), .int a, .int b, .int c, .int d] (cX g kk) (rI (fun r _ => (ldB a b c d = false ∧ r = -2) ∨ (∃ i j k l : Nat, i ≤ j ∧ j ≤ 20 ∧ k ≤ l ∧ l ≤ 20 ∧ a = nI i ∧ b = nI j ∧ c = nI k ∧ d = nI l ∧ r = nI (bm (sc i k (l + 1 - k) ((j + 1 - i) * (l + 1 - k))) 441).1))) := by
  refine j_entry [(0, .ref (g 0)), (1, .int a), (2, .int b), (3, .int c), (4, .int d)] (by decide) (Nat.le_of_ble_eq_true rfl) rfl ?_
  intro X C E HI
  refine j_iload_n C 1 rfl dX10_place_0 ?_
  refine j_iload_n C 2 rfl dX10_place_1 ?_
  refine j_iload_n C 3 rfl dX10_place_2 ?_
  refine j_iload C 4 rfl dX10_place_3 ?_
  refine j_S01 C (c_isLand a b c d) kyX10_isLand tb_733 tb_734 rfl (Nat.le_of_ble_eq_true rfl) ⟨by decide, by decide⟩ ⟨by decide, by decide⟩ dX10_place_5 rfl ?_
  refine j_if_ne C 14 (by decide) dX10_place_8 (fun c1 => ?_) (fun c1 => ?_)
  · replace c1 := bI_t c1
    obtain ⟨i, j, k, l, hij, hj, hkl, hl, e1, e2, e3, e4⟩ := ldB_nat c1
    rw [e1, e2, e3, e4]
    refine j_aload_n C 0 rfl dX10_place_14 ?_
    refine gX_0_5 C tb_433 dX10_place_15 ?_
    refine j_iload_n C 1 rfl dX10_place_18 ?_
    refine j_iload_n C 2 rfl dX10_place_19 ?_
    refine j_iload_n C 3 rfl dX10_place_20 ?_
    refine j_iload C 4 rfl dX10_place_21 ?_
    refine j_V1 C (c_gnearZ g kk σ hk i j k l hij hj hkl hl) kyX4_gatherNearest tb_758 tb_759 tb_760 42 rfl (eX_42 g kk _) rfl (Nat.le_of_ble_eq_true rfl) ⟨by decide, by decide⟩ dX10_place_23 rfl (fun vr ur hp => ?_)
    obtain ⟨rfl, f1, f2, f3, hu, hF⟩ := hp
    replace hu := hu.symm
    subst hu
    refine j_aload_n C 0 rfl dX10_place_26 ?_
    refine gX_0_5 C tb_433 dX10_place_27 ?_
    refine j_V1 C (c_bestNew g kk (sI (sF (sF (sF σ 47 f1) 48 f2) 49 f3) 686 (nI ((j + 1 - i) * (l + 1 - k)))) _ rfl (rect_b hj hl) i k (l + 1 - k) hF (fun m hm => ⟨px_le hj hm, py_le hl hkl⟩)) kyX4_bestNew tb_766 tb_767 tb_768 42 rfl (eX_42 g kk _) rfl (Nat.le_of_ble_eq_true rfl) ⟨by decide, by decide⟩ dX10_place_30 rfl (fun vr ur hp => ?_)
    obtain ⟨r, rfl, rfl, hu⟩ := hp
    replace hu := hu.symm
    subst hu
    exact j_iret C E (sI (sF (sF (sF σ 47 f1) 48 f2) 49 f3) 686 (nI ((j + 1 - i) * (l + 1 - k)))) ⟨_, rfl, Or.inr ⟨i, j, k, l, hij, hj, hkl, hl, e1, e2, e3, e4, rfl⟩⟩ rfl dX10_place_33
  · replace c1 := bI_f c1
    refine j_bipush C ((-2)) (by decide) dX10_place_11 ?_
    exact j_iret C E (σ) ⟨_, rfl, Or.inl ⟨c1, rfl⟩⟩ rfl dX10_place_13
set_option maxRecDepth 100000 in
set_option maxHeartbeats 4000000 in
theorem m_nearestZ (g kk : Nat → Nat) (σ : St) (hk : σ.1 3 = nI 0) (x y : Int32) : jM (S := St) yX11_nearest cX11_nearest 6 (some .int) { frames := 0, cells := 0, slots := 0, locals := 0 } kk (cM g kk σ) [.ref (g 0), .int x, .int y] (cM g kk) (rI (fun (r : Int32) (u : St) => (r = (nI 99) ∧ u = σ))) := by
  refine j_entry [(0, .ref (g 0)), (1, .int x), (2, .int y)] (by decide) (Nat.le_of_ble_eq_true rfl) rfl ?_
  intro X C E HI
  refine j_bipush C (nI 99) (by decide) dX11_nearest_0 ?_
  refine j_istore_n C [(3, .int (nI 99)), (0, .ref (g 0)), (1, .int x), (2, .int y)] rfl (by decide) rfl dX11_nearest_2 ?_
  refine j_iconst C (nI 0) (by decide) dX11_nearest_3 ?_
  refine j_istore C [(4, .int (nI 0)), (3, .int (nI 99)), (0, .ref (g 0)), (1, .int x), (2, .int y)] (by decide) rfl dX11_nearest_4 ?_
  refine j_iload C 0 rfl dX11_nearest_6 ?_
  refine j_aload_n C 2 rfl dX11_nearest_8 ?_
  refine gM_0_3 C tb_876 (nI 0) hk dX11_nearest_9 ?_
  refine j_icmp_geN C 59 (by decide) (by omega) (by omega) dX11_nearest_12 (fun c1 => ?_) (fun c1 => ?_)
  · refine j_iload_n C 1 rfl dX11_nearest_59 ?_
    exact j_iret C E (σ) ⟨_, rfl, ⟨rfl, rfl⟩⟩ rfl dX11_nearest_60
  · exact absurd c1 (by decide)
set_option maxRecDepth 100000 in
set_option maxHeartbeats 4000000 in
theorem m_placeZ (g kk : Nat → Nat) (σ : St) (hk : σ.1 3 = nI 0) (a b c d : Int32) : jM (S := St) yX11_place cX11_place 14 (some .int) { frames := 2, cells := 0, slots := 0, locals := 48 } kk (cM g kk σ) [.ref (g 0), .int a, .int b, .int c, .int d] (cM g kk) (rI (fun r _ => (ldB a b c d = false ∧ r = -2) ∨ (∃ i j k l : Nat, i ≤ j ∧ j ≤ 20 ∧ k ≤ l ∧ l ≤ 20 ∧ a = nI i ∧ b = nI j ∧ c = nI k ∧ d = nI l ∧ r = nI (bm (sc i k (l + 1 - k) ((j + 1 - i) * (l + 1 - k))) 441).1))) := by
  refine j_entry [(0, .ref (g 0)), (1, .int a), (2, .int b), (3, .int c), (4, .int d)] (by decide) (Nat.le_of_ble_eq_true rfl) rfl ?_
  intro X C E HI
  refine j_iload_n C 1 rfl dX11_place_0 ?_
  refine j_iload_n C 2 rfl dX11_place_1 ?_
  refine j_iload_n C 3 rfl dX11_place_2 ?_
  refine j_iload C 4 rfl dX11_place_3 ?_
  refine j_S01 C (m_isLand a b c d) kyX11_isLand tb_1249 tb_1250 rfl (Nat.le_of_ble_eq_true rfl) ⟨by decide, by decide⟩ ⟨by decide, by decide⟩ dX11_place_5 rfl ?_
  refine j_if_ne C 14 (by decide) dX11_place_8 (fun c1 => ?_) (fun c1 => ?_)
  · replace c1 := bI_t c1
    obtain ⟨i, j, k, l, hij, hj, hkl, hl, e1, e2, e3, e4⟩ := ldB_nat c1
    rw [e1, e2, e3, e4]
    refine j_bipush C ((-6)) (by decide) dX11_place_14 ?_
    refine j_istore C [(5, .int (-6)), (0, .ref (g 0)), (1, .int (nI i)), (2, .int (nI j)), (3, .int (nI k)), (4, .int (nI l))] (by decide) rfl dX11_place_16 ?_
    refine j_iconst C (nI 0) (by decide) dX11_place_18 ?_
    refine j_istore C [(6, .int (nI 0)), (5, .int (-6)), (0, .ref (g 0)), (1, .int (nI i)), (2, .int (nI j)), (3, .int (nI k)), (4, .int (nI l))] (by decide) rfl dX11_place_19 ?_
    refine j_iconst C (nI 0) (by decide) dX11_place_21 ?_
    refine j_istore C [(7, .int (nI 0)), (6, .int (nI 0)), (5, .int (-6)), (0, .ref (g 0)), (1, .int (nI i)), (2, .int (nI j)), (3, .int (nI k)), (4, .int (nI l))] (by decide) rfl dX11_place_22 ?_
    have L24 : ∀ (nL24 : Nat) (u : Nat) (be le : Int32) (hu : u ≤ 21) (hB : bi (sc i k (l + 1 - k) ((j + 1 - i) * (l + 1 - k))) (21 * u) be le) (hmL24 : 21 - u < nL24), J X 0 0 (cM g kk σ) [(0, .ref (g 0)), (1, .int (nI i)), (2, .int (nI j)), (3, .int (nI k)), (4, .int (nI l)), (5, .int be), (6, .int le), (7, .int (nI u))] 24 [] := by
      intro nL24
      induction nL24 with
      | zero => intro u be le hu hB hm; exact absurd hm (Nat.not_lt_zero _)
      | succ nL24 ihL24 =>
        intro u be le hu hB hmL24
        refine j_iload C 7 rfl dX11_place_24 ?_
        refine j_bipush C (nI 20) (by decide) dX11_place_26 ?_
        refine j_icmp_gtN C 159 (by decide) (by omega) (by omega) dX11_place_28 (fun c2 => ?_) (fun c2 => ?_)
        · refine j_iload C 5 rfl dX11_place_159 ?_
          exact j_iret C E (σ) ⟨_, rfl, Or.inr ⟨i, j, k, l, hij, hj, hkl, hl, e1, e2, e3, e4, bi_end hB (by omega)⟩⟩ rfl dX11_place_161
        · refine j_iconst C (nI 0) (by decide) dX11_place_31 ?_
          refine j_istore C [(8, .int (nI 0)), (0, .ref (g 0)), (1, .int (nI i)), (2, .int (nI j)), (3, .int (nI k)), (4, .int (nI l)), (5, .int be), (6, .int le), (7, .int (nI u))] (by decide) rfl dX11_place_32 ?_
          have L34 : ∀ (nL34 : Nat) (v : Nat) (be2 le2 : Int32) (hv : v ≤ 21) (hB2 : bi (sc i k (l + 1 - k) ((j + 1 - i) * (l + 1 - k))) (21 * u + v) be2 le2) (hmL34 : 21 - v < nL34), J X 0 0 (cM g kk σ) [(0, .ref (g 0)), (1, .int (nI i)), (2, .int (nI j)), (3, .int (nI k)), (4, .int (nI l)), (5, .int be2), (6, .int le2), (7, .int (nI u)), (8, .int (nI v))] 34 [] := by
            intro nL34
            induction nL34 with
            | zero => intro v be2 le2 hv hB2 hm; exact absurd hm (Nat.not_lt_zero _)
            | succ nL34 ihL34 =>
              intro v be2 le2 hv hB2 hmL34
              refine j_iload C 8 rfl dX11_place_34 ?_
              refine j_bipush C (nI 20) (by decide) dX11_place_36 ?_
              refine j_icmp_gtN C 153 (by decide) (by omega) (by omega) dX11_place_38 (fun c3 => ?_) (fun c3 => ?_)
              · refine j_iinc C (nI (u + 1)) [(7, .int (nI (u + 1))), (0, .ref (g 0)), (1, .int (nI i)), (2, .int (nI j)), (3, .int (nI k)), (4, .int (nI l)), (5, .int be2), (6, .int le2), (8, .int (nI v))] 7 rfl (by rw [show Int32.ofInt 1 = nI 1 from by decide, nI_add]) (by decide) rfl dX11_place_153 ?_
                refine j_goto C 24 (by decide) dX11_place_156 ?_
                refine j_sub (lv' := [(0, .ref (g 0)), (1, .int (nI i)), (2, .int (nI j)), (3, .int (nI k)), (4, .int (nI l)), (5, .int be2), (6, .int le2), (7, .int (nI (u + 1)))]) [1, 2, 3, 4, 5, 6, 7, 0] rfl ?_
                exact ihL24 (u + 1) be2 le2 (by omega) (by rw [show 21 * (u + 1) = 21 * u + v by omega]; exact hB2) (by omega)
              · refine j_iconst C (nI 0) (by decide) dX11_place_41 ?_
                refine j_istore C [(9, .int (nI 0)), (0, .ref (g 0)), (1, .int (nI i)), (2, .int (nI j)), (3, .int (nI k)), (4, .int (nI l)), (5, .int be2), (6, .int le2), (7, .int (nI u)), (8, .int (nI v))] (by decide) rfl dX11_place_42 ?_
                refine j_iload_n C 2 rfl dX11_place_44 ?_
                refine j_istore C [(10, .int (nI i)), (9, .int (nI 0)), (0, .ref (g 0)), (1, .int (nI i)), (2, .int (nI j)), (3, .int (nI k)), (4, .int (nI l)), (5, .int be2), (6, .int le2), (7, .int (nI u)), (8, .int (nI v))] (by decide) rfl dX11_place_45 ?_
                have L47 : ∀ (nL47 : Nat) (x t n : Nat) (h1 : i ≤ x) (h2 : x ≤ j + 1) (h3 : n = (x - i) * (l + 1 - k)) (h4 : t = psum (pf i k (l + 1 - k) u v) n) (hmL47 : j + 1 - x < nL47), J X 0 0 (cM g kk σ) [(0, .ref (g 0)), (1, .int (nI i)), (2, .int (nI j)), (3, .int (nI k)), (4, .int (nI l)), (5, .int be2), (6, .int le2), (7, .int (nI u)), (8, .int (nI v)), (9, .int (nI t)), (10, .int (nI x))] 47 [] := by
                  intro nL47
                  induction nL47 with
                  | zero => intro x t n h1 h2 h3 h4 hm; exact absurd hm (Nat.not_lt_zero _)
                  | succ nL47 ihL47 =>
                    intro x t n h1 h2 h3 h4 hmL47
                    refine j_iload C 10 rfl dX11_place_47 ?_
                    refine j_iload_n C 2 rfl dX11_place_49 ?_
                    refine j_icmp_gtN C 121 (by decide) (by omega) (by omega) dX11_place_50 (fun c4 => ?_) (fun c4 => ?_)
                    · have hn : n = ((j + 1 - i) * (l + 1 - k)) := by rw [h3, show x = j + 1 by omega]
                      rw [hn] at h4
                      have gt := psum_le (f := pf i k (l + 1 - k) u v) (P := ((j + 1 - i) * (l + 1 - k))) (fun m hm => pf_le (by omega) (by omega) hj hl hkl hm)
                      have htt : t ≤ 17640 := by have q1 := gt ((j + 1 - i) * (l + 1 - k)) (Nat.le_refl _); have q2 := rect_b (i := i) (k := k) hj hl; omega
                      refine j_iload C 5 rfl dX11_place_121 ?_
                      refine j_if_lt C 133 (by decide) dX11_place_123 (fun c5 => ?_) (fun c5 => ?_)
                      · have h95 := c5
                        refine j_bipush C (nI 100) (by decide) dX11_place_133 ?_
                        refine j_iload C 7 rfl dX11_place_135 ?_
                        refine j_imulN C dX11_place_137 ?_
                        refine j_iload C 8 rfl dX11_place_138 ?_
                        refine j_iaddN C dX11_place_140 ?_
                        refine j_istore C [(5, .int (nI ((100 * u) + v))), (0, .ref (g 0)), (1, .int (nI i)), (2, .int (nI j)), (3, .int (nI k)), (4, .int (nI l)), (6, .int le2), (7, .int (nI u)), (8, .int (nI v)), (9, .int (nI t)), (10, .int (nI x))] (by decide) rfl dX11_place_141 ?_
                        refine j_iload C 9 rfl dX11_place_143 ?_
                        refine j_istore C [(6, .int (nI t)), (5, .int (nI ((100 * u) + v))), (0, .ref (g 0)), (1, .int (nI i)), (2, .int (nI j)), (3, .int (nI k)), (4, .int (nI l)), (7, .int (nI u)), (8, .int (nI v)), (9, .int (nI t)), (10, .int (nI x))] (by decide) rfl dX11_place_145 ?_
                        refine j_iinc C (nI (v + 1)) [(8, .int (nI (v + 1))), (6, .int (nI t)), (5, .int (nI ((100 * u) + v))), (0, .ref (g 0)), (1, .int (nI i)), (2, .int (nI j)), (3, .int (nI k)), (4, .int (nI l)), (7, .int (nI u)), (9, .int (nI t)), (10, .int (nI x))] 8 rfl (by rw [show Int32.ofInt 1 = nI 1 from by decide, nI_add]) (by decide) rfl dX11_place_147 ?_
                        refine j_goto C 34 (by decide) dX11_place_150 ?_
                        refine j_sub (lv' := [(0, .ref (g 0)), (1, .int (nI i)), (2, .int (nI j)), (3, .int (nI k)), (4, .int (nI l)), (5, .int (nI ((100 * u) + v))), (6, .int (nI t)), (7, .int (nI u)), (8, .int (nI (v + 1)))]) [3, 4, 5, 6, 7, 2, 1, 8, 0] rfl ?_
                        exact ihL34 (v + 1) (nI (100 * u + v)) (nI t) (by omega) (by first | exact bi_A (by omega) (by omega) hB2 h4 htt h95 | exact bi_B (by omega) (by omega) hB2 h4 htt h95 h96) (by omega)
                      · refine j_iload C 9 rfl dX11_place_126 ?_
                        refine j_iload C 6 rfl dX11_place_128 ?_
                        refine j_icmp_ge C 147 (by decide) dX11_place_130 (fun c6 => ?_) (fun c6 => ?_)
                        · have h95 := c5
                          have h96 := c6
                          refine j_iinc C (nI (v + 1)) [(8, .int (nI (v + 1))), (0, .ref (g 0)), (1, .int (nI i)), (2, .int (nI j)), (3, .int (nI k)), (4, .int (nI l)), (5, .int be2), (6, .int le2), (7, .int (nI u)), (9, .int (nI t)), (10, .int (nI x))] 8 rfl (by rw [show Int32.ofInt 1 = nI 1 from by decide, nI_add]) (by decide) rfl dX11_place_147 ?_
                          refine j_goto C 34 (by decide) dX11_place_150 ?_
                          refine j_sub (lv' := [(0, .ref (g 0)), (1, .int (nI i)), (2, .int (nI j)), (3, .int (nI k)), (4, .int (nI l)), (5, .int be2), (6, .int le2), (7, .int (nI u)), (8, .int (nI (v + 1)))]) [1, 2, 3, 4, 5, 6, 7, 8, 0] rfl ?_
                          exact ihL34 (v + 1) be2 le2 (by omega) (bi_C (by omega) (by omega) hB2 h4 htt h95 h96) (by omega)
                        · have h95 := c5
                          have h96 := c6
                          refine j_bipush C (nI 100) (by decide) dX11_place_133 ?_
                          refine j_iload C 7 rfl dX11_place_135 ?_
                          refine j_imulN C dX11_place_137 ?_
                          refine j_iload C 8 rfl dX11_place_138 ?_
                          refine j_iaddN C dX11_place_140 ?_
                          refine j_istore C [(5, .int (nI ((100 * u) + v))), (0, .ref (g 0)), (1, .int (nI i)), (2, .int (nI j)), (3, .int (nI k)), (4, .int (nI l)), (6, .int le2), (7, .int (nI u)), (8, .int (nI v)), (9, .int (nI t)), (10, .int (nI x))] (by decide) rfl dX11_place_141 ?_
                          refine j_iload C 9 rfl dX11_place_143 ?_
                          refine j_istore C [(6, .int (nI t)), (5, .int (nI ((100 * u) + v))), (0, .ref (g 0)), (1, .int (nI i)), (2, .int (nI j)), (3, .int (nI k)), (4, .int (nI l)), (7, .int (nI u)), (8, .int (nI v)), (9, .int (nI t)), (10, .int (nI x))] (by decide) rfl dX11_place_145 ?_
                          refine j_iinc C (nI (v + 1)) [(8, .int (nI (v + 1))), (6, .int (nI t)), (5, .int (nI ((100 * u) + v))), (0, .ref (g 0)), (1, .int (nI i)), (2, .int (nI j)), (3, .int (nI k)), (4, .int (nI l)), (7, .int (nI u)), (9, .int (nI t)), (10, .int (nI x))] 8 rfl (by rw [show Int32.ofInt 1 = nI 1 from by decide, nI_add]) (by decide) rfl dX11_place_147 ?_
                          refine j_goto C 34 (by decide) dX11_place_150 ?_
                          refine j_sub (lv' := [(0, .ref (g 0)), (1, .int (nI i)), (2, .int (nI j)), (3, .int (nI k)), (4, .int (nI l)), (5, .int (nI ((100 * u) + v))), (6, .int (nI t)), (7, .int (nI u)), (8, .int (nI (v + 1)))]) [3, 4, 5, 6, 7, 2, 1, 8, 0] rfl ?_
                          exact ihL34 (v + 1) (nI (100 * u + v)) (nI t) (by omega) (by first | exact bi_A (by omega) (by omega) hB2 h4 htt h95 | exact bi_B (by omega) (by omega) hB2 h4 htt h95 h96) (by omega)
                    · refine j_iload_n C 3 rfl dX11_place_53 ?_
                      refine j_istore C [(11, .int (nI k)), (0, .ref (g 0)), (1, .int (nI i)), (2, .int (nI j)), (3, .int (nI k)), (4, .int (nI l)), (5, .int be2), (6, .int le2), (7, .int (nI u)), (8, .int (nI v)), (9, .int (nI t)), (10, .int (nI x))] (by decide) rfl dX11_place_54 ?_
                      have L56 : ∀ (nL56 : Nat) (y t2 n2 : Nat) (g1 : k ≤ y) (g2 : y ≤ l + 1) (g3 : n2 = n + (y - k)) (g4 : t2 = psum (pf i k (l + 1 - k) u v) n2) (hmL56 : l + 1 - y < nL56), J X 0 0 (cM g kk σ) [(0, .ref (g 0)), (1, .int (nI i)), (2, .int (nI j)), (3, .int (nI k)), (4, .int (nI l)), (5, .int be2), (6, .int le2), (7, .int (nI u)), (8, .int (nI v)), (9, .int (nI t2)), (10, .int (nI x)), (11, .int (nI y))] 56 [] := by
                        intro nL56
                        induction nL56 with
                        | zero => intro y t2 n2 g1 g2 g3 g4 hm; exact absurd hm (Nat.not_lt_zero _)
                        | succ nL56 ihL56 =>
                          intro y t2 n2 g1 g2 g3 g4 hmL56
                          refine j_iload C 11 rfl dX11_place_56 ?_
                          refine j_iload C 4 rfl dX11_place_58 ?_
                          refine j_icmp_gtN C 115 (by decide) (by omega) (by omega) dX11_place_60 (fun c7 => ?_) (fun c7 => ?_)
                          · refine j_iinc C (nI (x + 1)) [(10, .int (nI (x + 1))), (0, .ref (g 0)), (1, .int (nI i)), (2, .int (nI j)), (3, .int (nI k)), (4, .int (nI l)), (5, .int be2), (6, .int le2), (7, .int (nI u)), (8, .int (nI v)), (9, .int (nI t2)), (11, .int (nI y))] 10 rfl (by rw [show Int32.ofInt 1 = nI 1 from by decide, nI_add]) (by decide) rfl dX11_place_115 ?_
                            refine j_goto C 47 (by decide) dX11_place_118 ?_
                            refine j_sub (lv' := [(0, .ref (g 0)), (1, .int (nI i)), (2, .int (nI j)), (3, .int (nI k)), (4, .int (nI l)), (5, .int be2), (6, .int le2), (7, .int (nI u)), (8, .int (nI v)), (9, .int (nI t2)), (10, .int (nI (x + 1)))]) [1, 2, 3, 4, 5, 6, 7, 8, 9, 10, 0] rfl ?_
                            exact ihL47 (x + 1) t2 n2 (by omega) (by omega) (by rw [← rect_s h1 h3]; omega) g4 (by omega)
                          · refine j_iload C 7 rfl dX11_place_63 ?_
                            refine j_iload C 10 rfl dX11_place_65 ?_
                            refine j_S01 C (m_off (nI u) (nI x)) kyX11_off tb_1155 tb_1156 rfl (Nat.le_of_ble_eq_true rfl) ⟨by decide, by decide⟩ ⟨by decide, by decide⟩ dX11_place_67 rfl ?_
                            rw [offN (by omega) (by omega)]
                            refine j_iload C 8 rfl dX11_place_70 ?_
                            refine j_iload C 11 rfl dX11_place_72 ?_
                            refine j_S01 C (m_off (nI v) (nI y)) kyX11_off tb_1155 tb_1156 rfl (Nat.le_of_ble_eq_true rfl) ⟨by decide, by decide⟩ ⟨by decide, by decide⟩ dX11_place_74 rfl ?_
                            rw [offN (by omega) (by omega)]
                            refine j_iaddN C dX11_place_77 ?_
                            refine j_istore C [(12, .int (nI (((u - x) + (x - u)) + ((v - y) + (y - v))))), (0, .ref (g 0)), (1, .int (nI i)), (2, .int (nI j)), (3, .int (nI k)), (4, .int (nI l)), (5, .int be2), (6, .int le2), (7, .int (nI u)), (8, .int (nI v)), (9, .int (nI t2)), (10, .int (nI x)), (11, .int (nI y))] (by decide) rfl dX11_place_78 ?_
                            refine j_aload_n C 1 rfl dX11_place_80 ?_
                            refine j_iload C 11 rfl dX11_place_81 ?_
                            refine j_iload C 12 rfl dX11_place_83 ?_
                            refine j_V1 C (m_nearestZ g kk σ hk (nI x) (nI y)) kyX11_nearest tb_1270 tb_1272 sp_42 0 rfl (eM_0 g kk _) rfl (Nat.le_of_ble_eq_true rfl) ⟨by decide, by decide⟩ dX11_place_85 rfl (fun vr ur hp => ?_)
                            obtain ⟨r, rfl, rfl, hu⟩ := hp
                            replace hu := hu.symm
                            subst hu
                            refine j_istore C [(13, .int (nI 99)), (12, .int (nI (((u - x) + (x - u)) + ((v - y) + (y - v))))), (0, .ref (g 0)), (1, .int (nI i)), (2, .int (nI j)), (3, .int (nI k)), (4, .int (nI l)), (5, .int be2), (6, .int le2), (7, .int (nI u)), (8, .int (nI v)), (9, .int (nI t2)), (10, .int (nI x)), (11, .int (nI y))] (by decide) rfl dX11_place_88 ?_
                            refine j_iload C 11 rfl dX11_place_90 ?_
                            refine j_iload C 1 rfl dX11_place_92 ?_
                            refine j_iload C 0 rfl dX11_place_94 ?_
                            refine j_icmp_geN C 104 (by decide) (by omega) (by omega) dX11_place_96 (fun c8 => ?_) (fun c8 => ?_)
                            · omega
                            · refine j_iload C 1 rfl dX11_place_99 ?_
                              refine j_goto C 106 (by decide) dX11_place_101 ?_
                              refine j_iaddN C dX11_place_106 ?_
                              refine j_istore C [(9, .int (nI (t2 + (((u - x) + (x - u)) + ((v - y) + (y - v)))))), (13, .int (nI 99)), (12, .int (nI (((u - x) + (x - u)) + ((v - y) + (y - v))))), (0, .ref (g 0)), (1, .int (nI i)), (2, .int (nI j)), (3, .int (nI k)), (4, .int (nI l)), (5, .int be2), (6, .int le2), (7, .int (nI u)), (8, .int (nI v)), (10, .int (nI x)), (11, .int (nI y))] (by decide) rfl dX11_place_107 ?_
                              refine j_iinc C (nI (y + 1)) [(11, .int (nI (y + 1))), (9, .int (nI (t2 + (((u - x) + (x - u)) + ((v - y) + (y - v)))))), (13, .int (nI 99)), (12, .int (nI (((u - x) + (x - u)) + ((v - y) + (y - v))))), (0, .ref (g 0)), (1, .int (nI i)), (2, .int (nI j)), (3, .int (nI k)), (4, .int (nI l)), (5, .int be2), (6, .int le2), (7, .int (nI u)), (8, .int (nI v)), (10, .int (nI x))] 13 rfl (by rw [show Int32.ofInt 1 = nI 1 from by decide, nI_add]) (by decide) rfl dX11_place_109 ?_
                              refine j_goto C 56 (by decide) dX11_place_112 ?_
                              refine j_sub (lv' := [(0, .ref (g 0)), (1, .int (nI i)), (2, .int (nI j)), (3, .int (nI k)), (4, .int (nI l)), (5, .int be2), (6, .int le2), (7, .int (nI u)), (8, .int (nI v)), (9, .int (nI (t2 + (((u - x) + (x - u)) + ((v - y) + (y - v)))))), (10, .int (nI x)), (11, .int (nI (y + 1)))]) [4, 5, 6, 7, 8, 9, 10, 11, 12, 1, 13, 0] rfl ?_
                              exact ihL56 (y + 1) (t2 + (((u - x) + (x - u)) + ((v - y) + (y - v)))) (n2 + 1) (by omega) (by omega) (by omega) (by show t2 + fr u v x y = psum _ n2 + pf i k (l + 1 - k) u v n2; rw [← g4, show n2 = (x - i) * (l + 1 - k) + (y - k) by rw [g3, h3], pf_at h1 g1 (by omega)]) (by omega)
                      refine j_sub (lv' := [(0, .ref (g 0)), (1, .int (nI i)), (2, .int (nI j)), (3, .int (nI k)), (4, .int (nI l)), (5, .int be2), (6, .int le2), (7, .int (nI u)), (8, .int (nI v)), (9, .int (nI t)), (10, .int (nI x)), (11, .int (nI k))]) [1, 2, 3, 4, 5, 6, 7, 8, 9, 10, 11, 0] rfl ?_
                      exact L56 _ k t n (Nat.le_refl _) (by omega) (by omega) h4 (Nat.lt_succ_self _)
                refine j_sub (lv' := [(0, .ref (g 0)), (1, .int (nI i)), (2, .int (nI j)), (3, .int (nI k)), (4, .int (nI l)), (5, .int be2), (6, .int le2), (7, .int (nI u)), (8, .int (nI v)), (9, .int (nI 0)), (10, .int (nI i))]) [2, 3, 4, 5, 6, 7, 8, 9, 10, 1, 0] rfl ?_
                exact L47 _ i 0 0 (Nat.le_refl _) (by omega) (by rw [Nat.sub_self, Nat.zero_mul]) rfl (Nat.lt_succ_self _)
          refine j_sub (lv' := [(0, .ref (g 0)), (1, .int (nI i)), (2, .int (nI j)), (3, .int (nI k)), (4, .int (nI l)), (5, .int be), (6, .int le), (7, .int (nI u)), (8, .int (nI 0))]) [1, 2, 3, 4, 5, 6, 7, 8, 0] rfl ?_
          exact L34 _ 0 be le (by decide) hB (Nat.lt_succ_self _)
    refine j_sub (lv' := [(0, .ref (g 0)), (1, .int (nI i)), (2, .int (nI j)), (3, .int (nI k)), (4, .int (nI l)), (5, .int (-6)), (6, .int (nI 0)), (7, .int (nI 0))]) [3, 4, 5, 6, 7, 2, 1, 0] rfl ?_
    exact L24 _ 0 (-6) (nI 0) (by decide) (Or.inl ⟨rfl, rfl, rfl⟩) (Nat.lt_succ_self _)
  · replace c1 := bI_f c1
    refine j_bipush C ((-2)) (by decide) dX11_place_11 ?_
    exact j_iret C E (σ) ⟨_, rfl, Or.inl ⟨c1, rfl⟩⟩ rfl dX11_place_13
