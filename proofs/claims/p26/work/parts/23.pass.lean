def pos (c j : Nat) : Nat := if c = 0 then j else if c = 1 then 7 + 2 * j else if c = 2 then 7 + 2 * j + 1 else if c = 3 then 19 + j else if c = 4 then 37 + j else if c = 5 then 65 + 4 * j else if c = 10 then 65 + 4 * j + 1 else if c = 11 then 65 + 4 * j + 2 else if c = 12 then 65 + 4 * j + 3 else if c = 6 then 737 + 3 * j else if c = 7 then 737 + 3 * j + 1 else if c = 8 then 737 + 3 * j + 2 else if c = 26 then 797 + 5 * j else if c = 27 then 797 + 5 * j + 1 else if c = 28 then 797 + 5 * j + 2 else if c = 29 then 797 + 5 * j + 3 else if c = 30 then 797 + 5 * j + 4 else 2000
def szp (c : Nat) : Nat := if c = 0 then 7 else if c = 1 then 6 else if c = 2 then 6 else if c = 3 then 18 else if c = 4 then 28 else if c = 5 then 168 else if c = 10 then 168 else if c = 11 then 168 else if c = 12 then 168 else if c = 6 then 20 else if c = 7 then 20 else if c = 8 then 20 else if c = 26 then 6 else if c = 27 then 6 else if c = 28 then 6 else if c = 29 then 6 else if c = 30 then 6 else 0
def isl (j : Nat) : Nat := if j = 0 then 3 else if j = 1 then 9 else if j = 2 then 46 else if j = 3 then 10 else if j = 4 then 11 else if j = 5 then 12 else if j = 6 then 13 else 3
def ips (i : Nat) : Nat := if i = 3 then 0 else if i = 9 then 1 else if i = 46 then 2 else if i = 10 then 3 else if i = 11 then 4 else if i = 12 then 5 else if i = 13 then 6 else 2000
def cO (n : Nat) : Nat × Nat := if n < 7 then (0, n) else if n < 19 then (if (n - 7) % 2 = 0 then 1 else 2, (n - 7) / 2) else if n < 37 then (3, n - 19) else if n < 65 then (4, n - 37) else if n < 737 then (if (n - 65) % 4 = 0 then 5 else if (n - 65) % 4 = 1 then 10 else if (n - 65) % 4 = 2 then 11 else 12, (n - 65) / 4) else if n < 797 then (if (n - 737) % 3 = 0 then 6 else if (n - 737) % 3 = 1 then 7 else 8, (n - 737) / 3) else (if (n - 797) % 5 = 0 then 26 else if (n - 797) % 5 = 1 then 27 else if (n - 797) % 5 = 2 then 28 else if (n - 797) % 5 = 3 then 29 else 30, (n - 797) / 5)
def valF (σ : St) (c j : Nat) : Int32 := if c = 0 then σ.1 (isl j) else σ.2.1 c j
def sv (σ : St) (n : Nat) : Int32 := valF σ (cO n).1 (cO n).2
def cut (f : Nat → Int32) (t n : Nat) (v : Nat → Int32) : Nat → Int32 := fun j => if t ≤ j ∧ j < t + n then v (j - t) else f j
theorem cut_0 (f : Nat → Int32) (t : Nat) (v : Nat → Int32) : cut f t 0 v = f := by
  funext j; unfold cut; rw [if_neg (by omega)]
theorem cut_s (f : Nat → Int32) (t n : Nat) (v : Nat → Int32) : upd (cut f t n v) (t + n) (v n) = cut f t (n + 1) v := by
  funext j
  by_cases h : j = t + n
  · rw [h, pk_us]; unfold cut; rw [if_pos (by omega), Nat.add_sub_cancel_left]
  · rw [pk_un h]; unfold cut
    by_cases q : t ≤ j ∧ j < t + n
    · rw [if_pos q, if_pos (by omega)]
    · rw [if_neg q, if_neg (by omega)]
theorem cut_in {f : Nat → Int32} {t n : Nat} {v : Nat → Int32} {i : Nat} (h : i < n) : cut f t n v (t + i) = v i := by
  unfold cut; rw [if_pos (by omega), Nat.add_sub_cancel_left]
theorem cut_out {f : Nat → Int32} {t n : Nat} {v : Nat → Int32} {j : Nat} (h : j < t ∨ t + n ≤ j) : cut f t n v j = f j := by
  unfold cut; rw [if_neg (by omega)]
def pw (σ : St) (t n : Nat) : St := sI (sF σ 32 (cut (σ.2.1 32) t n (sv σ))) 56 (nI (t + n))
def pr (σ : St) (t n : Nat) : St := (fun i => if i = 56 then nI (t + n) else if ips i < n then σ.2.1 32 (t + ips i) else σ.1 i, fun c => fun j => if j < szp c ∧ c ≠ 0 ∧ pos c j < n then σ.2.1 32 (t + pos c j) else σ.2.1 c j, σ.2.2.1, σ.2.2.2)
theorem sF_self {σ : St} {c i : Nat} {v : Int32} (h : σ.2.1 c i = v) : sF σ c (upd (σ.2.1 c) i v) = σ := by
  have e : upd (σ.2.1 c) i v = σ.2.1 c := by
    funext j
    by_cases q : j = i
    · rw [q, pk_us, h]
    · rw [pk_un q]
  rw [e]
  unfold sF
  refine Prod.ext rfl (Prod.ext ?_ rfl)
  funext j
  show (if j = c then σ.2.1 c else σ.2.1 j) = σ.2.1 j
  by_cases q : j = c
  · rw [if_pos q, q]
  · rw [if_neg q]
theorem pos_0 (j : Nat) : pos 0 j = j := rfl
theorem cO_0 {j : Nat} (h : j < 7) : cO (j) = (0, j) := by
  unfold cO
  rw [if_pos (by omega)]
theorem sv_0 (σ : St) {j : Nat} (h : j < 7) : sv σ (j) = σ.1 (isl j) := by
  unfold sv
  rw [cO_0 h]
  rfl
theorem pos_1 (j : Nat) : pos 1 j = 7 + 2 * j := rfl
theorem cO_1 {j : Nat} (h : j < 6) : cO (7 + 2 * j) = (1, j) := by
  unfold cO
  rw [if_neg (by omega)]
  rw [if_pos (by omega)]
  have e1 : (7 + 2 * j - 7) % 2 = 0 := by omega
  have e2 : (7 + 2 * j - 7) / 2 = j := by omega
  rw [e1, e2]
  rfl
theorem sv_1 (σ : St) {j : Nat} (h : j < 6) : sv σ (7 + 2 * j) = σ.2.1 1 j := by
  unfold sv
  rw [cO_1 h]
  rfl
theorem pos_2 (j : Nat) : pos 2 j = 7 + 2 * j + 1 := rfl
theorem cO_2 {j : Nat} (h : j < 6) : cO (7 + 2 * j + 1) = (2, j) := by
  unfold cO
  rw [if_neg (by omega)]
  rw [if_pos (by omega)]
  have e1 : (7 + 2 * j + 1 - 7) % 2 = 1 := by omega
  have e2 : (7 + 2 * j + 1 - 7) / 2 = j := by omega
  rw [e1, e2]
  rfl
theorem sv_2 (σ : St) {j : Nat} (h : j < 6) : sv σ (7 + 2 * j + 1) = σ.2.1 2 j := by
  unfold sv
  rw [cO_2 h]
  rfl
theorem pos_3 (j : Nat) : pos 3 j = 19 + j := rfl
theorem cO_3 {j : Nat} (h : j < 18) : cO (19 + j) = (3, j) := by
  unfold cO
  rw [if_neg (by omega)]
  rw [if_neg (by omega)]
  rw [if_pos (by omega)]
  rw [show 19 + j - 19 = j by omega]
theorem sv_3 (σ : St) {j : Nat} (h : j < 18) : sv σ (19 + j) = σ.2.1 3 j := by
  unfold sv
  rw [cO_3 h]
  rfl
theorem pos_4 (j : Nat) : pos 4 j = 37 + j := rfl
theorem cO_4 {j : Nat} (h : j < 28) : cO (37 + j) = (4, j) := by
  unfold cO
  rw [if_neg (by omega)]
  rw [if_neg (by omega)]
  rw [if_neg (by omega)]
  rw [if_pos (by omega)]
  rw [show 37 + j - 37 = j by omega]
theorem sv_4 (σ : St) {j : Nat} (h : j < 28) : sv σ (37 + j) = σ.2.1 4 j := by
  unfold sv
  rw [cO_4 h]
  rfl
theorem pos_5 (j : Nat) : pos 5 j = 65 + 4 * j := rfl
theorem cO_5 {j : Nat} (h : j < 168) : cO (65 + 4 * j) = (5, j) := by
  unfold cO
  rw [if_neg (by omega)]
  rw [if_neg (by omega)]
  rw [if_neg (by omega)]
  rw [if_neg (by omega)]
  rw [if_pos (by omega)]
  have e1 : (65 + 4 * j - 65) % 4 = 0 := by omega
  have e2 : (65 + 4 * j - 65) / 4 = j := by omega
  rw [e1, e2]
  rfl
theorem sv_5 (σ : St) {j : Nat} (h : j < 168) : sv σ (65 + 4 * j) = σ.2.1 5 j := by
  unfold sv
  rw [cO_5 h]
  rfl
theorem pos_10 (j : Nat) : pos 10 j = 65 + 4 * j + 1 := rfl
theorem cO_10 {j : Nat} (h : j < 168) : cO (65 + 4 * j + 1) = (10, j) := by
  unfold cO
  rw [if_neg (by omega)]
  rw [if_neg (by omega)]
  rw [if_neg (by omega)]
  rw [if_neg (by omega)]
  rw [if_pos (by omega)]
  have e1 : (65 + 4 * j + 1 - 65) % 4 = 1 := by omega
  have e2 : (65 + 4 * j + 1 - 65) / 4 = j := by omega
  rw [e1, e2]
  rfl
theorem sv_10 (σ : St) {j : Nat} (h : j < 168) : sv σ (65 + 4 * j + 1) = σ.2.1 10 j := by
  unfold sv
  rw [cO_10 h]
  rfl
theorem pos_11 (j : Nat) : pos 11 j = 65 + 4 * j + 2 := rfl
theorem cO_11 {j : Nat} (h : j < 168) : cO (65 + 4 * j + 2) = (11, j) := by
  unfold cO
  rw [if_neg (by omega)]
  rw [if_neg (by omega)]
  rw [if_neg (by omega)]
  rw [if_neg (by omega)]
  rw [if_pos (by omega)]
  have e1 : (65 + 4 * j + 2 - 65) % 4 = 2 := by omega
  have e2 : (65 + 4 * j + 2 - 65) / 4 = j := by omega
  rw [e1, e2]
  rfl
theorem sv_11 (σ : St) {j : Nat} (h : j < 168) : sv σ (65 + 4 * j + 2) = σ.2.1 11 j := by
  unfold sv
  rw [cO_11 h]
  rfl
theorem pos_12 (j : Nat) : pos 12 j = 65 + 4 * j + 3 := rfl
theorem cO_12 {j : Nat} (h : j < 168) : cO (65 + 4 * j + 3) = (12, j) := by
  unfold cO
  rw [if_neg (by omega)]
  rw [if_neg (by omega)]
  rw [if_neg (by omega)]
  rw [if_neg (by omega)]
  rw [if_pos (by omega)]
  have e1 : (65 + 4 * j + 3 - 65) % 4 = 3 := by omega
  have e2 : (65 + 4 * j + 3 - 65) / 4 = j := by omega
  rw [e1, e2]
  rfl
theorem sv_12 (σ : St) {j : Nat} (h : j < 168) : sv σ (65 + 4 * j + 3) = σ.2.1 12 j := by
  unfold sv
  rw [cO_12 h]
  rfl
theorem pos_6 (j : Nat) : pos 6 j = 737 + 3 * j := rfl
theorem cO_6 {j : Nat} (h : j < 20) : cO (737 + 3 * j) = (6, j) := by
  unfold cO
  rw [if_neg (by omega)]
  rw [if_neg (by omega)]
  rw [if_neg (by omega)]
  rw [if_neg (by omega)]
  rw [if_neg (by omega)]
  rw [if_pos (by omega)]
  have e1 : (737 + 3 * j - 737) % 3 = 0 := by omega
  have e2 : (737 + 3 * j - 737) / 3 = j := by omega
  rw [e1, e2]
  rfl
theorem sv_6 (σ : St) {j : Nat} (h : j < 20) : sv σ (737 + 3 * j) = σ.2.1 6 j := by
  unfold sv
  rw [cO_6 h]
  rfl
theorem pos_7 (j : Nat) : pos 7 j = 737 + 3 * j + 1 := rfl
theorem cO_7 {j : Nat} (h : j < 20) : cO (737 + 3 * j + 1) = (7, j) := by
  unfold cO
  rw [if_neg (by omega)]
  rw [if_neg (by omega)]
  rw [if_neg (by omega)]
  rw [if_neg (by omega)]
  rw [if_neg (by omega)]
  rw [if_pos (by omega)]
  have e1 : (737 + 3 * j + 1 - 737) % 3 = 1 := by omega
  have e2 : (737 + 3 * j + 1 - 737) / 3 = j := by omega
  rw [e1, e2]
  rfl
theorem sv_7 (σ : St) {j : Nat} (h : j < 20) : sv σ (737 + 3 * j + 1) = σ.2.1 7 j := by
  unfold sv
  rw [cO_7 h]
  rfl
theorem pos_8 (j : Nat) : pos 8 j = 737 + 3 * j + 2 := rfl
theorem cO_8 {j : Nat} (h : j < 20) : cO (737 + 3 * j + 2) = (8, j) := by
  unfold cO
  rw [if_neg (by omega)]
  rw [if_neg (by omega)]
  rw [if_neg (by omega)]
  rw [if_neg (by omega)]
  rw [if_neg (by omega)]
  rw [if_pos (by omega)]
  have e1 : (737 + 3 * j + 2 - 737) % 3 = 2 := by omega
  have e2 : (737 + 3 * j + 2 - 737) / 3 = j := by omega
  rw [e1, e2]
  rfl
theorem sv_8 (σ : St) {j : Nat} (h : j < 20) : sv σ (737 + 3 * j + 2) = σ.2.1 8 j := by
  unfold sv
  rw [cO_8 h]
  rfl
theorem pos_26 (j : Nat) : pos 26 j = 797 + 5 * j := rfl
theorem cO_26 {j : Nat} (h : j < 6) : cO (797 + 5 * j) = (26, j) := by
  unfold cO
  rw [if_neg (by omega)]
  rw [if_neg (by omega)]
  rw [if_neg (by omega)]
  rw [if_neg (by omega)]
  rw [if_neg (by omega)]
  rw [if_neg (by omega)]
  have e1 : (797 + 5 * j - 797) % 5 = 0 := by omega
  have e2 : (797 + 5 * j - 797) / 5 = j := by omega
  rw [e1, e2]
  rfl
theorem sv_26 (σ : St) {j : Nat} (h : j < 6) : sv σ (797 + 5 * j) = σ.2.1 26 j := by
  unfold sv
  rw [cO_26 h]
  rfl
theorem pos_27 (j : Nat) : pos 27 j = 797 + 5 * j + 1 := rfl
theorem cO_27 {j : Nat} (h : j < 6) : cO (797 + 5 * j + 1) = (27, j) := by
  unfold cO
  rw [if_neg (by omega)]
  rw [if_neg (by omega)]
  rw [if_neg (by omega)]
  rw [if_neg (by omega)]
  rw [if_neg (by omega)]
  rw [if_neg (by omega)]
  have e1 : (797 + 5 * j + 1 - 797) % 5 = 1 := by omega
  have e2 : (797 + 5 * j + 1 - 797) / 5 = j := by omega
  rw [e1, e2]
  rfl
theorem sv_27 (σ : St) {j : Nat} (h : j < 6) : sv σ (797 + 5 * j + 1) = σ.2.1 27 j := by
  unfold sv
  rw [cO_27 h]
  rfl
theorem pos_28 (j : Nat) : pos 28 j = 797 + 5 * j + 2 := rfl
theorem cO_28 {j : Nat} (h : j < 6) : cO (797 + 5 * j + 2) = (28, j) := by
  unfold cO
  rw [if_neg (by omega)]
  rw [if_neg (by omega)]
  rw [if_neg (by omega)]
  rw [if_neg (by omega)]
  rw [if_neg (by omega)]
  rw [if_neg (by omega)]
  have e1 : (797 + 5 * j + 2 - 797) % 5 = 2 := by omega
  have e2 : (797 + 5 * j + 2 - 797) / 5 = j := by omega
  rw [e1, e2]
  rfl
theorem sv_28 (σ : St) {j : Nat} (h : j < 6) : sv σ (797 + 5 * j + 2) = σ.2.1 28 j := by
  unfold sv
  rw [cO_28 h]
  rfl
theorem pos_29 (j : Nat) : pos 29 j = 797 + 5 * j + 3 := rfl
theorem cO_29 {j : Nat} (h : j < 6) : cO (797 + 5 * j + 3) = (29, j) := by
  unfold cO
  rw [if_neg (by omega)]
  rw [if_neg (by omega)]
  rw [if_neg (by omega)]
  rw [if_neg (by omega)]
  rw [if_neg (by omega)]
  rw [if_neg (by omega)]
  have e1 : (797 + 5 * j + 3 - 797) % 5 = 3 := by omega
  have e2 : (797 + 5 * j + 3 - 797) / 5 = j := by omega
  rw [e1, e2]
  rfl
theorem sv_29 (σ : St) {j : Nat} (h : j < 6) : sv σ (797 + 5 * j + 3) = σ.2.1 29 j := by
  unfold sv
  rw [cO_29 h]
  rfl
theorem pos_30 (j : Nat) : pos 30 j = 797 + 5 * j + 4 := rfl
theorem cO_30 {j : Nat} (h : j < 6) : cO (797 + 5 * j + 4) = (30, j) := by
  unfold cO
  rw [if_neg (by omega)]
  rw [if_neg (by omega)]
  rw [if_neg (by omega)]
  rw [if_neg (by omega)]
  rw [if_neg (by omega)]
  rw [if_neg (by omega)]
  have e1 : (797 + 5 * j + 4 - 797) % 5 = 4 := by omega
  have e2 : (797 + 5 * j + 4 - 797) / 5 = j := by omega
  rw [e1, e2]
  rfl
theorem sv_30 (σ : St) {j : Nat} (h : j < 6) : sv σ (797 + 5 * j + 4) = σ.2.1 30 j := by
  unfold sv
  rw [cO_30 h]
  rfl
theorem szp_c {c j : Nat} (h : j < szp c) : c = 0 ∨ c = 1 ∨ c = 2 ∨ c = 3 ∨ c = 4 ∨ c = 5 ∨ c = 10 ∨ c = 11 ∨ c = 12 ∨ c = 6 ∨ c = 7 ∨ c = 8 ∨ c = 26 ∨ c = 27 ∨ c = 28 ∨ c = 29 ∨ c = 30 := by
  unfold szp at h
  by_cases h0 : c = 0
  · omega
  rw [if_neg h0] at h
  by_cases h1 : c = 1
  · omega
  rw [if_neg h1] at h
  by_cases h2 : c = 2
  · omega
  rw [if_neg h2] at h
  by_cases h3 : c = 3
  · omega
  rw [if_neg h3] at h
  by_cases h4 : c = 4
  · omega
  rw [if_neg h4] at h
  by_cases h5 : c = 5
  · omega
  rw [if_neg h5] at h
  by_cases h10 : c = 10
  · omega
  rw [if_neg h10] at h
  by_cases h11 : c = 11
  · omega
  rw [if_neg h11] at h
  by_cases h12 : c = 12
  · omega
  rw [if_neg h12] at h
  by_cases h6 : c = 6
  · omega
  rw [if_neg h6] at h
  by_cases h7 : c = 7
  · omega
  rw [if_neg h7] at h
  by_cases h8 : c = 8
  · omega
  rw [if_neg h8] at h
  by_cases h26 : c = 26
  · omega
  rw [if_neg h26] at h
  by_cases h27 : c = 27
  · omega
  rw [if_neg h27] at h
  by_cases h28 : c = 28
  · omega
  rw [if_neg h28] at h
  by_cases h29 : c = 29
  · omega
  rw [if_neg h29] at h
  by_cases h30 : c = 30
  · omega
  rw [if_neg h30] at h
  omega
theorem cO_pos {c j : Nat} (h : j < szp c) : cO (pos c j) = (c, j) := by
  rcases szp_c h with rfl | rfl | rfl | rfl | rfl | rfl | rfl | rfl | rfl | rfl | rfl | rfl | rfl | rfl | rfl | rfl | rfl
  · exact cO_0 h
  · exact cO_1 h
  · exact cO_2 h
  · exact cO_3 h
  · exact cO_4 h
  · exact cO_5 h
  · exact cO_10 h
  · exact cO_11 h
  · exact cO_12 h
  · exact cO_6 h
  · exact cO_7 h
  · exact cO_8 h
  · exact cO_26 h
  · exact cO_27 h
  · exact cO_28 h
  · exact cO_29 h
  · exact cO_30 h
theorem pos_inj {c j c' j' : Nat} (h : j < szp c) (h' : j' < szp c') (e : pos c j = pos c' j') : c = c' ∧ j = j' := by
  have q := cO_pos h
  rw [e, cO_pos h'] at q
  exact ⟨(congrArg Prod.fst q).symm, (congrArg Prod.snd q).symm⟩
theorem pr_0 (σ : St) (t : Nat) : pr σ t 0 = sI σ 56 (nI t) := by
  unfold pr sI
  refine Prod.ext ?_ (Prod.ext ?_ rfl)
  · funext i
    show (if i = 56 then _ else if ips i < 0 then _ else _) = (if i = 56 then _ else _)
    by_cases h : i = 56
    · rw [if_pos h, if_pos h]; rfl
    · rw [if_neg h, if_neg h, if_neg (Nat.not_lt_zero _)]
  · funext c j
    show (if j < szp c ∧ c ≠ 0 ∧ pos c j < 0 then _ else _) = _
    rw [if_neg (fun q => Nat.not_lt_zero _ q.2.2)]
theorem ips_pos {i n : Nat} (h : ips i = n) (hn : n < 7) : i = isl n := by
  unfold ips at h
  by_cases h3 : i = 3
  · rw [if_pos h3] at h; subst h; exact h3
  rw [if_neg h3] at h
  by_cases h9 : i = 9
  · rw [if_pos h9] at h; subst h; exact h9
  rw [if_neg h9] at h
  by_cases h46 : i = 46
  · rw [if_pos h46] at h; subst h; exact h46
  rw [if_neg h46] at h
  by_cases h10 : i = 10
  · rw [if_pos h10] at h; subst h; exact h10
  rw [if_neg h10] at h
  by_cases h11 : i = 11
  · rw [if_pos h11] at h; subst h; exact h11
  rw [if_neg h11] at h
  by_cases h12 : i = 12
  · rw [if_pos h12] at h; subst h; exact h12
  rw [if_neg h12] at h
  by_cases h13 : i = 13
  · rw [if_pos h13] at h; subst h; exact h13
  rw [if_neg h13] at h
  omega
theorem pr_F {σ : St} {t n c i : Nat} (hi : i < szp c) (h0 : c ≠ 0) (h7 : 7 ≤ n) (hp : pos c i = n) (h32 : c ≠ 32) : sF (sI (pr σ t n) 56 (nI (t + (n + 1)))) c (upd ((pr σ t n).2.1 c) i (σ.2.1 32 (t + n))) = pr σ t (n + 1) := by
  refine Prod.ext ?_ (Prod.ext ?_ rfl)
  · funext q
    show (if q = 56 then _ else if q = 56 then _ else if ips q < n then _ else _) = (if q = 56 then _ else if ips q < n + 1 then _ else _)
    by_cases h : q = 56
    · rw [if_pos h, if_pos h]
    · rw [if_neg h, if_neg h, if_neg h]
      by_cases z : ips q < n
      · rw [if_pos z, if_pos (by omega)]
      · rw [if_neg z]
        have hz : ¬ ips q < n + 1 := fun w => by
          have e : ips q = n := by omega
          have : ips q < 7 ∨ ips q = 2000 := by
            unfold ips
            by_cases h3 : q = 3
            · rw [if_pos h3]; omega
            rw [if_neg h3]
            by_cases h9 : q = 9
            · rw [if_pos h9]; omega
            rw [if_neg h9]
            by_cases h46 : q = 46
            · rw [if_pos h46]; omega
            rw [if_neg h46]
            by_cases h10 : q = 10
            · rw [if_pos h10]; omega
            rw [if_neg h10]
            by_cases h11 : q = 11
            · rw [if_pos h11]; omega
            rw [if_neg h11]
            by_cases h12 : q = 12
            · rw [if_pos h12]; omega
            rw [if_neg h12]
            by_cases h13 : q = 13
            · rw [if_pos h13]; omega
            rw [if_neg h13]
            exact Or.inr rfl
          have hb : n < 2000 := by
            rw [← hp]
            rcases szp_c hi with rfl | rfl | rfl | rfl | rfl | rfl | rfl | rfl | rfl | rfl | rfl | rfl | rfl | rfl | rfl | rfl | rfl
            · have h2 : i < 7 := hi
              show i < 2000
              omega
            · have h2 : i < 6 := hi
              show 7 + 2 * i < 2000
              omega
            · have h2 : i < 6 := hi
              show 7 + 2 * i + 1 < 2000
              omega
            · have h2 : i < 18 := hi
              show 19 + i < 2000
              omega
            · have h2 : i < 28 := hi
              show 37 + i < 2000
              omega
            · have h2 : i < 168 := hi
              show 65 + 4 * i < 2000
              omega
            · have h2 : i < 168 := hi
              show 65 + 4 * i + 1 < 2000
              omega
            · have h2 : i < 168 := hi
              show 65 + 4 * i + 2 < 2000
              omega
            · have h2 : i < 168 := hi
              show 65 + 4 * i + 3 < 2000
              omega
            · have h2 : i < 20 := hi
              show 737 + 3 * i < 2000
              omega
            · have h2 : i < 20 := hi
              show 737 + 3 * i + 1 < 2000
              omega
            · have h2 : i < 20 := hi
              show 737 + 3 * i + 2 < 2000
              omega
            · have h2 : i < 6 := hi
              show 797 + 5 * i < 2000
              omega
            · have h2 : i < 6 := hi
              show 797 + 5 * i + 1 < 2000
              omega
            · have h2 : i < 6 := hi
              show 797 + 5 * i + 2 < 2000
              omega
            · have h2 : i < 6 := hi
              show 797 + 5 * i + 3 < 2000
              omega
            · have h2 : i < 6 := hi
              show 797 + 5 * i + 4 < 2000
              omega
          omega
        rw [if_neg hz]
  · funext d j
    show (if d = c then upd (fun j => if j < szp c ∧ c ≠ 0 ∧ pos c j < n then σ.2.1 32 (t + pos c j) else σ.2.1 c j) i (σ.2.1 32 (t + n)) else fun j => if j < szp d ∧ d ≠ 0 ∧ pos d j < n then σ.2.1 32 (t + pos d j) else σ.2.1 d j) j = (if j < szp d ∧ d ≠ 0 ∧ pos d j < n + 1 then σ.2.1 32 (t + pos d j) else σ.2.1 d j)
    by_cases hd : d = c
    · rw [if_pos hd, hd]
      by_cases hj : j = i
      · rw [hj, pk_us, if_pos ⟨hi, h0, by omega⟩, hp]
      · rw [pk_un hj]
        by_cases z : j < szp c ∧ c ≠ 0 ∧ pos c j < n
        · rw [if_pos z, if_pos ⟨z.1, z.2.1, by omega⟩]
        · rw [if_neg z, if_neg (fun w => ?_)]
          have e : pos c j = pos c i := by
            have : ¬ pos c j < n := fun y => z ⟨w.1, w.2.1, y⟩
            omega
          exact hj (pos_inj w.1 hi e).2
    · rw [if_neg hd]
      show (if j < szp d ∧ d ≠ 0 ∧ pos d j < n then _ else _) = _
      by_cases z : j < szp d ∧ d ≠ 0 ∧ pos d j < n
      · rw [if_pos z, if_pos ⟨z.1, z.2.1, by omega⟩]
      · rw [if_neg z, if_neg (fun w => ?_)]
        have e : pos d j = pos c i := by
          have : ¬ pos d j < n := fun y => z ⟨w.1, w.2.1, y⟩
          omega
        exact hd (pos_inj w.1 hi e).1
theorem pos_ge {c j : Nat} (h : j < szp c) (h0 : c ≠ 0) : 7 ≤ pos c j := by
  rcases szp_c h with rfl | rfl | rfl | rfl | rfl | rfl | rfl | rfl | rfl | rfl | rfl | rfl | rfl | rfl | rfl | rfl | rfl
  · exact absurd rfl h0
  · show 7 ≤ 7 + 2 * j
    omega
  · show 7 ≤ 7 + 2 * j + 1
    omega
  · show 7 ≤ 19 + j
    omega
  · show 7 ≤ 37 + j
    omega
  · show 7 ≤ 65 + 4 * j
    omega
  · show 7 ≤ 65 + 4 * j + 1
    omega
  · show 7 ≤ 65 + 4 * j + 2
    omega
  · show 7 ≤ 65 + 4 * j + 3
    omega
  · show 7 ≤ 737 + 3 * j
    omega
  · show 7 ≤ 737 + 3 * j + 1
    omega
  · show 7 ≤ 737 + 3 * j + 2
    omega
  · show 7 ≤ 797 + 5 * j
    omega
  · show 7 ≤ 797 + 5 * j + 1
    omega
  · show 7 ≤ 797 + 5 * j + 2
    omega
  · show 7 ≤ 797 + 5 * j + 3
    omega
  · show 7 ≤ 797 + 5 * j + 4
    omega
theorem pr_I {σ : St} {t n s : Nat} (hn : n < 7) (hs : ips s = n) (h56 : s ≠ 56) : sI (sI (pr σ t n) 56 (nI (t + (n + 1)))) s (σ.2.1 32 (t + n)) = pr σ t (n + 1) := by
  refine Prod.ext ?_ (Prod.ext ?_ rfl)
  · funext q
    show (if q = s then _ else if q = 56 then _ else if q = 56 then _ else if ips q < n then _ else _) = (if q = 56 then _ else if ips q < n + 1 then _ else _)
    by_cases h : q = s
    · rw [if_pos h, if_neg (by omega), h, hs, if_pos (by omega)]
    · rw [if_neg h]
      by_cases h6 : q = 56
      · rw [if_pos h6, if_pos h6]
      · rw [if_neg h6, if_neg h6, if_neg h6]
        by_cases z : ips q < n
        · rw [if_pos z, if_pos (by omega)]
        · rw [if_neg z, if_neg (fun w => ?_)]
          have e : ips q = n := by omega
          exact h ((ips_pos e hn).trans (ips_pos hs hn).symm)
  · funext d j
    show (if j < szp d ∧ d ≠ 0 ∧ pos d j < n then _ else _) = (if j < szp d ∧ d ≠ 0 ∧ pos d j < n + 1 then _ else _)
    by_cases z : j < szp d ∧ d ≠ 0 ∧ pos d j < n
    · rw [if_pos z, if_pos ⟨z.1, z.2.1, by omega⟩]
    · rw [if_neg z, if_neg (fun w => by have := pos_ge w.1 w.2.1; omega)]
