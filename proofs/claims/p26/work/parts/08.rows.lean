theorem j_iaddN {X : jC} {cc : ByteArray} {own : String} {R : Room} {kk : Nat → Nat} {nL : Nat} (C : jF X cc own R kk nL) {ce sl : Nat} {w : va_W} {lv : List (Nat × Value)} {pc : Nat} {st : List Value} {a b : Nat} (d : decode cc pc = .ok (.iadd, 1)) (k : J X ce sl w lv (pc + 1) (.int (nI (a + b)) :: st)) : J X ce sl w lv pc (.int (nI b) :: .int (nI a) :: st) := j_iadd C d (by rw [nI_add]; exact k)
theorem j_imulN {X : jC} {cc : ByteArray} {own : String} {R : Room} {kk : Nat → Nat} {nL : Nat} (C : jF X cc own R kk nL) {ce sl : Nat} {w : va_W} {lv : List (Nat × Value)} {pc : Nat} {st : List Value} {a b : Nat} (d : decode cc pc = .ok (.imul, 1)) (k : J X ce sl w lv (pc + 1) (.int (nI (a * b)) :: st)) : J X ce sl w lv pc (.int (nI b) :: .int (nI a) :: st) := j_imul C d (by rw [pk_mul]; exact k)
theorem j_isubN {X : jC} {cc : ByteArray} {own : String} {R : Room} {kk : Nat → Nat} {nL : Nat} (C : jF X cc own R kk nL) {ce sl : Nat} {w : va_W} {lv : List (Nat × Value)} {pc : Nat} {st : List Value} {a b : Nat} (h : b ≤ a) (d : decode cc pc = .ok (.isub, 1)) (k : J X ce sl w lv (pc + 1) (.int (nI (a - b)) :: st)) : J X ce sl w lv pc (.int (nI b) :: .int (nI a) :: st) := j_isub C d (by rw [pk_sub h]; exact k)
theorem j_idivN {X : jC} {cc : ByteArray} {own : String} {R : Room} {kk : Nat → Nat} {nL : Nat} (C : jF X cc own R kk nL) {ce sl : Nat} {w : va_W} {lv : List (Nat × Value)} {pc : Nat} {st : List Value} {a b : Nat} (h0 : 0 < b) (ha : a < 2 ^ 31) (hb : b < 2 ^ 31) (d : decode cc pc = .ok (.idiv, 1)) (k : J X ce sl w lv (pc + 1) (.int (nI (a / b)) :: st)) : J X ce sl w lv pc (.int (nI b) :: .int (nI a) :: st) := j_idiv C (nI_ne0 h0 hb) d (by rw [pk_div ha h0 hb]; exact k)
theorem j_iremN {X : jC} {cc : ByteArray} {own : String} {R : Room} {kk : Nat → Nat} {nL : Nat} (C : jF X cc own R kk nL) {ce sl : Nat} {w : va_W} {lv : List (Nat × Value)} {pc : Nat} {st : List Value} {a b : Nat} (h0 : 0 < b) (ha : a < 2 ^ 31) (hb : b < 2 ^ 31) (d : decode cc pc = .ok (.irem, 1)) (k : J X ce sl w lv (pc + 1) (.int (nI (a % b)) :: st)) : J X ce sl w lv pc (.int (nI b) :: .int (nI a) :: st) := j_irem C (nI_ne0 h0 hb) d (by rw [pk_rem ha h0 hb]; exact k)
theorem nI_nlt0 {n : Nat} (h : n < 2 ^ 31) : ¬ nI n < 0 := nI_pos h
theorem j_icmp_eqN {X : jC} {cc : ByteArray} {own : String} {R : Room} {kk : Nat → Nat} {nL : Nat} (C : jF X cc own R kk nL) {ce sl : Nat} {w : va_W} {lv : List (Nat × Value)} {pc : Nat} {st : List Value} {a b : Nat} {off : Int} (tgt : Nat) (ht : (pc : Int) + off = (tgt : Int)) (ha : a < 2 ^ 31) (hb : b < 2 ^ 31) (d : decode cc pc = .ok (.if_icmp .eq off, 3)) (kt : a = b → J X ce sl w lv tgt st) (kf : ¬ a = b → J X ce sl w lv (pc + 3) st) : J X ce sl w lv pc (.int (nI b) :: .int (nI a) :: st) :=
  j_icmp_eq C tgt ht d (fun h => kt (by
    have e1 : nI a = nI b ↔ a = b := nI_eq ha hb
    have e2 : nI a ≤ nI b ↔ a ≤ b := nI_leI ha hb
    have e3 : nI b ≤ nI a ↔ b ≤ a := nI_leI hb ha
    have e4 : nI a < nI b ↔ a < b := nI_ltI ha hb
    have e5 : nI b < nI a ↔ b < a := nI_ltI hb ha
    first | exact e1.mp h | exact e2.mp h | exact e3.mp h | exact e4.mp h | exact e5.mp h | exact fun q => h (e1.mpr q) | exact Classical.byContradiction fun q => h (e1.mpr q) | exact Nat.not_lt.mp fun q => h (e4.mpr q) | exact Nat.not_lt.mp fun q => h (e5.mpr q) | exact Nat.not_le.mp fun q => h (e2.mpr q) | exact Nat.not_le.mp fun q => h (e3.mpr q) | exact Classical.byContradiction fun q => h (fun z => q (e1.mp z)))) (fun h => kf (by
    have e1 : nI a = nI b ↔ a = b := nI_eq ha hb
    have e2 : nI a ≤ nI b ↔ a ≤ b := nI_leI ha hb
    have e3 : nI b ≤ nI a ↔ b ≤ a := nI_leI hb ha
    have e4 : nI a < nI b ↔ a < b := nI_ltI ha hb
    have e5 : nI b < nI a ↔ b < a := nI_ltI hb ha
    first | exact e1.mp h | exact e2.mp h | exact e3.mp h | exact e4.mp h | exact e5.mp h | exact fun q => h (e1.mpr q) | exact Classical.byContradiction fun q => h (e1.mpr q) | exact Nat.not_lt.mp fun q => h (e4.mpr q) | exact Nat.not_lt.mp fun q => h (e5.mpr q) | exact Nat.not_le.mp fun q => h (e2.mpr q) | exact Nat.not_le.mp fun q => h (e3.mpr q) | exact Classical.byContradiction fun q => h (fun z => q (e1.mp z))))
theorem j_if_eqN {X : jC} {cc : ByteArray} {own : String} {R : Room} {kk : Nat → Nat} {nL : Nat} (C : jF X cc own R kk nL) {ce sl : Nat} {w : va_W} {lv : List (Nat × Value)} {pc : Nat} {st : List Value} {a : Nat} {off : Int} (tgt : Nat) (ht : (pc : Int) + off = (tgt : Int)) (ha : a < 2 ^ 31) (d : decode cc pc = .ok (.ifCond .eq off, 3)) (kt : a = 0 → J X ce sl w lv tgt st) (kf : ¬ a = 0 → J X ce sl w lv (pc + 3) st) : J X ce sl w lv pc (.int (nI a) :: st) := by
  have hb : (0 : Nat) < 2 ^ 31 := by decide
  exact j_if_eq C tgt ht d (fun h => kt (by
    have e1 : nI a = nI 0 ↔ a = 0 := nI_eq ha hb
    have e2 : nI a ≤ nI 0 ↔ a ≤ 0 := nI_leI ha hb
    have e3 : nI 0 ≤ nI a ↔ 0 ≤ a := nI_leI hb ha
    have e4 : nI a < nI 0 ↔ a < 0 := nI_ltI ha hb
    have e5 : nI 0 < nI a ↔ 0 < a := nI_ltI hb ha
    first | exact e1.mp h | exact e2.mp h | exact e3.mp h | exact e4.mp h | exact e5.mp h | exact fun q => h (e1.mpr q) | exact Classical.byContradiction fun q => h (e1.mpr q) | exact Nat.not_lt.mp fun q => h (e4.mpr q) | exact Nat.not_lt.mp fun q => h (e5.mpr q) | exact Nat.not_le.mp fun q => h (e2.mpr q) | exact Nat.not_le.mp fun q => h (e3.mpr q) | exact Classical.byContradiction fun q => h (fun z => q (e1.mp z)))) (fun h => kf (by
    have e1 : nI a = nI 0 ↔ a = 0 := nI_eq ha hb
    have e2 : nI a ≤ nI 0 ↔ a ≤ 0 := nI_leI ha hb
    have e3 : nI 0 ≤ nI a ↔ 0 ≤ a := nI_leI hb ha
    have e4 : nI a < nI 0 ↔ a < 0 := nI_ltI ha hb
    have e5 : nI 0 < nI a ↔ 0 < a := nI_ltI hb ha
    first | exact e1.mp h | exact e2.mp h | exact e3.mp h | exact e4.mp h | exact e5.mp h | exact fun q => h (e1.mpr q) | exact Classical.byContradiction fun q => h (e1.mpr q) | exact Nat.not_lt.mp fun q => h (e4.mpr q) | exact Nat.not_lt.mp fun q => h (e5.mpr q) | exact Nat.not_le.mp fun q => h (e2.mpr q) | exact Nat.not_le.mp fun q => h (e3.mpr q) | exact Classical.byContradiction fun q => h (fun z => q (e1.mp z))))
theorem j_icmp_neN {X : jC} {cc : ByteArray} {own : String} {R : Room} {kk : Nat → Nat} {nL : Nat} (C : jF X cc own R kk nL) {ce sl : Nat} {w : va_W} {lv : List (Nat × Value)} {pc : Nat} {st : List Value} {a b : Nat} {off : Int} (tgt : Nat) (ht : (pc : Int) + off = (tgt : Int)) (ha : a < 2 ^ 31) (hb : b < 2 ^ 31) (d : decode cc pc = .ok (.if_icmp .ne off, 3)) (kt : ¬ a = b → J X ce sl w lv tgt st) (kf : a = b → J X ce sl w lv (pc + 3) st) : J X ce sl w lv pc (.int (nI b) :: .int (nI a) :: st) :=
  j_icmp_ne C tgt ht d (fun h => kt (by
    have e1 : nI a = nI b ↔ a = b := nI_eq ha hb
    have e2 : nI a ≤ nI b ↔ a ≤ b := nI_leI ha hb
    have e3 : nI b ≤ nI a ↔ b ≤ a := nI_leI hb ha
    have e4 : nI a < nI b ↔ a < b := nI_ltI ha hb
    have e5 : nI b < nI a ↔ b < a := nI_ltI hb ha
    first | exact e1.mp h | exact e2.mp h | exact e3.mp h | exact e4.mp h | exact e5.mp h | exact fun q => h (e1.mpr q) | exact Classical.byContradiction fun q => h (e1.mpr q) | exact Nat.not_lt.mp fun q => h (e4.mpr q) | exact Nat.not_lt.mp fun q => h (e5.mpr q) | exact Nat.not_le.mp fun q => h (e2.mpr q) | exact Nat.not_le.mp fun q => h (e3.mpr q) | exact Classical.byContradiction fun q => h (fun z => q (e1.mp z)))) (fun h => kf (by
    have e1 : nI a = nI b ↔ a = b := nI_eq ha hb
    have e2 : nI a ≤ nI b ↔ a ≤ b := nI_leI ha hb
    have e3 : nI b ≤ nI a ↔ b ≤ a := nI_leI hb ha
    have e4 : nI a < nI b ↔ a < b := nI_ltI ha hb
    have e5 : nI b < nI a ↔ b < a := nI_ltI hb ha
    first | exact e1.mp h | exact e2.mp h | exact e3.mp h | exact e4.mp h | exact e5.mp h | exact fun q => h (e1.mpr q) | exact Classical.byContradiction fun q => h (e1.mpr q) | exact Nat.not_lt.mp fun q => h (e4.mpr q) | exact Nat.not_lt.mp fun q => h (e5.mpr q) | exact Nat.not_le.mp fun q => h (e2.mpr q) | exact Nat.not_le.mp fun q => h (e3.mpr q) | exact Classical.byContradiction fun q => h (fun z => q (e1.mp z))))
theorem j_if_neN {X : jC} {cc : ByteArray} {own : String} {R : Room} {kk : Nat → Nat} {nL : Nat} (C : jF X cc own R kk nL) {ce sl : Nat} {w : va_W} {lv : List (Nat × Value)} {pc : Nat} {st : List Value} {a : Nat} {off : Int} (tgt : Nat) (ht : (pc : Int) + off = (tgt : Int)) (ha : a < 2 ^ 31) (d : decode cc pc = .ok (.ifCond .ne off, 3)) (kt : ¬ a = 0 → J X ce sl w lv tgt st) (kf : a = 0 → J X ce sl w lv (pc + 3) st) : J X ce sl w lv pc (.int (nI a) :: st) := by
  have hb : (0 : Nat) < 2 ^ 31 := by decide
  exact j_if_ne C tgt ht d (fun h => kt (by
    have e1 : nI a = nI 0 ↔ a = 0 := nI_eq ha hb
    have e2 : nI a ≤ nI 0 ↔ a ≤ 0 := nI_leI ha hb
    have e3 : nI 0 ≤ nI a ↔ 0 ≤ a := nI_leI hb ha
    have e4 : nI a < nI 0 ↔ a < 0 := nI_ltI ha hb
    have e5 : nI 0 < nI a ↔ 0 < a := nI_ltI hb ha
    first | exact e1.mp h | exact e2.mp h | exact e3.mp h | exact e4.mp h | exact e5.mp h | exact fun q => h (e1.mpr q) | exact Classical.byContradiction fun q => h (e1.mpr q) | exact Nat.not_lt.mp fun q => h (e4.mpr q) | exact Nat.not_lt.mp fun q => h (e5.mpr q) | exact Nat.not_le.mp fun q => h (e2.mpr q) | exact Nat.not_le.mp fun q => h (e3.mpr q) | exact Classical.byContradiction fun q => h (fun z => q (e1.mp z)))) (fun h => kf (by
    have e1 : nI a = nI 0 ↔ a = 0 := nI_eq ha hb
    have e2 : nI a ≤ nI 0 ↔ a ≤ 0 := nI_leI ha hb
    have e3 : nI 0 ≤ nI a ↔ 0 ≤ a := nI_leI hb ha
    have e4 : nI a < nI 0 ↔ a < 0 := nI_ltI ha hb
    have e5 : nI 0 < nI a ↔ 0 < a := nI_ltI hb ha
    first | exact e1.mp h | exact e2.mp h | exact e3.mp h | exact e4.mp h | exact e5.mp h | exact fun q => h (e1.mpr q) | exact Classical.byContradiction fun q => h (e1.mpr q) | exact Nat.not_lt.mp fun q => h (e4.mpr q) | exact Nat.not_lt.mp fun q => h (e5.mpr q) | exact Nat.not_le.mp fun q => h (e2.mpr q) | exact Nat.not_le.mp fun q => h (e3.mpr q) | exact Classical.byContradiction fun q => h (fun z => q (e1.mp z))))
theorem j_icmp_ltN {X : jC} {cc : ByteArray} {own : String} {R : Room} {kk : Nat → Nat} {nL : Nat} (C : jF X cc own R kk nL) {ce sl : Nat} {w : va_W} {lv : List (Nat × Value)} {pc : Nat} {st : List Value} {a b : Nat} {off : Int} (tgt : Nat) (ht : (pc : Int) + off = (tgt : Int)) (ha : a < 2 ^ 31) (hb : b < 2 ^ 31) (d : decode cc pc = .ok (.if_icmp .lt off, 3)) (kt : a < b → J X ce sl w lv tgt st) (kf : b ≤ a → J X ce sl w lv (pc + 3) st) : J X ce sl w lv pc (.int (nI b) :: .int (nI a) :: st) :=
  j_icmp_lt C tgt ht d (fun h => kt (by
    have e1 : nI a = nI b ↔ a = b := nI_eq ha hb
    have e2 : nI a ≤ nI b ↔ a ≤ b := nI_leI ha hb
    have e3 : nI b ≤ nI a ↔ b ≤ a := nI_leI hb ha
    have e4 : nI a < nI b ↔ a < b := nI_ltI ha hb
    have e5 : nI b < nI a ↔ b < a := nI_ltI hb ha
    first | exact e1.mp h | exact e2.mp h | exact e3.mp h | exact e4.mp h | exact e5.mp h | exact fun q => h (e1.mpr q) | exact Classical.byContradiction fun q => h (e1.mpr q) | exact Nat.not_lt.mp fun q => h (e4.mpr q) | exact Nat.not_lt.mp fun q => h (e5.mpr q) | exact Nat.not_le.mp fun q => h (e2.mpr q) | exact Nat.not_le.mp fun q => h (e3.mpr q) | exact Classical.byContradiction fun q => h (fun z => q (e1.mp z)))) (fun h => kf (by
    have e1 : nI a = nI b ↔ a = b := nI_eq ha hb
    have e2 : nI a ≤ nI b ↔ a ≤ b := nI_leI ha hb
    have e3 : nI b ≤ nI a ↔ b ≤ a := nI_leI hb ha
    have e4 : nI a < nI b ↔ a < b := nI_ltI ha hb
    have e5 : nI b < nI a ↔ b < a := nI_ltI hb ha
    first | exact e1.mp h | exact e2.mp h | exact e3.mp h | exact e4.mp h | exact e5.mp h | exact fun q => h (e1.mpr q) | exact Classical.byContradiction fun q => h (e1.mpr q) | exact Nat.not_lt.mp fun q => h (e4.mpr q) | exact Nat.not_lt.mp fun q => h (e5.mpr q) | exact Nat.not_le.mp fun q => h (e2.mpr q) | exact Nat.not_le.mp fun q => h (e3.mpr q) | exact Classical.byContradiction fun q => h (fun z => q (e1.mp z))))
theorem j_if_ltN {X : jC} {cc : ByteArray} {own : String} {R : Room} {kk : Nat → Nat} {nL : Nat} (C : jF X cc own R kk nL) {ce sl : Nat} {w : va_W} {lv : List (Nat × Value)} {pc : Nat} {st : List Value} {a : Nat} {off : Int} (tgt : Nat) (ht : (pc : Int) + off = (tgt : Int)) (ha : a < 2 ^ 31) (d : decode cc pc = .ok (.ifCond .lt off, 3)) (kt : a < 0 → J X ce sl w lv tgt st) (kf : 0 ≤ a → J X ce sl w lv (pc + 3) st) : J X ce sl w lv pc (.int (nI a) :: st) := by
  have hb : (0 : Nat) < 2 ^ 31 := by decide
  exact j_if_lt C tgt ht d (fun h => kt (by
    have e1 : nI a = nI 0 ↔ a = 0 := nI_eq ha hb
    have e2 : nI a ≤ nI 0 ↔ a ≤ 0 := nI_leI ha hb
    have e3 : nI 0 ≤ nI a ↔ 0 ≤ a := nI_leI hb ha
    have e4 : nI a < nI 0 ↔ a < 0 := nI_ltI ha hb
    have e5 : nI 0 < nI a ↔ 0 < a := nI_ltI hb ha
    first | exact e1.mp h | exact e2.mp h | exact e3.mp h | exact e4.mp h | exact e5.mp h | exact fun q => h (e1.mpr q) | exact Classical.byContradiction fun q => h (e1.mpr q) | exact Nat.not_lt.mp fun q => h (e4.mpr q) | exact Nat.not_lt.mp fun q => h (e5.mpr q) | exact Nat.not_le.mp fun q => h (e2.mpr q) | exact Nat.not_le.mp fun q => h (e3.mpr q) | exact Classical.byContradiction fun q => h (fun z => q (e1.mp z)))) (fun h => kf (by
    have e1 : nI a = nI 0 ↔ a = 0 := nI_eq ha hb
    have e2 : nI a ≤ nI 0 ↔ a ≤ 0 := nI_leI ha hb
    have e3 : nI 0 ≤ nI a ↔ 0 ≤ a := nI_leI hb ha
    have e4 : nI a < nI 0 ↔ a < 0 := nI_ltI ha hb
    have e5 : nI 0 < nI a ↔ 0 < a := nI_ltI hb ha
    first | exact e1.mp h | exact e2.mp h | exact e3.mp h | exact e4.mp h | exact e5.mp h | exact fun q => h (e1.mpr q) | exact Classical.byContradiction fun q => h (e1.mpr q) | exact Nat.not_lt.mp fun q => h (e4.mpr q) | exact Nat.not_lt.mp fun q => h (e5.mpr q) | exact Nat.not_le.mp fun q => h (e2.mpr q) | exact Nat.not_le.mp fun q => h (e3.mpr q) | exact Classical.byContradiction fun q => h (fun z => q (e1.mp z))))
theorem j_icmp_geN {X : jC} {cc : ByteArray} {own : String} {R : Room} {kk : Nat → Nat} {nL : Nat} (C : jF X cc own R kk nL) {ce sl : Nat} {w : va_W} {lv : List (Nat × Value)} {pc : Nat} {st : List Value} {a b : Nat} {off : Int} (tgt : Nat) (ht : (pc : Int) + off = (tgt : Int)) (ha : a < 2 ^ 31) (hb : b < 2 ^ 31) (d : decode cc pc = .ok (.if_icmp .ge off, 3)) (kt : b ≤ a → J X ce sl w lv tgt st) (kf : a < b → J X ce sl w lv (pc + 3) st) : J X ce sl w lv pc (.int (nI b) :: .int (nI a) :: st) :=
  j_icmp_ge C tgt ht d (fun h => kt (by
    have e1 : nI a = nI b ↔ a = b := nI_eq ha hb
    have e2 : nI a ≤ nI b ↔ a ≤ b := nI_leI ha hb
    have e3 : nI b ≤ nI a ↔ b ≤ a := nI_leI hb ha
    have e4 : nI a < nI b ↔ a < b := nI_ltI ha hb
    have e5 : nI b < nI a ↔ b < a := nI_ltI hb ha
    first | exact e1.mp h | exact e2.mp h | exact e3.mp h | exact e4.mp h | exact e5.mp h | exact fun q => h (e1.mpr q) | exact Classical.byContradiction fun q => h (e1.mpr q) | exact Nat.not_lt.mp fun q => h (e4.mpr q) | exact Nat.not_lt.mp fun q => h (e5.mpr q) | exact Nat.not_le.mp fun q => h (e2.mpr q) | exact Nat.not_le.mp fun q => h (e3.mpr q) | exact Classical.byContradiction fun q => h (fun z => q (e1.mp z)))) (fun h => kf (by
    have e1 : nI a = nI b ↔ a = b := nI_eq ha hb
    have e2 : nI a ≤ nI b ↔ a ≤ b := nI_leI ha hb
    have e3 : nI b ≤ nI a ↔ b ≤ a := nI_leI hb ha
    have e4 : nI a < nI b ↔ a < b := nI_ltI ha hb
    have e5 : nI b < nI a ↔ b < a := nI_ltI hb ha
    first | exact e1.mp h | exact e2.mp h | exact e3.mp h | exact e4.mp h | exact e5.mp h | exact fun q => h (e1.mpr q) | exact Classical.byContradiction fun q => h (e1.mpr q) | exact Nat.not_lt.mp fun q => h (e4.mpr q) | exact Nat.not_lt.mp fun q => h (e5.mpr q) | exact Nat.not_le.mp fun q => h (e2.mpr q) | exact Nat.not_le.mp fun q => h (e3.mpr q) | exact Classical.byContradiction fun q => h (fun z => q (e1.mp z))))
theorem j_if_geN {X : jC} {cc : ByteArray} {own : String} {R : Room} {kk : Nat → Nat} {nL : Nat} (C : jF X cc own R kk nL) {ce sl : Nat} {w : va_W} {lv : List (Nat × Value)} {pc : Nat} {st : List Value} {a : Nat} {off : Int} (tgt : Nat) (ht : (pc : Int) + off = (tgt : Int)) (ha : a < 2 ^ 31) (d : decode cc pc = .ok (.ifCond .ge off, 3)) (kt : 0 ≤ a → J X ce sl w lv tgt st) (kf : a < 0 → J X ce sl w lv (pc + 3) st) : J X ce sl w lv pc (.int (nI a) :: st) := by
  have hb : (0 : Nat) < 2 ^ 31 := by decide
  exact j_if_ge C tgt ht d (fun h => kt (by
    have e1 : nI a = nI 0 ↔ a = 0 := nI_eq ha hb
    have e2 : nI a ≤ nI 0 ↔ a ≤ 0 := nI_leI ha hb
    have e3 : nI 0 ≤ nI a ↔ 0 ≤ a := nI_leI hb ha
    have e4 : nI a < nI 0 ↔ a < 0 := nI_ltI ha hb
    have e5 : nI 0 < nI a ↔ 0 < a := nI_ltI hb ha
    first | exact e1.mp h | exact e2.mp h | exact e3.mp h | exact e4.mp h | exact e5.mp h | exact fun q => h (e1.mpr q) | exact Classical.byContradiction fun q => h (e1.mpr q) | exact Nat.not_lt.mp fun q => h (e4.mpr q) | exact Nat.not_lt.mp fun q => h (e5.mpr q) | exact Nat.not_le.mp fun q => h (e2.mpr q) | exact Nat.not_le.mp fun q => h (e3.mpr q) | exact Classical.byContradiction fun q => h (fun z => q (e1.mp z)))) (fun h => kf (by
    have e1 : nI a = nI 0 ↔ a = 0 := nI_eq ha hb
    have e2 : nI a ≤ nI 0 ↔ a ≤ 0 := nI_leI ha hb
    have e3 : nI 0 ≤ nI a ↔ 0 ≤ a := nI_leI hb ha
    have e4 : nI a < nI 0 ↔ a < 0 := nI_ltI ha hb
    have e5 : nI 0 < nI a ↔ 0 < a := nI_ltI hb ha
    first | exact e1.mp h | exact e2.mp h | exact e3.mp h | exact e4.mp h | exact e5.mp h | exact fun q => h (e1.mpr q) | exact Classical.byContradiction fun q => h (e1.mpr q) | exact Nat.not_lt.mp fun q => h (e4.mpr q) | exact Nat.not_lt.mp fun q => h (e5.mpr q) | exact Nat.not_le.mp fun q => h (e2.mpr q) | exact Nat.not_le.mp fun q => h (e3.mpr q) | exact Classical.byContradiction fun q => h (fun z => q (e1.mp z))))
theorem j_icmp_gtN {X : jC} {cc : ByteArray} {own : String} {R : Room} {kk : Nat → Nat} {nL : Nat} (C : jF X cc own R kk nL) {ce sl : Nat} {w : va_W} {lv : List (Nat × Value)} {pc : Nat} {st : List Value} {a b : Nat} {off : Int} (tgt : Nat) (ht : (pc : Int) + off = (tgt : Int)) (ha : a < 2 ^ 31) (hb : b < 2 ^ 31) (d : decode cc pc = .ok (.if_icmp .gt off, 3)) (kt : b < a → J X ce sl w lv tgt st) (kf : a ≤ b → J X ce sl w lv (pc + 3) st) : J X ce sl w lv pc (.int (nI b) :: .int (nI a) :: st) :=
  j_icmp_gt C tgt ht d (fun h => kt (by
    have e1 : nI a = nI b ↔ a = b := nI_eq ha hb
    have e2 : nI a ≤ nI b ↔ a ≤ b := nI_leI ha hb
    have e3 : nI b ≤ nI a ↔ b ≤ a := nI_leI hb ha
    have e4 : nI a < nI b ↔ a < b := nI_ltI ha hb
    have e5 : nI b < nI a ↔ b < a := nI_ltI hb ha
    first | exact e1.mp h | exact e2.mp h | exact e3.mp h | exact e4.mp h | exact e5.mp h | exact fun q => h (e1.mpr q) | exact Classical.byContradiction fun q => h (e1.mpr q) | exact Nat.not_lt.mp fun q => h (e4.mpr q) | exact Nat.not_lt.mp fun q => h (e5.mpr q) | exact Nat.not_le.mp fun q => h (e2.mpr q) | exact Nat.not_le.mp fun q => h (e3.mpr q) | exact Classical.byContradiction fun q => h (fun z => q (e1.mp z)))) (fun h => kf (by
    have e1 : nI a = nI b ↔ a = b := nI_eq ha hb
    have e2 : nI a ≤ nI b ↔ a ≤ b := nI_leI ha hb
    have e3 : nI b ≤ nI a ↔ b ≤ a := nI_leI hb ha
    have e4 : nI a < nI b ↔ a < b := nI_ltI ha hb
    have e5 : nI b < nI a ↔ b < a := nI_ltI hb ha
    first | exact e1.mp h | exact e2.mp h | exact e3.mp h | exact e4.mp h | exact e5.mp h | exact fun q => h (e1.mpr q) | exact Classical.byContradiction fun q => h (e1.mpr q) | exact Nat.not_lt.mp fun q => h (e4.mpr q) | exact Nat.not_lt.mp fun q => h (e5.mpr q) | exact Nat.not_le.mp fun q => h (e2.mpr q) | exact Nat.not_le.mp fun q => h (e3.mpr q) | exact Classical.byContradiction fun q => h (fun z => q (e1.mp z))))
theorem j_if_gtN {X : jC} {cc : ByteArray} {own : String} {R : Room} {kk : Nat → Nat} {nL : Nat} (C : jF X cc own R kk nL) {ce sl : Nat} {w : va_W} {lv : List (Nat × Value)} {pc : Nat} {st : List Value} {a : Nat} {off : Int} (tgt : Nat) (ht : (pc : Int) + off = (tgt : Int)) (ha : a < 2 ^ 31) (d : decode cc pc = .ok (.ifCond .gt off, 3)) (kt : 0 < a → J X ce sl w lv tgt st) (kf : a ≤ 0 → J X ce sl w lv (pc + 3) st) : J X ce sl w lv pc (.int (nI a) :: st) := by
  have hb : (0 : Nat) < 2 ^ 31 := by decide
  exact j_if_gt C tgt ht d (fun h => kt (by
    have e1 : nI a = nI 0 ↔ a = 0 := nI_eq ha hb
    have e2 : nI a ≤ nI 0 ↔ a ≤ 0 := nI_leI ha hb
    have e3 : nI 0 ≤ nI a ↔ 0 ≤ a := nI_leI hb ha
    have e4 : nI a < nI 0 ↔ a < 0 := nI_ltI ha hb
    have e5 : nI 0 < nI a ↔ 0 < a := nI_ltI hb ha
    first | exact e1.mp h | exact e2.mp h | exact e3.mp h | exact e4.mp h | exact e5.mp h | exact fun q => h (e1.mpr q) | exact Classical.byContradiction fun q => h (e1.mpr q) | exact Nat.not_lt.mp fun q => h (e4.mpr q) | exact Nat.not_lt.mp fun q => h (e5.mpr q) | exact Nat.not_le.mp fun q => h (e2.mpr q) | exact Nat.not_le.mp fun q => h (e3.mpr q) | exact Classical.byContradiction fun q => h (fun z => q (e1.mp z)))) (fun h => kf (by
    have e1 : nI a = nI 0 ↔ a = 0 := nI_eq ha hb
    have e2 : nI a ≤ nI 0 ↔ a ≤ 0 := nI_leI ha hb
    have e3 : nI 0 ≤ nI a ↔ 0 ≤ a := nI_leI hb ha
    have e4 : nI a < nI 0 ↔ a < 0 := nI_ltI ha hb
    have e5 : nI 0 < nI a ↔ 0 < a := nI_ltI hb ha
    first | exact e1.mp h | exact e2.mp h | exact e3.mp h | exact e4.mp h | exact e5.mp h | exact fun q => h (e1.mpr q) | exact Classical.byContradiction fun q => h (e1.mpr q) | exact Nat.not_lt.mp fun q => h (e4.mpr q) | exact Nat.not_lt.mp fun q => h (e5.mpr q) | exact Nat.not_le.mp fun q => h (e2.mpr q) | exact Nat.not_le.mp fun q => h (e3.mpr q) | exact Classical.byContradiction fun q => h (fun z => q (e1.mp z))))
theorem j_icmp_leN {X : jC} {cc : ByteArray} {own : String} {R : Room} {kk : Nat → Nat} {nL : Nat} (C : jF X cc own R kk nL) {ce sl : Nat} {w : va_W} {lv : List (Nat × Value)} {pc : Nat} {st : List Value} {a b : Nat} {off : Int} (tgt : Nat) (ht : (pc : Int) + off = (tgt : Int)) (ha : a < 2 ^ 31) (hb : b < 2 ^ 31) (d : decode cc pc = .ok (.if_icmp .le off, 3)) (kt : a ≤ b → J X ce sl w lv tgt st) (kf : b < a → J X ce sl w lv (pc + 3) st) : J X ce sl w lv pc (.int (nI b) :: .int (nI a) :: st) :=
  j_icmp_le C tgt ht d (fun h => kt (by
    have e1 : nI a = nI b ↔ a = b := nI_eq ha hb
    have e2 : nI a ≤ nI b ↔ a ≤ b := nI_leI ha hb
    have e3 : nI b ≤ nI a ↔ b ≤ a := nI_leI hb ha
    have e4 : nI a < nI b ↔ a < b := nI_ltI ha hb
    have e5 : nI b < nI a ↔ b < a := nI_ltI hb ha
    first | exact e1.mp h | exact e2.mp h | exact e3.mp h | exact e4.mp h | exact e5.mp h | exact fun q => h (e1.mpr q) | exact Classical.byContradiction fun q => h (e1.mpr q) | exact Nat.not_lt.mp fun q => h (e4.mpr q) | exact Nat.not_lt.mp fun q => h (e5.mpr q) | exact Nat.not_le.mp fun q => h (e2.mpr q) | exact Nat.not_le.mp fun q => h (e3.mpr q) | exact Classical.byContradiction fun q => h (fun z => q (e1.mp z)))) (fun h => kf (by
    have e1 : nI a = nI b ↔ a = b := nI_eq ha hb
    have e2 : nI a ≤ nI b ↔ a ≤ b := nI_leI ha hb
    have e3 : nI b ≤ nI a ↔ b ≤ a := nI_leI hb ha
    have e4 : nI a < nI b ↔ a < b := nI_ltI ha hb
    have e5 : nI b < nI a ↔ b < a := nI_ltI hb ha
    first | exact e1.mp h | exact e2.mp h | exact e3.mp h | exact e4.mp h | exact e5.mp h | exact fun q => h (e1.mpr q) | exact Classical.byContradiction fun q => h (e1.mpr q) | exact Nat.not_lt.mp fun q => h (e4.mpr q) | exact Nat.not_lt.mp fun q => h (e5.mpr q) | exact Nat.not_le.mp fun q => h (e2.mpr q) | exact Nat.not_le.mp fun q => h (e3.mpr q) | exact Classical.byContradiction fun q => h (fun z => q (e1.mp z))))
theorem j_if_leN {X : jC} {cc : ByteArray} {own : String} {R : Room} {kk : Nat → Nat} {nL : Nat} (C : jF X cc own R kk nL) {ce sl : Nat} {w : va_W} {lv : List (Nat × Value)} {pc : Nat} {st : List Value} {a : Nat} {off : Int} (tgt : Nat) (ht : (pc : Int) + off = (tgt : Int)) (ha : a < 2 ^ 31) (d : decode cc pc = .ok (.ifCond .le off, 3)) (kt : a ≤ 0 → J X ce sl w lv tgt st) (kf : 0 < a → J X ce sl w lv (pc + 3) st) : J X ce sl w lv pc (.int (nI a) :: st) := by
  have hb : (0 : Nat) < 2 ^ 31 := by decide
  exact j_if_le C tgt ht d (fun h => kt (by
    have e1 : nI a = nI 0 ↔ a = 0 := nI_eq ha hb
    have e2 : nI a ≤ nI 0 ↔ a ≤ 0 := nI_leI ha hb
    have e3 : nI 0 ≤ nI a ↔ 0 ≤ a := nI_leI hb ha
    have e4 : nI a < nI 0 ↔ a < 0 := nI_ltI ha hb
    have e5 : nI 0 < nI a ↔ 0 < a := nI_ltI hb ha
    first | exact e1.mp h | exact e2.mp h | exact e3.mp h | exact e4.mp h | exact e5.mp h | exact fun q => h (e1.mpr q) | exact Classical.byContradiction fun q => h (e1.mpr q) | exact Nat.not_lt.mp fun q => h (e4.mpr q) | exact Nat.not_lt.mp fun q => h (e5.mpr q) | exact Nat.not_le.mp fun q => h (e2.mpr q) | exact Nat.not_le.mp fun q => h (e3.mpr q) | exact Classical.byContradiction fun q => h (fun z => q (e1.mp z)))) (fun h => kf (by
    have e1 : nI a = nI 0 ↔ a = 0 := nI_eq ha hb
    have e2 : nI a ≤ nI 0 ↔ a ≤ 0 := nI_leI ha hb
    have e3 : nI 0 ≤ nI a ↔ 0 ≤ a := nI_leI hb ha
    have e4 : nI a < nI 0 ↔ a < 0 := nI_ltI ha hb
    have e5 : nI 0 < nI a ↔ 0 < a := nI_ltI hb ha
    first | exact e1.mp h | exact e2.mp h | exact e3.mp h | exact e4.mp h | exact e5.mp h | exact fun q => h (e1.mpr q) | exact Classical.byContradiction fun q => h (e1.mpr q) | exact Nat.not_lt.mp fun q => h (e4.mpr q) | exact Nat.not_lt.mp fun q => h (e5.mpr q) | exact Nat.not_le.mp fun q => h (e2.mpr q) | exact Nat.not_le.mp fun q => h (e3.mpr q) | exact Classical.byContradiction fun q => h (fun z => q (e1.mp z))))
theorem j_V1 {X : jC} {cc : ByteArray} {own : String} {R : Room} {kk : Nat → Nat} {nL : Nat} (C : jF X cc own R kk nL) {lv : List (Nat × Value)} {pc : Nat} {As rest st0 : List Value} {b : Nat} {S : Type} {y : MethodName} {bytes : ByteArray} {maxL n index : Nat} {ret : Option FieldType} {fr lo : Nat} {cells : S → va_W} {post : Option Value → S → Prop} {wc : va_W} (hM : jM y bytes maxL ret { frames := fr, cells := 0, slots := 0, locals := lo } kk wc (.ref b :: As) cells post) (Y : jY y bytes maxL ret n) (hl : Cond.methodLink own index y ∈ lw_tbl) (hi : Cond.instanceMethod y ∈ lw_tbl) (hs : Cond.selects y.cls y y ∈ lw_tbl) (q0 : Nat) {ci : Nat} {fs : List Value} {T : u_T} {N : Nat} (hc : vwCl[ci]? = some (y.cls, T, N)) (he : wc[q0]? = some (b, .inr (ci, fs))) (hn : As.length = n) (hst : (rest.map fun v => v.category).sum ≤ 8) (hR1 : fr + 1 ≤ R.frames ∧ 8 + (maxL + 11) + lo ≤ R.locals) (d : decode cc pc = .ok (.invokevirtual index, 3)) (hstk : st0 = As.reverse ++ .ref b :: rest)
    (k : ∀ (v : Option Value) (u : S), post v u → J X 0 0 (cells u) lv (pc + 3) (v.toList ++ rest)) : J X 0 0 wc lv pc st0 :=
  j_V C [] hM Y hl hi hs q0 hc he hn hst hR1 ⟨Nat.zero_le _, Nat.zero_le _⟩ d hstk k
theorem j_S1 {X : jC} {cc : ByteArray} {own : String} {R : Room} {kk : Nat → Nat} {nL : Nat} (C : jF X cc own R kk nL) {lv : List (Nat × Value)} {pc : Nat} {As rest st0 : List Value} {S : Type} {y : MethodName} {bytes : ByteArray} {maxL n index : Nat} {ret : Option FieldType} {fr lo : Nat} {cells : S → va_W} {post : Option Value → S → Prop} {wc : va_W} (hM : jM y bytes maxL ret { frames := fr, cells := 0, slots := 0, locals := lo } kk wc As cells post) (Y : jY y bytes maxL ret n) (hl : Cond.methodLink own index y ∈ lw_tbl) (hi : Cond.static y ∈ lw_tbl) (hn : As.length = n) (hst : (rest.map fun v => v.category).sum ≤ 8) (hR1 : fr + 1 ≤ R.frames ∧ 8 + (maxL + 11) + lo ≤ R.locals) (d : decode cc pc = .ok (.invokestatic index, 3)) (hstk : st0 = As.reverse ++ rest)
    (k : ∀ (v : Option Value) (u : S), post v u → J X 0 0 (cells u) lv (pc + 3) (v.toList ++ rest)) : J X 0 0 wc lv pc st0 :=
  j_S C [] hM Y hl hi hn hst hR1 ⟨Nat.zero_le _, Nat.zero_le _⟩ d hstk k
theorem j_SN1 {X : jC} {cc : ByteArray} {own : String} {R : Room} {kk : Nat → Nat} {nL : Nat} (C : jF X cc own R kk nL) {lv : List (Nat × Value)} {pc : Nat} {As rest st0 : List Value} {S : Type} {y : MethodName} {bytes : ByteArray} {maxL n index : Nat} {ret : Option FieldType} {fr lo : Nat} {cells : S → va_W} {post : Option Value → S → Prop} {wc : va_W} (hM : jM y bytes maxL ret { frames := fr, cells := 0, slots := 0, locals := lo } kk wc As cells post) (Y : jY y bytes maxL ret n) (hl : ∀ U : State, jN U → va_Nw (.methodLinkNest own index y "RainCans") U) (hi : Cond.static y ∈ lw_tbl) (hn : As.length = n) (hst : (rest.map fun v => v.category).sum ≤ 8) (hR1 : fr + 1 ≤ R.frames ∧ 8 + (maxL + 11) + lo ≤ R.locals) (d : decode cc pc = .ok (.invokestatic index, 3)) (hstk : st0 = As.reverse ++ rest)
    (k : ∀ (v : Option Value) (u : S), post v u → J X 0 0 (cells u) lv (pc + 3) (v.toList ++ rest)) : J X 0 0 wc lv pc st0 :=
  j_SN C [] hM Y hl hi hn hst hR1 ⟨Nat.zero_le _, Nat.zero_le _⟩ d hstk k
theorem j_S01 {X : jC} {cc : ByteArray} {own : String} {R : Room} {kk : Nat → Nat} {nL : Nat} (C : jF X cc own R kk nL) {ce sl : Nat} {w : va_W} {lv : List (Nat × Value)} {pc : Nat} {As rest st0 : List Value} {y : MethodName} {bytes : ByteArray} {maxL n index : Nat} {ret : Option FieldType} {fr lo : Nat} {v : Value} (hM : jMp y bytes maxL ret { frames := fr, cells := 0, slots := 0, locals := lo } As (some v)) (Y : jY y bytes maxL ret n) (hl : Cond.methodLink own index y ∈ lw_tbl) (hi : Cond.static y ∈ lw_tbl) (hn : As.length = n) (hst : (rest.map fun v => v.category).sum ≤ 8) (hR1 : fr + 1 ≤ R.frames ∧ 8 + (maxL + 11) + lo ≤ R.locals) (hR2 : ce ≤ R.cells ∧ sl ≤ R.slots) (d : decode cc pc = .ok (.invokestatic index, 3)) (hstk : st0 = As.reverse ++ rest)
    (k : J X ce sl w lv (pc + 3) (v :: rest)) : J X ce sl w lv pc st0 :=
  j_S0 C hM Y hl hi hn hst hR1 hR2 d hstk k
theorem j_SN01 {X : jC} {cc : ByteArray} {own : String} {R : Room} {kk : Nat → Nat} {nL : Nat} (C : jF X cc own R kk nL) {ce sl : Nat} {w : va_W} {lv : List (Nat × Value)} {pc : Nat} {As rest st0 : List Value} {y : MethodName} {bytes : ByteArray} {maxL n index : Nat} {ret : Option FieldType} {fr lo : Nat} {v : Value} (hM : jMp y bytes maxL ret { frames := fr, cells := 0, slots := 0, locals := lo } As (some v)) (Y : jY y bytes maxL ret n) (hl : ∀ U : State, jN U → va_Nw (.methodLinkNest own index y "RainCans") U) (hi : Cond.static y ∈ lw_tbl) (hn : As.length = n) (hst : (rest.map fun v => v.category).sum ≤ 8) (hR1 : fr + 1 ≤ R.frames ∧ 8 + (maxL + 11) + lo ≤ R.locals) (hR2 : ce ≤ R.cells ∧ sl ≤ R.slots) (d : decode cc pc = .ok (.invokestatic index, 3)) (hstk : st0 = As.reverse ++ rest)
    (k : J X ce sl w lv (pc + 3) (v :: rest)) : J X ce sl w lv pc st0 :=
  j_SN0 C hM Y hl hi hn hst hR1 hR2 d hstk k
theorem kyX0_init : jY yX0_init cX0_init 2 none 1 := ⟨tb_276, tb_10, by decide, by decide, by decide +kernel⟩
theorem kyX0_find : jY yX0_find cX0_find 4 (some .boolean) 1 := ⟨tb_655, tb_10, by decide, by decide, by decide +kernel⟩
theorem kyX0_firstDayBehind : jY yX0_firstDayBehind cX0_firstDayBehind 1 (some .int) 0 := ⟨tb_673, tb_10, by decide, by decide, by decide +kernel⟩
theorem kyX0_step : jY yX0_step cX0_step 3 (some .int) 0 := ⟨tb_677, tb_10, by decide, by decide, by decide +kernel⟩
theorem kyX0_shuffledAsGreat : jY yX0_shuffledAsGreat cX0_shuffledAsGreat 4 (some .int) 1 := ⟨tb_685, tb_10, by decide, by decide, by decide +kernel⟩
theorem kyX0_gatherDifferences : jY yX0_gatherDifferences cX0_gatherDifferences 5 none 1 := ⟨tb_659, tb_10, by decide, by decide, by decide +kernel⟩
theorem kyX0_mix : jY yX0_mix cX0_mix 4 none 0 := ⟨tb_690, tb_10, by decide, by decide, by decide +kernel⟩
theorem kyX0_isAsGreat : jY yX0_isAsGreat cX0_isAsGreat 3 (some .boolean) 0 := ⟨tb_695, tb_10, by decide, by decide, by decide +kernel⟩
theorem kyX0_contrast : jY yX0_contrast cX0_contrast 6 (some .long) 2 := ⟨tb_664, tb_10, by decide, by decide, by decide +kernel⟩
theorem kyX0_apart : jY yX0_apart cX0_apart 3 (some .int) 2 := ⟨tb_668, tb_10, by decide, by decide, by decide +kernel⟩
theorem kyX1_init : jY yX1_init cX1_init 1 none 0 := ⟨tb_34, tb_3, by decide, by decide, by decide +kernel⟩
theorem kyX1_add : jY yX1_add cX1_add 3 none 2 := ⟨tb_503, tb_3, by decide, by decide, by decide +kernel⟩
theorem kyX1_takeBack : jY yX1_takeBack cX1_takeBack 1 none 0 := ⟨tb_511, tb_3, by decide, by decide, by decide +kernel⟩
theorem kyX1_copyFrom : jY yX1_copyFrom cX1_copyFrom 2 none 1 := ⟨tb_852, tb_3, by decide, by decide, by decide +kernel⟩
theorem kyX2_init : jY yX2_init cX2_init 1 none 0 := ⟨tb_28, tb_2, by decide, by decide, by decide +kernel⟩
theorem kyX2_addCan : jY yX2_addCan cX2_addCan 3 (some .int) 2 := ⟨tb_473, tb_2, by decide, by decide, by decide +kernel⟩
theorem kyX2_takeNotes : jY yX2_takeNotes cX2_takeNotes 4 none 2 := ⟨tb_557, tb_2, by decide, by decide, by decide +kernel⟩
theorem kyX2_counted : jY yX2_counted cX2_counted 3 (some .int) 1 := ⟨tb_573, tb_2, by decide, by decide, by decide +kernel⟩
theorem kyX2_copyFrom : jY yX2_copyFrom cX2_copyFrom 2 none 1 := ⟨tb_848, tb_2, by decide, by decide, by decide +kernel⟩
theorem kyX3_init : jY yX3_init cX3_init 2 none 1 := ⟨tb_394, tb_13, by decide, by decide, by decide +kernel⟩
theorem kyX3_countFives : jY yX3_countFives cX3_countFives 4 none 1 := ⟨tb_819, tb_13, by decide, by decide, by decide +kernel⟩
theorem kyX3_weighFives : jY yX3_weighFives cX3_weighFives 6 none 0 := ⟨tb_829, tb_13, by decide, by decide, by decide +kernel⟩
theorem kyX3_findForgotten : jY yX3_findForgotten cX3_findForgotten 3 none 1 := ⟨tb_839, tb_13, by decide, by decide, by decide +kernel⟩
theorem kyX4_init : jY yX4_init cX4_init 2 none 1 := ⟨tb_310, tb_11, by decide, by decide, by decide +kernel⟩
theorem kyX4_gather : jY yX4_gather cX4_gather 4 none 1 := ⟨tb_715, tb_11, by decide, by decide, by decide +kernel⟩
theorem kyX4_addAnchor : jY yX4_addAnchor cX4_addAnchor 5 none 4 := ⟨tb_719, tb_11, by decide, by decide, by decide +kernel⟩
theorem kyX4_boundsAt : jY yX4_boundsAt cX4_boundsAt 5 (some .boolean) 2 := ⟨tb_723, tb_11, by decide, by decide, by decide +kernel⟩
theorem kyX4_sum : jY yX4_sum cX4_sum 7 (some .boolean) 4 := ⟨tb_739, tb_11, by decide, by decide, by decide +kernel⟩
theorem kyX4_beyond : jY yX4_beyond cX4_beyond 4 (some .int) 2 := ⟨tb_749, tb_11, by decide, by decide, by decide +kernel⟩
theorem kyX4_gatherNearest : jY yX4_gatherNearest cX4_gatherNearest 7 none 4 := ⟨tb_761, tb_11, by decide, by decide, by decide +kernel⟩
theorem kyX4_nearestCan : jY yX4_nearestCan cX4_nearestCan 5 (some .int) 2 := ⟨tb_765, tb_11, by decide, by decide, by decide +kernel⟩
theorem kyX4_bestNew : jY yX4_bestNew cX4_bestNew 6 (some .int) 0 := ⟨tb_769, tb_11, by decide, by decide, by decide +kernel⟩
theorem kyX4_farness : jY yX4_farness cX4_farness 6 (some .int) 3 := ⟨tb_773, tb_11, by decide, by decide, by decide +kernel⟩
theorem kyX5_init : jY yX5_init cX5_init 1 none 0 := ⟨tb_166, tb_7, by decide, by decide, by decide +kernel⟩
theorem kyX5_add : jY yX5_add cX5_add 2 (some .int) 1 := ⟨tb_519, tb_7, by decide, by decide, by decide +kernel⟩
theorem kyX5_faultPlace : jY yX5_faultPlace cX5_faultPlace 3 (some .int) 0 := ⟨tb_531, tb_7, by decide, by decide, by decide +kernel⟩
theorem kyX5_next : jY yX5_next cX5_next 3 (some .int) 2 := ⟨tb_534, tb_7, by decide, by decide, by decide +kernel⟩
theorem kyX5_behind : jY yX5_behind cX5_behind 1 (some .int) 1 := ⟨tb_540, tb_7, by decide, by decide, by decide +kernel⟩
theorem kyX5_isDigit : jY yX5_isDigit cX5_isDigit 1 (some .boolean) 1 := ⟨tb_537, tb_7, by decide, by decide, by decide +kernel⟩
theorem kyX5_readItems : jY yX5_readItems cX5_readItems 6 (some .boolean) 0 := ⟨tb_548, tb_7, by decide, by decide, by decide +kernel⟩
theorem kyX5_takeItem : jY yX5_takeItem cX5_takeItem 9 (some .boolean) 3 := ⟨tb_553, tb_7, by decide, by decide, by decide +kernel⟩
theorem kyX6_init : jY yX6_init cX6_init 1 none 0 := ⟨tb_63, tb_5, by decide, by decide, by decide +kernel⟩
theorem kyX6_add : jY yX6_add cX6_add 6 (some .int) 5 := ⟨tb_703, tb_5, by decide, by decide, by decide +kernel⟩
theorem kyX6_copyFrom : jY yX6_copyFrom cX6_copyFrom 2 none 1 := ⟨tb_857, tb_5, by decide, by decide, by decide +kernel⟩
theorem kyX7_init : jY yX7_init cX7_init 2 none 1 := ⟨tb_196, tb_8, by decide, by decide, by decide +kernel⟩
theorem kyX7_refresh : jY yX7_refresh cX7_refresh 3 none 0 := ⟨tb_565, tb_8, by decide, by decide, by decide +kernel⟩
theorem kyX7_lookUp : jY yX7_lookUp cX7_lookUp 3 (some .int) 2 := ⟨tb_605, tb_8, by decide, by decide, by decide +kernel⟩
theorem kyX7_readDay : jY yX7_readDay cX7_readDay 6 none 2 := ⟨tb_569, tb_8, by decide, by decide, by decide +kernel⟩
theorem kyX7_fallen : jY yX7_fallen cX7_fallen 5 (some .int) 3 := ⟨tb_577, tb_8, by decide, by decide, by decide +kernel⟩
theorem kyX7_expectDays : jY yX7_expectDays cX7_expectDays 8 none 1 := ⟨tb_581, tb_8, by decide, by decide, by decide +kernel⟩
theorem kyX7_isNeighbour : jY yX7_isNeighbour cX7_isNeighbour 3 (some .boolean) 2 := ⟨tb_585, tb_8, by decide, by decide, by decide +kernel⟩
theorem kyX7_valueDays : jY yX7_valueDays cX7_valueDays 6 none 1 := ⟨tb_595, tb_8, by decide, by decide, by decide +kernel⟩
theorem kyX8_init : jY yX8_init cX8_init 2 none 1 := ⟨tb_366, tb_12, by decide, by decide, by decide +kernel⟩
theorem kyX8_gather : jY yX8_gather cX8_gather 4 none 1 := ⟨tb_785, tb_12, by decide, by decide, by decide +kernel⟩
theorem kyX8_canOn : jY yX8_canOn cX8_canOn 3 (some .int) 1 := ⟨tb_790, tb_12, by decide, by decide, by decide +kernel⟩
theorem kyX8_join : jY yX8_join cX8_join 4 none 0 := ⟨tb_798, tb_12, by decide, by decide, by decide +kernel⟩
theorem kyX8_judge : jY yX8_judge cX8_judge 8 (some .int) 1 := ⟨tb_807, tb_12, by decide, by decide, by decide +kernel⟩
theorem kyX8_spanEnd : jY yX8_spanEnd cX8_spanEnd 2 (some .int) 1 := ⟨tb_811, tb_12, by decide, by decide, by decide +kernel⟩
theorem kyX9_init : jY yX9_init cX9_init 4 none 1 := ⟨tb_232, tb_9, by decide, by decide, by decide +kernel⟩
theorem kyX9_isMending : jY yX9_isMending cX9_isMending 3 (some .boolean) 3 := ⟨tb_236, tb_9, by decide, by decide, by decide +kernel⟩
theorem kyX9_explain : jY yX9_explain cX9_explain 3 none 1 := ⟨tb_621, tb_9, by decide, by decide, by decide +kernel⟩
theorem kyX9_tryOne : jY yX9_tryOne cX9_tryOne 3 none 0 := ⟨tb_631, tb_9, by decide, by decide, by decide +kernel⟩
theorem kyX9_tryTwo : jY yX9_tryTwo cX9_tryTwo 4 none 0 := ⟨tb_645, tb_9, by decide, by decide, by decide +kernel⟩
theorem kyX9_keepBetter : jY yX9_keepBetter cX9_keepBetter 5 none 4 := ⟨tb_641, tb_9, by decide, by decide, by decide +kernel⟩
theorem kyX9_mend : jY yX9_mend cX9_mend 7 (some .boolean) 3 := ⟨tb_635, tb_9, by decide, by decide, by decide +kernel⟩
theorem kyX9_misfit : jY yX9_misfit cX9_misfit 4 (some .int) 1 := ⟨tb_626, tb_9, by decide, by decide, by decide +kernel⟩
theorem kyX10_init : jY yX10_init cX10_init 2 none 0 := ⟨tb_20, tb_1, by decide, by decide, by decide +kernel⟩
theorem kyX10_can : jY yX10_can cX10_can 3 (some .int) 2 := ⟨tb_463, tb_1, by decide, by decide, by decide +kernel⟩
theorem kyX10_miss : jY yX10_miss cX10_miss 6 (some .int) 3 := ⟨tb_477, tb_1, by decide, by decide, by decide +kernel⟩
theorem kyX10_wind : jY yX10_wind cX10_wind 4 (some .int) 2 := ⟨tb_485, tb_1, by decide, by decide, by decide +kernel⟩
theorem kyX10_raw : jY yX10_raw cX10_raw 6 (some .int) 3 := ⟨tb_492, tb_1, by decide, by decide, by decide +kernel⟩
theorem kyX10_fix : jY yX10_fix cX10_fix 4 (some .int) 3 := ⟨tb_499, tb_1, by decide, by decide, by decide +kernel⟩
theorem kyX10_undo : jY yX10_undo cX10_undo 1 (some .int) 0 := ⟨tb_507, tb_1, by decide, by decide, by decide +kernel⟩
theorem kyX10_say : jY yX10_say cX10_say 2 (some .int) 1 := ⟨tb_515, tb_1, by decide, by decide, by decide +kernel⟩
theorem kyX10_wipe : jY yX10_wipe cX10_wipe 2 (some .int) 0 := ⟨tb_523, tb_1, by decide, by decide, by decide +kernel⟩
theorem kyX10_fault : jY yX10_fault cX10_fault 1 (some .int) 0 := ⟨tb_527, tb_1, by decide, by decide, by decide +kernel⟩
theorem kyX10_note : jY yX10_note cX10_note 2 (some .int) 1 := ⟨tb_544, tb_1, by decide, by decide, by decide +kernel⟩
theorem kyX10_of : jY yX10_of cX10_of 4 (some .int) 3 := ⟨tb_561, tb_1, by decide, by decide, by decide +kernel⟩
theorem kyX10_set : jY yX10_set cX10_set 4 (some .int) 2 := ⟨tb_609, tb_1, by decide, by decide, by decide +kernel⟩
theorem kyX10_week : jY yX10_week cX10_week 4 (some .int) 3 := ⟨tb_617, tb_1, by decide, by decide, by decide +kernel⟩
theorem kyX10_breaks : jY yX10_breaks cX10_breaks 3 (some .int) 2 := ⟨tb_649, tb_1, by decide, by decide, by decide +kernel⟩
theorem kyX10_chance : jY yX10_chance cX10_chance 3 (some .int) 2 := ⟨tb_681, tb_1, by decide, by decide, by decide +kernel⟩
theorem kyX10_radar : jY yX10_radar cX10_radar 6 (some .int) 5 := ⟨tb_699, tb_1, by decide, by decide, by decide +kernel⟩
theorem kyX10_blind : jY yX10_blind cX10_blind 2 (some .int) 0 := ⟨tb_707, tb_1, by decide, by decide, by decide +kernel⟩
theorem kyX10_bound : jY yX10_bound cX10_bound 5 (some .int) 4 := ⟨tb_711, tb_1, by decide, by decide, by decide +kernel⟩
theorem kyX10_over : jY yX10_over cX10_over 7 (some .int) 6 := ⟨tb_732, tb_1, by decide, by decide, by decide +kernel⟩
theorem kyX10_flow : jY yX10_flow cX10_flow 8 (some .int) 7 := ⟨tb_744, tb_1, by decide, by decide, by decide +kernel⟩
theorem kyX10_fill : jY yX10_fill cX10_fill 4 (some .int) 3 := ⟨tb_753, tb_1, by decide, by decide, by decide +kernel⟩
theorem kyX10_place : jY yX10_place cX10_place 5 (some .int) 4 := ⟨tb_757, tb_1, by decide, by decide, by decide +kernel⟩
theorem kyX10_record : jY yX10_record cX10_record 5 (some .int) 3 := ⟨tb_777, tb_1, by decide, by decide, by decide +kernel⟩
theorem kyX10_seam : jY yX10_seam cX10_seam 3 (some .int) 2 := ⟨tb_794, tb_1, by decide, by decide, by decide +kernel⟩
theorem kyX10_claim : jY yX10_claim cX10_claim 4 (some .int) 2 := ⟨tb_803, tb_1, by decide, by decide, by decide +kernel⟩
theorem kyX10_fives : jY yX10_fives cX10_fives 3 (some .int) 2 := ⟨tb_815, tb_1, by decide, by decide, by decide +kernel⟩
theorem kyX10_odds : jY yX10_odds cX10_odds 3 (some .long) 2 := ⟨tb_823, tb_1, by decide, by decide, by decide +kernel⟩
theorem kyX10_forgets : jY yX10_forgets cX10_forgets 3 (some .int) 2 := ⟨tb_835, tb_1, by decide, by decide, by decide +kernel⟩
theorem kyX10_image : jY yX10_image cX10_image 2 (some .int) 1 := ⟨tb_844, tb_1, by decide, by decide, by decide +kernel⟩
theorem kyX10_restore : jY yX10_restore cX10_restore 2 (some .int) 1 := ⟨tb_862, tb_1, by decide, by decide, by decide +kernel⟩
theorem kyX10_told : jY yX10_told cX10_told 2 (some .int) 1 := ⟨tb_866, tb_1, by decide, by decide, by decide +kernel⟩
theorem kyX10_isCan : jY yX10_isCan cX10_isCan 2 (some .boolean) 1 := ⟨tb_481, tb_1, by decide, by decide, by decide +kernel⟩
theorem kyX10_isDay : jY yX10_isDay cX10_isDay 1 (some .boolean) 1 := ⟨tb_488, tb_1, by decide, by decide, by decide +kernel⟩
theorem kyX10_isPlace : jY yX10_isPlace cX10_isPlace 2 (some .boolean) 2 := ⟨tb_466, tb_1, by decide, by decide, by decide +kernel⟩
theorem kyX10_isLand : jY yX10_isLand cX10_isLand 4 (some .boolean) 4 := ⟨tb_735, tb_1, by decide, by decide, by decide +kernel⟩
theorem kyX10_isRow : jY yX10_isRow cX10_isRow 3 (some .boolean) 1 := ⟨tb_780, tb_1, by decide, by decide, by decide +kernel⟩
theorem kyX10_isWithin : jY yX10_isWithin cX10_isWithin 3 (some .boolean) 3 := ⟨tb_469, tb_1, by decide, by decide, by decide +kernel⟩
theorem kyX10_orNone : jY yX10_orNone cX10_orNone 1 (some .int) 1 := ⟨tb_495, tb_1, by decide, by decide, by decide +kernel⟩
theorem kyX10_far : jY yX10_far cX10_far 4 (some .int) 4 := ⟨tb_588, tb_1, by decide, by decide, by decide +kernel⟩
theorem kyX10_part : jY yX10_part cX10_part 8 none 5 := ⟨tb_598, tb_1, by decide, by decide, by decide +kernel⟩
theorem kyX11_init : jY yX11_init cX11_init 1 none 0 := ⟨tb_871, tb_14, by decide, by decide, by decide +kernel⟩
theorem kyX11_in : jY yX11_in cX11_in 6 (some .boolean) 3 := ⟨tb_1059, tb_14, by decide, by decide, by decide +kernel⟩
theorem kyX11_isDay : jY yX11_isDay cX11_isDay 1 (some .boolean) 1 := ⟨tb_1079, tb_14, by decide, by decide, by decide +kernel⟩
theorem kyX11_isPlace : jY yX11_isPlace cX11_isPlace 2 (some .boolean) 2 := ⟨tb_1055, tb_14, by decide, by decide, by decide +kernel⟩
theorem kyX11_isEnd : jY yX11_isEnd cX11_isEnd 1 (some .boolean) 1 := ⟨tb_1236, tb_14, by decide, by decide, by decide +kernel⟩
theorem kyX11_off : jY yX11_off cX11_off 2 (some .int) 2 := ⟨tb_1157, tb_14, by decide, by decide, by decide +kernel⟩
theorem kyX11_isCan : jY yX11_isCan cX11_isCan 2 (some .boolean) 1 := ⟨tb_1070, tb_14, by decide, by decide, by decide +kernel⟩
theorem kyX11_at : jY yX11_at cX11_at 2 (some .int) 2 := ⟨tb_1062, tb_14, by decide, by decide, by decide +kernel⟩
theorem kyX11_can : jY yX11_can cX11_can 4 (some .int) 2 := ⟨tb_1052, tb_14, by decide, by decide, by decide +kernel⟩
theorem kyX11_miss : jY yX11_miss cX11_miss 5 (some .int) 3 := ⟨tb_1066, tb_14, by decide, by decide, by decide +kernel⟩
theorem kyX11_wind : jY yX11_wind cX11_wind 4 (some .int) 2 := ⟨tb_1076, tb_14, by decide, by decide, by decide +kernel⟩
theorem kyX11_raw : jY yX11_raw cX11_raw 5 (some .int) 3 := ⟨tb_1084, tb_14, by decide, by decide, by decide +kernel⟩
theorem kyX11_fix : jY yX11_fix cX11_fix 4 (some .int) 3 := ⟨tb_1090, tb_14, by decide, by decide, by decide +kernel⟩
theorem kyX11_undo : jY yX11_undo cX11_undo 1 (some .int) 0 := ⟨tb_1094, tb_14, by decide, by decide, by decide +kernel⟩
theorem kyX11_say : jY yX11_say cX11_say 2 (some .int) 1 := ⟨tb_1098, tb_14, by decide, by decide, by decide +kernel⟩
theorem kyX11_wipe : jY yX11_wipe cX11_wipe 2 (some .int) 0 := ⟨tb_1104, tb_14, by decide, by decide, by decide +kernel⟩
theorem kyX11_stepOf : jY yX11_stepOf cX11_stepOf 3 (some .int) 2 := ⟨tb_1111, tb_14, by decide, by decide, by decide +kernel⟩
theorem kyX11_fault : jY yX11_fault cX11_fault 3 (some .int) 0 := ⟨tb_1108, tb_14, by decide, by decide, by decide +kernel⟩
theorem kyX11_lay : jY yX11_lay cX11_lay 9 (some .boolean) 3 := ⟨tb_1126, tb_14, by decide, by decide, by decide +kernel⟩
theorem kyX11_layAll : jY yX11_layAll cX11_layAll 10 (some .int) 0 := ⟨tb_1122, tb_14, by decide, by decide, by decide +kernel⟩
theorem kyX11_note : jY yX11_note cX11_note 4 (some .int) 1 := ⟨tb_1117, tb_14, by decide, by decide, by decide +kernel⟩
theorem kyX11_fixed : jY yX11_fixed cX11_fixed 5 (some .int) 2 := ⟨tb_1146, tb_14, by decide, by decide, by decide +kernel⟩
theorem kyX11_readOf : jY yX11_readOf cX11_readOf 4 (some .int) 2 := ⟨tb_1142, tb_14, by decide, by decide, by decide +kernel⟩
theorem kyX11_caught : jY yX11_caught cX11_caught 4 (some .int) 2 := ⟨tb_1138, tb_14, by decide, by decide, by decide +kernel⟩
theorem kyX11_areNear : jY yX11_areNear cX11_areNear 3 (some .boolean) 2 := ⟨tb_1154, tb_14, by decide, by decide, by decide +kernel⟩
theorem kyX11_expectOf : jY yX11_expectOf cX11_expectOf 7 (some .int) 2 := ⟨tb_1150, tb_14, by decide, by decide, by decide +kernel⟩
theorem kyX11_atLeast : jY yX11_atLeast cX11_atLeast 1 (some .int) 1 := ⟨tb_1164, tb_14, by decide, by decide, by decide +kernel⟩
theorem kyX11_part : jY yX11_part cX11_part 9 none 3 := ⟨tb_1161, tb_14, by decide, by decide, by decide +kernel⟩
theorem kyX11_findAll : jY yX11_findAll cX11_findAll 3 none 0 := ⟨tb_1134, tb_14, by decide, by decide, by decide +kernel⟩
theorem kyX11_of : jY yX11_of cX11_of 4 (some .int) 3 := ⟨tb_1130, tb_14, by decide, by decide, by decide +kernel⟩
theorem kyX11_numberIs : jY yX11_numberIs cX11_numberIs 2 (some .int) 1 := ⟨tb_1175, tb_14, by decide, by decide, by decide +kernel⟩
theorem kyX11_set : jY yX11_set cX11_set 4 (some .int) 2 := ⟨tb_1168, tb_14, by decide, by decide, by decide +kernel⟩
theorem kyX11_findMends : jY yX11_findMends cX11_findMends 4 none 0 := ⟨tb_1188, tb_14, by decide, by decide, by decide +kernel⟩
theorem kyX11_putMend : jY yX11_putMend cX11_putMend 5 (some .int) 4 := ⟨tb_1192, tb_14, by decide, by decide, by decide +kernel⟩
theorem kyX11_mend : jY yX11_mend cX11_mend 11 (some .boolean) 2 := ⟨tb_1200, tb_14, by decide, by decide, by decide +kernel⟩
theorem kyX11_misfit : jY yX11_misfit cX11_misfit 4 (some .int) 1 := ⟨tb_1196, tb_14, by decide, by decide, by decide +kernel⟩
theorem kyX11_findWeek : jY yX11_findWeek cX11_findWeek 5 none 2 := ⟨tb_1184, tb_14, by decide, by decide, by decide +kernel⟩
theorem kyX11_week : jY yX11_week cX11_week 5 (some .int) 3 := ⟨tb_1179, tb_14, by decide, by decide, by decide +kernel⟩
theorem kyX11_findDifferences : jY yX11_findDifferences cX11_findDifferences 3 none 1 := ⟨tb_1210, tb_14, by decide, by decide, by decide +kernel⟩
theorem kyX11_findPart : jY yX11_findPart cX11_findPart 13 none 0 := ⟨tb_1215, tb_14, by decide, by decide, by decide +kernel⟩
theorem kyX11_breaks : jY yX11_breaks cX11_breaks 3 (some .int) 2 := ⟨tb_1204, tb_14, by decide, by decide, by decide +kernel⟩
theorem kyX11_chance : jY yX11_chance cX11_chance 13 (some .int) 2 := ⟨tb_1219, tb_14, by decide, by decide, by decide +kernel⟩
theorem kyX11_radar : jY yX11_radar cX11_radar 6 (some .int) 5 := ⟨tb_1225, tb_14, by decide, by decide, by decide +kernel⟩
theorem kyX11_blind : jY yX11_blind cX11_blind 2 (some .int) 0 := ⟨tb_1229, tb_14, by decide, by decide, by decide +kernel⟩
theorem kyX11_hold : jY yX11_hold cX11_hold 6 none 3 := ⟨tb_1244, tb_14, by decide, by decide, by decide +kernel⟩
theorem kyX11_findBound : jY yX11_findBound cX11_findBound 6 (some .boolean) 3 := ⟨tb_1240, tb_14, by decide, by decide, by decide +kernel⟩
theorem kyX11_bound : jY yX11_bound cX11_bound 5 (some .int) 4 := ⟨tb_1233, tb_14, by decide, by decide, by decide +kernel⟩
theorem kyX11_isLand : jY yX11_isLand cX11_isLand 4 (some .boolean) 4 := ⟨tb_1251, tb_14, by decide, by decide, by decide +kernel⟩
theorem kyX11_findOver : jY yX11_findOver cX11_findOver 8 (some .boolean) 5 := ⟨tb_1255, tb_14, by decide, by decide, by decide +kernel⟩
theorem kyX11_over : jY yX11_over cX11_over 7 (some .int) 6 := ⟨tb_1248, tb_14, by decide, by decide, by decide +kernel⟩
theorem kyX11_flow : jY yX11_flow cX11_flow 9 (some .int) 7 := ⟨tb_1259, tb_14, by decide, by decide, by decide +kernel⟩
theorem kyX11_fill : jY yX11_fill cX11_fill 4 (some .int) 3 := ⟨tb_1265, tb_14, by decide, by decide, by decide +kernel⟩
theorem kyX11_nearest : jY yX11_nearest cX11_nearest 6 (some .int) 2 := ⟨tb_1273, tb_14, by decide, by decide, by decide +kernel⟩
theorem kyX11_place : jY yX11_place cX11_place 14 (some .int) 4 := ⟨tb_1269, tb_14, by decide, by decide, by decide +kernel⟩
theorem kyX11_isRow : jY yX11_isRow cX11_isRow 3 (some .boolean) 1 := ⟨tb_1280, tb_14, by decide, by decide, by decide +kernel⟩
theorem kyX11_toldBy : jY yX11_toldBy cX11_toldBy 6 (some .int) 2 := ⟨tb_1285, tb_14, by decide, by decide, by decide +kernel⟩
theorem kyX11_record : jY yX11_record cX11_record 5 (some .int) 3 := ⟨tb_1277, tb_14, by decide, by decide, by decide +kernel⟩
theorem kyX11_seam : jY yX11_seam cX11_seam 9 (some .int) 2 := ⟨tb_1289, tb_14, by decide, by decide, by decide +kernel⟩
theorem kyX11_spanEnd : jY yX11_spanEnd cX11_spanEnd 2 (some .int) 1 := ⟨tb_1297, tb_14, by decide, by decide, by decide +kernel⟩
theorem kyX11_claim : jY yX11_claim cX11_claim 9 (some .int) 2 := ⟨tb_1293, tb_14, by decide, by decide, by decide +kernel⟩
theorem kyX11_findFives : jY yX11_findFives cX11_findFives 4 none 1 := ⟨tb_1305, tb_14, by decide, by decide, by decide +kernel⟩
theorem kyX11_fives : jY yX11_fives cX11_fives 3 (some .int) 2 := ⟨tb_1301, tb_14, by decide, by decide, by decide +kernel⟩
theorem kyX11_odds : jY yX11_odds cX11_odds 13 (some .long) 2 := ⟨tb_1309, tb_14, by decide, by decide, by decide +kernel⟩
theorem kyX11_forgets : jY yX11_forgets cX11_forgets 8 (some .int) 2 := ⟨tb_1317, tb_14, by decide, by decide, by decide +kernel⟩
theorem kyX11_pass : jY yX11_pass cX11_pass 3 (some .int) 1 := ⟨tb_1329, tb_14, by decide, by decide, by decide +kernel⟩
theorem kyX11_passAll : jY yX11_passAll cX11_passAll 2 none 0 := ⟨tb_1325, tb_14, by decide, by decide, by decide +kernel⟩
theorem kyX11_image : jY yX11_image cX11_image 2 (some .int) 1 := ⟨tb_1321, tb_14, by decide, by decide, by decide +kernel⟩
theorem kyX11_restore : jY yX11_restore cX11_restore 2 (some .int) 1 := ⟨tb_1333, tb_14, by decide, by decide, by decide +kernel⟩
theorem kyX11_told : jY yX11_told cX11_told 2 (some .int) 1 := ⟨tb_1337, tb_14, by decide, by decide, by decide +kernel⟩
theorem kyJ9_abs_0f7a4 : jY yJ9_abs_0f7a4 cJ9_abs_0f7a4 1 (some .int) 1 := ⟨tb_591, tb_15, by decide, by decide, by decide +kernel⟩
theorem kyJ9_max_7cf53 : jY yJ9_max_7cf53 cJ9_max_7cf53 2 (some .int) 2 := ⟨tb_601, tb_15, by decide, by decide, by decide +kernel⟩
theorem kyJ9_min_7cf53 : jY yJ9_min_7cf53 cJ9_min_7cf53 2 (some .int) 2 := ⟨tb_728, tb_15, by decide, by decide, by decide +kernel⟩
theorem kyJ7_fill_53178 : jY yJ7_fill_53178 cJ7_fill_53178 4 none 2 := ⟨tb_38, tb_4, by decide, by decide, by decide +kernel⟩
