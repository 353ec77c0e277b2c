/-- a state: ints by field, int arrays by cell, longs by field, long arrays by cell -/
abbrev St : Type := (Nat → Int32) × (Nat → Nat → Int32) × (Nat → Int64) × (Nat → Nat → Int64)
def sI (σ : St) (k : Nat) (v : Int32) : St := (fun j => if j = k then v else σ.1 j, σ.2.1, σ.2.2.1, σ.2.2.2)
def sF (σ : St) (k : Nat) (f : Nat → Int32) : St := (σ.1, fun j => if j = k then f else σ.2.1 j, σ.2.2.1, σ.2.2.2)
def sL (σ : St) (k : Nat) (v : Int64) : St := (σ.1, σ.2.1, fun j => if j = k then v else σ.2.2.1 j, σ.2.2.2)
def sG (σ : St) (k : Nat) (f : Nat → Int64) : St := (σ.1, σ.2.1, σ.2.2.1, fun j => if j = k then f else σ.2.2.2 j)
theorem j_w {X : jC} {ce sl : Nat} {w : va_W} (w' : va_W) {lv : List (Nat × Value)} {pc : Nat} {st : List Value} (h : w = w') (k : J X ce sl w' lv pc st) : J X ce sl w lv pc st := h ▸ k
theorem vp_inN {i : Int32} {n N : Nat} (e : i = nI n) (h : n < N) (hN : N < 2 ^ 31) : vp_in i N := by rw [e]; exact vp_in_nI h hN
theorem clN {i : Int32} {n : Nat} (e : i = nI n) (h : n < 2 ^ 31) : i.toNatClampNeg = n := by rw [e]; exact nI_clamp h
theorem in_of {ws : List Cond} (js : List Nat) (h : ws = js.filterMap (fun i => tables_1[i]?)) : ∀ w ∈ ws, w ∈ lw_tbl := fun w hw => by
  rw [h] at hw
  obtain ⟨i, -, e⟩ := List.mem_filterMap.mp hw
  exact List.mem_append_right _ (List.mem_of_getElem? e)
theorem inX0 : ∀ w ∈ u_ws RX0 TX0 9, w ∈ lw_tbl := in_of [287, 289, 291, 293, 295, 297, 299, 301, 303] (by decide +kernel)
theorem gdX0 : (u_ws RX0 TX0 9).all goodWord = true := by decide +kernel
theorem inX1 : ∀ w ∈ u_ws RX1 TX1 5, w ∈ lw_tbl := in_of [47, 49, 51, 53, 55] (by decide +kernel)
theorem gdX1 : (u_ws RX1 TX1 5).all goodWord = true := by decide +kernel
theorem inX2 : ∀ w ∈ u_ws RX2 TX2 12, w ∈ lw_tbl := in_of [137, 139, 141, 143, 145, 147, 149, 151, 153, 155, 157, 159] (by decide +kernel)
theorem gdX2 : (u_ws RX2 TX2 12).all goodWord = true := by decide +kernel
theorem inX3 : ∀ w ∈ u_ws RX3 TX3 8, w ∈ lw_tbl := in_of [410, 412, 414, 416, 418, 420, 422, 424] (by decide +kernel)
theorem gdX3 : (u_ws RX3 TX3 8).all goodWord = true := by decide +kernel
theorem inX4 : ∀ w ∈ u_ws RX4 TX4 15, w ∈ lw_tbl := in_of [331, 333, 335, 337, 339, 341, 343, 345, 347, 349, 351, 353, 355, 357, 359] (by decide +kernel)
theorem gdX4 : (u_ws RX4 TX4 15).all goodWord = true := by decide +kernel
theorem inX5 : ∀ w ∈ u_ws RX5 TX5 6, w ∈ lw_tbl := in_of [179, 181, 183, 185, 187, 189] (by decide +kernel)
theorem gdX5 : (u_ws RX5 TX5 6).all goodWord = true := by decide +kernel
theorem inX6 : ∀ w ∈ u_ws RX6 TX6 6, w ∈ lw_tbl := in_of [78, 80, 82, 84, 86, 88] (by decide +kernel)
theorem gdX6 : (u_ws RX6 TX6 6).all goodWord = true := by decide +kernel
theorem inX7 : ∀ w ∈ u_ws RX7 TX7 6, w ∈ lw_tbl := in_of [215, 217, 219, 221, 223, 225] (by decide +kernel)
theorem gdX7 : (u_ws RX7 TX7 6).all goodWord = true := by decide +kernel
theorem inX8 : ∀ w ∈ u_ws RX8 TX8 6, w ∈ lw_tbl := in_of [377, 379, 381, 383, 385, 387] (by decide +kernel)
theorem gdX8 : (u_ws RX8 TX8 6).all goodWord = true := by decide +kernel
theorem inX9 : ∀ w ∈ u_ws RX9 TX9 10, w ∈ lw_tbl := in_of [251, 253, 255, 257, 259, 261, 263, 265, 267, 269] (by decide +kernel)
theorem gdX9 : (u_ws RX9 TX9 10).all goodWord = true := by decide +kernel
theorem inX10 : ∀ w ∈ u_ws RX10 TX10 10, w ∈ lw_tbl := in_of [438, 440, 442, 444, 446, 448, 450, 452, 454, 456] (by decide +kernel)
theorem gdX10 : (u_ws RX10 TX10 10).all goodWord = true := by decide +kernel
theorem inX11 : ∀ w ∈ u_ws RX11 TX11 58, w ∈ lw_tbl := in_of [931, 933, 935, 937, 939, 941, 943, 945, 947, 949, 951, 953, 955, 957, 959, 961, 963, 965, 967, 969, 971, 973, 975, 977, 979, 981, 983, 985, 987, 989, 991, 993, 995, 997, 999, 1001, 1003, 1005, 1007, 1009, 1011, 1013, 1015, 1017, 1019, 1021, 1023, 1025, 1027, 1029, 1031, 1033, 1035, 1037, 1039, 1041, 1043, 1045] (by decide +kernel)
theorem gdX11 : (u_ws RX11 TX11 58).all goodWord = true := by decide +kernel
def cX (g : Nat → Nat) (kk : Nat → Nat) (σ : St) : va_W := [(g 0, .inr (10, [.ref (g 1), .ref (g 22), .ref (g 27), .ref (g 32), .ref (g 38), .ref (g 42), .ref (g 50), .ref (g 53), .ref (g 55), .ref (g 98)])),
  (g 1, .inr (2, [.int (σ.1 16), .ref (g 2), .ref (g 3), .ref (g 4), .ref (g 5), .ref (g 6), .ref (g 7), .ref (g 8), .ref (g 9), .ref (g 10), .ref (g 11), .ref (g 16)])),
  (g 2, .inl (kk 0, 6, .inl (σ.2.1 2))),
  (g 3, .inl (kk 0, 6, .inl (σ.2.1 3))),
  (g 4, .inl (kk 0, 18, .inl (σ.2.1 4))),
  (g 5, .inl (kk 0, 28, .inl (σ.2.1 5))),
  (g 6, .inl (kk 0, 168, .inl (σ.2.1 6))),
  (g 7, .inl (kk 0, 168, .inl (σ.2.1 7))),
  (g 8, .inl (kk 0, 168, .inl (σ.2.1 8))),
  (g 9, .inl (kk 0, 168, .inl (σ.2.1 9))),
  (g 10, .inl (kk 0, 4, .inl (σ.2.1 10))),
  (g 11, .inr (1, [.int (σ.1 176), .ref (g 12), .ref (g 13), .ref (g 14), .ref (g 15)])),
  (g 12, .inl (kk 0, 20, .inl (σ.2.1 12))),
  (g 13, .inl (kk 0, 20, .inl (σ.2.1 13))),
  (g 14, .inl (kk 0, 20, .inl (σ.2.1 14))),
  (g 15, .inl (kk 0, 168, .inl (σ.2.1 15))),
  (g 16, .inr (6, [.int (σ.1 256), .ref (g 17), .ref (g 18), .ref (g 19), .ref (g 20), .ref (g 21)])),
  (g 17, .inl (kk 0, 6, .inl (σ.2.1 17))),
  (g 18, .inl (kk 0, 6, .inl (σ.2.1 18))),
  (g 19, .inl (kk 0, 6, .inl (σ.2.1 19))),
  (g 20, .inl (kk 0, 6, .inl (σ.2.1 20))),
  (g 21, .inl (kk 0, 6, .inl (σ.2.1 21))),
  (g 22, .inr (5, [.int (σ.1 352), .int (σ.1 353), .ref (g 23), .ref (g 24), .ref (g 25), .ref (g 26)])),
  (g 23, .inl (kk 0, 40, .inl (σ.2.1 23))),
  (g 24, .inl (kk 0, 28, .inl (σ.2.1 24))),
  (g 25, .inl (kk 0, 28, .inl (σ.2.1 25))),
  (g 26, .inl (kk 0, 28, .inl (σ.2.1 26))),
  (g 27, .inr (7, [.ref (g 1), .ref (g 28), .ref (g 29), .ref (g 30), .ref (g 31), .int (σ.1 437)])),
  (g 28, .inl (kk 0, 168, .inl (σ.2.1 28))),
  (g 29, .inl (kk 0, 168, .inl (σ.2.1 29))),
  (g 30, .inl (kk 0, 168, .inl (σ.2.1 30))),
  (g 31, .inl (kk 0, 168, .inl (σ.2.1 31))),
  (g 32, .inr (9, [.ref (g 27), .ref (g 33), .ref (g 34), .ref (g 35), .ref (g 36), .ref (g 37), .int (σ.1 518), .int (σ.1 519), .int (σ.1 520), .int (σ.1 521)])),
  (g 33, .inl (kk 0, 38, .inl (σ.2.1 33))),
  (g 34, .inl (kk 0, 7, .inl (σ.2.1 34))),
  (g 35, .inl (kk 0, 7, .inl (σ.2.1 35))),
  (g 36, .inl (kk 0, 7, .inl (σ.2.1 36))),
  (g 37, .inl (kk 0, 7, .inl (σ.2.1 37))),
  (g 38, .inr (0, [.ref (g 27), .ref (g 39), .ref (g 40), .ref (g 41), .int (σ.1 612), .int (σ.1 613), .int (σ.1 614), .long (σ.2.2.1 615), .int (σ.1 616)])),
  (g 39, .inl (kk 0, 28, .inl (σ.2.1 39))),
  (g 40, .inl (kk 0, 28, .inl (σ.2.1 40))),
  (g 41, .inl (kk 0, 28, .inl (σ.2.1 41))),
  (g 42, .inr (4, [.ref (g 27), .ref (g 1), .ref (g 43), .ref (g 44), .ref (g 45), .ref (g 46), .int (σ.1 678), .int (σ.1 679), .int (σ.1 680), .int (σ.1 681), .int (σ.1 682), .ref (g 47), .ref (g 48), .ref (g 49), .int (σ.1 686)])),
  (g 43, .inl (kk 0, 12, .inl (σ.2.1 43))),
  (g 44, .inl (kk 0, 12, .inl (σ.2.1 44))),
  (g 45, .inl (kk 0, 12, .inl (σ.2.1 45))),
  (g 46, .inl (kk 0, 12, .inl (σ.2.1 46))),
  (g 47, .inl (kk 0, 441, .inl (σ.2.1 47))),
  (g 48, .inl (kk 0, 441, .inl (σ.2.1 48))),
  (g 49, .inl (kk 0, 441, .inl (σ.2.1 49))),
  (g 50, .inr (8, [.ref (g 27), .ref (g 51), .ref (g 52), .int (σ.1 803), .int (σ.1 804), .int (σ.1 805)])),
  (g 51, .inl (kk 0, 6, .inl (σ.2.1 51))),
  (g 52, .inl (kk 0, 28, .inl (σ.2.1 52))),
  (g 53, .inr (3, [.ref (g 1), .ref (g 54), .int (σ.1 850), .int (σ.1 851), .long (σ.2.2.1 852), .long (σ.2.2.1 853), .int (σ.1 854), .int (σ.1 855)])),
  (g 54, .inl (kk 0, 7, .inl (σ.2.1 54))),
  (g 55, .inl (kk 3, 2, .inr (.inr (.inr (.inr (va_up (va_up (fun _ => none) 0 (some (g 56))) 1 (some (g 77)))))))),
  (g 56, .inr (2, [.int (σ.1 896), .ref (g 57), .ref (g 58), .ref (g 59), .ref (g 60), .ref (g 61), .ref (g 62), .ref (g 63), .ref (g 64), .ref (g 65), .ref (g 66), .ref (g 71)])),
  (g 57, .inl (kk 0, 6, .inl (σ.2.1 57))),
  (g 58, .inl (kk 0, 6, .inl (σ.2.1 58))),
  (g 59, .inl (kk 0, 18, .inl (σ.2.1 59))),
  (g 60, .inl (kk 0, 28, .inl (σ.2.1 60))),
  (g 61, .inl (kk 0, 168, .inl (σ.2.1 61))),
  (g 62, .inl (kk 0, 168, .inl (σ.2.1 62))),
  (g 63, .inl (kk 0, 168, .inl (σ.2.1 63))),
  (g 64, .inl (kk 0, 168, .inl (σ.2.1 64))),
  (g 65, .inl (kk 0, 4, .inl (σ.2.1 65))),
  (g 66, .inr (1, [.int (σ.1 1056), .ref (g 67), .ref (g 68), .ref (g 69), .ref (g 70)])),
  (g 67, .inl (kk 0, 20, .inl (σ.2.1 67))),
  (g 68, .inl (kk 0, 20, .inl (σ.2.1 68))),
  (g 69, .inl (kk 0, 20, .inl (σ.2.1 69))),
  (g 70, .inl (kk 0, 168, .inl (σ.2.1 70))),
  (g 71, .inr (6, [.int (σ.1 1136), .ref (g 72), .ref (g 73), .ref (g 74), .ref (g 75), .ref (g 76)])),
  (g 72, .inl (kk 0, 6, .inl (σ.2.1 72))),
  (g 73, .inl (kk 0, 6, .inl (σ.2.1 73))),
  (g 74, .inl (kk 0, 6, .inl (σ.2.1 74))),
  (g 75, .inl (kk 0, 6, .inl (σ.2.1 75))),
  (g 76, .inl (kk 0, 6, .inl (σ.2.1 76))),
  (g 77, .inr (2, [.int (σ.1 1232), .ref (g 78), .ref (g 79), .ref (g 80), .ref (g 81), .ref (g 82), .ref (g 83), .ref (g 84), .ref (g 85), .ref (g 86), .ref (g 87), .ref (g 92)])),
  (g 78, .inl (kk 0, 6, .inl (σ.2.1 78))),
  (g 79, .inl (kk 0, 6, .inl (σ.2.1 79))),
  (g 80, .inl (kk 0, 18, .inl (σ.2.1 80))),
  (g 81, .inl (kk 0, 28, .inl (σ.2.1 81))),
  (g 82, .inl (kk 0, 168, .inl (σ.2.1 82))),
  (g 83, .inl (kk 0, 168, .inl (σ.2.1 83))),
  (g 84, .inl (kk 0, 168, .inl (σ.2.1 84))),
  (g 85, .inl (kk 0, 168, .inl (σ.2.1 85))),
  (g 86, .inl (kk 0, 4, .inl (σ.2.1 86))),
  (g 87, .inr (1, [.int (σ.1 1392), .ref (g 88), .ref (g 89), .ref (g 90), .ref (g 91)])),
  (g 88, .inl (kk 0, 20, .inl (σ.2.1 88))),
  (g 89, .inl (kk 0, 20, .inl (σ.2.1 89))),
  (g 90, .inl (kk 0, 20, .inl (σ.2.1 90))),
  (g 91, .inl (kk 0, 168, .inl (σ.2.1 91))),
  (g 92, .inr (6, [.int (σ.1 1472), .ref (g 93), .ref (g 94), .ref (g 95), .ref (g 96), .ref (g 97)])),
  (g 93, .inl (kk 0, 6, .inl (σ.2.1 93))),
  (g 94, .inl (kk 0, 6, .inl (σ.2.1 94))),
  (g 95, .inl (kk 0, 6, .inl (σ.2.1 95))),
  (g 96, .inl (kk 0, 6, .inl (σ.2.1 96))),
  (g 97, .inl (kk 0, 6, .inl (σ.2.1 97))),
  (g 98, .inl (kk 1, 2, .inl (σ.2.1 98)))]
def cM (g : Nat → Nat) (kk : Nat → Nat) (σ : St) : va_W := [(g 0, .inr (11, [.ref (g 1), .ref (g 2), .ref (g 3), .int (σ.1 3), .ref (g 4), .ref (g 5), .ref (g 6), .ref (g 7), .ref (g 8), .int (σ.1 9), .int (σ.1 10), .int (σ.1 11), .int (σ.1 12), .int (σ.1 13), .ref (g 9), .int (σ.1 15), .ref (g 10), .ref (g 11), .ref (g 12), .ref (g 13), .ref (g 14), .ref (g 15), .ref (g 16), .ref (g 17), .ref (g 18), .ref (g 19), .ref (g 20), .ref (g 21), .ref (g 22), .ref (g 23), .int (σ.1 30), .int (σ.1 31), .int (σ.1 32), .int (σ.1 33), .ref (g 24), .ref (g 25), .int (σ.1 36), .int (σ.1 37), .long (σ.2.2.1 38), .long (σ.2.2.1 39), .long (σ.2.2.1 40), .ref (g 26), .ref (g 27), .ref (g 28), .ref (g 29), .ref (g 30), .int (σ.1 46), .int (σ.1 47), .int (σ.1 48), .int (σ.1 49), .int (σ.1 50), .int (σ.1 51), .int (σ.1 52), .ref (g 31), .ref (g 32), .ref (g 33), .int (σ.1 56), .int (σ.1 57)])),
  (g 1, .inl (kk 0, 6, .inl (σ.2.1 1))),
  (g 2, .inl (kk 0, 6, .inl (σ.2.1 2))),
  (g 3, .inl (kk 0, 18, .inl (σ.2.1 3))),
  (g 4, .inl (kk 0, 28, .inl (σ.2.1 4))),
  (g 5, .inl (kk 0, 168, .inl (σ.2.1 5))),
  (g 6, .inl (kk 0, 20, .inl (σ.2.1 6))),
  (g 7, .inl (kk 0, 20, .inl (σ.2.1 7))),
  (g 8, .inl (kk 0, 20, .inl (σ.2.1 8))),
  (g 9, .inl (kk 0, 40, .inl (σ.2.1 9))),
  (g 10, .inl (kk 0, 168, .inl (σ.2.1 10))),
  (g 11, .inl (kk 0, 168, .inl (σ.2.1 11))),
  (g 12, .inl (kk 0, 168, .inl (σ.2.1 12))),
  (g 13, .inl (kk 0, 28, .inl (σ.2.1 13))),
  (g 14, .inl (kk 0, 28, .inl (σ.2.1 14))),
  (g 15, .inl (kk 0, 28, .inl (σ.2.1 15))),
  (g 16, .inl (kk 0, 168, .inl (σ.2.1 16))),
  (g 17, .inl (kk 0, 168, .inl (σ.2.1 17))),
  (g 18, .inl (kk 0, 168, .inl (σ.2.1 18))),
  (g 19, .inl (kk 0, 21, .inl (σ.2.1 19))),
  (g 20, .inl (kk 0, 7, .inl (σ.2.1 20))),
  (g 21, .inl (kk 0, 38, .inl (σ.2.1 21))),
  (g 22, .inl (kk 0, 38, .inl (σ.2.1 22))),
  (g 23, .inl (kk 0, 38, .inl (σ.2.1 23))),
  (g 24, .inl (kk 0, 28, .inl (σ.2.1 24))),
  (g 25, .inl (kk 0, 28, .inl (σ.2.1 25))),
  (g 26, .inl (kk 0, 6, .inl (σ.2.1 26))),
  (g 27, .inl (kk 0, 6, .inl (σ.2.1 27))),
  (g 28, .inl (kk 0, 6, .inl (σ.2.1 28))),
  (g 29, .inl (kk 0, 6, .inl (σ.2.1 29))),
  (g 30, .inl (kk 0, 6, .inl (σ.2.1 30))),
  (g 31, .inl (kk 2, 28, .inr (.inl (σ.2.2.2 31)))),
  (g 32, .inl (kk 0, 1800, .inl (σ.2.1 32))),
  (g 33, .inl (kk 1, 2, .inl (σ.2.1 33)))]
theorem eX_0 (g : Nat → Nat) (kk : Nat → Nat) (σ : St) : (cX g kk σ)[0]? = some (g 0, .inr (10, [.ref (g 1), .ref (g 22), .ref (g 27), .ref (g 32), .ref (g 38), .ref (g 42), .ref (g 50), .ref (g 53), .ref (g 55), .ref (g 98)])) := rfl
theorem gX_0_0 {X : jC} {cc : ByteArray} {own : String} {R : Room} {kk : Nat → Nat} {nL : Nat} (C : jF X cc own R kk nL) {g : Nat → Nat} {σ : St} {ce sl : Nat} {lv : List (Nat × Value)} {pc : Nat} {st : List Value} {index : Nat} (hl : Cond.fieldLink own index "RainCans" "garden" "LRainCans$Garden;" ∈ lw_tbl)  (d : decode cc pc = .ok (.getfield index, 3)) (k : J X ce sl (cX g kk σ) lv (pc + 3) (.ref (g 1) :: st)) : J X ce sl (cX g kk σ) lv pc (.ref (g 0) :: st) := by
  exact j_get C inX10 gdX10 rfl 0 (by decide) rfl hl 0 (eX_0 g kk σ) rfl d k
theorem gX_0_1 {X : jC} {cc : ByteArray} {own : String} {R : Room} {kk : Nat → Nat} {nL : Nat} (C : jF X cc own R kk nL) {g : Nat → Nat} {σ : St} {ce sl : Nat} {lv : List (Nat × Value)} {pc : Nat} {st : List Value} {index : Nat} (hl : Cond.fieldLink own index "RainCans" "pad" "LRainCans$Pad;" ∈ lw_tbl)  (d : decode cc pc = .ok (.getfield index, 3)) (k : J X ce sl (cX g kk σ) lv (pc + 3) (.ref (g 22) :: st)) : J X ce sl (cX g kk σ) lv pc (.ref (g 0) :: st) := by
  exact j_get C inX10 gdX10 rfl 1 (by decide) rfl hl 0 (eX_0 g kk σ) rfl d k
theorem gX_0_2 {X : jC} {cc : ByteArray} {own : String} {R : Room} {kk : Nat → Nat} {nL : Nat} (C : jF X cc own R kk nL) {g : Nat → Nat} {σ : St} {ce sl : Nat} {lv : List (Nat × Value)} {pc : Nat} {st : List Value} {index : Nat} (hl : Cond.fieldLink own index "RainCans" "rain" "LRainCans$Rain;" ∈ lw_tbl)  (d : decode cc pc = .ok (.getfield index, 3)) (k : J X ce sl (cX g kk σ) lv (pc + 3) (.ref (g 27) :: st)) : J X ce sl (cX g kk σ) lv pc (.ref (g 0) :: st) := by
  exact j_get C inX10 gdX10 rfl 2 (by decide) rfl hl 0 (eX_0 g kk σ) rfl d k
theorem gX_0_3 {X : jC} {cc : ByteArray} {own : String} {R : Room} {kk : Nat → Nat} {nL : Nat} (C : jF X cc own R kk nL) {g : Nat → Nat} {σ : St} {ce sl : Nat} {lv : List (Nat × Value)} {pc : Nat} {st : List Value} {index : Nat} (hl : Cond.fieldLink own index "RainCans" "mendings" "LRainCans$Week;" ∈ lw_tbl)  (d : decode cc pc = .ok (.getfield index, 3)) (k : J X ce sl (cX g kk σ) lv (pc + 3) (.ref (g 32) :: st)) : J X ce sl (cX g kk σ) lv pc (.ref (g 0) :: st) := by
  exact j_get C inX10 gdX10 rfl 3 (by decide) rfl hl 0 (eX_0 g kk σ) rfl d k
theorem gX_0_4 {X : jC} {cc : ByteArray} {own : String} {R : Room} {kk : Nat → Nat} {nL : Nat} (C : jF X cc own R kk nL) {g : Nat → Nat} {σ : St} {ce sl : Nat} {lv : List (Nat × Value)} {pc : Nat} {st : List Value} {index : Nat} (hl : Cond.fieldLink own index "RainCans" "rifts" "LRainCans$Breaks;" ∈ lw_tbl)  (d : decode cc pc = .ok (.getfield index, 3)) (k : J X ce sl (cX g kk σ) lv (pc + 3) (.ref (g 38) :: st)) : J X ce sl (cX g kk σ) lv pc (.ref (g 0) :: st) := by
  exact j_get C inX10 gdX10 rfl 4 (by decide) rfl hl 0 (eX_0 g kk σ) rfl d k
theorem gX_0_5 {X : jC} {cc : ByteArray} {own : String} {R : Room} {kk : Nat → Nat} {nL : Nat} (C : jF X cc own R kk nL) {g : Nat → Nat} {σ : St} {ce sl : Nat} {lv : List (Nat × Value)} {pc : Nat} {st : List Value} {index : Nat} (hl : Cond.fieldLink own index "RainCans" "land" "LRainCans$Land;" ∈ lw_tbl)  (d : decode cc pc = .ok (.getfield index, 3)) (k : J X ce sl (cX g kk σ) lv (pc + 3) (.ref (g 42) :: st)) : J X ce sl (cX g kk σ) lv pc (.ref (g 0) :: st) := by
  exact j_get C inX10 gdX10 rfl 5 (by decide) rfl hl 0 (eX_0 g kk σ) rfl d k
theorem gX_0_6 {X : jC} {cc : ByteArray} {own : String} {R : Room} {kk : Nat → Nat} {nL : Nat} (C : jF X cc own R kk nL) {g : Nat → Nat} {σ : St} {ce sl : Nat} {lv : List (Nat × Value)} {pc : Nat} {st : List Value} {index : Nat} (hl : Cond.fieldLink own index "RainCans" "records" "LRainCans$Records;" ∈ lw_tbl)  (d : decode cc pc = .ok (.getfield index, 3)) (k : J X ce sl (cX g kk σ) lv (pc + 3) (.ref (g 50) :: st)) : J X ce sl (cX g kk σ) lv pc (.ref (g 0) :: st) := by
  exact j_get C inX10 gdX10 rfl 6 (by decide) rfl hl 0 (eX_0 g kk σ) rfl d k
theorem gX_0_7 {X : jC} {cc : ByteArray} {own : String} {R : Room} {kk : Nat → Nat} {nL : Nat} (C : jF X cc own R kk nL) {g : Nat → Nat} {σ : St} {ce sl : Nat} {lv : List (Nat × Value)} {pc : Nat} {st : List Value} {index : Nat} (hl : Cond.fieldLink own index "RainCans" "habits" "LRainCans$Habits;" ∈ lw_tbl)  (d : decode cc pc = .ok (.getfield index, 3)) (k : J X ce sl (cX g kk σ) lv (pc + 3) (.ref (g 53) :: st)) : J X ce sl (cX g kk σ) lv pc (.ref (g 0) :: st) := by
  exact j_get C inX10 gdX10 rfl 7 (by decide) rfl hl 0 (eX_0 g kk σ) rfl d k
theorem gX_0_8 {X : jC} {cc : ByteArray} {own : String} {R : Room} {kk : Nat → Nat} {nL : Nat} (C : jF X cc own R kk nL) {g : Nat → Nat} {σ : St} {ce sl : Nat} {lv : List (Nat × Value)} {pc : Nat} {st : List Value} {index : Nat} (hl : Cond.fieldLink own index "RainCans" "images" "[LRainCans$Garden;" ∈ lw_tbl)  (d : decode cc pc = .ok (.getfield index, 3)) (k : J X ce sl (cX g kk σ) lv (pc + 3) (.ref (g 55) :: st)) : J X ce sl (cX g kk σ) lv pc (.ref (g 0) :: st) := by
  exact j_get C inX10 gdX10 rfl 8 (by decide) rfl hl 0 (eX_0 g kk σ) rfl d k
theorem gX_0_9 {X : jC} {cc : ByteArray} {own : String} {R : Room} {kk : Nat → Nat} {nL : Nat} (C : jF X cc own R kk nL) {g : Nat → Nat} {σ : St} {ce sl : Nat} {lv : List (Nat × Value)} {pc : Nat} {st : List Value} {index : Nat} (hl : Cond.fieldLink own index "RainCans" "kept" "[Z" ∈ lw_tbl)  (d : decode cc pc = .ok (.getfield index, 3)) (k : J X ce sl (cX g kk σ) lv (pc + 3) (.ref (g 98) :: st)) : J X ce sl (cX g kk σ) lv pc (.ref (g 0) :: st) := by
  exact j_get C inX10 gdX10 rfl 9 (by decide) rfl hl 0 (eX_0 g kk σ) rfl d k
theorem eX_1 (g : Nat → Nat) (kk : Nat → Nat) (σ : St) : (cX g kk σ)[1]? = some (g 1, .inr (2, [.int (σ.1 16), .ref (g 2), .ref (g 3), .ref (g 4), .ref (g 5), .ref (g 6), .ref (g 7), .ref (g 8), .ref (g 9), .ref (g 10), .ref (g 11), .ref (g 16)])) := rfl
theorem gX_1_0 {X : jC} {cc : ByteArray} {own : String} {R : Room} {kk : Nat → Nat} {nL : Nat} (C : jF X cc own R kk nL) {g : Nat → Nat} {σ : St} {ce sl : Nat} {lv : List (Nat × Value)} {pc : Nat} {st : List Value} {index : Nat} (hl : Cond.fieldLink own index "RainCans$Garden" "cans" "I" ∈ lw_tbl) (v : Int32) (hv : σ.1 16 = v) (d : decode cc pc = .ok (.getfield index, 3)) (k : J X ce sl (cX g kk σ) lv (pc + 3) (.int v :: st)) : J X ce sl (cX g kk σ) lv pc (.ref (g 1) :: st) := by
  subst hv
  exact j_get C inX2 gdX2 rfl 0 (by decide) rfl hl 1 (eX_1 g kk σ) rfl d k
theorem pX_1_0 {X : jC} {cc : ByteArray} {own : String} {R : Room} {kk : Nat → Nat} {nL : Nat} (C : jF X cc own R kk nL) {g : Nat → Nat} {σ : St} {ce sl : Nat} {lv : List (Nat × Value)} {pc : Nat} {st : List Value} {index : Nat} (hl : Cond.fieldLink own index "RainCans$Garden" "cans" "I" ∈ lw_tbl) {v : Int32} (d : decode cc pc = .ok (.putfield index, 3)) (k : J X ce sl (cX g kk (sI σ 16 v)) lv (pc + 3) st) : J X ce sl (cX g kk σ) lv pc (.int v :: .ref (g 1) :: st) :=
  j_put (ty := .int) C inX2 gdX2 tyX2_ok nmX2 rfl 0 (by decide) rfl hl rfl (by decide +kernel) 1 (eX_1 g kk σ) rfl rfl (Nat.le_of_ble_eq_true rfl) (w' := cX g kk (sI σ 16 v)) rfl d k
theorem gX_1_1 {X : jC} {cc : ByteArray} {own : String} {R : Room} {kk : Nat → Nat} {nL : Nat} (C : jF X cc own R kk nL) {g : Nat → Nat} {σ : St} {ce sl : Nat} {lv : List (Nat × Value)} {pc : Nat} {st : List Value} {index : Nat} (hl : Cond.fieldLink own index "RainCans$Garden" "x" "[I" ∈ lw_tbl)  (d : decode cc pc = .ok (.getfield index, 3)) (k : J X ce sl (cX g kk σ) lv (pc + 3) (.ref (g 2) :: st)) : J X ce sl (cX g kk σ) lv pc (.ref (g 1) :: st) := by
  exact j_get C inX2 gdX2 rfl 1 (by decide) rfl hl 1 (eX_1 g kk σ) rfl d k
theorem gX_1_2 {X : jC} {cc : ByteArray} {own : String} {R : Room} {kk : Nat → Nat} {nL : Nat} (C : jF X cc own R kk nL) {g : Nat → Nat} {σ : St} {ce sl : Nat} {lv : List (Nat × Value)} {pc : Nat} {st : List Value} {index : Nat} (hl : Cond.fieldLink own index "RainCans$Garden" "y" "[I" ∈ lw_tbl)  (d : decode cc pc = .ok (.getfield index, 3)) (k : J X ce sl (cX g kk σ) lv (pc + 3) (.ref (g 3) :: st)) : J X ce sl (cX g kk σ) lv pc (.ref (g 1) :: st) := by
  exact j_get C inX2 gdX2 rfl 2 (by decide) rfl hl 1 (eX_1 g kk σ) rfl d k
theorem gX_1_3 {X : jC} {cc : ByteArray} {own : String} {R : Room} {kk : Nat → Nat} {nL : Nat} (C : jF X cc own R kk nL) {g : Nat → Nat} {σ : St} {ce sl : Nat} {lv : List (Nat × Value)} {pc : Nat} {st : List Value} {index : Nat} (hl : Cond.fieldLink own index "RainCans$Garden" "missed" "[I" ∈ lw_tbl)  (d : decode cc pc = .ok (.getfield index, 3)) (k : J X ce sl (cX g kk σ) lv (pc + 3) (.ref (g 4) :: st)) : J X ce sl (cX g kk σ) lv pc (.ref (g 1) :: st) := by
  exact j_get C inX2 gdX2 rfl 3 (by decide) rfl hl 1 (eX_1 g kk σ) rfl d k
theorem gX_1_4 {X : jC} {cc : ByteArray} {own : String} {R : Room} {kk : Nat → Nat} {nL : Nat} (C : jF X cc own R kk nL) {g : Nat → Nat} {σ : St} {ce sl : Nat} {lv : List (Nat × Value)} {pc : Nat} {st : List Value} {index : Nat} (hl : Cond.fieldLink own index "RainCans$Garden" "winds" "[I" ∈ lw_tbl)  (d : decode cc pc = .ok (.getfield index, 3)) (k : J X ce sl (cX g kk σ) lv (pc + 3) (.ref (g 5) :: st)) : J X ce sl (cX g kk σ) lv pc (.ref (g 1) :: st) := by
  exact j_get C inX2 gdX2 rfl 4 (by decide) rfl hl 1 (eX_1 g kk σ) rfl d k
theorem gX_1_5 {X : jC} {cc : ByteArray} {own : String} {R : Room} {kk : Nat → Nat} {nL : Nat} (C : jF X cc own R kk nL) {g : Nat → Nat} {σ : St} {ce sl : Nat} {lv : List (Nat × Value)} {pc : Nat} {st : List Value} {index : Nat} (hl : Cond.fieldLink own index "RainCans$Garden" "raws" "[I" ∈ lw_tbl)  (d : decode cc pc = .ok (.getfield index, 3)) (k : J X ce sl (cX g kk σ) lv (pc + 3) (.ref (g 6) :: st)) : J X ce sl (cX g kk σ) lv pc (.ref (g 1) :: st) := by
  exact j_get C inX2 gdX2 rfl 5 (by decide) rfl hl 1 (eX_1 g kk σ) rfl d k
theorem gX_1_6 {X : jC} {cc : ByteArray} {own : String} {R : Room} {kk : Nat → Nat} {nL : Nat} (C : jF X cc own R kk nL) {g : Nat → Nat} {σ : St} {ce sl : Nat} {lv : List (Nat × Value)} {pc : Nat} {st : List Value} {index : Nat} (hl : Cond.fieldLink own index "RainCans$Garden" "notes" "[I" ∈ lw_tbl)  (d : decode cc pc = .ok (.getfield index, 3)) (k : J X ce sl (cX g kk σ) lv (pc + 3) (.ref (g 7) :: st)) : J X ce sl (cX g kk σ) lv pc (.ref (g 1) :: st) := by
  exact j_get C inX2 gdX2 rfl 6 (by decide) rfl hl 1 (eX_1 g kk σ) rfl d k
theorem gX_1_7 {X : jC} {cc : ByteArray} {own : String} {R : Room} {kk : Nat → Nat} {nL : Nat} (C : jF X cc own R kk nL) {g : Nat → Nat} {σ : St} {ce sl : Nat} {lv : List (Nat × Value)} {pc : Nat} {st : List Value} {index : Nat} (hl : Cond.fieldLink own index "RainCans$Garden" "sumFirst" "[I" ∈ lw_tbl)  (d : decode cc pc = .ok (.getfield index, 3)) (k : J X ce sl (cX g kk σ) lv (pc + 3) (.ref (g 8) :: st)) : J X ce sl (cX g kk σ) lv pc (.ref (g 1) :: st) := by
  exact j_get C inX2 gdX2 rfl 7 (by decide) rfl hl 1 (eX_1 g kk σ) rfl d k
theorem gX_1_8 {X : jC} {cc : ByteArray} {own : String} {R : Room} {kk : Nat → Nat} {nL : Nat} (C : jF X cc own R kk nL) {g : Nat → Nat} {σ : St} {ce sl : Nat} {lv : List (Nat × Value)} {pc : Nat} {st : List Value} {index : Nat} (hl : Cond.fieldLink own index "RainCans$Garden" "sumLast" "[I" ∈ lw_tbl)  (d : decode cc pc = .ok (.getfield index, 3)) (k : J X ce sl (cX g kk σ) lv (pc + 3) (.ref (g 9) :: st)) : J X ce sl (cX g kk σ) lv pc (.ref (g 1) :: st) := by
  exact j_get C inX2 gdX2 rfl 8 (by decide) rfl hl 1 (eX_1 g kk σ) rfl d k
theorem gX_1_9 {X : jC} {cc : ByteArray} {own : String} {R : Room} {kk : Nat → Nat} {nL : Nat} (C : jF X cc own R kk nL) {g : Nat → Nat} {σ : St} {ce sl : Nat} {lv : List (Nat × Value)} {pc : Nat} {st : List Value} {index : Nat} (hl : Cond.fieldLink own index "RainCans$Garden" "settings" "[I" ∈ lw_tbl)  (d : decode cc pc = .ok (.getfield index, 3)) (k : J X ce sl (cX g kk σ) lv (pc + 3) (.ref (g 10) :: st)) : J X ce sl (cX g kk σ) lv pc (.ref (g 1) :: st) := by
  exact j_get C inX2 gdX2 rfl 9 (by decide) rfl hl 1 (eX_1 g kk σ) rfl d k
theorem gX_1_10 {X : jC} {cc : ByteArray} {own : String} {R : Room} {kk : Nat → Nat} {nL : Nat} (C : jF X cc own R kk nL) {g : Nat → Nat} {σ : St} {ce sl : Nat} {lv : List (Nat × Value)} {pc : Nat} {st : List Value} {index : Nat} (hl : Cond.fieldLink own index "RainCans$Garden" "fixes" "LRainCans$Fixes;" ∈ lw_tbl)  (d : decode cc pc = .ok (.getfield index, 3)) (k : J X ce sl (cX g kk σ) lv (pc + 3) (.ref (g 11) :: st)) : J X ce sl (cX g kk σ) lv pc (.ref (g 1) :: st) := by
  exact j_get C inX2 gdX2 rfl 10 (by decide) rfl hl 1 (eX_1 g kk σ) rfl d k
theorem gX_1_11 {X : jC} {cc : ByteArray} {own : String} {R : Room} {kk : Nat → Nat} {nL : Nat} (C : jF X cc own R kk nL) {g : Nat → Nat} {σ : St} {ce sl : Nat} {lv : List (Nat × Value)} {pc : Nat} {st : List Value} {index : Nat} (hl : Cond.fieldLink own index "RainCans$Garden" "radars" "LRainCans$Radars;" ∈ lw_tbl)  (d : decode cc pc = .ok (.getfield index, 3)) (k : J X ce sl (cX g kk σ) lv (pc + 3) (.ref (g 16) :: st)) : J X ce sl (cX g kk σ) lv pc (.ref (g 1) :: st) := by
  exact j_get C inX2 gdX2 rfl 11 (by decide) rfl hl 1 (eX_1 g kk σ) rfl d k
theorem rX_2 {X : jC} {cc : ByteArray} {own : String} {R : Room} {kk : Nat → Nat} {nL : Nat} (C : jF X cc own R kk nL) {g : Nat → Nat} {σ : St} {ce sl : Nat} {lv : List (Nat × Value)} {pc : Nat} {st : List Value} {i : Int32} (n : Nat) (e : i = nI n) (h : n < 6) (v : Int32) (hv : σ.2.1 2 n = v) (d : decode cc pc = .ok (.iaload, 1)) (k : J X ce sl (cX g kk σ) lv (pc + 1) (.int v :: st)) : J X ce sl (cX g kk σ) lv pc (.int i :: .ref (g 2) :: st) := by
  subst hv
  refine j_iald C 2 (f := σ.2.1 2) rfl (vp_inN e h (by decide)) d ?_
  rw [clN e (by omega)]
  exact k
theorem tX_2 {X : jC} {cc : ByteArray} {own : String} {R : Room} {kk : Nat → Nat} {nL : Nat} (C : jF X cc own R kk nL) {g : Nat → Nat} {σ : St} {ce sl : Nat} {lv : List (Nat × Value)} {pc : Nat} {st : List Value} {i : Int32} {x : Int32} (n : Nat) (e : i = nI n) (h : n < 6) (d : decode cc pc = .ok (.iastore, 1)) (k : J X ce sl (cX g kk (sF σ 2 (upd (σ.2.1 2) n x))) lv (pc + 1) st) : J X ce sl (cX g kk σ) lv pc (.int x :: .int i :: .ref (g 2) :: st) := by
  refine j_iast C 2 (f := σ.2.1 2) rfl (vp_inN e h (by decide)) (w' := cX g kk (sF σ 2 (upd (σ.2.1 2) n x))) ?_ d k
  rw [clN e (by omega)]
  rfl
theorem rX_3 {X : jC} {cc : ByteArray} {own : String} {R : Room} {kk : Nat → Nat} {nL : Nat} (C : jF X cc own R kk nL) {g : Nat → Nat} {σ : St} {ce sl : Nat} {lv : List (Nat × Value)} {pc : Nat} {st : List Value} {i : Int32} (n : Nat) (e : i = nI n) (h : n < 6) (v : Int32) (hv : σ.2.1 3 n = v) (d : decode cc pc = .ok (.iaload, 1)) (k : J X ce sl (cX g kk σ) lv (pc + 1) (.int v :: st)) : J X ce sl (cX g kk σ) lv pc (.int i :: .ref (g 3) :: st) := by
  subst hv
  refine j_iald C 3 (f := σ.2.1 3) rfl (vp_inN e h (by decide)) d ?_
  rw [clN e (by omega)]
  exact k
theorem tX_3 {X : jC} {cc : ByteArray} {own : String} {R : Room} {kk : Nat → Nat} {nL : Nat} (C : jF X cc own R kk nL) {g : Nat → Nat} {σ : St} {ce sl : Nat} {lv : List (Nat × Value)} {pc : Nat} {st : List Value} {i : Int32} {x : Int32} (n : Nat) (e : i = nI n) (h : n < 6) (d : decode cc pc = .ok (.iastore, 1)) (k : J X ce sl (cX g kk (sF σ 3 (upd (σ.2.1 3) n x))) lv (pc + 1) st) : J X ce sl (cX g kk σ) lv pc (.int x :: .int i :: .ref (g 3) :: st) := by
  refine j_iast C 3 (f := σ.2.1 3) rfl (vp_inN e h (by decide)) (w' := cX g kk (sF σ 3 (upd (σ.2.1 3) n x))) ?_ d k
  rw [clN e (by omega)]
  rfl
theorem rX_4 {X : jC} {cc : ByteArray} {own : String} {R : Room} {kk : Nat → Nat} {nL : Nat} (C : jF X cc own R kk nL) {g : Nat → Nat} {σ : St} {ce sl : Nat} {lv : List (Nat × Value)} {pc : Nat} {st : List Value} {i : Int32} (n : Nat) (e : i = nI n) (h : n < 18) (v : Int32) (hv : σ.2.1 4 n = v) (d : decode cc pc = .ok (.iaload, 1)) (k : J X ce sl (cX g kk σ) lv (pc + 1) (.int v :: st)) : J X ce sl (cX g kk σ) lv pc (.int i :: .ref (g 4) :: st) := by
  subst hv
  refine j_iald C 4 (f := σ.2.1 4) rfl (vp_inN e h (by decide)) d ?_
  rw [clN e (by omega)]
  exact k
theorem tX_4 {X : jC} {cc : ByteArray} {own : String} {R : Room} {kk : Nat → Nat} {nL : Nat} (C : jF X cc own R kk nL) {g : Nat → Nat} {σ : St} {ce sl : Nat} {lv : List (Nat × Value)} {pc : Nat} {st : List Value} {i : Int32} {x : Int32} (n : Nat) (e : i = nI n) (h : n < 18) (d : decode cc pc = .ok (.iastore, 1)) (k : J X ce sl (cX g kk (sF σ 4 (upd (σ.2.1 4) n x))) lv (pc + 1) st) : J X ce sl (cX g kk σ) lv pc (.int x :: .int i :: .ref (g 4) :: st) := by
  refine j_iast C 4 (f := σ.2.1 4) rfl (vp_inN e h (by decide)) (w' := cX g kk (sF σ 4 (upd (σ.2.1 4) n x))) ?_ d k
  rw [clN e (by omega)]
  rfl
theorem rX_5 {X : jC} {cc : ByteArray} {own : String} {R : Room} {kk : Nat → Nat} {nL : Nat} (C : jF X cc own R kk nL) {g : Nat → Nat} {σ : St} {ce sl : Nat} {lv : List (Nat × Value)} {pc : Nat} {st : List Value} {i : Int32} (n : Nat) (e : i = nI n) (h : n < 28) (v : Int32) (hv : σ.2.1 5 n = v) (d : decode cc pc = .ok (.iaload, 1)) (k : J X ce sl (cX g kk σ) lv (pc + 1) (.int v :: st)) : J X ce sl (cX g kk σ) lv pc (.int i :: .ref (g 5) :: st) := by
  subst hv
  refine j_iald C 5 (f := σ.2.1 5) rfl (vp_inN e h (by decide)) d ?_
  rw [clN e (by omega)]
  exact k
theorem tX_5 {X : jC} {cc : ByteArray} {own : String} {R : Room} {kk : Nat → Nat} {nL : Nat} (C : jF X cc own R kk nL) {g : Nat → Nat} {σ : St} {ce sl : Nat} {lv : List (Nat × Value)} {pc : Nat} {st : List Value} {i : Int32} {x : Int32} (n : Nat) (e : i = nI n) (h : n < 28) (d : decode cc pc = .ok (.iastore, 1)) (k : J X ce sl (cX g kk (sF σ 5 (upd (σ.2.1 5) n x))) lv (pc + 1) st) : J X ce sl (cX g kk σ) lv pc (.int x :: .int i :: .ref (g 5) :: st) := by
  refine j_iast C 5 (f := σ.2.1 5) rfl (vp_inN e h (by decide)) (w' := cX g kk (sF σ 5 (upd (σ.2.1 5) n x))) ?_ d k
  rw [clN e (by omega)]
  rfl
theorem rX_6 {X : jC} {cc : ByteArray} {own : String} {R : Room} {kk : Nat → Nat} {nL : Nat} (C : jF X cc own R kk nL) {g : Nat → Nat} {σ : St} {ce sl : Nat} {lv : List (Nat × Value)} {pc : Nat} {st : List Value} {i : Int32} (n : Nat) (e : i = nI n) (h : n < 168) (v : Int32) (hv : σ.2.1 6 n = v) (d : decode cc pc = .ok (.iaload, 1)) (k : J X ce sl (cX g kk σ) lv (pc + 1) (.int v :: st)) : J X ce sl (cX g kk σ) lv pc (.int i :: .ref (g 6) :: st) := by
  subst hv
  refine j_iald C 6 (f := σ.2.1 6) rfl (vp_inN e h (by decide)) d ?_
  rw [clN e (by omega)]
  exact k
theorem tX_6 {X : jC} {cc : ByteArray} {own : String} {R : Room} {kk : Nat → Nat} {nL : Nat} (C : jF X cc own R kk nL) {g : Nat → Nat} {σ : St} {ce sl : Nat} {lv : List (Nat × Value)} {pc : Nat} {st : List Value} {i : Int32} {x : Int32} (n : Nat) (e : i = nI n) (h : n < 168) (d : decode cc pc = .ok (.iastore, 1)) (k : J X ce sl (cX g kk (sF σ 6 (upd (σ.2.1 6) n x))) lv (pc + 1) st) : J X ce sl (cX g kk σ) lv pc (.int x :: .int i :: .ref (g 6) :: st) := by
  refine j_iast C 6 (f := σ.2.1 6) rfl (vp_inN e h (by decide)) (w' := cX g kk (sF σ 6 (upd (σ.2.1 6) n x))) ?_ d k
  rw [clN e (by omega)]
  rfl
theorem rX_7 {X : jC} {cc : ByteArray} {own : String} {R : Room} {kk : Nat → Nat} {nL : Nat} (C : jF X cc own R kk nL) {g : Nat → Nat} {σ : St} {ce sl : Nat} {lv : List (Nat × Value)} {pc : Nat} {st : List Value} {i : Int32} (n : Nat) (e : i = nI n) (h : n < 168) (v : Int32) (hv : σ.2.1 7 n = v) (d : decode cc pc = .ok (.iaload, 1)) (k : J X ce sl (cX g kk σ) lv (pc + 1) (.int v :: st)) : J X ce sl (cX g kk σ) lv pc (.int i :: .ref (g 7) :: st) := by
  subst hv
  refine j_iald C 7 (f := σ.2.1 7) rfl (vp_inN e h (by decide)) d ?_
  rw [clN e (by omega)]
  exact k
theorem tX_7 {X : jC} {cc : ByteArray} {own : String} {R : Room} {kk : Nat → Nat} {nL : Nat} (C : jF X cc own R kk nL) {g : Nat → Nat} {σ : St} {ce sl : Nat} {lv : List (Nat × Value)} {pc : Nat} {st : List Value} {i : Int32} {x : Int32} (n : Nat) (e : i = nI n) (h : n < 168) (d : decode cc pc = .ok (.iastore, 1)) (k : J X ce sl (cX g kk (sF σ 7 (upd (σ.2.1 7) n x))) lv (pc + 1) st) : J X ce sl (cX g kk σ) lv pc (.int x :: .int i :: .ref (g 7) :: st) := by
  refine j_iast C 7 (f := σ.2.1 7) rfl (vp_inN e h (by decide)) (w' := cX g kk (sF σ 7 (upd (σ.2.1 7) n x))) ?_ d k
  rw [clN e (by omega)]
  rfl
theorem rX_8 {X : jC} {cc : ByteArray} {own : String} {R : Room} {kk : Nat → Nat} {nL : Nat} (C : jF X cc own R kk nL) {g : Nat → Nat} {σ : St} {ce sl : Nat} {lv : List (Nat × Value)} {pc : Nat} {st : List Value} {i : Int32} (n : Nat) (e : i = nI n) (h : n < 168) (v : Int32) (hv : σ.2.1 8 n = v) (d : decode cc pc = .ok (.iaload, 1)) (k : J X ce sl (cX g kk σ) lv (pc + 1) (.int v :: st)) : J X ce sl (cX g kk σ) lv pc (.int i :: .ref (g 8) :: st) := by
  subst hv
  refine j_iald C 8 (f := σ.2.1 8) rfl (vp_inN e h (by decide)) d ?_
  rw [clN e (by omega)]
  exact k
theorem tX_8 {X : jC} {cc : ByteArray} {own : String} {R : Room} {kk : Nat → Nat} {nL : Nat} (C : jF X cc own R kk nL) {g : Nat → Nat} {σ : St} {ce sl : Nat} {lv : List (Nat × Value)} {pc : Nat} {st : List Value} {i : Int32} {x : Int32} (n : Nat) (e : i = nI n) (h : n < 168) (d : decode cc pc = .ok (.iastore, 1)) (k : J X ce sl (cX g kk (sF σ 8 (upd (σ.2.1 8) n x))) lv (pc + 1) st) : J X ce sl (cX g kk σ) lv pc (.int x :: .int i :: .ref (g 8) :: st) := by
  refine j_iast C 8 (f := σ.2.1 8) rfl (vp_inN e h (by decide)) (w' := cX g kk (sF σ 8 (upd (σ.2.1 8) n x))) ?_ d k
  rw [clN e (by omega)]
  rfl
theorem rX_9 {X : jC} {cc : ByteArray} {own : String} {R : Room} {kk : Nat → Nat} {nL : Nat} (C : jF X cc own R kk nL) {g : Nat → Nat} {σ : St} {ce sl : Nat} {lv : List (Nat × Value)} {pc : Nat} {st : List Value} {i : Int32} (n : Nat) (e : i = nI n) (h : n < 168) (v : Int32) (hv : σ.2.1 9 n = v) (d : decode cc pc = .ok (.iaload, 1)) (k : J X ce sl (cX g kk σ) lv (pc + 1) (.int v :: st)) : J X ce sl (cX g kk σ) lv pc (.int i :: .ref (g 9) :: st) := by
  subst hv
  refine j_iald C 9 (f := σ.2.1 9) rfl (vp_inN e h (by decide)) d ?_
  rw [clN e (by omega)]
  exact k
theorem tX_9 {X : jC} {cc : ByteArray} {own : String} {R : Room} {kk : Nat → Nat} {nL : Nat} (C : jF X cc own R kk nL) {g : Nat → Nat} {σ : St} {ce sl : Nat} {lv : List (Nat × Value)} {pc : Nat} {st : List Value} {i : Int32} {x : Int32} (n : Nat) (e : i = nI n) (h : n < 168) (d : decode cc pc = .ok (.iastore, 1)) (k : J X ce sl (cX g kk (sF σ 9 (upd (σ.2.1 9) n x))) lv (pc + 1) st) : J X ce sl (cX g kk σ) lv pc (.int x :: .int i :: .ref (g 9) :: st) := by
  refine j_iast C 9 (f := σ.2.1 9) rfl (vp_inN e h (by decide)) (w' := cX g kk (sF σ 9 (upd (σ.2.1 9) n x))) ?_ d k
  rw [clN e (by omega)]
  rfl
theorem rX_10 {X : jC} {cc : ByteArray} {own : String} {R : Room} {kk : Nat → Nat} {nL : Nat} (C : jF X cc own R kk nL) {g : Nat → Nat} {σ : St} {ce sl : Nat} {lv : List (Nat × Value)} {pc : Nat} {st : List Value} {i : Int32} (n : Nat) (e : i = nI n) (h : n < 4) (v : Int32) (hv : σ.2.1 10 n = v) (d : decode cc pc = .ok (.iaload, 1)) (k : J X ce sl (cX g kk σ) lv (pc + 1) (.int v :: st)) : J X ce sl (cX g kk σ) lv pc (.int i :: .ref (g 10) :: st) := by
  subst hv
  refine j_iald C 10 (f := σ.2.1 10) rfl (vp_inN e h (by decide)) d ?_
  rw [clN e (by omega)]
  exact k
theorem tX_10 {X : jC} {cc : ByteArray} {own : String} {R : Room} {kk : Nat → Nat} {nL : Nat} (C : jF X cc own R kk nL) {g : Nat → Nat} {σ : St} {ce sl : Nat} {lv : List (Nat × Value)} {pc : Nat} {st : List Value} {i : Int32} {x : Int32} (n : Nat) (e : i = nI n) (h : n < 4) (d : decode cc pc = .ok (.iastore, 1)) (k : J X ce sl (cX g kk (sF σ 10 (upd (σ.2.1 10) n x))) lv (pc + 1) st) : J X ce sl (cX g kk σ) lv pc (.int x :: .int i :: .ref (g 10) :: st) := by
  refine j_iast C 10 (f := σ.2.1 10) rfl (vp_inN e h (by decide)) (w' := cX g kk (sF σ 10 (upd (σ.2.1 10) n x))) ?_ d k
  rw [clN e (by omega)]
  rfl
theorem eX_11 (g : Nat → Nat) (kk : Nat → Nat) (σ : St) : (cX g kk σ)[11]? = some (g 11, .inr (1, [.int (σ.1 176), .ref (g 12), .ref (g 13), .ref (g 14), .ref (g 15)])) := rfl
theorem gX_11_0 {X : jC} {cc : ByteArray} {own : String} {R : Room} {kk : Nat → Nat} {nL : Nat} (C : jF X cc own R kk nL) {g : Nat → Nat} {σ : St} {ce sl : Nat} {lv : List (Nat × Value)} {pc : Nat} {st : List Value} {index : Nat} (hl : Cond.fieldLink own index "RainCans$Fixes" "count" "I" ∈ lw_tbl) (v : Int32) (hv : σ.1 176 = v) (d : decode cc pc = .ok (.getfield index, 3)) (k : J X ce sl (cX g kk σ) lv (pc + 3) (.int v :: st)) : J X ce sl (cX g kk σ) lv pc (.ref (g 11) :: st) := by
  subst hv
  exact j_get C inX1 gdX1 rfl 0 (by decide) rfl hl 11 (eX_11 g kk σ) rfl d k
theorem pX_11_0 {X : jC} {cc : ByteArray} {own : String} {R : Room} {kk : Nat → Nat} {nL : Nat} (C : jF X cc own R kk nL) {g : Nat → Nat} {σ : St} {ce sl : Nat} {lv : List (Nat × Value)} {pc : Nat} {st : List Value} {index : Nat} (hl : Cond.fieldLink own index "RainCans$Fixes" "count" "I" ∈ lw_tbl) {v : Int32} (d : decode cc pc = .ok (.putfield index, 3)) (k : J X ce sl (cX g kk (sI σ 176 v)) lv (pc + 3) st) : J X ce sl (cX g kk σ) lv pc (.int v :: .ref (g 11) :: st) :=
  j_put (ty := .int) C inX1 gdX1 tyX1_ok nmX1 rfl 0 (by decide) rfl hl rfl (by decide +kernel) 11 (eX_11 g kk σ) rfl rfl (Nat.le_of_ble_eq_true rfl) (w' := cX g kk (sI σ 176 v)) rfl d k
theorem gX_11_1 {X : jC} {cc : ByteArray} {own : String} {R : Room} {kk : Nat → Nat} {nL : Nat} (C : jF X cc own R kk nL) {g : Nat → Nat} {σ : St} {ce sl : Nat} {lv : List (Nat × Value)} {pc : Nat} {st : List Value} {index : Nat} (hl : Cond.fieldLink own index "RainCans$Fixes" "cells" "[I" ∈ lw_tbl)  (d : decode cc pc = .ok (.getfield index, 3)) (k : J X ce sl (cX g kk σ) lv (pc + 3) (.ref (g 12) :: st)) : J X ce sl (cX g kk σ) lv pc (.ref (g 11) :: st) := by
  exact j_get C inX1 gdX1 rfl 1 (by decide) rfl hl 11 (eX_11 g kk σ) rfl d k
theorem gX_11_2 {X : jC} {cc : ByteArray} {own : String} {R : Room} {kk : Nat → Nat} {nL : Nat} (C : jF X cc own R kk nL) {g : Nat → Nat} {σ : St} {ce sl : Nat} {lv : List (Nat × Value)} {pc : Nat} {st : List Value} {index : Nat} (hl : Cond.fieldLink own index "RainCans$Fixes" "values" "[I" ∈ lw_tbl)  (d : decode cc pc = .ok (.getfield index, 3)) (k : J X ce sl (cX g kk σ) lv (pc + 3) (.ref (g 13) :: st)) : J X ce sl (cX g kk σ) lv pc (.ref (g 11) :: st) := by
  exact j_get C inX1 gdX1 rfl 2 (by decide) rfl hl 11 (eX_11 g kk σ) rfl d k
theorem gX_11_3 {X : jC} {cc : ByteArray} {own : String} {R : Room} {kk : Nat → Nat} {nL : Nat} (C : jF X cc own R kk nL) {g : Nat → Nat} {σ : St} {ce sl : Nat} {lv : List (Nat × Value)} {pc : Nat} {st : List Value} {index : Nat} (hl : Cond.fieldLink own index "RainCans$Fixes" "earlier" "[I" ∈ lw_tbl)  (d : decode cc pc = .ok (.getfield index, 3)) (k : J X ce sl (cX g kk σ) lv (pc + 3) (.ref (g 14) :: st)) : J X ce sl (cX g kk σ) lv pc (.ref (g 11) :: st) := by
  exact j_get C inX1 gdX1 rfl 3 (by decide) rfl hl 11 (eX_11 g kk σ) rfl d k
theorem gX_11_4 {X : jC} {cc : ByteArray} {own : String} {R : Room} {kk : Nat → Nat} {nL : Nat} (C : jF X cc own R kk nL) {g : Nat → Nat} {σ : St} {ce sl : Nat} {lv : List (Nat × Value)} {pc : Nat} {st : List Value} {index : Nat} (hl : Cond.fieldLink own index "RainCans$Fixes" "last" "[I" ∈ lw_tbl)  (d : decode cc pc = .ok (.getfield index, 3)) (k : J X ce sl (cX g kk σ) lv (pc + 3) (.ref (g 15) :: st)) : J X ce sl (cX g kk σ) lv pc (.ref (g 11) :: st) := by
  exact j_get C inX1 gdX1 rfl 4 (by decide) rfl hl 11 (eX_11 g kk σ) rfl d k
theorem rX_12 {X : jC} {cc : ByteArray} {own : String} {R : Room} {kk : Nat → Nat} {nL : Nat} (C : jF X cc own R kk nL) {g : Nat → Nat} {σ : St} {ce sl : Nat} {lv : List (Nat × Value)} {pc : Nat} {st : List Value} {i : Int32} (n : Nat) (e : i = nI n) (h : n < 20) (v : Int32) (hv : σ.2.1 12 n = v) (d : decode cc pc = .ok (.iaload, 1)) (k : J X ce sl (cX g kk σ) lv (pc + 1) (.int v :: st)) : J X ce sl (cX g kk σ) lv pc (.int i :: .ref (g 12) :: st) := by
  subst hv
  refine j_iald C 12 (f := σ.2.1 12) rfl (vp_inN e h (by decide)) d ?_
  rw [clN e (by omega)]
  exact k
theorem tX_12 {X : jC} {cc : ByteArray} {own : String} {R : Room} {kk : Nat → Nat} {nL : Nat} (C : jF X cc own R kk nL) {g : Nat → Nat} {σ : St} {ce sl : Nat} {lv : List (Nat × Value)} {pc : Nat} {st : List Value} {i : Int32} {x : Int32} (n : Nat) (e : i = nI n) (h : n < 20) (d : decode cc pc = .ok (.iastore, 1)) (k : J X ce sl (cX g kk (sF σ 12 (upd (σ.2.1 12) n x))) lv (pc + 1) st) : J X ce sl (cX g kk σ) lv pc (.int x :: .int i :: .ref (g 12) :: st) := by
  refine j_iast C 12 (f := σ.2.1 12) rfl (vp_inN e h (by decide)) (w' := cX g kk (sF σ 12 (upd (σ.2.1 12) n x))) ?_ d k
  rw [clN e (by omega)]
  rfl
theorem rX_13 {X : jC} {cc : ByteArray} {own : String} {R : Room} {kk : Nat → Nat} {nL : Nat} (C : jF X cc own R kk nL) {g : Nat → Nat} {σ : St} {ce sl : Nat} {lv : List (Nat × Value)} {pc : Nat} {st : List Value} {i : Int32} (n : Nat) (e : i = nI n) (h : n < 20) (v : Int32) (hv : σ.2.1 13 n = v) (d : decode cc pc = .ok (.iaload, 1)) (k : J X ce sl (cX g kk σ) lv (pc + 1) (.int v :: st)) : J X ce sl (cX g kk σ) lv pc (.int i :: .ref (g 13) :: st) := by
  subst hv
  refine j_iald C 13 (f := σ.2.1 13) rfl (vp_inN e h (by decide)) d ?_
  rw [clN e (by omega)]
  exact k
theorem tX_13 {X : jC} {cc : ByteArray} {own : String} {R : Room} {kk : Nat → Nat} {nL : Nat} (C : jF X cc own R kk nL) {g : Nat → Nat} {σ : St} {ce sl : Nat} {lv : List (Nat × Value)} {pc : Nat} {st : List Value} {i : Int32} {x : Int32} (n : Nat) (e : i = nI n) (h : n < 20) (d : decode cc pc = .ok (.iastore, 1)) (k : J X ce sl (cX g kk (sF σ 13 (upd (σ.2.1 13) n x))) lv (pc + 1) st) : J X ce sl (cX g kk σ) lv pc (.int x :: .int i :: .ref (g 13) :: st) := by
  refine j_iast C 13 (f := σ.2.1 13) rfl (vp_inN e h (by decide)) (w' := cX g kk (sF σ 13 (upd (σ.2.1 13) n x))) ?_ d k
  rw [clN e (by omega)]
  rfl
theorem rX_14 {X : jC} {cc : ByteArray} {own : String} {R : Room} {kk : Nat → Nat} {nL : Nat} (C : jF X cc own R kk nL) {g : Nat → Nat} {σ : St} {ce sl : Nat} {lv : List (Nat × Value)} {pc : Nat} {st : List Value} {i : Int32} (n : Nat) (e : i = nI n) (h : n < 20) (v : Int32) (hv : σ.2.1 14 n = v) (d : decode cc pc = .ok (.iaload, 1)) (k : J X ce sl (cX g kk σ) lv (pc + 1) (.int v :: st)) : J X ce sl (cX g kk σ) lv pc (.int i :: .ref (g 14) :: st) := by
  subst hv
  refine j_iald C 14 (f := σ.2.1 14) rfl (vp_inN e h (by decide)) d ?_
  rw [clN e (by omega)]
  exact k
theorem tX_14 {X : jC} {cc : ByteArray} {own : String} {R : Room} {kk : Nat → Nat} {nL : Nat} (C : jF X cc own R kk nL) {g : Nat → Nat} {σ : St} {ce sl : Nat} {lv : List (Nat × Value)} {pc : Nat} {st : List Value} {i : Int32} {x : Int32} (n : Nat) (e : i = nI n) (h : n < 20) (d : decode cc pc = .ok (.iastore, 1)) (k : J X ce sl (cX g kk (sF σ 14 (upd (σ.2.1 14) n x))) lv (pc + 1) st) : J X ce sl (cX g kk σ) lv pc (.int x :: .int i :: .ref (g 14) :: st) := by
  refine j_iast C 14 (f := σ.2.1 14) rfl (vp_inN e h (by decide)) (w' := cX g kk (sF σ 14 (upd (σ.2.1 14) n x))) ?_ d k
  rw [clN e (by omega)]
  rfl
theorem rX_15 {X : jC} {cc : ByteArray} {own : String} {R : Room} {kk : Nat → Nat} {nL : Nat} (C : jF X cc own R kk nL) {g : Nat → Nat} {σ : St} {ce sl : Nat} {lv : List (Nat × Value)} {pc : Nat} {st : List Value} {i : Int32} (n : Nat) (e : i = nI n) (h : n < 168) (v : Int32) (hv : σ.2.1 15 n = v) (d : decode cc pc = .ok (.iaload, 1)) (k : J X ce sl (cX g kk σ) lv (pc + 1) (.int v :: st)) : J X ce sl (cX g kk σ) lv pc (.int i :: .ref (g 15) :: st) := by
  subst hv
  refine j_iald C 15 (f := σ.2.1 15) rfl (vp_inN e h (by decide)) d ?_
  rw [clN e (by omega)]
  exact k
theorem tX_15 {X : jC} {cc : ByteArray} {own : String} {R : Room} {kk : Nat → Nat} {nL : Nat} (C : jF X cc own R kk nL) {g : Nat → Nat} {σ : St} {ce sl : Nat} {lv : List (Nat × Value)} {pc : Nat} {st : List Value} {i : Int32} {x : Int32} (n : Nat) (e : i = nI n) (h : n < 168) (d : decode cc pc = .ok (.iastore, 1)) (k : J X ce sl (cX g kk (sF σ 15 (upd (σ.2.1 15) n x))) lv (pc + 1) st) : J X ce sl (cX g kk σ) lv pc (.int x :: .int i :: .ref (g 15) :: st) := by
  refine j_iast C 15 (f := σ.2.1 15) rfl (vp_inN e h (by decide)) (w' := cX g kk (sF σ 15 (upd (σ.2.1 15) n x))) ?_ d k
  rw [clN e (by omega)]
  rfl
theorem eX_16 (g : Nat → Nat) (kk : Nat → Nat) (σ : St) : (cX g kk σ)[16]? = some (g 16, .inr (6, [.int (σ.1 256), .ref (g 17), .ref (g 18), .ref (g 19), .ref (g 20), .ref (g 21)])) := rfl
theorem gX_16_0 {X : jC} {cc : ByteArray} {own : String} {R : Room} {kk : Nat → Nat} {nL : Nat} (C : jF X cc own R kk nL) {g : Nat → Nat} {σ : St} {ce sl : Nat} {lv : List (Nat × Value)} {pc : Nat} {st : List Value} {index : Nat} (hl : Cond.fieldLink own index "RainCans$Radars" "count" "I" ∈ lw_tbl) (v : Int32) (hv : σ.1 256 = v) (d : decode cc pc = .ok (.getfield index, 3)) (k : J X ce sl (cX g kk σ) lv (pc + 3) (.int v :: st)) : J X ce sl (cX g kk σ) lv pc (.ref (g 16) :: st) := by
  subst hv
  exact j_get C inX6 gdX6 rfl 0 (by decide) rfl hl 16 (eX_16 g kk σ) rfl d k
theorem pX_16_0 {X : jC} {cc : ByteArray} {own : String} {R : Room} {kk : Nat → Nat} {nL : Nat} (C : jF X cc own R kk nL) {g : Nat → Nat} {σ : St} {ce sl : Nat} {lv : List (Nat × Value)} {pc : Nat} {st : List Value} {index : Nat} (hl : Cond.fieldLink own index "RainCans$Radars" "count" "I" ∈ lw_tbl) {v : Int32} (d : decode cc pc = .ok (.putfield index, 3)) (k : J X ce sl (cX g kk (sI σ 256 v)) lv (pc + 3) st) : J X ce sl (cX g kk σ) lv pc (.int v :: .ref (g 16) :: st) :=
  j_put (ty := .int) C inX6 gdX6 tyX6_ok nmX6 rfl 0 (by decide) rfl hl rfl (by decide +kernel) 16 (eX_16 g kk σ) rfl rfl (Nat.le_of_ble_eq_true rfl) (w' := cX g kk (sI σ 256 v)) rfl d k
theorem gX_16_1 {X : jC} {cc : ByteArray} {own : String} {R : Room} {kk : Nat → Nat} {nL : Nat} (C : jF X cc own R kk nL) {g : Nat → Nat} {σ : St} {ce sl : Nat} {lv : List (Nat × Value)} {pc : Nat} {st : List Value} {index : Nat} (hl : Cond.fieldLink own index "RainCans$Radars" "days" "[I" ∈ lw_tbl)  (d : decode cc pc = .ok (.getfield index, 3)) (k : J X ce sl (cX g kk σ) lv (pc + 3) (.ref (g 17) :: st)) : J X ce sl (cX g kk σ) lv pc (.ref (g 16) :: st) := by
  exact j_get C inX6 gdX6 rfl 1 (by decide) rfl hl 16 (eX_16 g kk σ) rfl d k
theorem gX_16_2 {X : jC} {cc : ByteArray} {own : String} {R : Room} {kk : Nat → Nat} {nL : Nat} (C : jF X cc own R kk nL) {g : Nat → Nat} {σ : St} {ce sl : Nat} {lv : List (Nat × Value)} {pc : Nat} {st : List Value} {index : Nat} (hl : Cond.fieldLink own index "RainCans$Radars" "x" "[I" ∈ lw_tbl)  (d : decode cc pc = .ok (.getfield index, 3)) (k : J X ce sl (cX g kk σ) lv (pc + 3) (.ref (g 18) :: st)) : J X ce sl (cX g kk σ) lv pc (.ref (g 16) :: st) := by
  exact j_get C inX6 gdX6 rfl 2 (by decide) rfl hl 16 (eX_16 g kk σ) rfl d k
theorem gX_16_3 {X : jC} {cc : ByteArray} {own : String} {R : Room} {kk : Nat → Nat} {nL : Nat} (C : jF X cc own R kk nL) {g : Nat → Nat} {σ : St} {ce sl : Nat} {lv : List (Nat × Value)} {pc : Nat} {st : List Value} {index : Nat} (hl : Cond.fieldLink own index "RainCans$Radars" "y" "[I" ∈ lw_tbl)  (d : decode cc pc = .ok (.getfield index, 3)) (k : J X ce sl (cX g kk σ) lv (pc + 3) (.ref (g 19) :: st)) : J X ce sl (cX g kk σ) lv pc (.ref (g 16) :: st) := by
  exact j_get C inX6 gdX6 rfl 3 (by decide) rfl hl 16 (eX_16 g kk σ) rfl d k
theorem gX_16_4 {X : jC} {cc : ByteArray} {own : String} {R : Room} {kk : Nat → Nat} {nL : Nat} (C : jF X cc own R kk nL) {g : Nat → Nat} {σ : St} {ce sl : Nat} {lv : List (Nat × Value)} {pc : Nat} {st : List Value} {index : Nat} (hl : Cond.fieldLink own index "RainCans$Radars" "least" "[I" ∈ lw_tbl)  (d : decode cc pc = .ok (.getfield index, 3)) (k : J X ce sl (cX g kk σ) lv (pc + 3) (.ref (g 20) :: st)) : J X ce sl (cX g kk σ) lv pc (.ref (g 16) :: st) := by
  exact j_get C inX6 gdX6 rfl 4 (by decide) rfl hl 16 (eX_16 g kk σ) rfl d k
theorem gX_16_5 {X : jC} {cc : ByteArray} {own : String} {R : Room} {kk : Nat → Nat} {nL : Nat} (C : jF X cc own R kk nL) {g : Nat → Nat} {σ : St} {ce sl : Nat} {lv : List (Nat × Value)} {pc : Nat} {st : List Value} {index : Nat} (hl : Cond.fieldLink own index "RainCans$Radars" "most" "[I" ∈ lw_tbl)  (d : decode cc pc = .ok (.getfield index, 3)) (k : J X ce sl (cX g kk σ) lv (pc + 3) (.ref (g 21) :: st)) : J X ce sl (cX g kk σ) lv pc (.ref (g 16) :: st) := by
  exact j_get C inX6 gdX6 rfl 5 (by decide) rfl hl 16 (eX_16 g kk σ) rfl d k
theorem rX_17 {X : jC} {cc : ByteArray} {own : String} {R : Room} {kk : Nat → Nat} {nL : Nat} (C : jF X cc own R kk nL) {g : Nat → Nat} {σ : St} {ce sl : Nat} {lv : List (Nat × Value)} {pc : Nat} {st : List Value} {i : Int32} (n : Nat) (e : i = nI n) (h : n < 6) (v : Int32) (hv : σ.2.1 17 n = v) (d : decode cc pc = .ok (.iaload, 1)) (k : J X ce sl (cX g kk σ) lv (pc + 1) (.int v :: st)) : J X ce sl (cX g kk σ) lv pc (.int i :: .ref (g 17) :: st) := by
  subst hv
  refine j_iald C 17 (f := σ.2.1 17) rfl (vp_inN e h (by decide)) d ?_
  rw [clN e (by omega)]
  exact k
theorem tX_17 {X : jC} {cc : ByteArray} {own : String} {R : Room} {kk : Nat → Nat} {nL : Nat} (C : jF X cc own R kk nL) {g : Nat → Nat} {σ : St} {ce sl : Nat} {lv : List (Nat × Value)} {pc : Nat} {st : List Value} {i : Int32} {x : Int32} (n : Nat) (e : i = nI n) (h : n < 6) (d : decode cc pc = .ok (.iastore, 1)) (k : J X ce sl (cX g kk (sF σ 17 (upd (σ.2.1 17) n x))) lv (pc + 1) st) : J X ce sl (cX g kk σ) lv pc (.int x :: .int i :: .ref (g 17) :: st) := by
  refine j_iast C 17 (f := σ.2.1 17) rfl (vp_inN e h (by decide)) (w' := cX g kk (sF σ 17 (upd (σ.2.1 17) n x))) ?_ d k
  rw [clN e (by omega)]
  rfl
theorem rX_18 {X : jC} {cc : ByteArray} {own : String} {R : Room} {kk : Nat → Nat} {nL : Nat} (C : jF X cc own R kk nL) {g : Nat → Nat} {σ : St} {ce sl : Nat} {lv : List (Nat × Value)} {pc : Nat} {st : List Value} {i : Int32} (n : Nat) (e : i = nI n) (h : n < 6) (v : Int32) (hv : σ.2.1 18 n = v) (d : decode cc pc = .ok (.iaload, 1)) (k : J X ce sl (cX g kk σ) lv (pc + 1) (.int v :: st)) : J X ce sl (cX g kk σ) lv pc (.int i :: .ref (g 18) :: st) := by
  subst hv
  refine j_iald C 18 (f := σ.2.1 18) rfl (vp_inN e h (by decide)) d ?_
  rw [clN e (by omega)]
  exact k
theorem tX_18 {X : jC} {cc : ByteArray} {own : String} {R : Room} {kk : Nat → Nat} {nL : Nat} (C : jF X cc own R kk nL) {g : Nat → Nat} {σ : St} {ce sl : Nat} {lv : List (Nat × Value)} {pc : Nat} {st : List Value} {i : Int32} {x : Int32} (n : Nat) (e : i = nI n) (h : n < 6) (d : decode cc pc = .ok (.iastore, 1)) (k : J X ce sl (cX g kk (sF σ 18 (upd (σ.2.1 18) n x))) lv (pc + 1) st) : J X ce sl (cX g kk σ) lv pc (.int x :: .int i :: .ref (g 18) :: st) := by
  refine j_iast C 18 (f := σ.2.1 18) rfl (vp_inN e h (by decide)) (w' := cX g kk (sF σ 18 (upd (σ.2.1 18) n x))) ?_ d k
  rw [clN e (by omega)]
  rfl
theorem rX_19 {X : jC} {cc : ByteArray} {own : String} {R : Room} {kk : Nat → Nat} {nL : Nat} (C : jF X cc own R kk nL) {g : Nat → Nat} {σ : St} {ce sl : Nat} {lv : List (Nat × Value)} {pc : Nat} {st : List Value} {i : Int32} (n : Nat) (e : i = nI n) (h : n < 6) (v : Int32) (hv : σ.2.1 19 n = v) (d : decode cc pc = .ok (.iaload, 1)) (k : J X ce sl (cX g kk σ) lv (pc + 1) (.int v :: st)) : J X ce sl (cX g kk σ) lv pc (.int i :: .ref (g 19) :: st) := by
  subst hv
  refine j_iald C 19 (f := σ.2.1 19) rfl (vp_inN e h (by decide)) d ?_
  rw [clN e (by omega)]
  exact k
theorem tX_19 {X : jC} {cc : ByteArray} {own : String} {R : Room} {kk : Nat → Nat} {nL : Nat} (C : jF X cc own R kk nL) {g : Nat → Nat} {σ : St} {ce sl : Nat} {lv : List (Nat × Value)} {pc : Nat} {st : List Value} {i : Int32} {x : Int32} (n : Nat) (e : i = nI n) (h : n < 6) (d : decode cc pc = .ok (.iastore, 1)) (k : J X ce sl (cX g kk (sF σ 19 (upd (σ.2.1 19) n x))) lv (pc + 1) st) : J X ce sl (cX g kk σ) lv pc (.int x :: .int i :: .ref (g 19) :: st) := by
  refine j_iast C 19 (f := σ.2.1 19) rfl (vp_inN e h (by decide)) (w' := cX g kk (sF σ 19 (upd (σ.2.1 19) n x))) ?_ d k
  rw [clN e (by omega)]
  rfl
theorem rX_20 {X : jC} {cc : ByteArray} {own : String} {R : Room} {kk : Nat → Nat} {nL : Nat} (C : jF X cc own R kk nL) {g : Nat → Nat} {σ : St} {ce sl : Nat} {lv : List (Nat × Value)} {pc : Nat} {st : List Value} {i : Int32} (n : Nat) (e : i = nI n) (h : n < 6) (v : Int32) (hv : σ.2.1 20 n = v) (d : decode cc pc = .ok (.iaload, 1)) (k : J X ce sl (cX g kk σ) lv (pc + 1) (.int v :: st)) : J X ce sl (cX g kk σ) lv pc (.int i :: .ref (g 20) :: st) := by
  subst hv
  refine j_iald C 20 (f := σ.2.1 20) rfl (vp_inN e h (by decide)) d ?_
  rw [clN e (by omega)]
  exact k
theorem tX_20 {X : jC} {cc : ByteArray} {own : String} {R : Room} {kk : Nat → Nat} {nL : Nat} (C : jF X cc own R kk nL) {g : Nat → Nat} {σ : St} {ce sl : Nat} {lv : List (Nat × Value)} {pc : Nat} {st : List Value} {i : Int32} {x : Int32} (n : Nat) (e : i = nI n) (h : n < 6) (d : decode cc pc = .ok (.iastore, 1)) (k : J X ce sl (cX g kk (sF σ 20 (upd (σ.2.1 20) n x))) lv (pc + 1) st) : J X ce sl (cX g kk σ) lv pc (.int x :: .int i :: .ref (g 20) :: st) := by
  refine j_iast C 20 (f := σ.2.1 20) rfl (vp_inN e h (by decide)) (w' := cX g kk (sF σ 20 (upd (σ.2.1 20) n x))) ?_ d k
  rw [clN e (by omega)]
  rfl
theorem rX_21 {X : jC} {cc : ByteArray} {own : String} {R : Room} {kk : Nat → Nat} {nL : Nat} (C : jF X cc own R kk nL) {g : Nat → Nat} {σ : St} {ce sl : Nat} {lv : List (Nat × Value)} {pc : Nat} {st : List Value} {i : Int32} (n : Nat) (e : i = nI n) (h : n < 6) (v : Int32) (hv : σ.2.1 21 n = v) (d : decode cc pc = .ok (.iaload, 1)) (k : J X ce sl (cX g kk σ) lv (pc + 1) (.int v :: st)) : J X ce sl (cX g kk σ) lv pc (.int i :: .ref (g 21) :: st) := by
  subst hv
  refine j_iald C 21 (f := σ.2.1 21) rfl (vp_inN e h (by decide)) d ?_
  rw [clN e (by omega)]
  exact k
theorem tX_21 {X : jC} {cc : ByteArray} {own : String} {R : Room} {kk : Nat → Nat} {nL : Nat} (C : jF X cc own R kk nL) {g : Nat → Nat} {σ : St} {ce sl : Nat} {lv : List (Nat × Value)} {pc : Nat} {st : List Value} {i : Int32} {x : Int32} (n : Nat) (e : i = nI n) (h : n < 6) (d : decode cc pc = .ok (.iastore, 1)) (k : J X ce sl (cX g kk (sF σ 21 (upd (σ.2.1 21) n x))) lv (pc + 1) st) : J X ce sl (cX g kk σ) lv pc (.int x :: .int i :: .ref (g 21) :: st) := by
  refine j_iast C 21 (f := σ.2.1 21) rfl (vp_inN e h (by decide)) (w' := cX g kk (sF σ 21 (upd (σ.2.1 21) n x))) ?_ d k
  rw [clN e (by omega)]
  rfl
theorem eX_22 (g : Nat → Nat) (kk : Nat → Nat) (σ : St) : (cX g kk σ)[22]? = some (g 22, .inr (5, [.int (σ.1 352), .int (σ.1 353), .ref (g 23), .ref (g 24), .ref (g 25), .ref (g 26)])) := rfl
theorem gX_22_0 {X : jC} {cc : ByteArray} {own : String} {R : Room} {kk : Nat → Nat} {nL : Nat} (C : jF X cc own R kk nL) {g : Nat → Nat} {σ : St} {ce sl : Nat} {lv : List (Nat × Value)} {pc : Nat} {st : List Value} {index : Nat} (hl : Cond.fieldLink own index "RainCans$Pad" "length" "I" ∈ lw_tbl) (v : Int32) (hv : σ.1 352 = v) (d : decode cc pc = .ok (.getfield index, 3)) (k : J X ce sl (cX g kk σ) lv (pc + 3) (.int v :: st)) : J X ce sl (cX g kk σ) lv pc (.ref (g 22) :: st) := by
  subst hv
  exact j_get C inX5 gdX5 rfl 0 (by decide) rfl hl 22 (eX_22 g kk σ) rfl d k
theorem pX_22_0 {X : jC} {cc : ByteArray} {own : String} {R : Room} {kk : Nat → Nat} {nL : Nat} (C : jF X cc own R kk nL) {g : Nat → Nat} {σ : St} {ce sl : Nat} {lv : List (Nat × Value)} {pc : Nat} {st : List Value} {index : Nat} (hl : Cond.fieldLink own index "RainCans$Pad" "length" "I" ∈ lw_tbl) {v : Int32} (d : decode cc pc = .ok (.putfield index, 3)) (k : J X ce sl (cX g kk (sI σ 352 v)) lv (pc + 3) st) : J X ce sl (cX g kk σ) lv pc (.int v :: .ref (g 22) :: st) :=
  j_put (ty := .int) C inX5 gdX5 tyX5_ok nmX5 rfl 0 (by decide) rfl hl rfl (by decide +kernel) 22 (eX_22 g kk σ) rfl rfl (Nat.le_of_ble_eq_true rfl) (w' := cX g kk (sI σ 352 v)) rfl d k
theorem gX_22_1 {X : jC} {cc : ByteArray} {own : String} {R : Room} {kk : Nat → Nat} {nL : Nat} (C : jF X cc own R kk nL) {g : Nat → Nat} {σ : St} {ce sl : Nat} {lv : List (Nat × Value)} {pc : Nat} {st : List Value} {index : Nat} (hl : Cond.fieldLink own index "RainCans$Pad" "items" "I" ∈ lw_tbl) (v : Int32) (hv : σ.1 353 = v) (d : decode cc pc = .ok (.getfield index, 3)) (k : J X ce sl (cX g kk σ) lv (pc + 3) (.int v :: st)) : J X ce sl (cX g kk σ) lv pc (.ref (g 22) :: st) := by
  subst hv
  exact j_get C inX5 gdX5 rfl 1 (by decide) rfl hl 22 (eX_22 g kk σ) rfl d k
theorem pX_22_1 {X : jC} {cc : ByteArray} {own : String} {R : Room} {kk : Nat → Nat} {nL : Nat} (C : jF X cc own R kk nL) {g : Nat → Nat} {σ : St} {ce sl : Nat} {lv : List (Nat × Value)} {pc : Nat} {st : List Value} {index : Nat} (hl : Cond.fieldLink own index "RainCans$Pad" "items" "I" ∈ lw_tbl) {v : Int32} (d : decode cc pc = .ok (.putfield index, 3)) (k : J X ce sl (cX g kk (sI σ 353 v)) lv (pc + 3) st) : J X ce sl (cX g kk σ) lv pc (.int v :: .ref (g 22) :: st) :=
  j_put (ty := .int) C inX5 gdX5 tyX5_ok nmX5 rfl 1 (by decide) rfl hl rfl (by decide +kernel) 22 (eX_22 g kk σ) rfl rfl (Nat.le_of_ble_eq_true rfl) (w' := cX g kk (sI σ 353 v)) rfl d k
theorem gX_22_2 {X : jC} {cc : ByteArray} {own : String} {R : Room} {kk : Nat → Nat} {nL : Nat} (C : jF X cc own R kk nL) {g : Nat → Nat} {σ : St} {ce sl : Nat} {lv : List (Nat × Value)} {pc : Nat} {st : List Value} {index : Nat} (hl : Cond.fieldLink own index "RainCans$Pad" "signs" "[I" ∈ lw_tbl)  (d : decode cc pc = .ok (.getfield index, 3)) (k : J X ce sl (cX g kk σ) lv (pc + 3) (.ref (g 23) :: st)) : J X ce sl (cX g kk σ) lv pc (.ref (g 22) :: st) := by
  exact j_get C inX5 gdX5 rfl 2 (by decide) rfl hl 22 (eX_22 g kk σ) rfl d k
theorem gX_22_3 {X : jC} {cc : ByteArray} {own : String} {R : Room} {kk : Nat → Nat} {nL : Nat} (C : jF X cc own R kk nL) {g : Nat → Nat} {σ : St} {ce sl : Nat} {lv : List (Nat × Value)} {pc : Nat} {st : List Value} {index : Nat} (hl : Cond.fieldLink own index "RainCans$Pad" "notes" "[I" ∈ lw_tbl)  (d : decode cc pc = .ok (.getfield index, 3)) (k : J X ce sl (cX g kk σ) lv (pc + 3) (.ref (g 24) :: st)) : J X ce sl (cX g kk σ) lv pc (.ref (g 22) :: st) := by
  exact j_get C inX5 gdX5 rfl 3 (by decide) rfl hl 22 (eX_22 g kk σ) rfl d k
theorem gX_22_4 {X : jC} {cc : ByteArray} {own : String} {R : Room} {kk : Nat → Nat} {nL : Nat} (C : jF X cc own R kk nL) {g : Nat → Nat} {σ : St} {ce sl : Nat} {lv : List (Nat × Value)} {pc : Nat} {st : List Value} {index : Nat} (hl : Cond.fieldLink own index "RainCans$Pad" "sumFirst" "[I" ∈ lw_tbl)  (d : decode cc pc = .ok (.getfield index, 3)) (k : J X ce sl (cX g kk σ) lv (pc + 3) (.ref (g 25) :: st)) : J X ce sl (cX g kk σ) lv pc (.ref (g 22) :: st) := by
  exact j_get C inX5 gdX5 rfl 4 (by decide) rfl hl 22 (eX_22 g kk σ) rfl d k
theorem gX_22_5 {X : jC} {cc : ByteArray} {own : String} {R : Room} {kk : Nat → Nat} {nL : Nat} (C : jF X cc own R kk nL) {g : Nat → Nat} {σ : St} {ce sl : Nat} {lv : List (Nat × Value)} {pc : Nat} {st : List Value} {index : Nat} (hl : Cond.fieldLink own index "RainCans$Pad" "sumLast" "[I" ∈ lw_tbl)  (d : decode cc pc = .ok (.getfield index, 3)) (k : J X ce sl (cX g kk σ) lv (pc + 3) (.ref (g 26) :: st)) : J X ce sl (cX g kk σ) lv pc (.ref (g 22) :: st) := by
  exact j_get C inX5 gdX5 rfl 5 (by decide) rfl hl 22 (eX_22 g kk σ) rfl d k
theorem rX_23 {X : jC} {cc : ByteArray} {own : String} {R : Room} {kk : Nat → Nat} {nL : Nat} (C : jF X cc own R kk nL) {g : Nat → Nat} {σ : St} {ce sl : Nat} {lv : List (Nat × Value)} {pc : Nat} {st : List Value} {i : Int32} (n : Nat) (e : i = nI n) (h : n < 40) (v : Int32) (hv : σ.2.1 23 n = v) (d : decode cc pc = .ok (.iaload, 1)) (k : J X ce sl (cX g kk σ) lv (pc + 1) (.int v :: st)) : J X ce sl (cX g kk σ) lv pc (.int i :: .ref (g 23) :: st) := by
  subst hv
  refine j_iald C 23 (f := σ.2.1 23) rfl (vp_inN e h (by decide)) d ?_
  rw [clN e (by omega)]
  exact k
theorem tX_23 {X : jC} {cc : ByteArray} {own : String} {R : Room} {kk : Nat → Nat} {nL : Nat} (C : jF X cc own R kk nL) {g : Nat → Nat} {σ : St} {ce sl : Nat} {lv : List (Nat × Value)} {pc : Nat} {st : List Value} {i : Int32} {x : Int32} (n : Nat) (e : i = nI n) (h : n < 40) (d : decode cc pc = .ok (.iastore, 1)) (k : J X ce sl (cX g kk (sF σ 23 (upd (σ.2.1 23) n x))) lv (pc + 1) st) : J X ce sl (cX g kk σ) lv pc (.int x :: .int i :: .ref (g 23) :: st) := by
  refine j_iast C 23 (f := σ.2.1 23) rfl (vp_inN e h (by decide)) (w' := cX g kk (sF σ 23 (upd (σ.2.1 23) n x))) ?_ d k
  rw [clN e (by omega)]
  rfl
theorem rX_24 {X : jC} {cc : ByteArray} {own : String} {R : Room} {kk : Nat → Nat} {nL : Nat} (C : jF X cc own R kk nL) {g : Nat → Nat} {σ : St} {ce sl : Nat} {lv : List (Nat × Value)} {pc : Nat} {st : List Value} {i : Int32} (n : Nat) (e : i = nI n) (h : n < 28) (v : Int32) (hv : σ.2.1 24 n = v) (d : decode cc pc = .ok (.iaload, 1)) (k : J X ce sl (cX g kk σ) lv (pc + 1) (.int v :: st)) : J X ce sl (cX g kk σ) lv pc (.int i :: .ref (g 24) :: st) := by
  subst hv
  refine j_iald C 24 (f := σ.2.1 24) rfl (vp_inN e h (by decide)) d ?_
  rw [clN e (by omega)]
  exact k
theorem tX_24 {X : jC} {cc : ByteArray} {own : String} {R : Room} {kk : Nat → Nat} {nL : Nat} (C : jF X cc own R kk nL) {g : Nat → Nat} {σ : St} {ce sl : Nat} {lv : List (Nat × Value)} {pc : Nat} {st : List Value} {i : Int32} {x : Int32} (n : Nat) (e : i = nI n) (h : n < 28) (d : decode cc pc = .ok (.iastore, 1)) (k : J X ce sl (cX g kk (sF σ 24 (upd (σ.2.1 24) n x))) lv (pc + 1) st) : J X ce sl (cX g kk σ) lv pc (.int x :: .int i :: .ref (g 24) :: st) := by
  refine j_iast C 24 (f := σ.2.1 24) rfl (vp_inN e h (by decide)) (w' := cX g kk (sF σ 24 (upd (σ.2.1 24) n x))) ?_ d k
  rw [clN e (by omega)]
  rfl
theorem rX_25 {X : jC} {cc : ByteArray} {own : String} {R : Room} {kk : Nat → Nat} {nL : Nat} (C : jF X cc own R kk nL) {g : Nat → Nat} {σ : St} {ce sl : Nat} {lv : List (Nat × Value)} {pc : Nat} {st : List Value} {i : Int32} (n : Nat) (e : i = nI n) (h : n < 28) (v : Int32) (hv : σ.2.1 25 n = v) (d : decode cc pc = .ok (.iaload, 1)) (k : J X ce sl (cX g kk σ) lv (pc + 1) (.int v :: st)) : J X ce sl (cX g kk σ) lv pc (.int i :: .ref (g 25) :: st) := by
  subst hv
  refine j_iald C 25 (f := σ.2.1 25) rfl (vp_inN e h (by decide)) d ?_
  rw [clN e (by omega)]
  exact k
theorem tX_25 {X : jC} {cc : ByteArray} {own : String} {R : Room} {kk : Nat → Nat} {nL : Nat} (C : jF X cc own R kk nL) {g : Nat → Nat} {σ : St} {ce sl : Nat} {lv : List (Nat × Value)} {pc : Nat} {st : List Value} {i : Int32} {x : Int32} (n : Nat) (e : i = nI n) (h : n < 28) (d : decode cc pc = .ok (.iastore, 1)) (k : J X ce sl (cX g kk (sF σ 25 (upd (σ.2.1 25) n x))) lv (pc + 1) st) : J X ce sl (cX g kk σ) lv pc (.int x :: .int i :: .ref (g 25) :: st) := by
  refine j_iast C 25 (f := σ.2.1 25) rfl (vp_inN e h (by decide)) (w' := cX g kk (sF σ 25 (upd (σ.2.1 25) n x))) ?_ d k
  rw [clN e (by omega)]
  rfl
theorem rX_26 {X : jC} {cc : ByteArray} {own : String} {R : Room} {kk : Nat → Nat} {nL : Nat} (C : jF X cc own R kk nL) {g : Nat → Nat} {σ : St} {ce sl : Nat} {lv : List (Nat × Value)} {pc : Nat} {st : List Value} {i : Int32} (n : Nat) (e : i = nI n) (h : n < 28) (v : Int32) (hv : σ.2.1 26 n = v) (d : decode cc pc = .ok (.iaload, 1)) (k : J X ce sl (cX g kk σ) lv (pc + 1) (.int v :: st)) : J X ce sl (cX g kk σ) lv pc (.int i :: .ref (g 26) :: st) := by
  subst hv
  refine j_iald C 26 (f := σ.2.1 26) rfl (vp_inN e h (by decide)) d ?_
  rw [clN e (by omega)]
  exact k
theorem tX_26 {X : jC} {cc : ByteArray} {own : String} {R : Room} {kk : Nat → Nat} {nL : Nat} (C : jF X cc own R kk nL) {g : Nat → Nat} {σ : St} {ce sl : Nat} {lv : List (Nat × Value)} {pc : Nat} {st : List Value} {i : Int32} {x : Int32} (n : Nat) (e : i = nI n) (h : n < 28) (d : decode cc pc = .ok (.iastore, 1)) (k : J X ce sl (cX g kk (sF σ 26 (upd (σ.2.1 26) n x))) lv (pc + 1) st) : J X ce sl (cX g kk σ) lv pc (.int x :: .int i :: .ref (g 26) :: st) := by
  refine j_iast C 26 (f := σ.2.1 26) rfl (vp_inN e h (by decide)) (w' := cX g kk (sF σ 26 (upd (σ.2.1 26) n x))) ?_ d k
  rw [clN e (by omega)]
  rfl
theorem eX_27 (g : Nat → Nat) (kk : Nat → Nat) (σ : St) : (cX g kk σ)[27]? = some (g 27, .inr (7, [.ref (g 1), .ref (g 28), .ref (g 29), .ref (g 30), .ref (g 31), .int (σ.1 437)])) := rfl
theorem gX_27_0 {X : jC} {cc : ByteArray} {own : String} {R : Room} {kk : Nat → Nat} {nL : Nat} (C : jF X cc own R kk nL) {g : Nat → Nat} {σ : St} {ce sl : Nat} {lv : List (Nat × Value)} {pc : Nat} {st : List Value} {index : Nat} (hl : Cond.fieldLink own index "RainCans$Rain" "garden" "LRainCans$Garden;" ∈ lw_tbl)  (d : decode cc pc = .ok (.getfield index, 3)) (k : J X ce sl (cX g kk σ) lv (pc + 3) (.ref (g 1) :: st)) : J X ce sl (cX g kk σ) lv pc (.ref (g 27) :: st) := by
  exact j_get C inX7 gdX7 rfl 0 (by decide) rfl hl 27 (eX_27 g kk σ) rfl d k
theorem gX_27_1 {X : jC} {cc : ByteArray} {own : String} {R : Room} {kk : Nat → Nat} {nL : Nat} (C : jF X cc own R kk nL) {g : Nat → Nat} {σ : St} {ce sl : Nat} {lv : List (Nat × Value)} {pc : Nat} {st : List Value} {index : Nat} (hl : Cond.fieldLink own index "RainCans$Rain" "read" "[I" ∈ lw_tbl)  (d : decode cc pc = .ok (.getfield index, 3)) (k : J X ce sl (cX g kk σ) lv (pc + 3) (.ref (g 28) :: st)) : J X ce sl (cX g kk σ) lv pc (.ref (g 27) :: st) := by
  exact j_get C inX7 gdX7 rfl 1 (by decide) rfl hl 27 (eX_27 g kk σ) rfl d k
theorem gX_27_2 {X : jC} {cc : ByteArray} {own : String} {R : Room} {kk : Nat → Nat} {nL : Nat} (C : jF X cc own R kk nL) {g : Nat → Nat} {σ : St} {ce sl : Nat} {lv : List (Nat × Value)} {pc : Nat} {st : List Value} {index : Nat} (hl : Cond.fieldLink own index "RainCans$Rain" "plain" "[I" ∈ lw_tbl)  (d : decode cc pc = .ok (.getfield index, 3)) (k : J X ce sl (cX g kk σ) lv (pc + 3) (.ref (g 29) :: st)) : J X ce sl (cX g kk σ) lv pc (.ref (g 27) :: st) := by
  exact j_get C inX7 gdX7 rfl 2 (by decide) rfl hl 27 (eX_27 g kk σ) rfl d k
theorem gX_27_3 {X : jC} {cc : ByteArray} {own : String} {R : Room} {kk : Nat → Nat} {nL : Nat} (C : jF X cc own R kk nL) {g : Nat → Nat} {σ : St} {ce sl : Nat} {lv : List (Nat × Value)} {pc : Nat} {st : List Value} {index : Nat} (hl : Cond.fieldLink own index "RainCans$Rain" "expected" "[I" ∈ lw_tbl)  (d : decode cc pc = .ok (.getfield index, 3)) (k : J X ce sl (cX g kk σ) lv (pc + 3) (.ref (g 30) :: st)) : J X ce sl (cX g kk σ) lv pc (.ref (g 27) :: st) := by
  exact j_get C inX7 gdX7 rfl 3 (by decide) rfl hl 27 (eX_27 g kk σ) rfl d k
theorem gX_27_4 {X : jC} {cc : ByteArray} {own : String} {R : Room} {kk : Nat → Nat} {nL : Nat} (C : jF X cc own R kk nL) {g : Nat → Nat} {σ : St} {ce sl : Nat} {lv : List (Nat × Value)} {pc : Nat} {st : List Value} {index : Nat} (hl : Cond.fieldLink own index "RainCans$Rain" "value" "[I" ∈ lw_tbl)  (d : decode cc pc = .ok (.getfield index, 3)) (k : J X ce sl (cX g kk σ) lv (pc + 3) (.ref (g 31) :: st)) : J X ce sl (cX g kk σ) lv pc (.ref (g 27) :: st) := by
  exact j_get C inX7 gdX7 rfl 4 (by decide) rfl hl 27 (eX_27 g kk σ) rfl d k
theorem gX_27_5 {X : jC} {cc : ByteArray} {own : String} {R : Room} {kk : Nat → Nat} {nL : Nat} (C : jF X cc own R kk nL) {g : Nat → Nat} {σ : St} {ce sl : Nat} {lv : List (Nat × Value)} {pc : Nat} {st : List Value} {index : Nat} (hl : Cond.fieldLink own index "RainCans$Rain" "stale" "Z" ∈ lw_tbl) (v : Int32) (hv : σ.1 437 = v) (d : decode cc pc = .ok (.getfield index, 3)) (k : J X ce sl (cX g kk σ) lv (pc + 3) (.int v :: st)) : J X ce sl (cX g kk σ) lv pc (.ref (g 27) :: st) := by
  subst hv
  exact j_get C inX7 gdX7 rfl 5 (by decide) rfl hl 27 (eX_27 g kk σ) rfl d k
theorem pX_27_5 {X : jC} {cc : ByteArray} {own : String} {R : Room} {kk : Nat → Nat} {nL : Nat} (C : jF X cc own R kk nL) {g : Nat → Nat} {σ : St} {ce sl : Nat} {lv : List (Nat × Value)} {pc : Nat} {st : List Value} {index : Nat} (hl : Cond.fieldLink own index "RainCans$Rain" "stale" "Z" ∈ lw_tbl) {v : Int32} (hz : narrow .boolean (.int v) = .int v) (hzf : fits .boolean (.int v) = true) (d : decode cc pc = .ok (.putfield index, 3)) (k : J X ce sl (cX g kk (sI σ 437 v)) lv (pc + 3) st) : J X ce sl (cX g kk σ) lv pc (.int v :: .ref (g 27) :: st) :=
  j_put (ty := .boolean) C inX7 gdX7 tyX7_ok nmX7 rfl 5 (by decide) rfl hl rfl (by decide +kernel) 27 (eX_27 g kk σ) hz (hzf) (Nat.le_of_ble_eq_true rfl) (w' := cX g kk (sI σ 437 v)) rfl d k
theorem rX_28 {X : jC} {cc : ByteArray} {own : String} {R : Room} {kk : Nat → Nat} {nL : Nat} (C : jF X cc own R kk nL) {g : Nat → Nat} {σ : St} {ce sl : Nat} {lv : List (Nat × Value)} {pc : Nat} {st : List Value} {i : Int32} (n : Nat) (e : i = nI n) (h : n < 168) (v : Int32) (hv : σ.2.1 28 n = v) (d : decode cc pc = .ok (.iaload, 1)) (k : J X ce sl (cX g kk σ) lv (pc + 1) (.int v :: st)) : J X ce sl (cX g kk σ) lv pc (.int i :: .ref (g 28) :: st) := by
  subst hv
  refine j_iald C 28 (f := σ.2.1 28) rfl (vp_inN e h (by decide)) d ?_
  rw [clN e (by omega)]
  exact k
theorem tX_28 {X : jC} {cc : ByteArray} {own : String} {R : Room} {kk : Nat → Nat} {nL : Nat} (C : jF X cc own R kk nL) {g : Nat → Nat} {σ : St} {ce sl : Nat} {lv : List (Nat × Value)} {pc : Nat} {st : List Value} {i : Int32} {x : Int32} (n : Nat) (e : i = nI n) (h : n < 168) (d : decode cc pc = .ok (.iastore, 1)) (k : J X ce sl (cX g kk (sF σ 28 (upd (σ.2.1 28) n x))) lv (pc + 1) st) : J X ce sl (cX g kk σ) lv pc (.int x :: .int i :: .ref (g 28) :: st) := by
  refine j_iast C 28 (f := σ.2.1 28) rfl (vp_inN e h (by decide)) (w' := cX g kk (sF σ 28 (upd (σ.2.1 28) n x))) ?_ d k
  rw [clN e (by omega)]
  rfl
theorem rX_29 {X : jC} {cc : ByteArray} {own : String} {R : Room} {kk : Nat → Nat} {nL : Nat} (C : jF X cc own R kk nL) {g : Nat → Nat} {σ : St} {ce sl : Nat} {lv : List (Nat × Value)} {pc : Nat} {st : List Value} {i : Int32} (n : Nat) (e : i = nI n) (h : n < 168) (v : Int32) (hv : σ.2.1 29 n = v) (d : decode cc pc = .ok (.iaload, 1)) (k : J X ce sl (cX g kk σ) lv (pc + 1) (.int v :: st)) : J X ce sl (cX g kk σ) lv pc (.int i :: .ref (g 29) :: st) := by
  subst hv
  refine j_iald C 29 (f := σ.2.1 29) rfl (vp_inN e h (by decide)) d ?_
  rw [clN e (by omega)]
  exact k
theorem tX_29 {X : jC} {cc : ByteArray} {own : String} {R : Room} {kk : Nat → Nat} {nL : Nat} (C : jF X cc own R kk nL) {g : Nat → Nat} {σ : St} {ce sl : Nat} {lv : List (Nat × Value)} {pc : Nat} {st : List Value} {i : Int32} {x : Int32} (n : Nat) (e : i = nI n) (h : n < 168) (d : decode cc pc = .ok (.iastore, 1)) (k : J X ce sl (cX g kk (sF σ 29 (upd (σ.2.1 29) n x))) lv (pc + 1) st) : J X ce sl (cX g kk σ) lv pc (.int x :: .int i :: .ref (g 29) :: st) := by
  refine j_iast C 29 (f := σ.2.1 29) rfl (vp_inN e h (by decide)) (w' := cX g kk (sF σ 29 (upd (σ.2.1 29) n x))) ?_ d k
  rw [clN e (by omega)]
  rfl
theorem rX_30 {X : jC} {cc : ByteArray} {own : String} {R : Room} {kk : Nat → Nat} {nL : Nat} (C : jF X cc own R kk nL) {g : Nat → Nat} {σ : St} {ce sl : Nat} {lv : List (Nat × Value)} {pc : Nat} {st : List Value} {i : Int32} (n : Nat) (e : i = nI n) (h : n < 168) (v : Int32) (hv : σ.2.1 30 n = v) (d : decode cc pc = .ok (.iaload, 1)) (k : J X ce sl (cX g kk σ) lv (pc + 1) (.int v :: st)) : J X ce sl (cX g kk σ) lv pc (.int i :: .ref (g 30) :: st) := by
  subst hv
  refine j_iald C 30 (f := σ.2.1 30) rfl (vp_inN e h (by decide)) d ?_
  rw [clN e (by omega)]
  exact k
theorem tX_30 {X : jC} {cc : ByteArray} {own : String} {R : Room} {kk : Nat → Nat} {nL : Nat} (C : jF X cc own R kk nL) {g : Nat → Nat} {σ : St} {ce sl : Nat} {lv : List (Nat × Value)} {pc : Nat} {st : List Value} {i : Int32} {x : Int32} (n : Nat) (e : i = nI n) (h : n < 168) (d : decode cc pc = .ok (.iastore, 1)) (k : J X ce sl (cX g kk (sF σ 30 (upd (σ.2.1 30) n x))) lv (pc + 1) st) : J X ce sl (cX g kk σ) lv pc (.int x :: .int i :: .ref (g 30) :: st) := by
  refine j_iast C 30 (f := σ.2.1 30) rfl (vp_inN e h (by decide)) (w' := cX g kk (sF σ 30 (upd (σ.2.1 30) n x))) ?_ d k
  rw [clN e (by omega)]
  rfl
theorem rX_31 {X : jC} {cc : ByteArray} {own : String} {R : Room} {kk : Nat → Nat} {nL : Nat} (C : jF X cc own R kk nL) {g : Nat → Nat} {σ : St} {ce sl : Nat} {lv : List (Nat × Value)} {pc : Nat} {st : List Value} {i : Int32} (n : Nat) (e : i = nI n) (h : n < 168) (v : Int32) (hv : σ.2.1 31 n = v) (d : decode cc pc = .ok (.iaload, 1)) (k : J X ce sl (cX g kk σ) lv (pc + 1) (.int v :: st)) : J X ce sl (cX g kk σ) lv pc (.int i :: .ref (g 31) :: st) := by
  subst hv
  refine j_iald C 31 (f := σ.2.1 31) rfl (vp_inN e h (by decide)) d ?_
  rw [clN e (by omega)]
  exact k
theorem tX_31 {X : jC} {cc : ByteArray} {own : String} {R : Room} {kk : Nat → Nat} {nL : Nat} (C : jF X cc own R kk nL) {g : Nat → Nat} {σ : St} {ce sl : Nat} {lv : List (Nat × Value)} {pc : Nat} {st : List Value} {i : Int32} {x : Int32} (n : Nat) (e : i = nI n) (h : n < 168) (d : decode cc pc = .ok (.iastore, 1)) (k : J X ce sl (cX g kk (sF σ 31 (upd (σ.2.1 31) n x))) lv (pc + 1) st) : J X ce sl (cX g kk σ) lv pc (.int x :: .int i :: .ref (g 31) :: st) := by
  refine j_iast C 31 (f := σ.2.1 31) rfl (vp_inN e h (by decide)) (w' := cX g kk (sF σ 31 (upd (σ.2.1 31) n x))) ?_ d k
  rw [clN e (by omega)]
  rfl
theorem eX_32 (g : Nat → Nat) (kk : Nat → Nat) (σ : St) : (cX g kk σ)[32]? = some (g 32, .inr (9, [.ref (g 27), .ref (g 33), .ref (g 34), .ref (g 35), .ref (g 36), .ref (g 37), .int (σ.1 518), .int (σ.1 519), .int (σ.1 520), .int (σ.1 521)])) := rfl
theorem gX_32_0 {X : jC} {cc : ByteArray} {own : String} {R : Room} {kk : Nat → Nat} {nL : Nat} (C : jF X cc own R kk nL) {g : Nat → Nat} {σ : St} {ce sl : Nat} {lv : List (Nat × Value)} {pc : Nat} {st : List Value} {index : Nat} (hl : Cond.fieldLink own index "RainCans$Week" "rain" "LRainCans$Rain;" ∈ lw_tbl)  (d : decode cc pc = .ok (.getfield index, 3)) (k : J X ce sl (cX g kk σ) lv (pc + 3) (.ref (g 27) :: st)) : J X ce sl (cX g kk σ) lv pc (.ref (g 32) :: st) := by
  exact j_get C inX9 gdX9 rfl 0 (by decide) rfl hl 32 (eX_32 g kk σ) rfl d k
theorem gX_32_1 {X : jC} {cc : ByteArray} {own : String} {R : Room} {kk : Nat → Nat} {nL : Nat} (C : jF X cc own R kk nL) {g : Nat → Nat} {σ : St} {ce sl : Nat} {lv : List (Nat × Value)} {pc : Nat} {st : List Value} {index : Nat} (hl : Cond.fieldLink own index "RainCans$Week" "codes" "[I" ∈ lw_tbl)  (d : decode cc pc = .ok (.getfield index, 3)) (k : J X ce sl (cX g kk σ) lv (pc + 3) (.ref (g 33) :: st)) : J X ce sl (cX g kk σ) lv pc (.ref (g 32) :: st) := by
  exact j_get C inX9 gdX9 rfl 1 (by decide) rfl hl 32 (eX_32 g kk σ) rfl d k
theorem gX_32_2 {X : jC} {cc : ByteArray} {own : String} {R : Room} {kk : Nat → Nat} {nL : Nat} (C : jF X cc own R kk nL) {g : Nat → Nat} {σ : St} {ce sl : Nat} {lv : List (Nat × Value)} {pc : Nat} {st : List Value} {index : Nat} (hl : Cond.fieldLink own index "RainCans$Week" "values" "[I" ∈ lw_tbl)  (d : decode cc pc = .ok (.getfield index, 3)) (k : J X ce sl (cX g kk σ) lv (pc + 3) (.ref (g 34) :: st)) : J X ce sl (cX g kk σ) lv pc (.ref (g 32) :: st) := by
  exact j_get C inX9 gdX9 rfl 2 (by decide) rfl hl 32 (eX_32 g kk σ) rfl d k
theorem gX_32_3 {X : jC} {cc : ByteArray} {own : String} {R : Room} {kk : Nat → Nat} {nL : Nat} (C : jF X cc own R kk nL) {g : Nat → Nat} {σ : St} {ce sl : Nat} {lv : List (Nat × Value)} {pc : Nat} {st : List Value} {index : Nat} (hl : Cond.fieldLink own index "RainCans$Week" "expected" "[I" ∈ lw_tbl)  (d : decode cc pc = .ok (.getfield index, 3)) (k : J X ce sl (cX g kk σ) lv (pc + 3) (.ref (g 35) :: st)) : J X ce sl (cX g kk σ) lv pc (.ref (g 32) :: st) := by
  exact j_get C inX9 gdX9 rfl 3 (by decide) rfl hl 32 (eX_32 g kk σ) rfl d k
theorem gX_32_4 {X : jC} {cc : ByteArray} {own : String} {R : Room} {kk : Nat → Nat} {nL : Nat} (C : jF X cc own R kk nL) {g : Nat → Nat} {σ : St} {ce sl : Nat} {lv : List (Nat × Value)} {pc : Nat} {st : List Value} {index : Nat} (hl : Cond.fieldLink own index "RainCans$Week" "once" "[I" ∈ lw_tbl)  (d : decode cc pc = .ok (.getfield index, 3)) (k : J X ce sl (cX g kk σ) lv (pc + 3) (.ref (g 36) :: st)) : J X ce sl (cX g kk σ) lv pc (.ref (g 32) :: st) := by
  exact j_get C inX9 gdX9 rfl 4 (by decide) rfl hl 32 (eX_32 g kk σ) rfl d k
theorem gX_32_5 {X : jC} {cc : ByteArray} {own : String} {R : Room} {kk : Nat → Nat} {nL : Nat} (C : jF X cc own R kk nL) {g : Nat → Nat} {σ : St} {ce sl : Nat} {lv : List (Nat × Value)} {pc : Nat} {st : List Value} {index : Nat} (hl : Cond.fieldLink own index "RainCans$Week" "twice" "[I" ∈ lw_tbl)  (d : decode cc pc = .ok (.getfield index, 3)) (k : J X ce sl (cX g kk σ) lv (pc + 3) (.ref (g 37) :: st)) : J X ce sl (cX g kk σ) lv pc (.ref (g 32) :: st) := by
  exact j_get C inX9 gdX9 rfl 5 (by decide) rfl hl 32 (eX_32 g kk σ) rfl d k
theorem gX_32_6 {X : jC} {cc : ByteArray} {own : String} {R : Room} {kk : Nat → Nat} {nL : Nat} (C : jF X cc own R kk nL) {g : Nat → Nat} {σ : St} {ce sl : Nat} {lv : List (Nat × Value)} {pc : Nat} {st : List Value} {index : Nat} (hl : Cond.fieldLink own index "RainCans$Week" "cost" "I" ∈ lw_tbl) (v : Int32) (hv : σ.1 518 = v) (d : decode cc pc = .ok (.getfield index, 3)) (k : J X ce sl (cX g kk σ) lv (pc + 3) (.int v :: st)) : J X ce sl (cX g kk σ) lv pc (.ref (g 32) :: st) := by
  subst hv
  exact j_get C inX9 gdX9 rfl 6 (by decide) rfl hl 32 (eX_32 g kk σ) rfl d k
theorem pX_32_6 {X : jC} {cc : ByteArray} {own : String} {R : Room} {kk : Nat → Nat} {nL : Nat} (C : jF X cc own R kk nL) {g : Nat → Nat} {σ : St} {ce sl : Nat} {lv : List (Nat × Value)} {pc : Nat} {st : List Value} {index : Nat} (hl : Cond.fieldLink own index "RainCans$Week" "cost" "I" ∈ lw_tbl) {v : Int32} (d : decode cc pc = .ok (.putfield index, 3)) (k : J X ce sl (cX g kk (sI σ 518 v)) lv (pc + 3) st) : J X ce sl (cX g kk σ) lv pc (.int v :: .ref (g 32) :: st) :=
  j_put (ty := .int) C inX9 gdX9 tyX9_ok nmX9 rfl 6 (by decide) rfl hl rfl (by decide +kernel) 32 (eX_32 g kk σ) rfl rfl (Nat.le_of_ble_eq_true rfl) (w' := cX g kk (sI σ 518 v)) rfl d k
theorem gX_32_7 {X : jC} {cc : ByteArray} {own : String} {R : Room} {kk : Nat → Nat} {nL : Nat} (C : jF X cc own R kk nL) {g : Nat → Nat} {σ : St} {ce sl : Nat} {lv : List (Nat × Value)} {pc : Nat} {st : List Value} {index : Nat} (hl : Cond.fieldLink own index "RainCans$Week" "count" "I" ∈ lw_tbl) (v : Int32) (hv : σ.1 519 = v) (d : decode cc pc = .ok (.getfield index, 3)) (k : J X ce sl (cX g kk σ) lv (pc + 3) (.int v :: st)) : J X ce sl (cX g kk σ) lv pc (.ref (g 32) :: st) := by
  subst hv
  exact j_get C inX9 gdX9 rfl 7 (by decide) rfl hl 32 (eX_32 g kk σ) rfl d k
theorem pX_32_7 {X : jC} {cc : ByteArray} {own : String} {R : Room} {kk : Nat → Nat} {nL : Nat} (C : jF X cc own R kk nL) {g : Nat → Nat} {σ : St} {ce sl : Nat} {lv : List (Nat × Value)} {pc : Nat} {st : List Value} {index : Nat} (hl : Cond.fieldLink own index "RainCans$Week" "count" "I" ∈ lw_tbl) {v : Int32} (d : decode cc pc = .ok (.putfield index, 3)) (k : J X ce sl (cX g kk (sI σ 519 v)) lv (pc + 3) st) : J X ce sl (cX g kk σ) lv pc (.int v :: .ref (g 32) :: st) :=
  j_put (ty := .int) C inX9 gdX9 tyX9_ok nmX9 rfl 7 (by decide) rfl hl rfl (by decide +kernel) 32 (eX_32 g kk σ) rfl rfl (Nat.le_of_ble_eq_true rfl) (w' := cX g kk (sI σ 519 v)) rfl d k
theorem gX_32_8 {X : jC} {cc : ByteArray} {own : String} {R : Room} {kk : Nat → Nat} {nL : Nat} (C : jF X cc own R kk nL) {g : Nat → Nat} {σ : St} {ce sl : Nat} {lv : List (Nat × Value)} {pc : Nat} {st : List Value} {index : Nat} (hl : Cond.fieldLink own index "RainCans$Week" "first" "I" ∈ lw_tbl) (v : Int32) (hv : σ.1 520 = v) (d : decode cc pc = .ok (.getfield index, 3)) (k : J X ce sl (cX g kk σ) lv (pc + 3) (.int v :: st)) : J X ce sl (cX g kk σ) lv pc (.ref (g 32) :: st) := by
  subst hv
  exact j_get C inX9 gdX9 rfl 8 (by decide) rfl hl 32 (eX_32 g kk σ) rfl d k
theorem pX_32_8 {X : jC} {cc : ByteArray} {own : String} {R : Room} {kk : Nat → Nat} {nL : Nat} (C : jF X cc own R kk nL) {g : Nat → Nat} {σ : St} {ce sl : Nat} {lv : List (Nat × Value)} {pc : Nat} {st : List Value} {index : Nat} (hl : Cond.fieldLink own index "RainCans$Week" "first" "I" ∈ lw_tbl) {v : Int32} (d : decode cc pc = .ok (.putfield index, 3)) (k : J X ce sl (cX g kk (sI σ 520 v)) lv (pc + 3) st) : J X ce sl (cX g kk σ) lv pc (.int v :: .ref (g 32) :: st) :=
  j_put (ty := .int) C inX9 gdX9 tyX9_ok nmX9 rfl 8 (by decide) rfl hl rfl (by decide +kernel) 32 (eX_32 g kk σ) rfl rfl (Nat.le_of_ble_eq_true rfl) (w' := cX g kk (sI σ 520 v)) rfl d k
theorem gX_32_9 {X : jC} {cc : ByteArray} {own : String} {R : Room} {kk : Nat → Nat} {nL : Nat} (C : jF X cc own R kk nL) {g : Nat → Nat} {σ : St} {ce sl : Nat} {lv : List (Nat × Value)} {pc : Nat} {st : List Value} {index : Nat} (hl : Cond.fieldLink own index "RainCans$Week" "second" "I" ∈ lw_tbl) (v : Int32) (hv : σ.1 521 = v) (d : decode cc pc = .ok (.getfield index, 3)) (k : J X ce sl (cX g kk σ) lv (pc + 3) (.int v :: st)) : J X ce sl (cX g kk σ) lv pc (.ref (g 32) :: st) := by
  subst hv
  exact j_get C inX9 gdX9 rfl 9 (by decide) rfl hl 32 (eX_32 g kk σ) rfl d k
theorem pX_32_9 {X : jC} {cc : ByteArray} {own : String} {R : Room} {kk : Nat → Nat} {nL : Nat} (C : jF X cc own R kk nL) {g : Nat → Nat} {σ : St} {ce sl : Nat} {lv : List (Nat × Value)} {pc : Nat} {st : List Value} {index : Nat} (hl : Cond.fieldLink own index "RainCans$Week" "second" "I" ∈ lw_tbl) {v : Int32} (d : decode cc pc = .ok (.putfield index, 3)) (k : J X ce sl (cX g kk (sI σ 521 v)) lv (pc + 3) st) : J X ce sl (cX g kk σ) lv pc (.int v :: .ref (g 32) :: st) :=
  j_put (ty := .int) C inX9 gdX9 tyX9_ok nmX9 rfl 9 (by decide) rfl hl rfl (by decide +kernel) 32 (eX_32 g kk σ) rfl rfl (Nat.le_of_ble_eq_true rfl) (w' := cX g kk (sI σ 521 v)) rfl d k
theorem rX_33 {X : jC} {cc : ByteArray} {own : String} {R : Room} {kk : Nat → Nat} {nL : Nat} (C : jF X cc own R kk nL) {g : Nat → Nat} {σ : St} {ce sl : Nat} {lv : List (Nat × Value)} {pc : Nat} {st : List Value} {i : Int32} (n : Nat) (e : i = nI n) (h : n < 38) (v : Int32) (hv : σ.2.1 33 n = v) (d : decode cc pc = .ok (.iaload, 1)) (k : J X ce sl (cX g kk σ) lv (pc + 1) (.int v :: st)) : J X ce sl (cX g kk σ) lv pc (.int i :: .ref (g 33) :: st) := by
  subst hv
  refine j_iald C 33 (f := σ.2.1 33) rfl (vp_inN e h (by decide)) d ?_
  rw [clN e (by omega)]
  exact k
theorem tX_33 {X : jC} {cc : ByteArray} {own : String} {R : Room} {kk : Nat → Nat} {nL : Nat} (C : jF X cc own R kk nL) {g : Nat → Nat} {σ : St} {ce sl : Nat} {lv : List (Nat × Value)} {pc : Nat} {st : List Value} {i : Int32} {x : Int32} (n : Nat) (e : i = nI n) (h : n < 38) (d : decode cc pc = .ok (.iastore, 1)) (k : J X ce sl (cX g kk (sF σ 33 (upd (σ.2.1 33) n x))) lv (pc + 1) st) : J X ce sl (cX g kk σ) lv pc (.int x :: .int i :: .ref (g 33) :: st) := by
  refine j_iast C 33 (f := σ.2.1 33) rfl (vp_inN e h (by decide)) (w' := cX g kk (sF σ 33 (upd (σ.2.1 33) n x))) ?_ d k
  rw [clN e (by omega)]
  rfl
theorem rX_34 {X : jC} {cc : ByteArray} {own : String} {R : Room} {kk : Nat → Nat} {nL : Nat} (C : jF X cc own R kk nL) {g : Nat → Nat} {σ : St} {ce sl : Nat} {lv : List (Nat × Value)} {pc : Nat} {st : List Value} {i : Int32} (n : Nat) (e : i = nI n) (h : n < 7) (v : Int32) (hv : σ.2.1 34 n = v) (d : decode cc pc = .ok (.iaload, 1)) (k : J X ce sl (cX g kk σ) lv (pc + 1) (.int v :: st)) : J X ce sl (cX g kk σ) lv pc (.int i :: .ref (g 34) :: st) := by
  subst hv
  refine j_iald C 34 (f := σ.2.1 34) rfl (vp_inN e h (by decide)) d ?_
  rw [clN e (by omega)]
  exact k
theorem tX_34 {X : jC} {cc : ByteArray} {own : String} {R : Room} {kk : Nat → Nat} {nL : Nat} (C : jF X cc own R kk nL) {g : Nat → Nat} {σ : St} {ce sl : Nat} {lv : List (Nat × Value)} {pc : Nat} {st : List Value} {i : Int32} {x : Int32} (n : Nat) (e : i = nI n) (h : n < 7) (d : decode cc pc = .ok (.iastore, 1)) (k : J X ce sl (cX g kk (sF σ 34 (upd (σ.2.1 34) n x))) lv (pc + 1) st) : J X ce sl (cX g kk σ) lv pc (.int x :: .int i :: .ref (g 34) :: st) := by
  refine j_iast C 34 (f := σ.2.1 34) rfl (vp_inN e h (by decide)) (w' := cX g kk (sF σ 34 (upd (σ.2.1 34) n x))) ?_ d k
  rw [clN e (by omega)]
  rfl
theorem rX_35 {X : jC} {cc : ByteArray} {own : String} {R : Room} {kk : Nat → Nat} {nL : Nat} (C : jF X cc own R kk nL) {g : Nat → Nat} {σ : St} {ce sl : Nat} {lv : List (Nat × Value)} {pc : Nat} {st : List Value} {i : Int32} (n : Nat) (e : i = nI n) (h : n < 7) (v : Int32) (hv : σ.2.1 35 n = v) (d : decode cc pc = .ok (.iaload, 1)) (k : J X ce sl (cX g kk σ) lv (pc + 1) (.int v :: st)) : J X ce sl (cX g kk σ) lv pc (.int i :: .ref (g 35) :: st) := by
  subst hv
  refine j_iald C 35 (f := σ.2.1 35) rfl (vp_inN e h (by decide)) d ?_
  rw [clN e (by omega)]
  exact k
theorem tX_35 {X : jC} {cc : ByteArray} {own : String} {R : Room} {kk : Nat → Nat} {nL : Nat} (C : jF X cc own R kk nL) {g : Nat → Nat} {σ : St} {ce sl : Nat} {lv : List (Nat × Value)} {pc : Nat} {st : List Value} {i : Int32} {x : Int32} (n : Nat) (e : i = nI n) (h : n < 7) (d : decode cc pc = .ok (.iastore, 1)) (k : J X ce sl (cX g kk (sF σ 35 (upd (σ.2.1 35) n x))) lv (pc + 1) st) : J X ce sl (cX g kk σ) lv pc (.int x :: .int i :: .ref (g 35) :: st) := by
  refine j_iast C 35 (f := σ.2.1 35) rfl (vp_inN e h (by decide)) (w' := cX g kk (sF σ 35 (upd (σ.2.1 35) n x))) ?_ d k
  rw [clN e (by omega)]
  rfl
theorem rX_36 {X : jC} {cc : ByteArray} {own : String} {R : Room} {kk : Nat → Nat} {nL : Nat} (C : jF X cc own R kk nL) {g : Nat → Nat} {σ : St} {ce sl : Nat} {lv : List (Nat × Value)} {pc : Nat} {st : List Value} {i : Int32} (n : Nat) (e : i = nI n) (h : n < 7) (v : Int32) (hv : σ.2.1 36 n = v) (d : decode cc pc = .ok (.iaload, 1)) (k : J X ce sl (cX g kk σ) lv (pc + 1) (.int v :: st)) : J X ce sl (cX g kk σ) lv pc (.int i :: .ref (g 36) :: st) := by
  subst hv
  refine j_iald C 36 (f := σ.2.1 36) rfl (vp_inN e h (by decide)) d ?_
  rw [clN e (by omega)]
  exact k
theorem tX_36 {X : jC} {cc : ByteArray} {own : String} {R : Room} {kk : Nat → Nat} {nL : Nat} (C : jF X cc own R kk nL) {g : Nat → Nat} {σ : St} {ce sl : Nat} {lv : List (Nat × Value)} {pc : Nat} {st : List Value} {i : Int32} {x : Int32} (n : Nat) (e : i = nI n) (h : n < 7) (d : decode cc pc = .ok (.iastore, 1)) (k : J X ce sl (cX g kk (sF σ 36 (upd (σ.2.1 36) n x))) lv (pc + 1) st) : J X ce sl (cX g kk σ) lv pc (.int x :: .int i :: .ref (g 36) :: st) := by
  refine j_iast C 36 (f := σ.2.1 36) rfl (vp_inN e h (by decide)) (w' := cX g kk (sF σ 36 (upd (σ.2.1 36) n x))) ?_ d k
  rw [clN e (by omega)]
  rfl
theorem rX_37 {X : jC} {cc : ByteArray} {own : String} {R : Room} {kk : Nat → Nat} {nL : Nat} (C : jF X cc own R kk nL) {g : Nat → Nat} {σ : St} {ce sl : Nat} {lv : List (Nat × Value)} {pc : Nat} {st : List Value} {i : Int32} (n : Nat) (e : i = nI n) (h : n < 7) (v : Int32) (hv : σ.2.1 37 n = v) (d : decode cc pc = .ok (.iaload, 1)) (k : J X ce sl (cX g kk σ) lv (pc + 1) (.int v :: st)) : J X ce sl (cX g kk σ) lv pc (.int i :: .ref (g 37) :: st) := by
  subst hv
  refine j_iald C 37 (f := σ.2.1 37) rfl (vp_inN e h (by decide)) d ?_
  rw [clN e (by omega)]
  exact k
theorem tX_37 {X : jC} {cc : ByteArray} {own : String} {R : Room} {kk : Nat → Nat} {nL : Nat} (C : jF X cc own R kk nL) {g : Nat → Nat} {σ : St} {ce sl : Nat} {lv : List (Nat × Value)} {pc : Nat} {st : List Value} {i : Int32} {x : Int32} (n : Nat) (e : i = nI n) (h : n < 7) (d : decode cc pc = .ok (.iastore, 1)) (k : J X ce sl (cX g kk (sF σ 37 (upd (σ.2.1 37) n x))) lv (pc + 1) st) : J X ce sl (cX g kk σ) lv pc (.int x :: .int i :: .ref (g 37) :: st) := by
  refine j_iast C 37 (f := σ.2.1 37) rfl (vp_inN e h (by decide)) (w' := cX g kk (sF σ 37 (upd (σ.2.1 37) n x))) ?_ d k
  rw [clN e (by omega)]
  rfl
theorem eX_38 (g : Nat → Nat) (kk : Nat → Nat) (σ : St) : (cX g kk σ)[38]? = some (g 38, .inr (0, [.ref (g 27), .ref (g 39), .ref (g 40), .ref (g 41), .int (σ.1 612), .int (σ.1 613), .int (σ.1 614), .long (σ.2.2.1 615), .int (σ.1 616)])) := rfl
theorem gX_38_0 {X : jC} {cc : ByteArray} {own : String} {R : Room} {kk : Nat → Nat} {nL : Nat} (C : jF X cc own R kk nL) {g : Nat → Nat} {σ : St} {ce sl : Nat} {lv : List (Nat × Value)} {pc : Nat} {st : List Value} {index : Nat} (hl : Cond.fieldLink own index "RainCans$Breaks" "rain" "LRainCans$Rain;" ∈ lw_tbl)  (d : decode cc pc = .ok (.getfield index, 3)) (k : J X ce sl (cX g kk σ) lv (pc + 3) (.ref (g 27) :: st)) : J X ce sl (cX g kk σ) lv pc (.ref (g 38) :: st) := by
  exact j_get C inX0 gdX0 rfl 0 (by decide) rfl hl 38 (eX_38 g kk σ) rfl d k
theorem gX_38_1 {X : jC} {cc : ByteArray} {own : String} {R : Room} {kk : Nat → Nat} {nL : Nat} (C : jF X cc own R kk nL) {g : Nat → Nat} {σ : St} {ce sl : Nat} {lv : List (Nat × Value)} {pc : Nat} {st : List Value} {index : Nat} (hl : Cond.fieldLink own index "RainCans$Breaks" "row" "[I" ∈ lw_tbl)  (d : decode cc pc = .ok (.getfield index, 3)) (k : J X ce sl (cX g kk σ) lv (pc + 3) (.ref (g 39) :: st)) : J X ce sl (cX g kk σ) lv pc (.ref (g 38) :: st) := by
  exact j_get C inX0 gdX0 rfl 1 (by decide) rfl hl 38 (eX_38 g kk σ) rfl d k
theorem gX_38_2 {X : jC} {cc : ByteArray} {own : String} {R : Room} {kk : Nat → Nat} {nL : Nat} (C : jF X cc own R kk nL) {g : Nat → Nat} {σ : St} {ce sl : Nat} {lv : List (Nat × Value)} {pc : Nat} {st : List Value} {index : Nat} (hl : Cond.fieldLink own index "RainCans$Breaks" "days" "[I" ∈ lw_tbl)  (d : decode cc pc = .ok (.getfield index, 3)) (k : J X ce sl (cX g kk σ) lv (pc + 3) (.ref (g 40) :: st)) : J X ce sl (cX g kk σ) lv pc (.ref (g 38) :: st) := by
  exact j_get C inX0 gdX0 rfl 2 (by decide) rfl hl 38 (eX_38 g kk σ) rfl d k
theorem gX_38_3 {X : jC} {cc : ByteArray} {own : String} {R : Room} {kk : Nat → Nat} {nL : Nat} (C : jF X cc own R kk nL) {g : Nat → Nat} {σ : St} {ce sl : Nat} {lv : List (Nat × Value)} {pc : Nat} {st : List Value} {index : Nat} (hl : Cond.fieldLink own index "RainCans$Breaks" "mixed" "[I" ∈ lw_tbl)  (d : decode cc pc = .ok (.getfield index, 3)) (k : J X ce sl (cX g kk σ) lv (pc + 3) (.ref (g 41) :: st)) : J X ce sl (cX g kk σ) lv pc (.ref (g 38) :: st) := by
  exact j_get C inX0 gdX0 rfl 3 (by decide) rfl hl 38 (eX_38 g kk σ) rfl d k
theorem gX_38_4 {X : jC} {cc : ByteArray} {own : String} {R : Room} {kk : Nat → Nat} {nL : Nat} (C : jF X cc own R kk nL) {g : Nat → Nat} {σ : St} {ce sl : Nat} {lv : List (Nat × Value)} {pc : Nat} {st : List Value} {index : Nat} (hl : Cond.fieldLink own index "RainCans$Breaks" "count" "I" ∈ lw_tbl) (v : Int32) (hv : σ.1 612 = v) (d : decode cc pc = .ok (.getfield index, 3)) (k : J X ce sl (cX g kk σ) lv (pc + 3) (.int v :: st)) : J X ce sl (cX g kk σ) lv pc (.ref (g 38) :: st) := by
  subst hv
  exact j_get C inX0 gdX0 rfl 4 (by decide) rfl hl 38 (eX_38 g kk σ) rfl d k
theorem pX_38_4 {X : jC} {cc : ByteArray} {own : String} {R : Room} {kk : Nat → Nat} {nL : Nat} (C : jF X cc own R kk nL) {g : Nat → Nat} {σ : St} {ce sl : Nat} {lv : List (Nat × Value)} {pc : Nat} {st : List Value} {index : Nat} (hl : Cond.fieldLink own index "RainCans$Breaks" "count" "I" ∈ lw_tbl) {v : Int32} (d : decode cc pc = .ok (.putfield index, 3)) (k : J X ce sl (cX g kk (sI σ 612 v)) lv (pc + 3) st) : J X ce sl (cX g kk σ) lv pc (.int v :: .ref (g 38) :: st) :=
  j_put (ty := .int) C inX0 gdX0 tyX0_ok nmX0 rfl 4 (by decide) rfl hl rfl (by decide +kernel) 38 (eX_38 g kk σ) rfl rfl (Nat.le_of_ble_eq_true rfl) (w' := cX g kk (sI σ 612 v)) rfl d k
theorem gX_38_5 {X : jC} {cc : ByteArray} {own : String} {R : Room} {kk : Nat → Nat} {nL : Nat} (C : jF X cc own R kk nL) {g : Nat → Nat} {σ : St} {ce sl : Nat} {lv : List (Nat × Value)} {pc : Nat} {st : List Value} {index : Nat} (hl : Cond.fieldLink own index "RainCans$Breaks" "together" "I" ∈ lw_tbl) (v : Int32) (hv : σ.1 613 = v) (d : decode cc pc = .ok (.getfield index, 3)) (k : J X ce sl (cX g kk σ) lv (pc + 3) (.int v :: st)) : J X ce sl (cX g kk σ) lv pc (.ref (g 38) :: st) := by
  subst hv
  exact j_get C inX0 gdX0 rfl 5 (by decide) rfl hl 38 (eX_38 g kk σ) rfl d k
theorem pX_38_5 {X : jC} {cc : ByteArray} {own : String} {R : Room} {kk : Nat → Nat} {nL : Nat} (C : jF X cc own R kk nL) {g : Nat → Nat} {σ : St} {ce sl : Nat} {lv : List (Nat × Value)} {pc : Nat} {st : List Value} {index : Nat} (hl : Cond.fieldLink own index "RainCans$Breaks" "together" "I" ∈ lw_tbl) {v : Int32} (d : decode cc pc = .ok (.putfield index, 3)) (k : J X ce sl (cX g kk (sI σ 613 v)) lv (pc + 3) st) : J X ce sl (cX g kk σ) lv pc (.int v :: .ref (g 38) :: st) :=
  j_put (ty := .int) C inX0 gdX0 tyX0_ok nmX0 rfl 5 (by decide) rfl hl rfl (by decide +kernel) 38 (eX_38 g kk σ) rfl rfl (Nat.le_of_ble_eq_true rfl) (w' := cX g kk (sI σ 613 v)) rfl d k
theorem gX_38_6 {X : jC} {cc : ByteArray} {own : String} {R : Room} {kk : Nat → Nat} {nL : Nat} (C : jF X cc own R kk nL) {g : Nat → Nat} {σ : St} {ce sl : Nat} {lv : List (Nat × Value)} {pc : Nat} {st : List Value} {index : Nat} (hl : Cond.fieldLink own index "RainCans$Breaks" "parting" "I" ∈ lw_tbl) (v : Int32) (hv : σ.1 614 = v) (d : decode cc pc = .ok (.getfield index, 3)) (k : J X ce sl (cX g kk σ) lv (pc + 3) (.int v :: st)) : J X ce sl (cX g kk σ) lv pc (.ref (g 38) :: st) := by
  subst hv
  exact j_get C inX0 gdX0 rfl 6 (by decide) rfl hl 38 (eX_38 g kk σ) rfl d k
theorem pX_38_6 {X : jC} {cc : ByteArray} {own : String} {R : Room} {kk : Nat → Nat} {nL : Nat} (C : jF X cc own R kk nL) {g : Nat → Nat} {σ : St} {ce sl : Nat} {lv : List (Nat × Value)} {pc : Nat} {st : List Value} {index : Nat} (hl : Cond.fieldLink own index "RainCans$Breaks" "parting" "I" ∈ lw_tbl) {v : Int32} (d : decode cc pc = .ok (.putfield index, 3)) (k : J X ce sl (cX g kk (sI σ 614 v)) lv (pc + 3) st) : J X ce sl (cX g kk σ) lv pc (.int v :: .ref (g 38) :: st) :=
  j_put (ty := .int) C inX0 gdX0 tyX0_ok nmX0 rfl 6 (by decide) rfl hl rfl (by decide +kernel) 38 (eX_38 g kk σ) rfl rfl (Nat.le_of_ble_eq_true rfl) (w' := cX g kk (sI σ 614 v)) rfl d k
theorem gX_38_7 {X : jC} {cc : ByteArray} {own : String} {R : Room} {kk : Nat → Nat} {nL : Nat} (C : jF X cc own R kk nL) {g : Nat → Nat} {σ : St} {ce sl : Nat} {lv : List (Nat × Value)} {pc : Nat} {st : List Value} {index : Nat} (hl : Cond.fieldLink own index "RainCans$Breaks" "greatest" "J" ∈ lw_tbl) (v : Int64) (hv : σ.2.2.1 615 = v) (d : decode cc pc = .ok (.getfield index, 3)) (k : J X ce sl (cX g kk σ) lv (pc + 3) (.long v :: st)) : J X ce sl (cX g kk σ) lv pc (.ref (g 38) :: st) := by
  subst hv
  exact j_get C inX0 gdX0 rfl 7 (by decide) rfl hl 38 (eX_38 g kk σ) rfl d k
theorem pX_38_7 {X : jC} {cc : ByteArray} {own : String} {R : Room} {kk : Nat → Nat} {nL : Nat} (C : jF X cc own R kk nL) {g : Nat → Nat} {σ : St} {ce sl : Nat} {lv : List (Nat × Value)} {pc : Nat} {st : List Value} {index : Nat} (hl : Cond.fieldLink own index "RainCans$Breaks" "greatest" "J" ∈ lw_tbl) {v : Int64} (d : decode cc pc = .ok (.putfield index, 3)) (k : J X ce sl (cX g kk (sL σ 615 v)) lv (pc + 3) st) : J X ce sl (cX g kk σ) lv pc (.long v :: .ref (g 38) :: st) :=
  j_put (ty := .long) C inX0 gdX0 tyX0_ok nmX0 rfl 7 (by decide) rfl hl rfl (by decide +kernel) 38 (eX_38 g kk σ) rfl rfl (Nat.le_of_ble_eq_true rfl) (w' := cX g kk (sL σ 615 v)) rfl d k
theorem gX_38_8 {X : jC} {cc : ByteArray} {own : String} {R : Room} {kk : Nat → Nat} {nL : Nat} (C : jF X cc own R kk nL) {g : Nat → Nat} {σ : St} {ce sl : Nat} {lv : List (Nat × Value)} {pc : Nat} {st : List Value} {index : Nat} (hl : Cond.fieldLink own index "RainCans$Breaks" "seed" "I" ∈ lw_tbl) (v : Int32) (hv : σ.1 616 = v) (d : decode cc pc = .ok (.getfield index, 3)) (k : J X ce sl (cX g kk σ) lv (pc + 3) (.int v :: st)) : J X ce sl (cX g kk σ) lv pc (.ref (g 38) :: st) := by
  subst hv
  exact j_get C inX0 gdX0 rfl 8 (by decide) rfl hl 38 (eX_38 g kk σ) rfl d k
theorem pX_38_8 {X : jC} {cc : ByteArray} {own : String} {R : Room} {kk : Nat → Nat} {nL : Nat} (C : jF X cc own R kk nL) {g : Nat → Nat} {σ : St} {ce sl : Nat} {lv : List (Nat × Value)} {pc : Nat} {st : List Value} {index : Nat} (hl : Cond.fieldLink own index "RainCans$Breaks" "seed" "I" ∈ lw_tbl) {v : Int32} (d : decode cc pc = .ok (.putfield index, 3)) (k : J X ce sl (cX g kk (sI σ 616 v)) lv (pc + 3) st) : J X ce sl (cX g kk σ) lv pc (.int v :: .ref (g 38) :: st) :=
  j_put (ty := .int) C inX0 gdX0 tyX0_ok nmX0 rfl 8 (by decide) rfl hl rfl (by decide +kernel) 38 (eX_38 g kk σ) rfl rfl (Nat.le_of_ble_eq_true rfl) (w' := cX g kk (sI σ 616 v)) rfl d k
theorem rX_39 {X : jC} {cc : ByteArray} {own : String} {R : Room} {kk : Nat → Nat} {nL : Nat} (C : jF X cc own R kk nL) {g : Nat → Nat} {σ : St} {ce sl : Nat} {lv : List (Nat × Value)} {pc : Nat} {st : List Value} {i : Int32} (n : Nat) (e : i = nI n) (h : n < 28) (v : Int32) (hv : σ.2.1 39 n = v) (d : decode cc pc = .ok (.iaload, 1)) (k : J X ce sl (cX g kk σ) lv (pc + 1) (.int v :: st)) : J X ce sl (cX g kk σ) lv pc (.int i :: .ref (g 39) :: st) := by
  subst hv
  refine j_iald C 39 (f := σ.2.1 39) rfl (vp_inN e h (by decide)) d ?_
  rw [clN e (by omega)]
  exact k
theorem tX_39 {X : jC} {cc : ByteArray} {own : String} {R : Room} {kk : Nat → Nat} {nL : Nat} (C : jF X cc own R kk nL) {g : Nat → Nat} {σ : St} {ce sl : Nat} {lv : List (Nat × Value)} {pc : Nat} {st : List Value} {i : Int32} {x : Int32} (n : Nat) (e : i = nI n) (h : n < 28) (d : decode cc pc = .ok (.iastore, 1)) (k : J X ce sl (cX g kk (sF σ 39 (upd (σ.2.1 39) n x))) lv (pc + 1) st) : J X ce sl (cX g kk σ) lv pc (.int x :: .int i :: .ref (g 39) :: st) := by
  refine j_iast C 39 (f := σ.2.1 39) rfl (vp_inN e h (by decide)) (w' := cX g kk (sF σ 39 (upd (σ.2.1 39) n x))) ?_ d k
  rw [clN e (by omega)]
  rfl
theorem rX_40 {X : jC} {cc : ByteArray} {own : String} {R : Room} {kk : Nat → Nat} {nL : Nat} (C : jF X cc own R kk nL) {g : Nat → Nat} {σ : St} {ce sl : Nat} {lv : List (Nat × Value)} {pc : Nat} {st : List Value} {i : Int32} (n : Nat) (e : i = nI n) (h : n < 28) (v : Int32) (hv : σ.2.1 40 n = v) (d : decode cc pc = .ok (.iaload, 1)) (k : J X ce sl (cX g kk σ) lv (pc + 1) (.int v :: st)) : J X ce sl (cX g kk σ) lv pc (.int i :: .ref (g 40) :: st) := by
  subst hv
  refine j_iald C 40 (f := σ.2.1 40) rfl (vp_inN e h (by decide)) d ?_
  rw [clN e (by omega)]
  exact k
theorem tX_40 {X : jC} {cc : ByteArray} {own : String} {R : Room} {kk : Nat → Nat} {nL : Nat} (C : jF X cc own R kk nL) {g : Nat → Nat} {σ : St} {ce sl : Nat} {lv : List (Nat × Value)} {pc : Nat} {st : List Value} {i : Int32} {x : Int32} (n : Nat) (e : i = nI n) (h : n < 28) (d : decode cc pc = .ok (.iastore, 1)) (k : J X ce sl (cX g kk (sF σ 40 (upd (σ.2.1 40) n x))) lv (pc + 1) st) : J X ce sl (cX g kk σ) lv pc (.int x :: .int i :: .ref (g 40) :: st) := by
  refine j_iast C 40 (f := σ.2.1 40) rfl (vp_inN e h (by decide)) (w' := cX g kk (sF σ 40 (upd (σ.2.1 40) n x))) ?_ d k
  rw [clN e (by omega)]
  rfl
theorem rX_41 {X : jC} {cc : ByteArray} {own : String} {R : Room} {kk : Nat → Nat} {nL : Nat} (C : jF X cc own R kk nL) {g : Nat → Nat} {σ : St} {ce sl : Nat} {lv : List (Nat × Value)} {pc : Nat} {st : List Value} {i : Int32} (n : Nat) (e : i = nI n) (h : n < 28) (v : Int32) (hv : σ.2.1 41 n = v) (d : decode cc pc = .ok (.iaload, 1)) (k : J X ce sl (cX g kk σ) lv (pc + 1) (.int v :: st)) : J X ce sl (cX g kk σ) lv pc (.int i :: .ref (g 41) :: st) := by
  subst hv
  refine j_iald C 41 (f := σ.2.1 41) rfl (vp_inN e h (by decide)) d ?_
  rw [clN e (by omega)]
  exact k
theorem tX_41 {X : jC} {cc : ByteArray} {own : String} {R : Room} {kk : Nat → Nat} {nL : Nat} (C : jF X cc own R kk nL) {g : Nat → Nat} {σ : St} {ce sl : Nat} {lv : List (Nat × Value)} {pc : Nat} {st : List Value} {i : Int32} {x : Int32} (n : Nat) (e : i = nI n) (h : n < 28) (d : decode cc pc = .ok (.iastore, 1)) (k : J X ce sl (cX g kk (sF σ 41 (upd (σ.2.1 41) n x))) lv (pc + 1) st) : J X ce sl (cX g kk σ) lv pc (.int x :: .int i :: .ref (g 41) :: st) := by
  refine j_iast C 41 (f := σ.2.1 41) rfl (vp_inN e h (by decide)) (w' := cX g kk (sF σ 41 (upd (σ.2.1 41) n x))) ?_ d k
  rw [clN e (by omega)]
  rfl
theorem eX_42 (g : Nat → Nat) (kk : Nat → Nat) (σ : St) : (cX g kk σ)[42]? = some (g 42, .inr (4, [.ref (g 27), .ref (g 1), .ref (g 43), .ref (g 44), .ref (g 45), .ref (g 46), .int (σ.1 678), .int (σ.1 679), .int (σ.1 680), .int (σ.1 681), .int (σ.1 682), .ref (g 47), .ref (g 48), .ref (g 49), .int (σ.1 686)])) := rfl
theorem gX_42_0 {X : jC} {cc : ByteArray} {own : String} {R : Room} {kk : Nat → Nat} {nL : Nat} (C : jF X cc own R kk nL) {g : Nat → Nat} {σ : St} {ce sl : Nat} {lv : List (Nat × Value)} {pc : Nat} {st : List Value} {index : Nat} (hl : Cond.fieldLink own index "RainCans$Land" "rain" "LRainCans$Rain;" ∈ lw_tbl)  (d : decode cc pc = .ok (.getfield index, 3)) (k : J X ce sl (cX g kk σ) lv (pc + 3) (.ref (g 27) :: st)) : J X ce sl (cX g kk σ) lv pc (.ref (g 42) :: st) := by
  exact j_get C inX4 gdX4 rfl 0 (by decide) rfl hl 42 (eX_42 g kk σ) rfl d k
theorem gX_42_1 {X : jC} {cc : ByteArray} {own : String} {R : Room} {kk : Nat → Nat} {nL : Nat} (C : jF X cc own R kk nL) {g : Nat → Nat} {σ : St} {ce sl : Nat} {lv : List (Nat × Value)} {pc : Nat} {st : List Value} {index : Nat} (hl : Cond.fieldLink own index "RainCans$Land" "garden" "LRainCans$Garden;" ∈ lw_tbl)  (d : decode cc pc = .ok (.getfield index, 3)) (k : J X ce sl (cX g kk σ) lv (pc + 3) (.ref (g 1) :: st)) : J X ce sl (cX g kk σ) lv pc (.ref (g 42) :: st) := by
  exact j_get C inX4 gdX4 rfl 1 (by decide) rfl hl 42 (eX_42 g kk σ) rfl d k
theorem gX_42_2 {X : jC} {cc : ByteArray} {own : String} {R : Room} {kk : Nat → Nat} {nL : Nat} (C : jF X cc own R kk nL) {g : Nat → Nat} {σ : St} {ce sl : Nat} {lv : List (Nat × Value)} {pc : Nat} {st : List Value} {index : Nat} (hl : Cond.fieldLink own index "RainCans$Land" "anchorX" "[I" ∈ lw_tbl)  (d : decode cc pc = .ok (.getfield index, 3)) (k : J X ce sl (cX g kk σ) lv (pc + 3) (.ref (g 43) :: st)) : J X ce sl (cX g kk σ) lv pc (.ref (g 42) :: st) := by
  exact j_get C inX4 gdX4 rfl 2 (by decide) rfl hl 42 (eX_42 g kk σ) rfl d k
theorem gX_42_3 {X : jC} {cc : ByteArray} {own : String} {R : Room} {kk : Nat → Nat} {nL : Nat} (C : jF X cc own R kk nL) {g : Nat → Nat} {σ : St} {ce sl : Nat} {lv : List (Nat × Value)} {pc : Nat} {st : List Value} {index : Nat} (hl : Cond.fieldLink own index "RainCans$Land" "anchorY" "[I" ∈ lw_tbl)  (d : decode cc pc = .ok (.getfield index, 3)) (k : J X ce sl (cX g kk σ) lv (pc + 3) (.ref (g 44) :: st)) : J X ce sl (cX g kk σ) lv pc (.ref (g 42) :: st) := by
  exact j_get C inX4 gdX4 rfl 3 (by decide) rfl hl 42 (eX_42 g kk σ) rfl d k
theorem gX_42_4 {X : jC} {cc : ByteArray} {own : String} {R : Room} {kk : Nat → Nat} {nL : Nat} (C : jF X cc own R kk nL) {g : Nat → Nat} {σ : St} {ce sl : Nat} {lv : List (Nat × Value)} {pc : Nat} {st : List Value} {index : Nat} (hl : Cond.fieldLink own index "RainCans$Land" "anchorLeast" "[I" ∈ lw_tbl)  (d : decode cc pc = .ok (.getfield index, 3)) (k : J X ce sl (cX g kk σ) lv (pc + 3) (.ref (g 45) :: st)) : J X ce sl (cX g kk σ) lv pc (.ref (g 42) :: st) := by
  exact j_get C inX4 gdX4 rfl 4 (by decide) rfl hl 42 (eX_42 g kk σ) rfl d k
theorem gX_42_5 {X : jC} {cc : ByteArray} {own : String} {R : Room} {kk : Nat → Nat} {nL : Nat} (C : jF X cc own R kk nL) {g : Nat → Nat} {σ : St} {ce sl : Nat} {lv : List (Nat × Value)} {pc : Nat} {st : List Value} {index : Nat} (hl : Cond.fieldLink own index "RainCans$Land" "anchorMost" "[I" ∈ lw_tbl)  (d : decode cc pc = .ok (.getfield index, 3)) (k : J X ce sl (cX g kk σ) lv (pc + 3) (.ref (g 46) :: st)) : J X ce sl (cX g kk σ) lv pc (.ref (g 42) :: st) := by
  exact j_get C inX4 gdX4 rfl 5 (by decide) rfl hl 42 (eX_42 g kk σ) rfl d k
theorem gX_42_6 {X : jC} {cc : ByteArray} {own : String} {R : Room} {kk : Nat → Nat} {nL : Nat} (C : jF X cc own R kk nL) {g : Nat → Nat} {σ : St} {ce sl : Nat} {lv : List (Nat × Value)} {pc : Nat} {st : List Value} {index : Nat} (hl : Cond.fieldLink own index "RainCans$Land" "anchors" "I" ∈ lw_tbl) (v : Int32) (hv : σ.1 678 = v) (d : decode cc pc = .ok (.getfield index, 3)) (k : J X ce sl (cX g kk σ) lv (pc + 3) (.int v :: st)) : J X ce sl (cX g kk σ) lv pc (.ref (g 42) :: st) := by
  subst hv
  exact j_get C inX4 gdX4 rfl 6 (by decide) rfl hl 42 (eX_42 g kk σ) rfl d k
theorem pX_42_6 {X : jC} {cc : ByteArray} {own : String} {R : Room} {kk : Nat → Nat} {nL : Nat} (C : jF X cc own R kk nL) {g : Nat → Nat} {σ : St} {ce sl : Nat} {lv : List (Nat × Value)} {pc : Nat} {st : List Value} {index : Nat} (hl : Cond.fieldLink own index "RainCans$Land" "anchors" "I" ∈ lw_tbl) {v : Int32} (d : decode cc pc = .ok (.putfield index, 3)) (k : J X ce sl (cX g kk (sI σ 678 v)) lv (pc + 3) st) : J X ce sl (cX g kk σ) lv pc (.int v :: .ref (g 42) :: st) :=
  j_put (ty := .int) C inX4 gdX4 tyX4_ok nmX4 rfl 6 (by decide) rfl hl rfl (by decide +kernel) 42 (eX_42 g kk σ) rfl rfl (Nat.le_of_ble_eq_true rfl) (w' := cX g kk (sI σ 678 v)) rfl d k
theorem gX_42_7 {X : jC} {cc : ByteArray} {own : String} {R : Room} {kk : Nat → Nat} {nL : Nat} (C : jF X cc own R kk nL) {g : Nat → Nat} {σ : St} {ce sl : Nat} {lv : List (Nat × Value)} {pc : Nat} {st : List Value} {index : Nat} (hl : Cond.fieldLink own index "RainCans$Land" "least" "I" ∈ lw_tbl) (v : Int32) (hv : σ.1 679 = v) (d : decode cc pc = .ok (.getfield index, 3)) (k : J X ce sl (cX g kk σ) lv (pc + 3) (.int v :: st)) : J X ce sl (cX g kk σ) lv pc (.ref (g 42) :: st) := by
  subst hv
  exact j_get C inX4 gdX4 rfl 7 (by decide) rfl hl 42 (eX_42 g kk σ) rfl d k
theorem pX_42_7 {X : jC} {cc : ByteArray} {own : String} {R : Room} {kk : Nat → Nat} {nL : Nat} (C : jF X cc own R kk nL) {g : Nat → Nat} {σ : St} {ce sl : Nat} {lv : List (Nat × Value)} {pc : Nat} {st : List Value} {index : Nat} (hl : Cond.fieldLink own index "RainCans$Land" "least" "I" ∈ lw_tbl) {v : Int32} (d : decode cc pc = .ok (.putfield index, 3)) (k : J X ce sl (cX g kk (sI σ 679 v)) lv (pc + 3) st) : J X ce sl (cX g kk σ) lv pc (.int v :: .ref (g 42) :: st) :=
  j_put (ty := .int) C inX4 gdX4 tyX4_ok nmX4 rfl 7 (by decide) rfl hl rfl (by decide +kernel) 42 (eX_42 g kk σ) rfl rfl (Nat.le_of_ble_eq_true rfl) (w' := cX g kk (sI σ 679 v)) rfl d k
theorem gX_42_8 {X : jC} {cc : ByteArray} {own : String} {R : Room} {kk : Nat → Nat} {nL : Nat} (C : jF X cc own R kk nL) {g : Nat → Nat} {σ : St} {ce sl : Nat} {lv : List (Nat × Value)} {pc : Nat} {st : List Value} {index : Nat} (hl : Cond.fieldLink own index "RainCans$Land" "most" "I" ∈ lw_tbl) (v : Int32) (hv : σ.1 680 = v) (d : decode cc pc = .ok (.getfield index, 3)) (k : J X ce sl (cX g kk σ) lv (pc + 3) (.int v :: st)) : J X ce sl (cX g kk σ) lv pc (.ref (g 42) :: st) := by
  subst hv
  exact j_get C inX4 gdX4 rfl 8 (by decide) rfl hl 42 (eX_42 g kk σ) rfl d k
theorem pX_42_8 {X : jC} {cc : ByteArray} {own : String} {R : Room} {kk : Nat → Nat} {nL : Nat} (C : jF X cc own R kk nL) {g : Nat → Nat} {σ : St} {ce sl : Nat} {lv : List (Nat × Value)} {pc : Nat} {st : List Value} {index : Nat} (hl : Cond.fieldLink own index "RainCans$Land" "most" "I" ∈ lw_tbl) {v : Int32} (d : decode cc pc = .ok (.putfield index, 3)) (k : J X ce sl (cX g kk (sI σ 680 v)) lv (pc + 3) st) : J X ce sl (cX g kk σ) lv pc (.int v :: .ref (g 42) :: st) :=
  j_put (ty := .int) C inX4 gdX4 tyX4_ok nmX4 rfl 8 (by decide) rfl hl rfl (by decide +kernel) 42 (eX_42 g kk σ) rfl rfl (Nat.le_of_ble_eq_true rfl) (w' := cX g kk (sI σ 680 v)) rfl d k
theorem gX_42_9 {X : jC} {cc : ByteArray} {own : String} {R : Room} {kk : Nat → Nat} {nL : Nat} (C : jF X cc own R kk nL) {g : Nat → Nat} {σ : St} {ce sl : Nat} {lv : List (Nat × Value)} {pc : Nat} {st : List Value} {index : Nat} (hl : Cond.fieldLink own index "RainCans$Land" "leastSum" "I" ∈ lw_tbl) (v : Int32) (hv : σ.1 681 = v) (d : decode cc pc = .ok (.getfield index, 3)) (k : J X ce sl (cX g kk σ) lv (pc + 3) (.int v :: st)) : J X ce sl (cX g kk σ) lv pc (.ref (g 42) :: st) := by
  subst hv
  exact j_get C inX4 gdX4 rfl 9 (by decide) rfl hl 42 (eX_42 g kk σ) rfl d k
theorem pX_42_9 {X : jC} {cc : ByteArray} {own : String} {R : Room} {kk : Nat → Nat} {nL : Nat} (C : jF X cc own R kk nL) {g : Nat → Nat} {σ : St} {ce sl : Nat} {lv : List (Nat × Value)} {pc : Nat} {st : List Value} {index : Nat} (hl : Cond.fieldLink own index "RainCans$Land" "leastSum" "I" ∈ lw_tbl) {v : Int32} (d : decode cc pc = .ok (.putfield index, 3)) (k : J X ce sl (cX g kk (sI σ 681 v)) lv (pc + 3) st) : J X ce sl (cX g kk σ) lv pc (.int v :: .ref (g 42) :: st) :=
  j_put (ty := .int) C inX4 gdX4 tyX4_ok nmX4 rfl 9 (by decide) rfl hl rfl (by decide +kernel) 42 (eX_42 g kk σ) rfl rfl (Nat.le_of_ble_eq_true rfl) (w' := cX g kk (sI σ 681 v)) rfl d k
theorem gX_42_10 {X : jC} {cc : ByteArray} {own : String} {R : Room} {kk : Nat → Nat} {nL : Nat} (C : jF X cc own R kk nL) {g : Nat → Nat} {σ : St} {ce sl : Nat} {lv : List (Nat × Value)} {pc : Nat} {st : List Value} {index : Nat} (hl : Cond.fieldLink own index "RainCans$Land" "mostSum" "I" ∈ lw_tbl) (v : Int32) (hv : σ.1 682 = v) (d : decode cc pc = .ok (.getfield index, 3)) (k : J X ce sl (cX g kk σ) lv (pc + 3) (.int v :: st)) : J X ce sl (cX g kk σ) lv pc (.ref (g 42) :: st) := by
  subst hv
  exact j_get C inX4 gdX4 rfl 10 (by decide) rfl hl 42 (eX_42 g kk σ) rfl d k
theorem pX_42_10 {X : jC} {cc : ByteArray} {own : String} {R : Room} {kk : Nat → Nat} {nL : Nat} (C : jF X cc own R kk nL) {g : Nat → Nat} {σ : St} {ce sl : Nat} {lv : List (Nat × Value)} {pc : Nat} {st : List Value} {index : Nat} (hl : Cond.fieldLink own index "RainCans$Land" "mostSum" "I" ∈ lw_tbl) {v : Int32} (d : decode cc pc = .ok (.putfield index, 3)) (k : J X ce sl (cX g kk (sI σ 682 v)) lv (pc + 3) st) : J X ce sl (cX g kk σ) lv pc (.int v :: .ref (g 42) :: st) :=
  j_put (ty := .int) C inX4 gdX4 tyX4_ok nmX4 rfl 10 (by decide) rfl hl rfl (by decide +kernel) 42 (eX_42 g kk σ) rfl rfl (Nat.le_of_ble_eq_true rfl) (w' := cX g kk (sI σ 682 v)) rfl d k
theorem gX_42_11 {X : jC} {cc : ByteArray} {own : String} {R : Room} {kk : Nat → Nat} {nL : Nat} (C : jF X cc own R kk nL) {g : Nat → Nat} {σ : St} {ce sl : Nat} {lv : List (Nat × Value)} {pc : Nat} {st : List Value} {index : Nat} (hl : Cond.fieldLink own index "RainCans$Land" "placeX" "[I" ∈ lw_tbl)  (d : decode cc pc = .ok (.getfield index, 3)) (k : J X ce sl (cX g kk σ) lv (pc + 3) (.ref (g 47) :: st)) : J X ce sl (cX g kk σ) lv pc (.ref (g 42) :: st) := by
  exact j_get C inX4 gdX4 rfl 11 (by decide) rfl hl 42 (eX_42 g kk σ) rfl d k
theorem gX_42_12 {X : jC} {cc : ByteArray} {own : String} {R : Room} {kk : Nat → Nat} {nL : Nat} (C : jF X cc own R kk nL) {g : Nat → Nat} {σ : St} {ce sl : Nat} {lv : List (Nat × Value)} {pc : Nat} {st : List Value} {index : Nat} (hl : Cond.fieldLink own index "RainCans$Land" "placeY" "[I" ∈ lw_tbl)  (d : decode cc pc = .ok (.getfield index, 3)) (k : J X ce sl (cX g kk σ) lv (pc + 3) (.ref (g 48) :: st)) : J X ce sl (cX g kk σ) lv pc (.ref (g 42) :: st) := by
  exact j_get C inX4 gdX4 rfl 12 (by decide) rfl hl 42 (eX_42 g kk σ) rfl d k
theorem gX_42_13 {X : jC} {cc : ByteArray} {own : String} {R : Room} {kk : Nat → Nat} {nL : Nat} (C : jF X cc own R kk nL) {g : Nat → Nat} {σ : St} {ce sl : Nat} {lv : List (Nat × Value)} {pc : Nat} {st : List Value} {index : Nat} (hl : Cond.fieldLink own index "RainCans$Land" "nearest" "[I" ∈ lw_tbl)  (d : decode cc pc = .ok (.getfield index, 3)) (k : J X ce sl (cX g kk σ) lv (pc + 3) (.ref (g 49) :: st)) : J X ce sl (cX g kk σ) lv pc (.ref (g 42) :: st) := by
  exact j_get C inX4 gdX4 rfl 13 (by decide) rfl hl 42 (eX_42 g kk σ) rfl d k
theorem gX_42_14 {X : jC} {cc : ByteArray} {own : String} {R : Room} {kk : Nat → Nat} {nL : Nat} (C : jF X cc own R kk nL) {g : Nat → Nat} {σ : St} {ce sl : Nat} {lv : List (Nat × Value)} {pc : Nat} {st : List Value} {index : Nat} (hl : Cond.fieldLink own index "RainCans$Land" "places" "I" ∈ lw_tbl) (v : Int32) (hv : σ.1 686 = v) (d : decode cc pc = .ok (.getfield index, 3)) (k : J X ce sl (cX g kk σ) lv (pc + 3) (.int v :: st)) : J X ce sl (cX g kk σ) lv pc (.ref (g 42) :: st) := by
  subst hv
  exact j_get C inX4 gdX4 rfl 14 (by decide) rfl hl 42 (eX_42 g kk σ) rfl d k
theorem pX_42_14 {X : jC} {cc : ByteArray} {own : String} {R : Room} {kk : Nat → Nat} {nL : Nat} (C : jF X cc own R kk nL) {g : Nat → Nat} {σ : St} {ce sl : Nat} {lv : List (Nat × Value)} {pc : Nat} {st : List Value} {index : Nat} (hl : Cond.fieldLink own index "RainCans$Land" "places" "I" ∈ lw_tbl) {v : Int32} (d : decode cc pc = .ok (.putfield index, 3)) (k : J X ce sl (cX g kk (sI σ 686 v)) lv (pc + 3) st) : J X ce sl (cX g kk σ) lv pc (.int v :: .ref (g 42) :: st) :=
  j_put (ty := .int) C inX4 gdX4 tyX4_ok nmX4 rfl 14 (by decide) rfl hl rfl (by decide +kernel) 42 (eX_42 g kk σ) rfl rfl (Nat.le_of_ble_eq_true rfl) (w' := cX g kk (sI σ 686 v)) rfl d k
theorem rX_43 {X : jC} {cc : ByteArray} {own : String} {R : Room} {kk : Nat → Nat} {nL : Nat} (C : jF X cc own R kk nL) {g : Nat → Nat} {σ : St} {ce sl : Nat} {lv : List (Nat × Value)} {pc : Nat} {st : List Value} {i : Int32} (n : Nat) (e : i = nI n) (h : n < 12) (v : Int32) (hv : σ.2.1 43 n = v) (d : decode cc pc = .ok (.iaload, 1)) (k : J X ce sl (cX g kk σ) lv (pc + 1) (.int v :: st)) : J X ce sl (cX g kk σ) lv pc (.int i :: .ref (g 43) :: st) := by
  subst hv
  refine j_iald C 43 (f := σ.2.1 43) rfl (vp_inN e h (by decide)) d ?_
  rw [clN e (by omega)]
  exact k
theorem tX_43 {X : jC} {cc : ByteArray} {own : String} {R : Room} {kk : Nat → Nat} {nL : Nat} (C : jF X cc own R kk nL) {g : Nat → Nat} {σ : St} {ce sl : Nat} {lv : List (Nat × Value)} {pc : Nat} {st : List Value} {i : Int32} {x : Int32} (n : Nat) (e : i = nI n) (h : n < 12) (d : decode cc pc = .ok (.iastore, 1)) (k : J X ce sl (cX g kk (sF σ 43 (upd (σ.2.1 43) n x))) lv (pc + 1) st) : J X ce sl (cX g kk σ) lv pc (.int x :: .int i :: .ref (g 43) :: st) := by
  refine j_iast C 43 (f := σ.2.1 43) rfl (vp_inN e h (by decide)) (w' := cX g kk (sF σ 43 (upd (σ.2.1 43) n x))) ?_ d k
  rw [clN e (by omega)]
  rfl
theorem rX_44 {X : jC} {cc : ByteArray} {own : String} {R : Room} {kk : Nat → Nat} {nL : Nat} (C : jF X cc own R kk nL) {g : Nat → Nat} {σ : St} {ce sl : Nat} {lv : List (Nat × Value)} {pc : Nat} {st : List Value} {i : Int32} (n : Nat) (e : i = nI n) (h : n < 12) (v : Int32) (hv : σ.2.1 44 n = v) (d : decode cc pc = .ok (.iaload, 1)) (k : J X ce sl (cX g kk σ) lv (pc + 1) (.int v :: st)) : J X ce sl (cX g kk σ) lv pc (.int i :: .ref (g 44) :: st) := by
  subst hv
  refine j_iald C 44 (f := σ.2.1 44) rfl (vp_inN e h (by decide)) d ?_
  rw [clN e (by omega)]
  exact k
theorem tX_44 {X : jC} {cc : ByteArray} {own : String} {R : Room} {kk : Nat → Nat} {nL : Nat} (C : jF X cc own R kk nL) {g : Nat → Nat} {σ : St} {ce sl : Nat} {lv : List (Nat × Value)} {pc : Nat} {st : List Value} {i : Int32} {x : Int32} (n : Nat) (e : i = nI n) (h : n < 12) (d : decode cc pc = .ok (.iastore, 1)) (k : J X ce sl (cX g kk (sF σ 44 (upd (σ.2.1 44) n x))) lv (pc + 1) st) : J X ce sl (cX g kk σ) lv pc (.int x :: .int i :: .ref (g 44) :: st) := by
  refine j_iast C 44 (f := σ.2.1 44) rfl (vp_inN e h (by decide)) (w' := cX g kk (sF σ 44 (upd (σ.2.1 44) n x))) ?_ d k
  rw [clN e (by omega)]
  rfl
theorem rX_45 {X : jC} {cc : ByteArray} {own : String} {R : Room} {kk : Nat → Nat} {nL : Nat} (C : jF X cc own R kk nL) {g : Nat → Nat} {σ : St} {ce sl : Nat} {lv : List (Nat × Value)} {pc : Nat} {st : List Value} {i : Int32} (n : Nat) (e : i = nI n) (h : n < 12) (v : Int32) (hv : σ.2.1 45 n = v) (d : decode cc pc = .ok (.iaload, 1)) (k : J X ce sl (cX g kk σ) lv (pc + 1) (.int v :: st)) : J X ce sl (cX g kk σ) lv pc (.int i :: .ref (g 45) :: st) := by
  subst hv
  refine j_iald C 45 (f := σ.2.1 45) rfl (vp_inN e h (by decide)) d ?_
  rw [clN e (by omega)]
  exact k
theorem tX_45 {X : jC} {cc : ByteArray} {own : String} {R : Room} {kk : Nat → Nat} {nL : Nat} (C : jF X cc own R kk nL) {g : Nat → Nat} {σ : St} {ce sl : Nat} {lv : List (Nat × Value)} {pc : Nat} {st : List Value} {i : Int32} {x : Int32} (n : Nat) (e : i = nI n) (h : n < 12) (d : decode cc pc = .ok (.iastore, 1)) (k : J X ce sl (cX g kk (sF σ 45 (upd (σ.2.1 45) n x))) lv (pc + 1) st) : J X ce sl (cX g kk σ) lv pc (.int x :: .int i :: .ref (g 45) :: st) := by
  refine j_iast C 45 (f := σ.2.1 45) rfl (vp_inN e h (by decide)) (w' := cX g kk (sF σ 45 (upd (σ.2.1 45) n x))) ?_ d k
  rw [clN e (by omega)]
  rfl
theorem rX_46 {X : jC} {cc : ByteArray} {own : String} {R : Room} {kk : Nat → Nat} {nL : Nat} (C : jF X cc own R kk nL) {g : Nat → Nat} {σ : St} {ce sl : Nat} {lv : List (Nat × Value)} {pc : Nat} {st : List Value} {i : Int32} (n : Nat) (e : i = nI n) (h : n < 12) (v : Int32) (hv : σ.2.1 46 n = v) (d : decode cc pc = .ok (.iaload, 1)) (k : J X ce sl (cX g kk σ) lv (pc + 1) (.int v :: st)) : J X ce sl (cX g kk σ) lv pc (.int i :: .ref (g 46) :: st) := by
  subst hv
  refine j_iald C 46 (f := σ.2.1 46) rfl (vp_inN e h (by decide)) d ?_
  rw [clN e (by omega)]
  exact k
theorem tX_46 {X : jC} {cc : ByteArray} {own : String} {R : Room} {kk : Nat → Nat} {nL : Nat} (C : jF X cc own R kk nL) {g : Nat → Nat} {σ : St} {ce sl : Nat} {lv : List (Nat × Value)} {pc : Nat} {st : List Value} {i : Int32} {x : Int32} (n : Nat) (e : i = nI n) (h : n < 12) (d : decode cc pc = .ok (.iastore, 1)) (k : J X ce sl (cX g kk (sF σ 46 (upd (σ.2.1 46) n x))) lv (pc + 1) st) : J X ce sl (cX g kk σ) lv pc (.int x :: .int i :: .ref (g 46) :: st) := by
  refine j_iast C 46 (f := σ.2.1 46) rfl (vp_inN e h (by decide)) (w' := cX g kk (sF σ 46 (upd (σ.2.1 46) n x))) ?_ d k
  rw [clN e (by omega)]
  rfl
theorem rX_47 {X : jC} {cc : ByteArray} {own : String} {R : Room} {kk : Nat → Nat} {nL : Nat} (C : jF X cc own R kk nL) {g : Nat → Nat} {σ : St} {ce sl : Nat} {lv : List (Nat × Value)} {pc : Nat} {st : List Value} {i : Int32} (n : Nat) (e : i = nI n) (h : n < 441) (v : Int32) (hv : σ.2.1 47 n = v) (d : decode cc pc = .ok (.iaload, 1)) (k : J X ce sl (cX g kk σ) lv (pc + 1) (.int v :: st)) : J X ce sl (cX g kk σ) lv pc (.int i :: .ref (g 47) :: st) := by
  subst hv
  refine j_iald C 47 (f := σ.2.1 47) rfl (vp_inN e h (by decide)) d ?_
  rw [clN e (by omega)]
  exact k
theorem tX_47 {X : jC} {cc : ByteArray} {own : String} {R : Room} {kk : Nat → Nat} {nL : Nat} (C : jF X cc own R kk nL) {g : Nat → Nat} {σ : St} {ce sl : Nat} {lv : List (Nat × Value)} {pc : Nat} {st : List Value} {i : Int32} {x : Int32} (n : Nat) (e : i = nI n) (h : n < 441) (d : decode cc pc = .ok (.iastore, 1)) (k : J X ce sl (cX g kk (sF σ 47 (upd (σ.2.1 47) n x))) lv (pc + 1) st) : J X ce sl (cX g kk σ) lv pc (.int x :: .int i :: .ref (g 47) :: st) := by
  refine j_iast C 47 (f := σ.2.1 47) rfl (vp_inN e h (by decide)) (w' := cX g kk (sF σ 47 (upd (σ.2.1 47) n x))) ?_ d k
  rw [clN e (by omega)]
  rfl
theorem rX_48 {X : jC} {cc : ByteArray} {own : String} {R : Room} {kk : Nat → Nat} {nL : Nat} (C : jF X cc own R kk nL) {g : Nat → Nat} {σ : St} {ce sl : Nat} {lv : List (Nat × Value)} {pc : Nat} {st : List Value} {i : Int32} (n : Nat) (e : i = nI n) (h : n < 441) (v : Int32) (hv : σ.2.1 48 n = v) (d : decode cc pc = .ok (.iaload, 1)) (k : J X ce sl (cX g kk σ) lv (pc + 1) (.int v :: st)) : J X ce sl (cX g kk σ) lv pc (.int i :: .ref (g 48) :: st) := by
  subst hv
  refine j_iald C 48 (f := σ.2.1 48) rfl (vp_inN e h (by decide)) d ?_
  rw [clN e (by omega)]
  exact k
theorem tX_48 {X : jC} {cc : ByteArray} {own : String} {R : Room} {kk : Nat → Nat} {nL : Nat} (C : jF X cc own R kk nL) {g : Nat → Nat} {σ : St} {ce sl : Nat} {lv : List (Nat × Value)} {pc : Nat} {st : List Value} {i : Int32} {x : Int32} (n : Nat) (e : i = nI n) (h : n < 441) (d : decode cc pc = .ok (.iastore, 1)) (k : J X ce sl (cX g kk (sF σ 48 (upd (σ.2.1 48) n x))) lv (pc + 1) st) : J X ce sl (cX g kk σ) lv pc (.int x :: .int i :: .ref (g 48) :: st) := by
  refine j_iast C 48 (f := σ.2.1 48) rfl (vp_inN e h (by decide)) (w' := cX g kk (sF σ 48 (upd (σ.2.1 48) n x))) ?_ d k
  rw [clN e (by omega)]
  rfl
theorem rX_49 {X : jC} {cc : ByteArray} {own : String} {R : Room} {kk : Nat → Nat} {nL : Nat} (C : jF X cc own R kk nL) {g : Nat → Nat} {σ : St} {ce sl : Nat} {lv : List (Nat × Value)} {pc : Nat} {st : List Value} {i : Int32} (n : Nat) (e : i = nI n) (h : n < 441) (v : Int32) (hv : σ.2.1 49 n = v) (d : decode cc pc = .ok (.iaload, 1)) (k : J X ce sl (cX g kk σ) lv (pc + 1) (.int v :: st)) : J X ce sl (cX g kk σ) lv pc (.int i :: .ref (g 49) :: st) := by
  subst hv
  refine j_iald C 49 (f := σ.2.1 49) rfl (vp_inN e h (by decide)) d ?_
  rw [clN e (by omega)]
  exact k
theorem tX_49 {X : jC} {cc : ByteArray} {own : String} {R : Room} {kk : Nat → Nat} {nL : Nat} (C : jF X cc own R kk nL) {g : Nat → Nat} {σ : St} {ce sl : Nat} {lv : List (Nat × Value)} {pc : Nat} {st : List Value} {i : Int32} {x : Int32} (n : Nat) (e : i = nI n) (h : n < 441) (d : decode cc pc = .ok (.iastore, 1)) (k : J X ce sl (cX g kk (sF σ 49 (upd (σ.2.1 49) n x))) lv (pc + 1) st) : J X ce sl (cX g kk σ) lv pc (.int x :: .int i :: .ref (g 49) :: st) := by
  refine j_iast C 49 (f := σ.2.1 49) rfl (vp_inN e h (by decide)) (w' := cX g kk (sF σ 49 (upd (σ.2.1 49) n x))) ?_ d k
  rw [clN e (by omega)]
  rfl
theorem eX_50 (g : Nat → Nat) (kk : Nat → Nat) (σ : St) : (cX g kk σ)[50]? = some (g 50, .inr (8, [.ref (g 27), .ref (g 51), .ref (g 52), .int (σ.1 803), .int (σ.1 804), .int (σ.1 805)])) := rfl
theorem gX_50_0 {X : jC} {cc : ByteArray} {own : String} {R : Room} {kk : Nat → Nat} {nL : Nat} (C : jF X cc own R kk nL) {g : Nat → Nat} {σ : St} {ce sl : Nat} {lv : List (Nat × Value)} {pc : Nat} {st : List Value} {index : Nat} (hl : Cond.fieldLink own index "RainCans$Records" "rain" "LRainCans$Rain;" ∈ lw_tbl)  (d : decode cc pc = .ok (.getfield index, 3)) (k : J X ce sl (cX g kk σ) lv (pc + 3) (.ref (g 27) :: st)) : J X ce sl (cX g kk σ) lv pc (.ref (g 50) :: st) := by
  exact j_get C inX8 gdX8 rfl 0 (by decide) rfl hl 50 (eX_50 g kk σ) rfl d k
theorem gX_50_1 {X : jC} {cc : ByteArray} {own : String} {R : Room} {kk : Nat → Nat} {nL : Nat} (C : jF X cc own R kk nL) {g : Nat → Nat} {σ : St} {ce sl : Nat} {lv : List (Nat × Value)} {pc : Nat} {st : List Value} {index : Nat} (hl : Cond.fieldLink own index "RainCans$Records" "order" "[I" ∈ lw_tbl)  (d : decode cc pc = .ok (.getfield index, 3)) (k : J X ce sl (cX g kk σ) lv (pc + 3) (.ref (g 51) :: st)) : J X ce sl (cX g kk σ) lv pc (.ref (g 50) :: st) := by
  exact j_get C inX8 gdX8 rfl 1 (by decide) rfl hl 50 (eX_50 g kk σ) rfl d k
theorem gX_50_2 {X : jC} {cc : ByteArray} {own : String} {R : Room} {kk : Nat → Nat} {nL : Nat} (C : jF X cc own R kk nL) {g : Nat → Nat} {σ : St} {ce sl : Nat} {lv : List (Nat × Value)} {pc : Nat} {st : List Value} {index : Nat} (hl : Cond.fieldLink own index "RainCans$Records" "seams" "[I" ∈ lw_tbl)  (d : decode cc pc = .ok (.getfield index, 3)) (k : J X ce sl (cX g kk σ) lv (pc + 3) (.ref (g 52) :: st)) : J X ce sl (cX g kk σ) lv pc (.ref (g 50) :: st) := by
  exact j_get C inX8 gdX8 rfl 2 (by decide) rfl hl 50 (eX_50 g kk σ) rfl d k
theorem gX_50_3 {X : jC} {cc : ByteArray} {own : String} {R : Room} {kk : Nat → Nat} {nL : Nat} (C : jF X cc own R kk nL) {g : Nat → Nat} {σ : St} {ce sl : Nat} {lv : List (Nat × Value)} {pc : Nat} {st : List Value} {index : Nat} (hl : Cond.fieldLink own index "RainCans$Records" "ordered" "I" ∈ lw_tbl) (v : Int32) (hv : σ.1 803 = v) (d : decode cc pc = .ok (.getfield index, 3)) (k : J X ce sl (cX g kk σ) lv (pc + 3) (.int v :: st)) : J X ce sl (cX g kk σ) lv pc (.ref (g 50) :: st) := by
  subst hv
  exact j_get C inX8 gdX8 rfl 3 (by decide) rfl hl 50 (eX_50 g kk σ) rfl d k
theorem pX_50_3 {X : jC} {cc : ByteArray} {own : String} {R : Room} {kk : Nat → Nat} {nL : Nat} (C : jF X cc own R kk nL) {g : Nat → Nat} {σ : St} {ce sl : Nat} {lv : List (Nat × Value)} {pc : Nat} {st : List Value} {index : Nat} (hl : Cond.fieldLink own index "RainCans$Records" "ordered" "I" ∈ lw_tbl) {v : Int32} (d : decode cc pc = .ok (.putfield index, 3)) (k : J X ce sl (cX g kk (sI σ 803 v)) lv (pc + 3) st) : J X ce sl (cX g kk σ) lv pc (.int v :: .ref (g 50) :: st) :=
  j_put (ty := .int) C inX8 gdX8 tyX8_ok nmX8 rfl 3 (by decide) rfl hl rfl (by decide +kernel) 50 (eX_50 g kk σ) rfl rfl (Nat.le_of_ble_eq_true rfl) (w' := cX g kk (sI σ 803 v)) rfl d k
theorem gX_50_4 {X : jC} {cc : ByteArray} {own : String} {R : Room} {kk : Nat → Nat} {nL : Nat} (C : jF X cc own R kk nL) {g : Nat → Nat} {σ : St} {ce sl : Nat} {lv : List (Nat × Value)} {pc : Nat} {st : List Value} {index : Nat} (hl : Cond.fieldLink own index "RainCans$Records" "seamCount" "I" ∈ lw_tbl) (v : Int32) (hv : σ.1 804 = v) (d : decode cc pc = .ok (.getfield index, 3)) (k : J X ce sl (cX g kk σ) lv (pc + 3) (.int v :: st)) : J X ce sl (cX g kk σ) lv pc (.ref (g 50) :: st) := by
  subst hv
  exact j_get C inX8 gdX8 rfl 4 (by decide) rfl hl 50 (eX_50 g kk σ) rfl d k
theorem pX_50_4 {X : jC} {cc : ByteArray} {own : String} {R : Room} {kk : Nat → Nat} {nL : Nat} (C : jF X cc own R kk nL) {g : Nat → Nat} {σ : St} {ce sl : Nat} {lv : List (Nat × Value)} {pc : Nat} {st : List Value} {index : Nat} (hl : Cond.fieldLink own index "RainCans$Records" "seamCount" "I" ∈ lw_tbl) {v : Int32} (d : decode cc pc = .ok (.putfield index, 3)) (k : J X ce sl (cX g kk (sI σ 804 v)) lv (pc + 3) st) : J X ce sl (cX g kk σ) lv pc (.int v :: .ref (g 50) :: st) :=
  j_put (ty := .int) C inX8 gdX8 tyX8_ok nmX8 rfl 4 (by decide) rfl hl rfl (by decide +kernel) 50 (eX_50 g kk σ) rfl rfl (Nat.le_of_ble_eq_true rfl) (w' := cX g kk (sI σ 804 v)) rfl d k
theorem gX_50_5 {X : jC} {cc : ByteArray} {own : String} {R : Room} {kk : Nat → Nat} {nL : Nat} (C : jF X cc own R kk nL) {g : Nat → Nat} {σ : St} {ce sl : Nat} {lv : List (Nat × Value)} {pc : Nat} {st : List Value} {index : Nat} (hl : Cond.fieldLink own index "RainCans$Records" "sum" "I" ∈ lw_tbl) (v : Int32) (hv : σ.1 805 = v) (d : decode cc pc = .ok (.getfield index, 3)) (k : J X ce sl (cX g kk σ) lv (pc + 3) (.int v :: st)) : J X ce sl (cX g kk σ) lv pc (.ref (g 50) :: st) := by
  subst hv
  exact j_get C inX8 gdX8 rfl 5 (by decide) rfl hl 50 (eX_50 g kk σ) rfl d k
theorem pX_50_5 {X : jC} {cc : ByteArray} {own : String} {R : Room} {kk : Nat → Nat} {nL : Nat} (C : jF X cc own R kk nL) {g : Nat → Nat} {σ : St} {ce sl : Nat} {lv : List (Nat × Value)} {pc : Nat} {st : List Value} {index : Nat} (hl : Cond.fieldLink own index "RainCans$Records" "sum" "I" ∈ lw_tbl) {v : Int32} (d : decode cc pc = .ok (.putfield index, 3)) (k : J X ce sl (cX g kk (sI σ 805 v)) lv (pc + 3) st) : J X ce sl (cX g kk σ) lv pc (.int v :: .ref (g 50) :: st) :=
  j_put (ty := .int) C inX8 gdX8 tyX8_ok nmX8 rfl 5 (by decide) rfl hl rfl (by decide +kernel) 50 (eX_50 g kk σ) rfl rfl (Nat.le_of_ble_eq_true rfl) (w' := cX g kk (sI σ 805 v)) rfl d k
theorem rX_51 {X : jC} {cc : ByteArray} {own : String} {R : Room} {kk : Nat → Nat} {nL : Nat} (C : jF X cc own R kk nL) {g : Nat → Nat} {σ : St} {ce sl : Nat} {lv : List (Nat × Value)} {pc : Nat} {st : List Value} {i : Int32} (n : Nat) (e : i = nI n) (h : n < 6) (v : Int32) (hv : σ.2.1 51 n = v) (d : decode cc pc = .ok (.iaload, 1)) (k : J X ce sl (cX g kk σ) lv (pc + 1) (.int v :: st)) : J X ce sl (cX g kk σ) lv pc (.int i :: .ref (g 51) :: st) := by
  subst hv
  refine j_iald C 51 (f := σ.2.1 51) rfl (vp_inN e h (by decide)) d ?_
  rw [clN e (by omega)]
  exact k
theorem tX_51 {X : jC} {cc : ByteArray} {own : String} {R : Room} {kk : Nat → Nat} {nL : Nat} (C : jF X cc own R kk nL) {g : Nat → Nat} {σ : St} {ce sl : Nat} {lv : List (Nat × Value)} {pc : Nat} {st : List Value} {i : Int32} {x : Int32} (n : Nat) (e : i = nI n) (h : n < 6) (d : decode cc pc = .ok (.iastore, 1)) (k : J X ce sl (cX g kk (sF σ 51 (upd (σ.2.1 51) n x))) lv (pc + 1) st) : J X ce sl (cX g kk σ) lv pc (.int x :: .int i :: .ref (g 51) :: st) := by
  refine j_iast C 51 (f := σ.2.1 51) rfl (vp_inN e h (by decide)) (w' := cX g kk (sF σ 51 (upd (σ.2.1 51) n x))) ?_ d k
  rw [clN e (by omega)]
  rfl
theorem rX_52 {X : jC} {cc : ByteArray} {own : String} {R : Room} {kk : Nat → Nat} {nL : Nat} (C : jF X cc own R kk nL) {g : Nat → Nat} {σ : St} {ce sl : Nat} {lv : List (Nat × Value)} {pc : Nat} {st : List Value} {i : Int32} (n : Nat) (e : i = nI n) (h : n < 28) (v : Int32) (hv : σ.2.1 52 n = v) (d : decode cc pc = .ok (.iaload, 1)) (k : J X ce sl (cX g kk σ) lv (pc + 1) (.int v :: st)) : J X ce sl (cX g kk σ) lv pc (.int i :: .ref (g 52) :: st) := by
  subst hv
  refine j_iald C 52 (f := σ.2.1 52) rfl (vp_inN e h (by decide)) d ?_
  rw [clN e (by omega)]
  exact k
theorem tX_52 {X : jC} {cc : ByteArray} {own : String} {R : Room} {kk : Nat → Nat} {nL : Nat} (C : jF X cc own R kk nL) {g : Nat → Nat} {σ : St} {ce sl : Nat} {lv : List (Nat × Value)} {pc : Nat} {st : List Value} {i : Int32} {x : Int32} (n : Nat) (e : i = nI n) (h : n < 28) (d : decode cc pc = .ok (.iastore, 1)) (k : J X ce sl (cX g kk (sF σ 52 (upd (σ.2.1 52) n x))) lv (pc + 1) st) : J X ce sl (cX g kk σ) lv pc (.int x :: .int i :: .ref (g 52) :: st) := by
  refine j_iast C 52 (f := σ.2.1 52) rfl (vp_inN e h (by decide)) (w' := cX g kk (sF σ 52 (upd (σ.2.1 52) n x))) ?_ d k
  rw [clN e (by omega)]
  rfl
theorem eX_53 (g : Nat → Nat) (kk : Nat → Nat) (σ : St) : (cX g kk σ)[53]? = some (g 53, .inr (3, [.ref (g 1), .ref (g 54), .int (σ.1 850), .int (σ.1 851), .long (σ.2.2.1 852), .long (σ.2.2.1 853), .int (σ.1 854), .int (σ.1 855)])) := rfl
theorem gX_53_0 {X : jC} {cc : ByteArray} {own : String} {R : Room} {kk : Nat → Nat} {nL : Nat} (C : jF X cc own R kk nL) {g : Nat → Nat} {σ : St} {ce sl : Nat} {lv : List (Nat × Value)} {pc : Nat} {st : List Value} {index : Nat} (hl : Cond.fieldLink own index "RainCans$Habits" "garden" "LRainCans$Garden;" ∈ lw_tbl)  (d : decode cc pc = .ok (.getfield index, 3)) (k : J X ce sl (cX g kk σ) lv (pc + 3) (.ref (g 1) :: st)) : J X ce sl (cX g kk σ) lv pc (.ref (g 53) :: st) := by
  exact j_get C inX3 gdX3 rfl 0 (by decide) rfl hl 53 (eX_53 g kk σ) rfl d k
theorem gX_53_1 {X : jC} {cc : ByteArray} {own : String} {R : Room} {kk : Nat → Nat} {nL : Nat} (C : jF X cc own R kk nL) {g : Nat → Nat} {σ : St} {ce sl : Nat} {lv : List (Nat × Value)} {pc : Nat} {st : List Value} {index : Nat} (hl : Cond.fieldLink own index "RainCans$Habits" "missing" "[I" ∈ lw_tbl)  (d : decode cc pc = .ok (.getfield index, 3)) (k : J X ce sl (cX g kk σ) lv (pc + 3) (.ref (g 54) :: st)) : J X ce sl (cX g kk σ) lv pc (.ref (g 53) :: st) := by
  exact j_get C inX3 gdX3 rfl 1 (by decide) rfl hl 53 (eX_53 g kk σ) rfl d k
theorem gX_53_2 {X : jC} {cc : ByteArray} {own : String} {R : Room} {kk : Nat → Nat} {nL : Nat} (C : jF X cc own R kk nL) {g : Nat → Nat} {σ : St} {ce sl : Nat} {lv : List (Nat × Value)} {pc : Nat} {st : List Value} {index : Nat} (hl : Cond.fieldLink own index "RainCans$Habits" "wet" "I" ∈ lw_tbl) (v : Int32) (hv : σ.1 850 = v) (d : decode cc pc = .ok (.getfield index, 3)) (k : J X ce sl (cX g kk σ) lv (pc + 3) (.int v :: st)) : J X ce sl (cX g kk σ) lv pc (.ref (g 53) :: st) := by
  subst hv
  exact j_get C inX3 gdX3 rfl 2 (by decide) rfl hl 53 (eX_53 g kk σ) rfl d k
theorem pX_53_2 {X : jC} {cc : ByteArray} {own : String} {R : Room} {kk : Nat → Nat} {nL : Nat} (C : jF X cc own R kk nL) {g : Nat → Nat} {σ : St} {ce sl : Nat} {lv : List (Nat × Value)} {pc : Nat} {st : List Value} {index : Nat} (hl : Cond.fieldLink own index "RainCans$Habits" "wet" "I" ∈ lw_tbl) {v : Int32} (d : decode cc pc = .ok (.putfield index, 3)) (k : J X ce sl (cX g kk (sI σ 850 v)) lv (pc + 3) st) : J X ce sl (cX g kk σ) lv pc (.int v :: .ref (g 53) :: st) :=
  j_put (ty := .int) C inX3 gdX3 tyX3_ok nmX3 rfl 2 (by decide) rfl hl rfl (by decide +kernel) 53 (eX_53 g kk σ) rfl rfl (Nat.le_of_ble_eq_true rfl) (w' := cX g kk (sI σ 850 v)) rfl d k
theorem gX_53_3 {X : jC} {cc : ByteArray} {own : String} {R : Room} {kk : Nat → Nat} {nL : Nat} (C : jF X cc own R kk nL) {g : Nat → Nat} {σ : St} {ce sl : Nat} {lv : List (Nat × Value)} {pc : Nat} {st : List Value} {index : Nat} (hl : Cond.fieldLink own index "RainCans$Habits" "round" "I" ∈ lw_tbl) (v : Int32) (hv : σ.1 851 = v) (d : decode cc pc = .ok (.getfield index, 3)) (k : J X ce sl (cX g kk σ) lv (pc + 3) (.int v :: st)) : J X ce sl (cX g kk σ) lv pc (.ref (g 53) :: st) := by
  subst hv
  exact j_get C inX3 gdX3 rfl 3 (by decide) rfl hl 53 (eX_53 g kk σ) rfl d k
theorem pX_53_3 {X : jC} {cc : ByteArray} {own : String} {R : Room} {kk : Nat → Nat} {nL : Nat} (C : jF X cc own R kk nL) {g : Nat → Nat} {σ : St} {ce sl : Nat} {lv : List (Nat × Value)} {pc : Nat} {st : List Value} {index : Nat} (hl : Cond.fieldLink own index "RainCans$Habits" "round" "I" ∈ lw_tbl) {v : Int32} (d : decode cc pc = .ok (.putfield index, 3)) (k : J X ce sl (cX g kk (sI σ 851 v)) lv (pc + 3) st) : J X ce sl (cX g kk σ) lv pc (.int v :: .ref (g 53) :: st) :=
  j_put (ty := .int) C inX3 gdX3 tyX3_ok nmX3 rfl 3 (by decide) rfl hl rfl (by decide +kernel) 53 (eX_53 g kk σ) rfl rfl (Nat.le_of_ble_eq_true rfl) (w' := cX g kk (sI σ 851 v)) rfl d k
theorem gX_53_4 {X : jC} {cc : ByteArray} {own : String} {R : Room} {kk : Nat → Nat} {nL : Nat} (C : jF X cc own R kk nL) {g : Nat → Nat} {σ : St} {ce sl : Nat} {lv : List (Nat × Value)} {pc : Nat} {st : List Value} {index : Nat} (hl : Cond.fieldLink own index "RainCans$Habits" "upper" "J" ∈ lw_tbl) (v : Int64) (hv : σ.2.2.1 852 = v) (d : decode cc pc = .ok (.getfield index, 3)) (k : J X ce sl (cX g kk σ) lv (pc + 3) (.long v :: st)) : J X ce sl (cX g kk σ) lv pc (.ref (g 53) :: st) := by
  subst hv
  exact j_get C inX3 gdX3 rfl 4 (by decide) rfl hl 53 (eX_53 g kk σ) rfl d k
theorem pX_53_4 {X : jC} {cc : ByteArray} {own : String} {R : Room} {kk : Nat → Nat} {nL : Nat} (C : jF X cc own R kk nL) {g : Nat → Nat} {σ : St} {ce sl : Nat} {lv : List (Nat × Value)} {pc : Nat} {st : List Value} {index : Nat} (hl : Cond.fieldLink own index "RainCans$Habits" "upper" "J" ∈ lw_tbl) {v : Int64} (d : decode cc pc = .ok (.putfield index, 3)) (k : J X ce sl (cX g kk (sL σ 852 v)) lv (pc + 3) st) : J X ce sl (cX g kk σ) lv pc (.long v :: .ref (g 53) :: st) :=
  j_put (ty := .long) C inX3 gdX3 tyX3_ok nmX3 rfl 4 (by decide) rfl hl rfl (by decide +kernel) 53 (eX_53 g kk σ) rfl rfl (Nat.le_of_ble_eq_true rfl) (w' := cX g kk (sL σ 852 v)) rfl d k
theorem gX_53_5 {X : jC} {cc : ByteArray} {own : String} {R : Room} {kk : Nat → Nat} {nL : Nat} (C : jF X cc own R kk nL) {g : Nat → Nat} {σ : St} {ce sl : Nat} {lv : List (Nat × Value)} {pc : Nat} {st : List Value} {index : Nat} (hl : Cond.fieldLink own index "RainCans$Habits" "lower" "J" ∈ lw_tbl) (v : Int64) (hv : σ.2.2.1 853 = v) (d : decode cc pc = .ok (.getfield index, 3)) (k : J X ce sl (cX g kk σ) lv (pc + 3) (.long v :: st)) : J X ce sl (cX g kk σ) lv pc (.ref (g 53) :: st) := by
  subst hv
  exact j_get C inX3 gdX3 rfl 5 (by decide) rfl hl 53 (eX_53 g kk σ) rfl d k
theorem pX_53_5 {X : jC} {cc : ByteArray} {own : String} {R : Room} {kk : Nat → Nat} {nL : Nat} (C : jF X cc own R kk nL) {g : Nat → Nat} {σ : St} {ce sl : Nat} {lv : List (Nat × Value)} {pc : Nat} {st : List Value} {index : Nat} (hl : Cond.fieldLink own index "RainCans$Habits" "lower" "J" ∈ lw_tbl) {v : Int64} (d : decode cc pc = .ok (.putfield index, 3)) (k : J X ce sl (cX g kk (sL σ 853 v)) lv (pc + 3) st) : J X ce sl (cX g kk σ) lv pc (.long v :: .ref (g 53) :: st) :=
  j_put (ty := .long) C inX3 gdX3 tyX3_ok nmX3 rfl 5 (by decide) rfl hl rfl (by decide +kernel) 53 (eX_53 g kk σ) rfl rfl (Nat.le_of_ble_eq_true rfl) (w' := cX g kk (sL σ 853 v)) rfl d k
theorem gX_53_6 {X : jC} {cc : ByteArray} {own : String} {R : Room} {kk : Nat → Nat} {nL : Nat} (C : jF X cc own R kk nL) {g : Nat → Nat} {σ : St} {ce sl : Nat} {lv : List (Nat × Value)} {pc : Nat} {st : List Value} {index : Nat} (hl : Cond.fieldLink own index "RainCans$Habits" "weekday" "I" ∈ lw_tbl) (v : Int32) (hv : σ.1 854 = v) (d : decode cc pc = .ok (.getfield index, 3)) (k : J X ce sl (cX g kk σ) lv (pc + 3) (.int v :: st)) : J X ce sl (cX g kk σ) lv pc (.ref (g 53) :: st) := by
  subst hv
  exact j_get C inX3 gdX3 rfl 6 (by decide) rfl hl 53 (eX_53 g kk σ) rfl d k
theorem pX_53_6 {X : jC} {cc : ByteArray} {own : String} {R : Room} {kk : Nat → Nat} {nL : Nat} (C : jF X cc own R kk nL) {g : Nat → Nat} {σ : St} {ce sl : Nat} {lv : List (Nat × Value)} {pc : Nat} {st : List Value} {index : Nat} (hl : Cond.fieldLink own index "RainCans$Habits" "weekday" "I" ∈ lw_tbl) {v : Int32} (d : decode cc pc = .ok (.putfield index, 3)) (k : J X ce sl (cX g kk (sI σ 854 v)) lv (pc + 3) st) : J X ce sl (cX g kk σ) lv pc (.int v :: .ref (g 53) :: st) :=
  j_put (ty := .int) C inX3 gdX3 tyX3_ok nmX3 rfl 6 (by decide) rfl hl rfl (by decide +kernel) 53 (eX_53 g kk σ) rfl rfl (Nat.le_of_ble_eq_true rfl) (w' := cX g kk (sI σ 854 v)) rfl d k
theorem gX_53_7 {X : jC} {cc : ByteArray} {own : String} {R : Room} {kk : Nat → Nat} {nL : Nat} (C : jF X cc own R kk nL) {g : Nat → Nat} {σ : St} {ce sl : Nat} {lv : List (Nat × Value)} {pc : Nat} {st : List Value} {index : Nat} (hl : Cond.fieldLink own index "RainCans$Habits" "forgotten" "I" ∈ lw_tbl) (v : Int32) (hv : σ.1 855 = v) (d : decode cc pc = .ok (.getfield index, 3)) (k : J X ce sl (cX g kk σ) lv (pc + 3) (.int v :: st)) : J X ce sl (cX g kk σ) lv pc (.ref (g 53) :: st) := by
  subst hv
  exact j_get C inX3 gdX3 rfl 7 (by decide) rfl hl 53 (eX_53 g kk σ) rfl d k
theorem pX_53_7 {X : jC} {cc : ByteArray} {own : String} {R : Room} {kk : Nat → Nat} {nL : Nat} (C : jF X cc own R kk nL) {g : Nat → Nat} {σ : St} {ce sl : Nat} {lv : List (Nat × Value)} {pc : Nat} {st : List Value} {index : Nat} (hl : Cond.fieldLink own index "RainCans$Habits" "forgotten" "I" ∈ lw_tbl) {v : Int32} (d : decode cc pc = .ok (.putfield index, 3)) (k : J X ce sl (cX g kk (sI σ 855 v)) lv (pc + 3) st) : J X ce sl (cX g kk σ) lv pc (.int v :: .ref (g 53) :: st) :=
  j_put (ty := .int) C inX3 gdX3 tyX3_ok nmX3 rfl 7 (by decide) rfl hl rfl (by decide +kernel) 53 (eX_53 g kk σ) rfl rfl (Nat.le_of_ble_eq_true rfl) (w' := cX g kk (sI σ 855 v)) rfl d k
theorem rX_54 {X : jC} {cc : ByteArray} {own : String} {R : Room} {kk : Nat → Nat} {nL : Nat} (C : jF X cc own R kk nL) {g : Nat → Nat} {σ : St} {ce sl : Nat} {lv : List (Nat × Value)} {pc : Nat} {st : List Value} {i : Int32} (n : Nat) (e : i = nI n) (h : n < 7) (v : Int32) (hv : σ.2.1 54 n = v) (d : decode cc pc = .ok (.iaload, 1)) (k : J X ce sl (cX g kk σ) lv (pc + 1) (.int v :: st)) : J X ce sl (cX g kk σ) lv pc (.int i :: .ref (g 54) :: st) := by
  subst hv
  refine j_iald C 54 (f := σ.2.1 54) rfl (vp_inN e h (by decide)) d ?_
  rw [clN e (by omega)]
  exact k
theorem tX_54 {X : jC} {cc : ByteArray} {own : String} {R : Room} {kk : Nat → Nat} {nL : Nat} (C : jF X cc own R kk nL) {g : Nat → Nat} {σ : St} {ce sl : Nat} {lv : List (Nat × Value)} {pc : Nat} {st : List Value} {i : Int32} {x : Int32} (n : Nat) (e : i = nI n) (h : n < 7) (d : decode cc pc = .ok (.iastore, 1)) (k : J X ce sl (cX g kk (sF σ 54 (upd (σ.2.1 54) n x))) lv (pc + 1) st) : J X ce sl (cX g kk σ) lv pc (.int x :: .int i :: .ref (g 54) :: st) := by
  refine j_iast C 54 (f := σ.2.1 54) rfl (vp_inN e h (by decide)) (w' := cX g kk (sF σ 54 (upd (σ.2.1 54) n x))) ?_ d k
  rw [clN e (by omega)]
  rfl
theorem rX_55 {X : jC} {cc : ByteArray} {own : String} {R : Room} {kk : Nat → Nat} {nL : Nat} (C : jF X cc own R kk nL) {g : Nat → Nat} {σ : St} {ce sl : Nat} {lv : List (Nat × Value)} {pc : Nat} {st : List Value} {i : Int32} (n : Nat) (e : i = nI n) (h : n < 2) (d : decode cc pc = .ok (.aaload, 1)) (k : J X ce sl (cX g kk σ) lv (pc + 1) (.ref (if n = 0 then g 56 else g 77) :: st)) : J X ce sl (cX g kk σ) lv pc (.int i :: .ref (g 55) :: st) := by
  refine j_aald C 55 (f := va_up (va_up (fun _ => none) 0 (some (g 56))) 1 (some (g 77))) rfl (vp_inN e h (by decide)) d ?_
  rw [clN e (by omega)]
  have e2 : va_rf (va_up (va_up (fun _ => none) 0 (some (g 56))) 1 (some (g 77)) n) = .ref (if n = 0 then g 56 else g 77) := by
    rcases (show n = 0 ∨ n = 1 by omega) with rfl | rfl <;> rfl
  rw [e2]
  exact k
theorem eX_56 (g : Nat → Nat) (kk : Nat → Nat) (σ : St) : (cX g kk σ)[56]? = some (g 56, .inr (2, [.int (σ.1 896), .ref (g 57), .ref (g 58), .ref (g 59), .ref (g 60), .ref (g 61), .ref (g 62), .ref (g 63), .ref (g 64), .ref (g 65), .ref (g 66), .ref (g 71)])) := rfl
theorem gX_56_0 {X : jC} {cc : ByteArray} {own : String} {R : Room} {kk : Nat → Nat} {nL : Nat} (C : jF X cc own R kk nL) {g : Nat → Nat} {σ : St} {ce sl : Nat} {lv : List (Nat × Value)} {pc : Nat} {st : List Value} {index : Nat} (hl : Cond.fieldLink own index "RainCans$Garden" "cans" "I" ∈ lw_tbl) (v : Int32) (hv : σ.1 896 = v) (d : decode cc pc = .ok (.getfield index, 3)) (k : J X ce sl (cX g kk σ) lv (pc + 3) (.int v :: st)) : J X ce sl (cX g kk σ) lv pc (.ref (g 56) :: st) := by
  subst hv
  exact j_get C inX2 gdX2 rfl 0 (by decide) rfl hl 56 (eX_56 g kk σ) rfl d k
theorem pX_56_0 {X : jC} {cc : ByteArray} {own : String} {R : Room} {kk : Nat → Nat} {nL : Nat} (C : jF X cc own R kk nL) {g : Nat → Nat} {σ : St} {ce sl : Nat} {lv : List (Nat × Value)} {pc : Nat} {st : List Value} {index : Nat} (hl : Cond.fieldLink own index "RainCans$Garden" "cans" "I" ∈ lw_tbl) {v : Int32} (d : decode cc pc = .ok (.putfield index, 3)) (k : J X ce sl (cX g kk (sI σ 896 v)) lv (pc + 3) st) : J X ce sl (cX g kk σ) lv pc (.int v :: .ref (g 56) :: st) :=
  j_put (ty := .int) C inX2 gdX2 tyX2_ok nmX2 rfl 0 (by decide) rfl hl rfl (by decide +kernel) 56 (eX_56 g kk σ) rfl rfl (Nat.le_of_ble_eq_true rfl) (w' := cX g kk (sI σ 896 v)) rfl d k
theorem gX_56_1 {X : jC} {cc : ByteArray} {own : String} {R : Room} {kk : Nat → Nat} {nL : Nat} (C : jF X cc own R kk nL) {g : Nat → Nat} {σ : St} {ce sl : Nat} {lv : List (Nat × Value)} {pc : Nat} {st : List Value} {index : Nat} (hl : Cond.fieldLink own index "RainCans$Garden" "x" "[I" ∈ lw_tbl)  (d : decode cc pc = .ok (.getfield index, 3)) (k : J X ce sl (cX g kk σ) lv (pc + 3) (.ref (g 57) :: st)) : J X ce sl (cX g kk σ) lv pc (.ref (g 56) :: st) := by
  exact j_get C inX2 gdX2 rfl 1 (by decide) rfl hl 56 (eX_56 g kk σ) rfl d k
theorem gX_56_2 {X : jC} {cc : ByteArray} {own : String} {R : Room} {kk : Nat → Nat} {nL : Nat} (C : jF X cc own R kk nL) {g : Nat → Nat} {σ : St} {ce sl : Nat} {lv : List (Nat × Value)} {pc : Nat} {st : List Value} {index : Nat} (hl : Cond.fieldLink own index "RainCans$Garden" "y" "[I" ∈ lw_tbl)  (d : decode cc pc = .ok (.getfield index, 3)) (k : J X ce sl (cX g kk σ) lv (pc + 3) (.ref (g 58) :: st)) : J X ce sl (cX g kk σ) lv pc (.ref (g 56) :: st) := by
  exact j_get C inX2 gdX2 rfl 2 (by decide) rfl hl 56 (eX_56 g kk σ) rfl d k
theorem gX_56_3 {X : jC} {cc : ByteArray} {own : String} {R : Room} {kk : Nat → Nat} {nL : Nat} (C : jF X cc own R kk nL) {g : Nat → Nat} {σ : St} {ce sl : Nat} {lv : List (Nat × Value)} {pc : Nat} {st : List Value} {index : Nat} (hl : Cond.fieldLink own index "RainCans$Garden" "missed" "[I" ∈ lw_tbl)  (d : decode cc pc = .ok (.getfield index, 3)) (k : J X ce sl (cX g kk σ) lv (pc + 3) (.ref (g 59) :: st)) : J X ce sl (cX g kk σ) lv pc (.ref (g 56) :: st) := by
  exact j_get C inX2 gdX2 rfl 3 (by decide) rfl hl 56 (eX_56 g kk σ) rfl d k
theorem gX_56_4 {X : jC} {cc : ByteArray} {own : String} {R : Room} {kk : Nat → Nat} {nL : Nat} (C : jF X cc own R kk nL) {g : Nat → Nat} {σ : St} {ce sl : Nat} {lv : List (Nat × Value)} {pc : Nat} {st : List Value} {index : Nat} (hl : Cond.fieldLink own index "RainCans$Garden" "winds" "[I" ∈ lw_tbl)  (d : decode cc pc = .ok (.getfield index, 3)) (k : J X ce sl (cX g kk σ) lv (pc + 3) (.ref (g 60) :: st)) : J X ce sl (cX g kk σ) lv pc (.ref (g 56) :: st) := by
  exact j_get C inX2 gdX2 rfl 4 (by decide) rfl hl 56 (eX_56 g kk σ) rfl d k
theorem gX_56_5 {X : jC} {cc : ByteArray} {own : String} {R : Room} {kk : Nat → Nat} {nL : Nat} (C : jF X cc own R kk nL) {g : Nat → Nat} {σ : St} {ce sl : Nat} {lv : List (Nat × Value)} {pc : Nat} {st : List Value} {index : Nat} (hl : Cond.fieldLink own index "RainCans$Garden" "raws" "[I" ∈ lw_tbl)  (d : decode cc pc = .ok (.getfield index, 3)) (k : J X ce sl (cX g kk σ) lv (pc + 3) (.ref (g 61) :: st)) : J X ce sl (cX g kk σ) lv pc (.ref (g 56) :: st) := by
  exact j_get C inX2 gdX2 rfl 5 (by decide) rfl hl 56 (eX_56 g kk σ) rfl d k
theorem gX_56_6 {X : jC} {cc : ByteArray} {own : String} {R : Room} {kk : Nat → Nat} {nL : Nat} (C : jF X cc own R kk nL) {g : Nat → Nat} {σ : St} {ce sl : Nat} {lv : List (Nat × Value)} {pc : Nat} {st : List Value} {index : Nat} (hl : Cond.fieldLink own index "RainCans$Garden" "notes" "[I" ∈ lw_tbl)  (d : decode cc pc = .ok (.getfield index, 3)) (k : J X ce sl (cX g kk σ) lv (pc + 3) (.ref (g 62) :: st)) : J X ce sl (cX g kk σ) lv pc (.ref (g 56) :: st) := by
  exact j_get C inX2 gdX2 rfl 6 (by decide) rfl hl 56 (eX_56 g kk σ) rfl d k
theorem gX_56_7 {X : jC} {cc : ByteArray} {own : String} {R : Room} {kk : Nat → Nat} {nL : Nat} (C : jF X cc own R kk nL) {g : Nat → Nat} {σ : St} {ce sl : Nat} {lv : List (Nat × Value)} {pc : Nat} {st : List Value} {index : Nat} (hl : Cond.fieldLink own index "RainCans$Garden" "sumFirst" "[I" ∈ lw_tbl)  (d : decode cc pc = .ok (.getfield index, 3)) (k : J X ce sl (cX g kk σ) lv (pc + 3) (.ref (g 63) :: st)) : J X ce sl (cX g kk σ) lv pc (.ref (g 56) :: st) := by
  exact j_get C inX2 gdX2 rfl 7 (by decide) rfl hl 56 (eX_56 g kk σ) rfl d k
theorem gX_56_8 {X : jC} {cc : ByteArray} {own : String} {R : Room} {kk : Nat → Nat} {nL : Nat} (C : jF X cc own R kk nL) {g : Nat → Nat} {σ : St} {ce sl : Nat} {lv : List (Nat × Value)} {pc : Nat} {st : List Value} {index : Nat} (hl : Cond.fieldLink own index "RainCans$Garden" "sumLast" "[I" ∈ lw_tbl)  (d : decode cc pc = .ok (.getfield index, 3)) (k : J X ce sl (cX g kk σ) lv (pc + 3) (.ref (g 64) :: st)) : J X ce sl (cX g kk σ) lv pc (.ref (g 56) :: st) := by
  exact j_get C inX2 gdX2 rfl 8 (by decide) rfl hl 56 (eX_56 g kk σ) rfl d k
theorem gX_56_9 {X : jC} {cc : ByteArray} {own : String} {R : Room} {kk : Nat → Nat} {nL : Nat} (C : jF X cc own R kk nL) {g : Nat → Nat} {σ : St} {ce sl : Nat} {lv : List (Nat × Value)} {pc : Nat} {st : List Value} {index : Nat} (hl : Cond.fieldLink own index "RainCans$Garden" "settings" "[I" ∈ lw_tbl)  (d : decode cc pc = .ok (.getfield index, 3)) (k : J X ce sl (cX g kk σ) lv (pc + 3) (.ref (g 65) :: st)) : J X ce sl (cX g kk σ) lv pc (.ref (g 56) :: st) := by
  exact j_get C inX2 gdX2 rfl 9 (by decide) rfl hl 56 (eX_56 g kk σ) rfl d k
theorem gX_56_10 {X : jC} {cc : ByteArray} {own : String} {R : Room} {kk : Nat → Nat} {nL : Nat} (C : jF X cc own R kk nL) {g : Nat → Nat} {σ : St} {ce sl : Nat} {lv : List (Nat × Value)} {pc : Nat} {st : List Value} {index : Nat} (hl : Cond.fieldLink own index "RainCans$Garden" "fixes" "LRainCans$Fixes;" ∈ lw_tbl)  (d : decode cc pc = .ok (.getfield index, 3)) (k : J X ce sl (cX g kk σ) lv (pc + 3) (.ref (g 66) :: st)) : J X ce sl (cX g kk σ) lv pc (.ref (g 56) :: st) := by
  exact j_get C inX2 gdX2 rfl 10 (by decide) rfl hl 56 (eX_56 g kk σ) rfl d k
theorem gX_56_11 {X : jC} {cc : ByteArray} {own : String} {R : Room} {kk : Nat → Nat} {nL : Nat} (C : jF X cc own R kk nL) {g : Nat → Nat} {σ : St} {ce sl : Nat} {lv : List (Nat × Value)} {pc : Nat} {st : List Value} {index : Nat} (hl : Cond.fieldLink own index "RainCans$Garden" "radars" "LRainCans$Radars;" ∈ lw_tbl)  (d : decode cc pc = .ok (.getfield index, 3)) (k : J X ce sl (cX g kk σ) lv (pc + 3) (.ref (g 71) :: st)) : J X ce sl (cX g kk σ) lv pc (.ref (g 56) :: st) := by
  exact j_get C inX2 gdX2 rfl 11 (by decide) rfl hl 56 (eX_56 g kk σ) rfl d k
theorem rX_57 {X : jC} {cc : ByteArray} {own : String} {R : Room} {kk : Nat → Nat} {nL : Nat} (C : jF X cc own R kk nL) {g : Nat → Nat} {σ : St} {ce sl : Nat} {lv : List (Nat × Value)} {pc : Nat} {st : List Value} {i : Int32} (n : Nat) (e : i = nI n) (h : n < 6) (v : Int32) (hv : σ.2.1 57 n = v) (d : decode cc pc = .ok (.iaload, 1)) (k : J X ce sl (cX g kk σ) lv (pc + 1) (.int v :: st)) : J X ce sl (cX g kk σ) lv pc (.int i :: .ref (g 57) :: st) := by
  subst hv
  refine j_iald C 57 (f := σ.2.1 57) rfl (vp_inN e h (by decide)) d ?_
  rw [clN e (by omega)]
  exact k
theorem tX_57 {X : jC} {cc : ByteArray} {own : String} {R : Room} {kk : Nat → Nat} {nL : Nat} (C : jF X cc own R kk nL) {g : Nat → Nat} {σ : St} {ce sl : Nat} {lv : List (Nat × Value)} {pc : Nat} {st : List Value} {i : Int32} {x : Int32} (n : Nat) (e : i = nI n) (h : n < 6) (d : decode cc pc = .ok (.iastore, 1)) (k : J X ce sl (cX g kk (sF σ 57 (upd (σ.2.1 57) n x))) lv (pc + 1) st) : J X ce sl (cX g kk σ) lv pc (.int x :: .int i :: .ref (g 57) :: st) := by
  refine j_iast C 57 (f := σ.2.1 57) rfl (vp_inN e h (by decide)) (w' := cX g kk (sF σ 57 (upd (σ.2.1 57) n x))) ?_ d k
  rw [clN e (by omega)]
  rfl
theorem rX_58 {X : jC} {cc : ByteArray} {own : String} {R : Room} {kk : Nat → Nat} {nL : Nat} (C : jF X cc own R kk nL) {g : Nat → Nat} {σ : St} {ce sl : Nat} {lv : List (Nat × Value)} {pc : Nat} {st : List Value} {i : Int32} (n : Nat) (e : i = nI n) (h : n < 6) (v : Int32) (hv : σ.2.1 58 n = v) (d : decode cc pc = .ok (.iaload, 1)) (k : J X ce sl (cX g kk σ) lv (pc + 1) (.int v :: st)) : J X ce sl (cX g kk σ) lv pc (.int i :: .ref (g 58) :: st) := by
  subst hv
  refine j_iald C 58 (f := σ.2.1 58) rfl (vp_inN e h (by decide)) d ?_
  rw [clN e (by omega)]
  exact k
theorem tX_58 {X : jC} {cc : ByteArray} {own : String} {R : Room} {kk : Nat → Nat} {nL : Nat} (C : jF X cc own R kk nL) {g : Nat → Nat} {σ : St} {ce sl : Nat} {lv : List (Nat × Value)} {pc : Nat} {st : List Value} {i : Int32} {x : Int32} (n : Nat) (e : i = nI n) (h : n < 6) (d : decode cc pc = .ok (.iastore, 1)) (k : J X ce sl (cX g kk (sF σ 58 (upd (σ.2.1 58) n x))) lv (pc + 1) st) : J X ce sl (cX g kk σ) lv pc (.int x :: .int i :: .ref (g 58) :: st) := by
  refine j_iast C 58 (f := σ.2.1 58) rfl (vp_inN e h (by decide)) (w' := cX g kk (sF σ 58 (upd (σ.2.1 58) n x))) ?_ d k
  rw [clN e (by omega)]
  rfl
theorem rX_59 {X : jC} {cc : ByteArray} {own : String} {R : Room} {kk : Nat → Nat} {nL : Nat} (C : jF X cc own R kk nL) {g : Nat → Nat} {σ : St} {ce sl : Nat} {lv : List (Nat × Value)} {pc : Nat} {st : List Value} {i : Int32} (n : Nat) (e : i = nI n) (h : n < 18) (v : Int32) (hv : σ.2.1 59 n = v) (d : decode cc pc = .ok (.iaload, 1)) (k : J X ce sl (cX g kk σ) lv (pc + 1) (.int v :: st)) : J X ce sl (cX g kk σ) lv pc (.int i :: .ref (g 59) :: st) := by
  subst hv
  refine j_iald C 59 (f := σ.2.1 59) rfl (vp_inN e h (by decide)) d ?_
  rw [clN e (by omega)]
  exact k
theorem tX_59 {X : jC} {cc : ByteArray} {own : String} {R : Room} {kk : Nat → Nat} {nL : Nat} (C : jF X cc own R kk nL) {g : Nat → Nat} {σ : St} {ce sl : Nat} {lv : List (Nat × Value)} {pc : Nat} {st : List Value} {i : Int32} {x : Int32} (n : Nat) (e : i = nI n) (h : n < 18) (d : decode cc pc = .ok (.iastore, 1)) (k : J X ce sl (cX g kk (sF σ 59 (upd (σ.2.1 59) n x))) lv (pc + 1) st) : J X ce sl (cX g kk σ) lv pc (.int x :: .int i :: .ref (g 59) :: st) := by
  refine j_iast C 59 (f := σ.2.1 59) rfl (vp_inN e h (by decide)) (w' := cX g kk (sF σ 59 (upd (σ.2.1 59) n x))) ?_ d k
  rw [clN e (by omega)]
  rfl
theorem rX_60 {X : jC} {cc : ByteArray} {own : String} {R : Room} {kk : Nat → Nat} {nL : Nat} (C : jF X cc own R kk nL) {g : Nat → Nat} {σ : St} {ce sl : Nat} {lv : List (Nat × Value)} {pc : Nat} {st : List Value} {i : Int32} (n : Nat) (e : i = nI n) (h : n < 28) (v : Int32) (hv : σ.2.1 60 n = v) (d : decode cc pc = .ok (.iaload, 1)) (k : J X ce sl (cX g kk σ) lv (pc + 1) (.int v :: st)) : J X ce sl (cX g kk σ) lv pc (.int i :: .ref (g 60) :: st) := by
  subst hv
  refine j_iald C 60 (f := σ.2.1 60) rfl (vp_inN e h (by decide)) d ?_
  rw [clN e (by omega)]
  exact k
theorem tX_60 {X : jC} {cc : ByteArray} {own : String} {R : Room} {kk : Nat → Nat} {nL : Nat} (C : jF X cc own R kk nL) {g : Nat → Nat} {σ : St} {ce sl : Nat} {lv : List (Nat × Value)} {pc : Nat} {st : List Value} {i : Int32} {x : Int32} (n : Nat) (e : i = nI n) (h : n < 28) (d : decode cc pc = .ok (.iastore, 1)) (k : J X ce sl (cX g kk (sF σ 60 (upd (σ.2.1 60) n x))) lv (pc + 1) st) : J X ce sl (cX g kk σ) lv pc (.int x :: .int i :: .ref (g 60) :: st) := by
  refine j_iast C 60 (f := σ.2.1 60) rfl (vp_inN e h (by decide)) (w' := cX g kk (sF σ 60 (upd (σ.2.1 60) n x))) ?_ d k
  rw [clN e (by omega)]
  rfl
theorem rX_61 {X : jC} {cc : ByteArray} {own : String} {R : Room} {kk : Nat → Nat} {nL : Nat} (C : jF X cc own R kk nL) {g : Nat → Nat} {σ : St} {ce sl : Nat} {lv : List (Nat × Value)} {pc : Nat} {st : List Value} {i : Int32} (n : Nat) (e : i = nI n) (h : n < 168) (v : Int32) (hv : σ.2.1 61 n = v) (d : decode cc pc = .ok (.iaload, 1)) (k : J X ce sl (cX g kk σ) lv (pc + 1) (.int v :: st)) : J X ce sl (cX g kk σ) lv pc (.int i :: .ref (g 61) :: st) := by
  subst hv
  refine j_iald C 61 (f := σ.2.1 61) rfl (vp_inN e h (by decide)) d ?_
  rw [clN e (by omega)]
  exact k
theorem tX_61 {X : jC} {cc : ByteArray} {own : String} {R : Room} {kk : Nat → Nat} {nL : Nat} (C : jF X cc own R kk nL) {g : Nat → Nat} {σ : St} {ce sl : Nat} {lv : List (Nat × Value)} {pc : Nat} {st : List Value} {i : Int32} {x : Int32} (n : Nat) (e : i = nI n) (h : n < 168) (d : decode cc pc = .ok (.iastore, 1)) (k : J X ce sl (cX g kk (sF σ 61 (upd (σ.2.1 61) n x))) lv (pc + 1) st) : J X ce sl (cX g kk σ) lv pc (.int x :: .int i :: .ref (g 61) :: st) := by
  refine j_iast C 61 (f := σ.2.1 61) rfl (vp_inN e h (by decide)) (w' := cX g kk (sF σ 61 (upd (σ.2.1 61) n x))) ?_ d k
  rw [clN e (by omega)]
  rfl
theorem rX_62 {X : jC} {cc : ByteArray} {own : String} {R : Room} {kk : Nat → Nat} {nL : Nat} (C : jF X cc own R kk nL) {g : Nat → Nat} {σ : St} {ce sl : Nat} {lv : List (Nat × Value)} {pc : Nat} {st : List Value} {i : Int32} (n : Nat) (e : i = nI n) (h : n < 168) (v : Int32) (hv : σ.2.1 62 n = v) (d : decode cc pc = .ok (.iaload, 1)) (k : J X ce sl (cX g kk σ) lv (pc + 1) (.int v :: st)) : J X ce sl (cX g kk σ) lv pc (.int i :: .ref (g 62) :: st) := by
  subst hv
  refine j_iald C 62 (f := σ.2.1 62) rfl (vp_inN e h (by decide)) d ?_
  rw [clN e (by omega)]
  exact k
theorem tX_62 {X : jC} {cc : ByteArray} {own : String} {R : Room} {kk : Nat → Nat} {nL : Nat} (C : jF X cc own R kk nL) {g : Nat → Nat} {σ : St} {ce sl : Nat} {lv : List (Nat × Value)} {pc : Nat} {st : List Value} {i : Int32} {x : Int32} (n : Nat) (e : i = nI n) (h : n < 168) (d : decode cc pc = .ok (.iastore, 1)) (k : J X ce sl (cX g kk (sF σ 62 (upd (σ.2.1 62) n x))) lv (pc + 1) st) : J X ce sl (cX g kk σ) lv pc (.int x :: .int i :: .ref (g 62) :: st) := by
  refine j_iast C 62 (f := σ.2.1 62) rfl (vp_inN e h (by decide)) (w' := cX g kk (sF σ 62 (upd (σ.2.1 62) n x))) ?_ d k
  rw [clN e (by omega)]
  rfl
theorem rX_63 {X : jC} {cc : ByteArray} {own : String} {R : Room} {kk : Nat → Nat} {nL : Nat} (C : jF X cc own R kk nL) {g : Nat → Nat} {σ : St} {ce sl : Nat} {lv : List (Nat × Value)} {pc : Nat} {st : List Value} {i : Int32} (n : Nat) (e : i = nI n) (h : n < 168) (v : Int32) (hv : σ.2.1 63 n = v) (d : decode cc pc = .ok (.iaload, 1)) (k : J X ce sl (cX g kk σ) lv (pc + 1) (.int v :: st)) : J X ce sl (cX g kk σ) lv pc (.int i :: .ref (g 63) :: st) := by
  subst hv
  refine j_iald C 63 (f := σ.2.1 63) rfl (vp_inN e h (by decide)) d ?_
  rw [clN e (by omega)]
  exact k
theorem tX_63 {X : jC} {cc : ByteArray} {own : String} {R : Room} {kk : Nat → Nat} {nL : Nat} (C : jF X cc own R kk nL) {g : Nat → Nat} {σ : St} {ce sl : Nat} {lv : List (Nat × Value)} {pc : Nat} {st : List Value} {i : Int32} {x : Int32} (n : Nat) (e : i = nI n) (h : n < 168) (d : decode cc pc = .ok (.iastore, 1)) (k : J X ce sl (cX g kk (sF σ 63 (upd (σ.2.1 63) n x))) lv (pc + 1) st) : J X ce sl (cX g kk σ) lv pc (.int x :: .int i :: .ref (g 63) :: st) := by
  refine j_iast C 63 (f := σ.2.1 63) rfl (vp_inN e h (by decide)) (w' := cX g kk (sF σ 63 (upd (σ.2.1 63) n x))) ?_ d k
  rw [clN e (by omega)]
  rfl
theorem rX_64 {X : jC} {cc : ByteArray} {own : String} {R : Room} {kk : Nat → Nat} {nL : Nat} (C : jF X cc own R kk nL) {g : Nat → Nat} {σ : St} {ce sl : Nat} {lv : List (Nat × Value)} {pc : Nat} {st : List Value} {i : Int32} (n : Nat) (e : i = nI n) (h : n < 168) (v : Int32) (hv : σ.2.1 64 n = v) (d : decode cc pc = .ok (.iaload, 1)) (k : J X ce sl (cX g kk σ) lv (pc + 1) (.int v :: st)) : J X ce sl (cX g kk σ) lv pc (.int i :: .ref (g 64) :: st) := by
  subst hv
  refine j_iald C 64 (f := σ.2.1 64) rfl (vp_inN e h (by decide)) d ?_
  rw [clN e (by omega)]
  exact k
theorem tX_64 {X : jC} {cc : ByteArray} {own : String} {R : Room} {kk : Nat → Nat} {nL : Nat} (C : jF X cc own R kk nL) {g : Nat → Nat} {σ : St} {ce sl : Nat} {lv : List (Nat × Value)} {pc : Nat} {st : List Value} {i : Int32} {x : Int32} (n : Nat) (e : i = nI n) (h : n < 168) (d : decode cc pc = .ok (.iastore, 1)) (k : J X ce sl (cX g kk (sF σ 64 (upd (σ.2.1 64) n x))) lv (pc + 1) st) : J X ce sl (cX g kk σ) lv pc (.int x :: .int i :: .ref (g 64) :: st) := by
  refine j_iast C 64 (f := σ.2.1 64) rfl (vp_inN e h (by decide)) (w' := cX g kk (sF σ 64 (upd (σ.2.1 64) n x))) ?_ d k
  rw [clN e (by omega)]
  rfl
theorem rX_65 {X : jC} {cc : ByteArray} {own : String} {R : Room} {kk : Nat → Nat} {nL : Nat} (C : jF X cc own R kk nL) {g : Nat → Nat} {σ : St} {ce sl : Nat} {lv : List (Nat × Value)} {pc : Nat} {st : List Value} {i : Int32} (n : Nat) (e : i = nI n) (h : n < 4) (v : Int32) (hv : σ.2.1 65 n = v) (d : decode cc pc = .ok (.iaload, 1)) (k : J X ce sl (cX g kk σ) lv (pc + 1) (.int v :: st)) : J X ce sl (cX g kk σ) lv pc (.int i :: .ref (g 65) :: st) := by
  subst hv
  refine j_iald C 65 (f := σ.2.1 65) rfl (vp_inN e h (by decide)) d ?_
  rw [clN e (by omega)]
  exact k
theorem tX_65 {X : jC} {cc : ByteArray} {own : String} {R : Room} {kk : Nat → Nat} {nL : Nat} (C : jF X cc own R kk nL) {g : Nat → Nat} {σ : St} {ce sl : Nat} {lv : List (Nat × Value)} {pc : Nat} {st : List Value} {i : Int32} {x : Int32} (n : Nat) (e : i = nI n) (h : n < 4) (d : decode cc pc = .ok (.iastore, 1)) (k : J X ce sl (cX g kk (sF σ 65 (upd (σ.2.1 65) n x))) lv (pc + 1) st) : J X ce sl (cX g kk σ) lv pc (.int x :: .int i :: .ref (g 65) :: st) := by
  refine j_iast C 65 (f := σ.2.1 65) rfl (vp_inN e h (by decide)) (w' := cX g kk (sF σ 65 (upd (σ.2.1 65) n x))) ?_ d k
  rw [clN e (by omega)]
  rfl
theorem eX_66 (g : Nat → Nat) (kk : Nat → Nat) (σ : St) : (cX g kk σ)[66]? = some (g 66, .inr (1, [.int (σ.1 1056), .ref (g 67), .ref (g 68), .ref (g 69), .ref (g 70)])) := rfl
theorem gX_66_0 {X : jC} {cc : ByteArray} {own : String} {R : Room} {kk : Nat → Nat} {nL : Nat} (C : jF X cc own R kk nL) {g : Nat → Nat} {σ : St} {ce sl : Nat} {lv : List (Nat × Value)} {pc : Nat} {st : List Value} {index : Nat} (hl : Cond.fieldLink own index "RainCans$Fixes" "count" "I" ∈ lw_tbl) (v : Int32) (hv : σ.1 1056 = v) (d : decode cc pc = .ok (.getfield index, 3)) (k : J X ce sl (cX g kk σ) lv (pc + 3) (.int v :: st)) : J X ce sl (cX g kk σ) lv pc (.ref (g 66) :: st) := by
  subst hv
  exact j_get C inX1 gdX1 rfl 0 (by decide) rfl hl 66 (eX_66 g kk σ) rfl d k
theorem pX_66_0 {X : jC} {cc : ByteArray} {own : String} {R : Room} {kk : Nat → Nat} {nL : Nat} (C : jF X cc own R kk nL) {g : Nat → Nat} {σ : St} {ce sl : Nat} {lv : List (Nat × Value)} {pc : Nat} {st : List Value} {index : Nat} (hl : Cond.fieldLink own index "RainCans$Fixes" "count" "I" ∈ lw_tbl) {v : Int32} (d : decode cc pc = .ok (.putfield index, 3)) (k : J X ce sl (cX g kk (sI σ 1056 v)) lv (pc + 3) st) : J X ce sl (cX g kk σ) lv pc (.int v :: .ref (g 66) :: st) :=
  j_put (ty := .int) C inX1 gdX1 tyX1_ok nmX1 rfl 0 (by decide) rfl hl rfl (by decide +kernel) 66 (eX_66 g kk σ) rfl rfl (Nat.le_of_ble_eq_true rfl) (w' := cX g kk (sI σ 1056 v)) rfl d k
theorem gX_66_1 {X : jC} {cc : ByteArray} {own : String} {R : Room} {kk : Nat → Nat} {nL : Nat} (C : jF X cc own R kk nL) {g : Nat → Nat} {σ : St} {ce sl : Nat} {lv : List (Nat × Value)} {pc : Nat} {st : List Value} {index : Nat} (hl : Cond.fieldLink own index "RainCans$Fixes" "cells" "[I" ∈ lw_tbl)  (d : decode cc pc = .ok (.getfield index, 3)) (k : J X ce sl (cX g kk σ) lv (pc + 3) (.ref (g 67) :: st)) : J X ce sl (cX g kk σ) lv pc (.ref (g 66) :: st) := by
  exact j_get C inX1 gdX1 rfl 1 (by decide) rfl hl 66 (eX_66 g kk σ) rfl d k
theorem gX_66_2 {X : jC} {cc : ByteArray} {own : String} {R : Room} {kk : Nat → Nat} {nL : Nat} (C : jF X cc own R kk nL) {g : Nat → Nat} {σ : St} {ce sl : Nat} {lv : List (Nat × Value)} {pc : Nat} {st : List Value} {index : Nat} (hl : Cond.fieldLink own index "RainCans$Fixes" "values" "[I" ∈ lw_tbl)  (d : decode cc pc = .ok (.getfield index, 3)) (k : J X ce sl (cX g kk σ) lv (pc + 3) (.ref (g 68) :: st)) : J X ce sl (cX g kk σ) lv pc (.ref (g 66) :: st) := by
  exact j_get C inX1 gdX1 rfl 2 (by decide) rfl hl 66 (eX_66 g kk σ) rfl d k
theorem gX_66_3 {X : jC} {cc : ByteArray} {own : String} {R : Room} {kk : Nat → Nat} {nL : Nat} (C : jF X cc own R kk nL) {g : Nat → Nat} {σ : St} {ce sl : Nat} {lv : List (Nat × Value)} {pc : Nat} {st : List Value} {index : Nat} (hl : Cond.fieldLink own index "RainCans$Fixes" "earlier" "[I" ∈ lw_tbl)  (d : decode cc pc = .ok (.getfield index, 3)) (k : J X ce sl (cX g kk σ) lv (pc + 3) (.ref (g 69) :: st)) : J X ce sl (cX g kk σ) lv pc (.ref (g 66) :: st) := by
  exact j_get C inX1 gdX1 rfl 3 (by decide) rfl hl 66 (eX_66 g kk σ) rfl d k
theorem gX_66_4 {X : jC} {cc : ByteArray} {own : String} {R : Room} {kk : Nat → Nat} {nL : Nat} (C : jF X cc own R kk nL) {g : Nat → Nat} {σ : St} {ce sl : Nat} {lv : List (Nat × Value)} {pc : Nat} {st : List Value} {index : Nat} (hl : Cond.fieldLink own index "RainCans$Fixes" "last" "[I" ∈ lw_tbl)  (d : decode cc pc = .ok (.getfield index, 3)) (k : J X ce sl (cX g kk σ) lv (pc + 3) (.ref (g 70) :: st)) : J X ce sl (cX g kk σ) lv pc (.ref (g 66) :: st) := by
  exact j_get C inX1 gdX1 rfl 4 (by decide) rfl hl 66 (eX_66 g kk σ) rfl d k
theorem rX_67 {X : jC} {cc : ByteArray} {own : String} {R : Room} {kk : Nat → Nat} {nL : Nat} (C : jF X cc own R kk nL) {g : Nat → Nat} {σ : St} {ce sl : Nat} {lv : List (Nat × Value)} {pc : Nat} {st : List Value} {i : Int32} (n : Nat) (e : i = nI n) (h : n < 20) (v : Int32) (hv : σ.2.1 67 n = v) (d : decode cc pc = .ok (.iaload, 1)) (k : J X ce sl (cX g kk σ) lv (pc + 1) (.int v :: st)) : J X ce sl (cX g kk σ) lv pc (.int i :: .ref (g 67) :: st) := by
  subst hv
  refine j_iald C 67 (f := σ.2.1 67) rfl (vp_inN e h (by decide)) d ?_
  rw [clN e (by omega)]
  exact k
theorem tX_67 {X : jC} {cc : ByteArray} {own : String} {R : Room} {kk : Nat → Nat} {nL : Nat} (C : jF X cc own R kk nL) {g : Nat → Nat} {σ : St} {ce sl : Nat} {lv : List (Nat × Value)} {pc : Nat} {st : List Value} {i : Int32} {x : Int32} (n : Nat) (e : i = nI n) (h : n < 20) (d : decode cc pc = .ok (.iastore, 1)) (k : J X ce sl (cX g kk (sF σ 67 (upd (σ.2.1 67) n x))) lv (pc + 1) st) : J X ce sl (cX g kk σ) lv pc (.int x :: .int i :: .ref (g 67) :: st) := by
  refine j_iast C 67 (f := σ.2.1 67) rfl (vp_inN e h (by decide)) (w' := cX g kk (sF σ 67 (upd (σ.2.1 67) n x))) ?_ d k
  rw [clN e (by omega)]
  rfl
theorem rX_68 {X : jC} {cc : ByteArray} {own : String} {R : Room} {kk : Nat → Nat} {nL : Nat} (C : jF X cc own R kk nL) {g : Nat → Nat} {σ : St} {ce sl : Nat} {lv : List (Nat × Value)} {pc : Nat} {st : List Value} {i : Int32} (n : Nat) (e : i = nI n) (h : n < 20) (v : Int32) (hv : σ.2.1 68 n = v) (d : decode cc pc = .ok (.iaload, 1)) (k : J X ce sl (cX g kk σ) lv (pc + 1) (.int v :: st)) : J X ce sl (cX g kk σ) lv pc (.int i :: .ref (g 68) :: st) := by
  subst hv
  refine j_iald C 68 (f := σ.2.1 68) rfl (vp_inN e h (by decide)) d ?_
  rw [clN e (by omega)]
  exact k
theorem tX_68 {X : jC} {cc : ByteArray} {own : String} {R : Room} {kk : Nat → Nat} {nL : Nat} (C : jF X cc own R kk nL) {g : Nat → Nat} {σ : St} {ce sl : Nat} {lv : List (Nat × Value)} {pc : Nat} {st : List Value} {i : Int32} {x : Int32} (n : Nat) (e : i = nI n) (h : n < 20) (d : decode cc pc = .ok (.iastore, 1)) (k : J X ce sl (cX g kk (sF σ 68 (upd (σ.2.1 68) n x))) lv (pc + 1) st) : J X ce sl (cX g kk σ) lv pc (.int x :: .int i :: .ref (g 68) :: st) := by
  refine j_iast C 68 (f := σ.2.1 68) rfl (vp_inN e h (by decide)) (w' := cX g kk (sF σ 68 (upd (σ.2.1 68) n x))) ?_ d k
  rw [clN e (by omega)]
  rfl
theorem rX_69 {X : jC} {cc : ByteArray} {own : String} {R : Room} {kk : Nat → Nat} {nL : Nat} (C : jF X cc own R kk nL) {g : Nat → Nat} {σ : St} {ce sl : Nat} {lv : List (Nat × Value)} {pc : Nat} {st : List Value} {i : Int32} (n : Nat) (e : i = nI n) (h : n < 20) (v : Int32) (hv : σ.2.1 69 n = v) (d : decode cc pc = .ok (.iaload, 1)) (k : J X ce sl (cX g kk σ) lv (pc + 1) (.int v :: st)) : J X ce sl (cX g kk σ) lv pc (.int i :: .ref (g 69) :: st) := by
  subst hv
  refine j_iald C 69 (f := σ.2.1 69) rfl (vp_inN e h (by decide)) d ?_
  rw [clN e (by omega)]
  exact k
theorem tX_69 {X : jC} {cc : ByteArray} {own : String} {R : Room} {kk : Nat → Nat} {nL : Nat} (C : jF X cc own R kk nL) {g : Nat → Nat} {σ : St} {ce sl : Nat} {lv : List (Nat × Value)} {pc : Nat} {st : List Value} {i : Int32} {x : Int32} (n : Nat) (e : i = nI n) (h : n < 20) (d : decode cc pc = .ok (.iastore, 1)) (k : J X ce sl (cX g kk (sF σ 69 (upd (σ.2.1 69) n x))) lv (pc + 1) st) : J X ce sl (cX g kk σ) lv pc (.int x :: .int i :: .ref (g 69) :: st) := by
  refine j_iast C 69 (f := σ.2.1 69) rfl (vp_inN e h (by decide)) (w' := cX g kk (sF σ 69 (upd (σ.2.1 69) n x))) ?_ d k
  rw [clN e (by omega)]
  rfl
theorem rX_70 {X : jC} {cc : ByteArray} {own : String} {R : Room} {kk : Nat → Nat} {nL : Nat} (C : jF X cc own R kk nL) {g : Nat → Nat} {σ : St} {ce sl : Nat} {lv : List (Nat × Value)} {pc : Nat} {st : List Value} {i : Int32} (n : Nat) (e : i = nI n) (h : n < 168) (v : Int32) (hv : σ.2.1 70 n = v) (d : decode cc pc = .ok (.iaload, 1)) (k : J X ce sl (cX g kk σ) lv (pc + 1) (.int v :: st)) : J X ce sl (cX g kk σ) lv pc (.int i :: .ref (g 70) :: st) := by
  subst hv
  refine j_iald C 70 (f := σ.2.1 70) rfl (vp_inN e h (by decide)) d ?_
  rw [clN e (by omega)]
  exact k
theorem tX_70 {X : jC} {cc : ByteArray} {own : String} {R : Room} {kk : Nat → Nat} {nL : Nat} (C : jF X cc own R kk nL) {g : Nat → Nat} {σ : St} {ce sl : Nat} {lv : List (Nat × Value)} {pc : Nat} {st : List Value} {i : Int32} {x : Int32} (n : Nat) (e : i = nI n) (h : n < 168) (d : decode cc pc = .ok (.iastore, 1)) (k : J X ce sl (cX g kk (sF σ 70 (upd (σ.2.1 70) n x))) lv (pc + 1) st) : J X ce sl (cX g kk σ) lv pc (.int x :: .int i :: .ref (g 70) :: st) := by
  refine j_iast C 70 (f := σ.2.1 70) rfl (vp_inN e h (by decide)) (w' := cX g kk (sF σ 70 (upd (σ.2.1 70) n x))) ?_ d k
  rw [clN e (by omega)]
  rfl
theorem eX_71 (g : Nat → Nat) (kk : Nat → Nat) (σ : St) : (cX g kk σ)[71]? = some (g 71, .inr (6, [.int (σ.1 1136), .ref (g 72), .ref (g 73), .ref (g 74), .ref (g 75), .ref (g 76)])) := rfl
theorem gX_71_0 {X : jC} {cc : ByteArray} {own : String} {R : Room} {kk : Nat → Nat} {nL : Nat} (C : jF X cc own R kk nL) {g : Nat → Nat} {σ : St} {ce sl : Nat} {lv : List (Nat × Value)} {pc : Nat} {st : List Value} {index : Nat} (hl : Cond.fieldLink own index "RainCans$Radars" "count" "I" ∈ lw_tbl) (v : Int32) (hv : σ.1 1136 = v) (d : decode cc pc = .ok (.getfield index, 3)) (k : J X ce sl (cX g kk σ) lv (pc + 3) (.int v :: st)) : J X ce sl (cX g kk σ) lv pc (.ref (g 71) :: st) := by
  subst hv
  exact j_get C inX6 gdX6 rfl 0 (by decide) rfl hl 71 (eX_71 g kk σ) rfl d k
theorem pX_71_0 {X : jC} {cc : ByteArray} {own : String} {R : Room} {kk : Nat → Nat} {nL : Nat} (C : jF X cc own R kk nL) {g : Nat → Nat} {σ : St} {ce sl : Nat} {lv : List (Nat × Value)} {pc : Nat} {st : List Value} {index : Nat} (hl : Cond.fieldLink own index "RainCans$Radars" "count" "I" ∈ lw_tbl) {v : Int32} (d : decode cc pc = .ok (.putfield index, 3)) (k : J X ce sl (cX g kk (sI σ 1136 v)) lv (pc + 3) st) : J X ce sl (cX g kk σ) lv pc (.int v :: .ref (g 71) :: st) :=
  j_put (ty := .int) C inX6 gdX6 tyX6_ok nmX6 rfl 0 (by decide) rfl hl rfl (by decide +kernel) 71 (eX_71 g kk σ) rfl rfl (Nat.le_of_ble_eq_true rfl) (w' := cX g kk (sI σ 1136 v)) rfl d k
theorem gX_71_1 {X : jC} {cc : ByteArray} {own : String} {R : Room} {kk : Nat → Nat} {nL : Nat} (C : jF X cc own R kk nL) {g : Nat → Nat} {σ : St} {ce sl : Nat} {lv : List (Nat × Value)} {pc : Nat} {st : List Value} {index : Nat} (hl : Cond.fieldLink own index "RainCans$Radars" "days" "[I" ∈ lw_tbl)  (d : decode cc pc = .ok (.getfield index, 3)) (k : J X ce sl (cX g kk σ) lv (pc + 3) (.ref (g 72) :: st)) : J X ce sl (cX g kk σ) lv pc (.ref (g 71) :: st) := by
  exact j_get C inX6 gdX6 rfl 1 (by decide) rfl hl 71 (eX_71 g kk σ) rfl d k
theorem gX_71_2 {X : jC} {cc : ByteArray} {own : String} {R : Room} {kk : Nat → Nat} {nL : Nat} (C : jF X cc own R kk nL) {g : Nat → Nat} {σ : St} {ce sl : Nat} {lv : List (Nat × Value)} {pc : Nat} {st : List Value} {index : Nat} (hl : Cond.fieldLink own index "RainCans$Radars" "x" "[I" ∈ lw_tbl)  (d : decode cc pc = .ok (.getfield index, 3)) (k : J X ce sl (cX g kk σ) lv (pc + 3) (.ref (g 73) :: st)) : J X ce sl (cX g kk σ) lv pc (.ref (g 71) :: st) := by
  exact j_get C inX6 gdX6 rfl 2 (by decide) rfl hl 71 (eX_71 g kk σ) rfl d k
theorem gX_71_3 {X : jC} {cc : ByteArray} {own : String} {R : Room} {kk : Nat → Nat} {nL : Nat} (C : jF X cc own R kk nL) {g : Nat → Nat} {σ : St} {ce sl : Nat} {lv : List (Nat × Value)} {pc : Nat} {st : List Value} {index : Nat} (hl : Cond.fieldLink own index "RainCans$Radars" "y" "[I" ∈ lw_tbl)  (d : decode cc pc = .ok (.getfield index, 3)) (k : J X ce sl (cX g kk σ) lv (pc + 3) (.ref (g 74) :: st)) : J X ce sl (cX g kk σ) lv pc (.ref (g 71) :: st) := by
  exact j_get C inX6 gdX6 rfl 3 (by decide) rfl hl 71 (eX_71 g kk σ) rfl d k
theorem gX_71_4 {X : jC} {cc : ByteArray} {own : String} {R : Room} {kk : Nat → Nat} {nL : Nat} (C : jF X cc own R kk nL) {g : Nat → Nat} {σ : St} {ce sl : Nat} {lv : List (Nat × Value)} {pc : Nat} {st : List Value} {index : Nat} (hl : Cond.fieldLink own index "RainCans$Radars" "least" "[I" ∈ lw_tbl)  (d : decode cc pc = .ok (.getfield index, 3)) (k : J X ce sl (cX g kk σ) lv (pc + 3) (.ref (g 75) :: st)) : J X ce sl (cX g kk σ) lv pc (.ref (g 71) :: st) := by
  exact j_get C inX6 gdX6 rfl 4 (by decide) rfl hl 71 (eX_71 g kk σ) rfl d k
theorem gX_71_5 {X : jC} {cc : ByteArray} {own : String} {R : Room} {kk : Nat → Nat} {nL : Nat} (C : jF X cc own R kk nL) {g : Nat → Nat} {σ : St} {ce sl : Nat} {lv : List (Nat × Value)} {pc : Nat} {st : List Value} {index : Nat} (hl : Cond.fieldLink own index "RainCans$Radars" "most" "[I" ∈ lw_tbl)  (d : decode cc pc = .ok (.getfield index, 3)) (k : J X ce sl (cX g kk σ) lv (pc + 3) (.ref (g 76) :: st)) : J X ce sl (cX g kk σ) lv pc (.ref (g 71) :: st) := by
  exact j_get C inX6 gdX6 rfl 5 (by decide) rfl hl 71 (eX_71 g kk σ) rfl d k
theorem rX_72 {X : jC} {cc : ByteArray} {own : String} {R : Room} {kk : Nat → Nat} {nL : Nat} (C : jF X cc own R kk nL) {g : Nat → Nat} {σ : St} {ce sl : Nat} {lv : List (Nat × Value)} {pc : Nat} {st : List Value} {i : Int32} (n : Nat) (e : i = nI n) (h : n < 6) (v : Int32) (hv : σ.2.1 72 n = v) (d : decode cc pc = .ok (.iaload, 1)) (k : J X ce sl (cX g kk σ) lv (pc + 1) (.int v :: st)) : J X ce sl (cX g kk σ) lv pc (.int i :: .ref (g 72) :: st) := by
  subst hv
  refine j_iald C 72 (f := σ.2.1 72) rfl (vp_inN e h (by decide)) d ?_
  rw [clN e (by omega)]
  exact k
theorem tX_72 {X : jC} {cc : ByteArray} {own : String} {R : Room} {kk : Nat → Nat} {nL : Nat} (C : jF X cc own R kk nL) {g : Nat → Nat} {σ : St} {ce sl : Nat} {lv : List (Nat × Value)} {pc : Nat} {st : List Value} {i : Int32} {x : Int32} (n : Nat) (e : i = nI n) (h : n < 6) (d : decode cc pc = .ok (.iastore, 1)) (k : J X ce sl (cX g kk (sF σ 72 (upd (σ.2.1 72) n x))) lv (pc + 1) st) : J X ce sl (cX g kk σ) lv pc (.int x :: .int i :: .ref (g 72) :: st) := by
  refine j_iast C 72 (f := σ.2.1 72) rfl (vp_inN e h (by decide)) (w' := cX g kk (sF σ 72 (upd (σ.2.1 72) n x))) ?_ d k
  rw [clN e (by omega)]
  rfl
theorem rX_73 {X : jC} {cc : ByteArray} {own : String} {R : Room} {kk : Nat → Nat} {nL : Nat} (C : jF X cc own R kk nL) {g : Nat → Nat} {σ : St} {ce sl : Nat} {lv : List (Nat × Value)} {pc : Nat} {st : List Value} {i : Int32} (n : Nat) (e : i = nI n) (h : n < 6) (v : Int32) (hv : σ.2.1 73 n = v) (d : decode cc pc = .ok (.iaload, 1)) (k : J X ce sl (cX g kk σ) lv (pc + 1) (.int v :: st)) : J X ce sl (cX g kk σ) lv pc (.int i :: .ref (g 73) :: st) := by
  subst hv
  refine j_iald C 73 (f := σ.2.1 73) rfl (vp_inN e h (by decide)) d ?_
  rw [clN e (by omega)]
  exact k
theorem tX_73 {X : jC} {cc : ByteArray} {own : String} {R : Room} {kk : Nat → Nat} {nL : Nat} (C : jF X cc own R kk nL) {g : Nat → Nat} {σ : St} {ce sl : Nat} {lv : List (Nat × Value)} {pc : Nat} {st : List Value} {i : Int32} {x : Int32} (n : Nat) (e : i = nI n) (h : n < 6) (d : decode cc pc = .ok (.iastore, 1)) (k : J X ce sl (cX g kk (sF σ 73 (upd (σ.2.1 73) n x))) lv (pc + 1) st) : J X ce sl (cX g kk σ) lv pc (.int x :: .int i :: .ref (g 73) :: st) := by
  refine j_iast C 73 (f := σ.2.1 73) rfl (vp_inN e h (by decide)) (w' := cX g kk (sF σ 73 (upd (σ.2.1 73) n x))) ?_ d k
  rw [clN e (by omega)]
  rfl
theorem rX_74 {X : jC} {cc : ByteArray} {own : String} {R : Room} {kk : Nat → Nat} {nL : Nat} (C : jF X cc own R kk nL) {g : Nat → Nat} {σ : St} {ce sl : Nat} {lv : List (Nat × Value)} {pc : Nat} {st : List Value} {i : Int32} (n : Nat) (e : i = nI n) (h : n < 6) (v : Int32) (hv : σ.2.1 74 n = v) (d : decode cc pc = .ok (.iaload, 1)) (k : J X ce sl (cX g kk σ) lv (pc + 1) (.int v :: st)) : J X ce sl (cX g kk σ) lv pc (.int i :: .ref (g 74) :: st) := by
  subst hv
  refine j_iald C 74 (f := σ.2.1 74) rfl (vp_inN e h (by decide)) d ?_
  rw [clN e (by omega)]
  exact k
theorem tX_74 {X : jC} {cc : ByteArray} {own : String} {R : Room} {kk : Nat → Nat} {nL : Nat} (C : jF X cc own R kk nL) {g : Nat → Nat} {σ : St} {ce sl : Nat} {lv : List (Nat × Value)} {pc : Nat} {st : List Value} {i : Int32} {x : Int32} (n : Nat) (e : i = nI n) (h : n < 6) (d : decode cc pc = .ok (.iastore, 1)) (k : J X ce sl (cX g kk (sF σ 74 (upd (σ.2.1 74) n x))) lv (pc + 1) st) : J X ce sl (cX g kk σ) lv pc (.int x :: .int i :: .ref (g 74) :: st) := by
  refine j_iast C 74 (f := σ.2.1 74) rfl (vp_inN e h (by decide)) (w' := cX g kk (sF σ 74 (upd (σ.2.1 74) n x))) ?_ d k
  rw [clN e (by omega)]
  rfl
theorem rX_75 {X : jC} {cc : ByteArray} {own : String} {R : Room} {kk : Nat → Nat} {nL : Nat} (C : jF X cc own R kk nL) {g : Nat → Nat} {σ : St} {ce sl : Nat} {lv : List (Nat × Value)} {pc : Nat} {st : List Value} {i : Int32} (n : Nat) (e : i = nI n) (h : n < 6) (v : Int32) (hv : σ.2.1 75 n = v) (d : decode cc pc = .ok (.iaload, 1)) (k : J X ce sl (cX g kk σ) lv (pc + 1) (.int v :: st)) : J X ce sl (cX g kk σ) lv pc (.int i :: .ref (g 75) :: st) := by
  subst hv
  refine j_iald C 75 (f := σ.2.1 75) rfl (vp_inN e h (by decide)) d ?_
  rw [clN e (by omega)]
  exact k
theorem tX_75 {X : jC} {cc : ByteArray} {own : String} {R : Room} {kk : Nat → Nat} {nL : Nat} (C : jF X cc own R kk nL) {g : Nat → Nat} {σ : St} {ce sl : Nat} {lv : List (Nat × Value)} {pc : Nat} {st : List Value} {i : Int32} {x : Int32} (n : Nat) (e : i = nI n) (h : n < 6) (d : decode cc pc = .ok (.iastore, 1)) (k : J X ce sl (cX g kk (sF σ 75 (upd (σ.2.1 75) n x))) lv (pc + 1) st) : J X ce sl (cX g kk σ) lv pc (.int x :: .int i :: .ref (g 75) :: st) := by
  refine j_iast C 75 (f := σ.2.1 75) rfl (vp_inN e h (by decide)) (w' := cX g kk (sF σ 75 (upd (σ.2.1 75) n x))) ?_ d k
  rw [clN e (by omega)]
  rfl
theorem rX_76 {X : jC} {cc : ByteArray} {own : String} {R : Room} {kk : Nat → Nat} {nL : Nat} (C : jF X cc own R kk nL) {g : Nat → Nat} {σ : St} {ce sl : Nat} {lv : List (Nat × Value)} {pc : Nat} {st : List Value} {i : Int32} (n : Nat) (e : i = nI n) (h : n < 6) (v : Int32) (hv : σ.2.1 76 n = v) (d : decode cc pc = .ok (.iaload, 1)) (k : J X ce sl (cX g kk σ) lv (pc + 1) (.int v :: st)) : J X ce sl (cX g kk σ) lv pc (.int i :: .ref (g 76) :: st) := by
  subst hv
  refine j_iald C 76 (f := σ.2.1 76) rfl (vp_inN e h (by decide)) d ?_
  rw [clN e (by omega)]
  exact k
theorem tX_76 {X : jC} {cc : ByteArray} {own : String} {R : Room} {kk : Nat → Nat} {nL : Nat} (C : jF X cc own R kk nL) {g : Nat → Nat} {σ : St} {ce sl : Nat} {lv : List (Nat × Value)} {pc : Nat} {st : List Value} {i : Int32} {x : Int32} (n : Nat) (e : i = nI n) (h : n < 6) (d : decode cc pc = .ok (.iastore, 1)) (k : J X ce sl (cX g kk (sF σ 76 (upd (σ.2.1 76) n x))) lv (pc + 1) st) : J X ce sl (cX g kk σ) lv pc (.int x :: .int i :: .ref (g 76) :: st) := by
  refine j_iast C 76 (f := σ.2.1 76) rfl (vp_inN e h (by decide)) (w' := cX g kk (sF σ 76 (upd (σ.2.1 76) n x))) ?_ d k
  rw [clN e (by omega)]
  rfl
theorem eX_77 (g : Nat → Nat) (kk : Nat → Nat) (σ : St) : (cX g kk σ)[77]? = some (g 77, .inr (2, [.int (σ.1 1232), .ref (g 78), .ref (g 79), .ref (g 80), .ref (g 81), .ref (g 82), .ref (g 83), .ref (g 84), .ref (g 85), .ref (g 86), .ref (g 87), .ref (g 92)])) := rfl
theorem gX_77_0 {X : jC} {cc : ByteArray} {own : String} {R : Room} {kk : Nat → Nat} {nL : Nat} (C : jF X cc own R kk nL) {g : Nat → Nat} {σ : St} {ce sl : Nat} {lv : List (Nat × Value)} {pc : Nat} {st : List Value} {index : Nat} (hl : Cond.fieldLink own index "RainCans$Garden" "cans" "I" ∈ lw_tbl) (v : Int32) (hv : σ.1 1232 = v) (d : decode cc pc = .ok (.getfield index, 3)) (k : J X ce sl (cX g kk σ) lv (pc + 3) (.int v :: st)) : J X ce sl (cX g kk σ) lv pc (.ref (g 77) :: st) := by
  subst hv
  exact j_get C inX2 gdX2 rfl 0 (by decide) rfl hl 77 (eX_77 g kk σ) rfl d k
theorem pX_77_0 {X : jC} {cc : ByteArray} {own : String} {R : Room} {kk : Nat → Nat} {nL : Nat} (C : jF X cc own R kk nL) {g : Nat → Nat} {σ : St} {ce sl : Nat} {lv : List (Nat × Value)} {pc : Nat} {st : List Value} {index : Nat} (hl : Cond.fieldLink own index "RainCans$Garden" "cans" "I" ∈ lw_tbl) {v : Int32} (d : decode cc pc = .ok (.putfield index, 3)) (k : J X ce sl (cX g kk (sI σ 1232 v)) lv (pc + 3) st) : J X ce sl (cX g kk σ) lv pc (.int v :: .ref (g 77) :: st) :=
  j_put (ty := .int) C inX2 gdX2 tyX2_ok nmX2 rfl 0 (by decide) rfl hl rfl (by decide +kernel) 77 (eX_77 g kk σ) rfl rfl (Nat.le_of_ble_eq_true rfl) (w' := cX g kk (sI σ 1232 v)) rfl d k
theorem gX_77_1 {X : jC} {cc : ByteArray} {own : String} {R : Room} {kk : Nat → Nat} {nL : Nat} (C : jF X cc own R kk nL) {g : Nat → Nat} {σ : St} {ce sl : Nat} {lv : List (Nat × Value)} {pc : Nat} {st : List Value} {index : Nat} (hl : Cond.fieldLink own index "RainCans$Garden" "x" "[I" ∈ lw_tbl)  (d : decode cc pc = .ok (.getfield index, 3)) (k : J X ce sl (cX g kk σ) lv (pc + 3) (.ref (g 78) :: st)) : J X ce sl (cX g kk σ) lv pc (.ref (g 77) :: st) := by
  exact j_get C inX2 gdX2 rfl 1 (by decide) rfl hl 77 (eX_77 g kk σ) rfl d k
theorem gX_77_2 {X : jC} {cc : ByteArray} {own : String} {R : Room} {kk : Nat → Nat} {nL : Nat} (C : jF X cc own R kk nL) {g : Nat → Nat} {σ : St} {ce sl : Nat} {lv : List (Nat × Value)} {pc : Nat} {st : List Value} {index : Nat} (hl : Cond.fieldLink own index "RainCans$Garden" "y" "[I" ∈ lw_tbl)  (d : decode cc pc = .ok (.getfield index, 3)) (k : J X ce sl (cX g kk σ) lv (pc + 3) (.ref (g 79) :: st)) : J X ce sl (cX g kk σ) lv pc (.ref (g 77) :: st) := by
  exact j_get C inX2 gdX2 rfl 2 (by decide) rfl hl 77 (eX_77 g kk σ) rfl d k
theorem gX_77_3 {X : jC} {cc : ByteArray} {own : String} {R : Room} {kk : Nat → Nat} {nL : Nat} (C : jF X cc own R kk nL) {g : Nat → Nat} {σ : St} {ce sl : Nat} {lv : List (Nat × Value)} {pc : Nat} {st : List Value} {index : Nat} (hl : Cond.fieldLink own index "RainCans$Garden" "missed" "[I" ∈ lw_tbl)  (d : decode cc pc = .ok (.getfield index, 3)) (k : J X ce sl (cX g kk σ) lv (pc + 3) (.ref (g 80) :: st)) : J X ce sl (cX g kk σ) lv pc (.ref (g 77) :: st) := by
  exact j_get C inX2 gdX2 rfl 3 (by decide) rfl hl 77 (eX_77 g kk σ) rfl d k
theorem gX_77_4 {X : jC} {cc : ByteArray} {own : String} {R : Room} {kk : Nat → Nat} {nL : Nat} (C : jF X cc own R kk nL) {g : Nat → Nat} {σ : St} {ce sl : Nat} {lv : List (Nat × Value)} {pc : Nat} {st : List Value} {index : Nat} (hl : Cond.fieldLink own index "RainCans$Garden" "winds" "[I" ∈ lw_tbl)  (d : decode cc pc = .ok (.getfield index, 3)) (k : J X ce sl (cX g kk σ) lv (pc + 3) (.ref (g 81) :: st)) : J X ce sl (cX g kk σ) lv pc (.ref (g 77) :: st) := by
  exact j_get C inX2 gdX2 rfl 4 (by decide) rfl hl 77 (eX_77 g kk σ) rfl d k
theorem gX_77_5 {X : jC} {cc : ByteArray} {own : String} {R : Room} {kk : Nat → Nat} {nL : Nat} (C : jF X cc own R kk nL) {g : Nat → Nat} {σ : St} {ce sl : Nat} {lv : List (Nat × Value)} {pc : Nat} {st : List Value} {index : Nat} (hl : Cond.fieldLink own index "RainCans$Garden" "raws" "[I" ∈ lw_tbl)  (d : decode cc pc = .ok (.getfield index, 3)) (k : J X ce sl (cX g kk σ) lv (pc + 3) (.ref (g 82) :: st)) : J X ce sl (cX g kk σ) lv pc (.ref (g 77) :: st) := by
  exact j_get C inX2 gdX2 rfl 5 (by decide) rfl hl 77 (eX_77 g kk σ) rfl d k
theorem gX_77_6 {X : jC} {cc : ByteArray} {own : String} {R : Room} {kk : Nat → Nat} {nL : Nat} (C : jF X cc own R kk nL) {g : Nat → Nat} {σ : St} {ce sl : Nat} {lv : List (Nat × Value)} {pc : Nat} {st : List Value} {index : Nat} (hl : Cond.fieldLink own index "RainCans$Garden" "notes" "[I" ∈ lw_tbl)  (d : decode cc pc = .ok (.getfield index, 3)) (k : J X ce sl (cX g kk σ) lv (pc + 3) (.ref (g 83) :: st)) : J X ce sl (cX g kk σ) lv pc (.ref (g 77) :: st) := by
  exact j_get C inX2 gdX2 rfl 6 (by decide) rfl hl 77 (eX_77 g kk σ) rfl d k
theorem gX_77_7 {X : jC} {cc : ByteArray} {own : String} {R : Room} {kk : Nat → Nat} {nL : Nat} (C : jF X cc own R kk nL) {g : Nat → Nat} {σ : St} {ce sl : Nat} {lv : List (Nat × Value)} {pc : Nat} {st : List Value} {index : Nat} (hl : Cond.fieldLink own index "RainCans$Garden" "sumFirst" "[I" ∈ lw_tbl)  (d : decode cc pc = .ok (.getfield index, 3)) (k : J X ce sl (cX g kk σ) lv (pc + 3) (.ref (g 84) :: st)) : J X ce sl (cX g kk σ) lv pc (.ref (g 77) :: st) := by
  exact j_get C inX2 gdX2 rfl 7 (by decide) rfl hl 77 (eX_77 g kk σ) rfl d k
theorem gX_77_8 {X : jC} {cc : ByteArray} {own : String} {R : Room} {kk : Nat → Nat} {nL : Nat} (C : jF X cc own R kk nL) {g : Nat → Nat} {σ : St} {ce sl : Nat} {lv : List (Nat × Value)} {pc : Nat} {st : List Value} {index : Nat} (hl : Cond.fieldLink own index "RainCans$Garden" "sumLast" "[I" ∈ lw_tbl)  (d : decode cc pc = .ok (.getfield index, 3)) (k : J X ce sl (cX g kk σ) lv (pc + 3) (.ref (g 85) :: st)) : J X ce sl (cX g kk σ) lv pc (.ref (g 77) :: st) := by
  exact j_get C inX2 gdX2 rfl 8 (by decide) rfl hl 77 (eX_77 g kk σ) rfl d k
theorem gX_77_9 {X : jC} {cc : ByteArray} {own : String} {R : Room} {kk : Nat → Nat} {nL : Nat} (C : jF X cc own R kk nL) {g : Nat → Nat} {σ : St} {ce sl : Nat} {lv : List (Nat × Value)} {pc : Nat} {st : List Value} {index : Nat} (hl : Cond.fieldLink own index "RainCans$Garden" "settings" "[I" ∈ lw_tbl)  (d : decode cc pc = .ok (.getfield index, 3)) (k : J X ce sl (cX g kk σ) lv (pc + 3) (.ref (g 86) :: st)) : J X ce sl (cX g kk σ) lv pc (.ref (g 77) :: st) := by
  exact j_get C inX2 gdX2 rfl 9 (by decide) rfl hl 77 (eX_77 g kk σ) rfl d k
theorem gX_77_10 {X : jC} {cc : ByteArray} {own : String} {R : Room} {kk : Nat → Nat} {nL : Nat} (C : jF X cc own R kk nL) {g : Nat → Nat} {σ : St} {ce sl : Nat} {lv : List (Nat × Value)} {pc : Nat} {st : List Value} {index : Nat} (hl : Cond.fieldLink own index "RainCans$Garden" "fixes" "LRainCans$Fixes;" ∈ lw_tbl)  (d : decode cc pc = .ok (.getfield index, 3)) (k : J X ce sl (cX g kk σ) lv (pc + 3) (.ref (g 87) :: st)) : J X ce sl (cX g kk σ) lv pc (.ref (g 77) :: st) := by
  exact j_get C inX2 gdX2 rfl 10 (by decide) rfl hl 77 (eX_77 g kk σ) rfl d k
theorem gX_77_11 {X : jC} {cc : ByteArray} {own : String} {R : Room} {kk : Nat → Nat} {nL : Nat} (C : jF X cc own R kk nL) {g : Nat → Nat} {σ : St} {ce sl : Nat} {lv : List (Nat × Value)} {pc : Nat} {st : List Value} {index : Nat} (hl : Cond.fieldLink own index "RainCans$Garden" "radars" "LRainCans$Radars;" ∈ lw_tbl)  (d : decode cc pc = .ok (.getfield index, 3)) (k : J X ce sl (cX g kk σ) lv (pc + 3) (.ref (g 92) :: st)) : J X ce sl (cX g kk σ) lv pc (.ref (g 77) :: st) := by
  exact j_get C inX2 gdX2 rfl 11 (by decide) rfl hl 77 (eX_77 g kk σ) rfl d k
theorem rX_78 {X : jC} {cc : ByteArray} {own : String} {R : Room} {kk : Nat → Nat} {nL : Nat} (C : jF X cc own R kk nL) {g : Nat → Nat} {σ : St} {ce sl : Nat} {lv : List (Nat × Value)} {pc : Nat} {st : List Value} {i : Int32} (n : Nat) (e : i = nI n) (h : n < 6) (v : Int32) (hv : σ.2.1 78 n = v) (d : decode cc pc = .ok (.iaload, 1)) (k : J X ce sl (cX g kk σ) lv (pc + 1) (.int v :: st)) : J X ce sl (cX g kk σ) lv pc (.int i :: .ref (g 78) :: st) := by
  subst hv
  refine j_iald C 78 (f := σ.2.1 78) rfl (vp_inN e h (by decide)) d ?_
  rw [clN e (by omega)]
  exact k
theorem tX_78 {X : jC} {cc : ByteArray} {own : String} {R : Room} {kk : Nat → Nat} {nL : Nat} (C : jF X cc own R kk nL) {g : Nat → Nat} {σ : St} {ce sl : Nat} {lv : List (Nat × Value)} {pc : Nat} {st : List Value} {i : Int32} {x : Int32} (n : Nat) (e : i = nI n) (h : n < 6) (d : decode cc pc = .ok (.iastore, 1)) (k : J X ce sl (cX g kk (sF σ 78 (upd (σ.2.1 78) n x))) lv (pc + 1) st) : J X ce sl (cX g kk σ) lv pc (.int x :: .int i :: .ref (g 78) :: st) := by
  refine j_iast C 78 (f := σ.2.1 78) rfl (vp_inN e h (by decide)) (w' := cX g kk (sF σ 78 (upd (σ.2.1 78) n x))) ?_ d k
  rw [clN e (by omega)]
  rfl
theorem rX_79 {X : jC} {cc : ByteArray} {own : String} {R : Room} {kk : Nat → Nat} {nL : Nat} (C : jF X cc own R kk nL) {g : Nat → Nat} {σ : St} {ce sl : Nat} {lv : List (Nat × Value)} {pc : Nat} {st : List Value} {i : Int32} (n : Nat) (e : i = nI n) (h : n < 6) (v : Int32) (hv : σ.2.1 79 n = v) (d : decode cc pc = .ok (.iaload, 1)) (k : J X ce sl (cX g kk σ) lv (pc + 1) (.int v :: st)) : J X ce sl (cX g kk σ) lv pc (.int i :: .ref (g 79) :: st) := by
  subst hv
  refine j_iald C 79 (f := σ.2.1 79) rfl (vp_inN e h (by decide)) d ?_
  rw [clN e (by omega)]
  exact k
theorem tX_79 {X : jC} {cc : ByteArray} {own : String} {R : Room} {kk : Nat → Nat} {nL : Nat} (C : jF X cc own R kk nL) {g : Nat → Nat} {σ : St} {ce sl : Nat} {lv : List (Nat × Value)} {pc : Nat} {st : List Value} {i : Int32} {x : Int32} (n : Nat) (e : i = nI n) (h : n < 6) (d : decode cc pc = .ok (.iastore, 1)) (k : J X ce sl (cX g kk (sF σ 79 (upd (σ.2.1 79) n x))) lv (pc + 1) st) : J X ce sl (cX g kk σ) lv pc (.int x :: .int i :: .ref (g 79) :: st) := by
  refine j_iast C 79 (f := σ.2.1 79) rfl (vp_inN e h (by decide)) (w' := cX g kk (sF σ 79 (upd (σ.2.1 79) n x))) ?_ d k
  rw [clN e (by omega)]
  rfl
theorem rX_80 {X : jC} {cc : ByteArray} {own : String} {R : Room} {kk : Nat → Nat} {nL : Nat} (C : jF X cc own R kk nL) {g : Nat → Nat} {σ : St} {ce sl : Nat} {lv : List (Nat × Value)} {pc : Nat} {st : List Value} {i : Int32} (n : Nat) (e : i = nI n) (h : n < 18) (v : Int32) (hv : σ.2.1 80 n = v) (d : decode cc pc = .ok (.iaload, 1)) (k : J X ce sl (cX g kk σ) lv (pc + 1) (.int v :: st)) : J X ce sl (cX g kk σ) lv pc (.int i :: .ref (g 80) :: st) := by
  subst hv
  refine j_iald C 80 (f := σ.2.1 80) rfl (vp_inN e h (by decide)) d ?_
  rw [clN e (by omega)]
  exact k
theorem tX_80 {X : jC} {cc : ByteArray} {own : String} {R : Room} {kk : Nat → Nat} {nL : Nat} (C : jF X cc own R kk nL) {g : Nat → Nat} {σ : St} {ce sl : Nat} {lv : List (Nat × Value)} {pc : Nat} {st : List Value} {i : Int32} {x : Int32} (n : Nat) (e : i = nI n) (h : n < 18) (d : decode cc pc = .ok (.iastore, 1)) (k : J X ce sl (cX g kk (sF σ 80 (upd (σ.2.1 80) n x))) lv (pc + 1) st) : J X ce sl (cX g kk σ) lv pc (.int x :: .int i :: .ref (g 80) :: st) := by
  refine j_iast C 80 (f := σ.2.1 80) rfl (vp_inN e h (by decide)) (w' := cX g kk (sF σ 80 (upd (σ.2.1 80) n x))) ?_ d k
  rw [clN e (by omega)]
  rfl
theorem rX_81 {X : jC} {cc : ByteArray} {own : String} {R : Room} {kk : Nat → Nat} {nL : Nat} (C : jF X cc own R kk nL) {g : Nat → Nat} {σ : St} {ce sl : Nat} {lv : List (Nat × Value)} {pc : Nat} {st : List Value} {i : Int32} (n : Nat) (e : i = nI n) (h : n < 28) (v : Int32) (hv : σ.2.1 81 n = v) (d : decode cc pc = .ok (.iaload, 1)) (k : J X ce sl (cX g kk σ) lv (pc + 1) (.int v :: st)) : J X ce sl (cX g kk σ) lv pc (.int i :: .ref (g 81) :: st) := by
  subst hv
  refine j_iald C 81 (f := σ.2.1 81) rfl (vp_inN e h (by decide)) d ?_
  rw [clN e (by omega)]
  exact k
theorem tX_81 {X : jC} {cc : ByteArray} {own : String} {R : Room} {kk : Nat → Nat} {nL : Nat} (C : jF X cc own R kk nL) {g : Nat → Nat} {σ : St} {ce sl : Nat} {lv : List (Nat × Value)} {pc : Nat} {st : List Value} {i : Int32} {x : Int32} (n : Nat) (e : i = nI n) (h : n < 28) (d : decode cc pc = .ok (.iastore, 1)) (k : J X ce sl (cX g kk (sF σ 81 (upd (σ.2.1 81) n x))) lv (pc + 1) st) : J X ce sl (cX g kk σ) lv pc (.int x :: .int i :: .ref (g 81) :: st) := by
  refine j_iast C 81 (f := σ.2.1 81) rfl (vp_inN e h (by decide)) (w' := cX g kk (sF σ 81 (upd (σ.2.1 81) n x))) ?_ d k
  rw [clN e (by omega)]
  rfl
theorem rX_82 {X : jC} {cc : ByteArray} {own : String} {R : Room} {kk : Nat → Nat} {nL : Nat} (C : jF X cc own R kk nL) {g : Nat → Nat} {σ : St} {ce sl : Nat} {lv : List (Nat × Value)} {pc : Nat} {st : List Value} {i : Int32} (n : Nat) (e : i = nI n) (h : n < 168) (v : Int32) (hv : σ.2.1 82 n = v) (d : decode cc pc = .ok (.iaload, 1)) (k : J X ce sl (cX g kk σ) lv (pc + 1) (.int v :: st)) : J X ce sl (cX g kk σ) lv pc (.int i :: .ref (g 82) :: st) := by
  subst hv
  refine j_iald C 82 (f := σ.2.1 82) rfl (vp_inN e h (by decide)) d ?_
  rw [clN e (by omega)]
  exact k
theorem tX_82 {X : jC} {cc : ByteArray} {own : String} {R : Room} {kk : Nat → Nat} {nL : Nat} (C : jF X cc own R kk nL) {g : Nat → Nat} {σ : St} {ce sl : Nat} {lv : List (Nat × Value)} {pc : Nat} {st : List Value} {i : Int32} {x : Int32} (n : Nat) (e : i = nI n) (h : n < 168) (d : decode cc pc = .ok (.iastore, 1)) (k : J X ce sl (cX g kk (sF σ 82 (upd (σ.2.1 82) n x))) lv (pc + 1) st) : J X ce sl (cX g kk σ) lv pc (.int x :: .int i :: .ref (g 82) :: st) := by
  refine j_iast C 82 (f := σ.2.1 82) rfl (vp_inN e h (by decide)) (w' := cX g kk (sF σ 82 (upd (σ.2.1 82) n x))) ?_ d k
  rw [clN e (by omega)]
  rfl
theorem rX_83 {X : jC} {cc : ByteArray} {own : String} {R : Room} {kk : Nat → Nat} {nL : Nat} (C : jF X cc own R kk nL) {g : Nat → Nat} {σ : St} {ce sl : Nat} {lv : List (Nat × Value)} {pc : Nat} {st : List Value} {i : Int32} (n : Nat) (e : i = nI n) (h : n < 168) (v : Int32) (hv : σ.2.1 83 n = v) (d : decode cc pc = .ok (.iaload, 1)) (k : J X ce sl (cX g kk σ) lv (pc + 1) (.int v :: st)) : J X ce sl (cX g kk σ) lv pc (.int i :: .ref (g 83) :: st) := by
  subst hv
  refine j_iald C 83 (f := σ.2.1 83) rfl (vp_inN e h (by decide)) d ?_
  rw [clN e (by omega)]
  exact k
theorem tX_83 {X : jC} {cc : ByteArray} {own : String} {R : Room} {kk : Nat → Nat} {nL : Nat} (C : jF X cc own R kk nL) {g : Nat → Nat} {σ : St} {ce sl : Nat} {lv : List (Nat × Value)} {pc : Nat} {st : List Value} {i : Int32} {x : Int32} (n : Nat) (e : i = nI n) (h : n < 168) (d : decode cc pc = .ok (.iastore, 1)) (k : J X ce sl (cX g kk (sF σ 83 (upd (σ.2.1 83) n x))) lv (pc + 1) st) : J X ce sl (cX g kk σ) lv pc (.int x :: .int i :: .ref (g 83) :: st) := by
  refine j_iast C 83 (f := σ.2.1 83) rfl (vp_inN e h (by decide)) (w' := cX g kk (sF σ 83 (upd (σ.2.1 83) n x))) ?_ d k
  rw [clN e (by omega)]
  rfl
theorem rX_84 {X : jC} {cc : ByteArray} {own : String} {R : Room} {kk : Nat → Nat} {nL : Nat} (C : jF X cc own R kk nL) {g : Nat → Nat} {σ : St} {ce sl : Nat} {lv : List (Nat × Value)} {pc : Nat} {st : List Value} {i : Int32} (n : Nat) (e : i = nI n) (h : n < 168) (v : Int32) (hv : σ.2.1 84 n = v) (d : decode cc pc = .ok (.iaload, 1)) (k : J X ce sl (cX g kk σ) lv (pc + 1) (.int v :: st)) : J X ce sl (cX g kk σ) lv pc (.int i :: .ref (g 84) :: st) := by
  subst hv
  refine j_iald C 84 (f := σ.2.1 84) rfl (vp_inN e h (by decide)) d ?_
  rw [clN e (by omega)]
  exact k
theorem tX_84 {X : jC} {cc : ByteArray} {own : String} {R : Room} {kk : Nat → Nat} {nL : Nat} (C : jF X cc own R kk nL) {g : Nat → Nat} {σ : St} {ce sl : Nat} {lv : List (Nat × Value)} {pc : Nat} {st : List Value} {i : Int32} {x : Int32} (n : Nat) (e : i = nI n) (h : n < 168) (d : decode cc pc = .ok (.iastore, 1)) (k : J X ce sl (cX g kk (sF σ 84 (upd (σ.2.1 84) n x))) lv (pc + 1) st) : J X ce sl (cX g kk σ) lv pc (.int x :: .int i :: .ref (g 84) :: st) := by
  refine j_iast C 84 (f := σ.2.1 84) rfl (vp_inN e h (by decide)) (w' := cX g kk (sF σ 84 (upd (σ.2.1 84) n x))) ?_ d k
  rw [clN e (by omega)]
  rfl
theorem rX_85 {X : jC} {cc : ByteArray} {own : String} {R : Room} {kk : Nat → Nat} {nL : Nat} (C : jF X cc own R kk nL) {g : Nat → Nat} {σ : St} {ce sl : Nat} {lv : List (Nat × Value)} {pc : Nat} {st : List Value} {i : Int32} (n : Nat) (e : i = nI n) (h : n < 168) (v : Int32) (hv : σ.2.1 85 n = v) (d : decode cc pc = .ok (.iaload, 1)) (k : J X ce sl (cX g kk σ) lv (pc + 1) (.int v :: st)) : J X ce sl (cX g kk σ) lv pc (.int i :: .ref (g 85) :: st) := by
  subst hv
  refine j_iald C 85 (f := σ.2.1 85) rfl (vp_inN e h (by decide)) d ?_
  rw [clN e (by omega)]
  exact k
theorem tX_85 {X : jC} {cc : ByteArray} {own : String} {R : Room} {kk : Nat → Nat} {nL : Nat} (C : jF X cc own R kk nL) {g : Nat → Nat} {σ : St} {ce sl : Nat} {lv : List (Nat × Value)} {pc : Nat} {st : List Value} {i : Int32} {x : Int32} (n : Nat) (e : i = nI n) (h : n < 168) (d : decode cc pc = .ok (.iastore, 1)) (k : J X ce sl (cX g kk (sF σ 85 (upd (σ.2.1 85) n x))) lv (pc + 1) st) : J X ce sl (cX g kk σ) lv pc (.int x :: .int i :: .ref (g 85) :: st) := by
  refine j_iast C 85 (f := σ.2.1 85) rfl (vp_inN e h (by decide)) (w' := cX g kk (sF σ 85 (upd (σ.2.1 85) n x))) ?_ d k
  rw [clN e (by omega)]
  rfl
theorem rX_86 {X : jC} {cc : ByteArray} {own : String} {R : Room} {kk : Nat → Nat} {nL : Nat} (C : jF X cc own R kk nL) {g : Nat → Nat} {σ : St} {ce sl : Nat} {lv : List (Nat × Value)} {pc : Nat} {st : List Value} {i : Int32} (n : Nat) (e : i = nI n) (h : n < 4) (v : Int32) (hv : σ.2.1 86 n = v) (d : decode cc pc = .ok (.iaload, 1)) (k : J X ce sl (cX g kk σ) lv (pc + 1) (.int v :: st)) : J X ce sl (cX g kk σ) lv pc (.int i :: .ref (g 86) :: st) := by
  subst hv
  refine j_iald C 86 (f := σ.2.1 86) rfl (vp_inN e h (by decide)) d ?_
  rw [clN e (by omega)]
  exact k
theorem tX_86 {X : jC} {cc : ByteArray} {own : String} {R : Room} {kk : Nat → Nat} {nL : Nat} (C : jF X cc own R kk nL) {g : Nat → Nat} {σ : St} {ce sl : Nat} {lv : List (Nat × Value)} {pc : Nat} {st : List Value} {i : Int32} {x : Int32} (n : Nat) (e : i = nI n) (h : n < 4) (d : decode cc pc = .ok (.iastore, 1)) (k : J X ce sl (cX g kk (sF σ 86 (upd (σ.2.1 86) n x))) lv (pc + 1) st) : J X ce sl (cX g kk σ) lv pc (.int x :: .int i :: .ref (g 86) :: st) := by
  refine j_iast C 86 (f := σ.2.1 86) rfl (vp_inN e h (by decide)) (w' := cX g kk (sF σ 86 (upd (σ.2.1 86) n x))) ?_ d k
  rw [clN e (by omega)]
  rfl
theorem eX_87 (g : Nat → Nat) (kk : Nat → Nat) (σ : St) : (cX g kk σ)[87]? = some (g 87, .inr (1, [.int (σ.1 1392), .ref (g 88), .ref (g 89), .ref (g 90), .ref (g 91)])) := rfl
theorem gX_87_0 {X : jC} {cc : ByteArray} {own : String} {R : Room} {kk : Nat → Nat} {nL : Nat} (C : jF X cc own R kk nL) {g : Nat → Nat} {σ : St} {ce sl : Nat} {lv : List (Nat × Value)} {pc : Nat} {st : List Value} {index : Nat} (hl : Cond.fieldLink own index "RainCans$Fixes" "count" "I" ∈ lw_tbl) (v : Int32) (hv : σ.1 1392 = v) (d : decode cc pc = .ok (.getfield index, 3)) (k : J X ce sl (cX g kk σ) lv (pc + 3) (.int v :: st)) : J X ce sl (cX g kk σ) lv pc (.ref (g 87) :: st) := by
  subst hv
  exact j_get C inX1 gdX1 rfl 0 (by decide) rfl hl 87 (eX_87 g kk σ) rfl d k
theorem pX_87_0 {X : jC} {cc : ByteArray} {own : String} {R : Room} {kk : Nat → Nat} {nL : Nat} (C : jF X cc own R kk nL) {g : Nat → Nat} {σ : St} {ce sl : Nat} {lv : List (Nat × Value)} {pc : Nat} {st : List Value} {index : Nat} (hl : Cond.fieldLink own index "RainCans$Fixes" "count" "I" ∈ lw_tbl) {v : Int32} (d : decode cc pc = .ok (.putfield index, 3)) (k : J X ce sl (cX g kk (sI σ 1392 v)) lv (pc + 3) st) : J X ce sl (cX g kk σ) lv pc (.int v :: .ref (g 87) :: st) :=
  j_put (ty := .int) C inX1 gdX1 tyX1_ok nmX1 rfl 0 (by decide) rfl hl rfl (by decide +kernel) 87 (eX_87 g kk σ) rfl rfl (Nat.le_of_ble_eq_true rfl) (w' := cX g kk (sI σ 1392 v)) rfl d k
theorem gX_87_1 {X : jC} {cc : ByteArray} {own : String} {R : Room} {kk : Nat → Nat} {nL : Nat} (C : jF X cc own R kk nL) {g : Nat → Nat} {σ : St} {ce sl : Nat} {lv : List (Nat × Value)} {pc : Nat} {st : List Value} {index : Nat} (hl : Cond.fieldLink own index "RainCans$Fixes" "cells" "[I" ∈ lw_tbl)  (d : decode cc pc = .ok (.getfield index, 3)) (k : J X ce sl (cX g kk σ) lv (pc + 3) (.ref (g 88) :: st)) : J X ce sl (cX g kk σ) lv pc (.ref (g 87) :: st) := by
  exact j_get C inX1 gdX1 rfl 1 (by decide) rfl hl 87 (eX_87 g kk σ) rfl d k
theorem gX_87_2 {X : jC} {cc : ByteArray} {own : String} {R : Room} {kk : Nat → Nat} {nL : Nat} (C : jF X cc own R kk nL) {g : Nat → Nat} {σ : St} {ce sl : Nat} {lv : List (Nat × Value)} {pc : Nat} {st : List Value} {index : Nat} (hl : Cond.fieldLink own index "RainCans$Fixes" "values" "[I" ∈ lw_tbl)  (d : decode cc pc = .ok (.getfield index, 3)) (k : J X ce sl (cX g kk σ) lv (pc + 3) (.ref (g 89) :: st)) : J X ce sl (cX g kk σ) lv pc (.ref (g 87) :: st) := by
  exact j_get C inX1 gdX1 rfl 2 (by decide) rfl hl 87 (eX_87 g kk σ) rfl d k
theorem gX_87_3 {X : jC} {cc : ByteArray} {own : String} {R : Room} {kk : Nat → Nat} {nL : Nat} (C : jF X cc own R kk nL) {g : Nat → Nat} {σ : St} {ce sl : Nat} {lv : List (Nat × Value)} {pc : Nat} {st : List Value} {index : Nat} (hl : Cond.fieldLink own index "RainCans$Fixes" "earlier" "[I" ∈ lw_tbl)  (d : decode cc pc = .ok (.getfield index, 3)) (k : J X ce sl (cX g kk σ) lv (pc + 3) (.ref (g 90) :: st)) : J X ce sl (cX g kk σ) lv pc (.ref (g 87) :: st) := by
  exact j_get C inX1 gdX1 rfl 3 (by decide) rfl hl 87 (eX_87 g kk σ) rfl d k
theorem gX_87_4 {X : jC} {cc : ByteArray} {own : String} {R : Room} {kk : Nat → Nat} {nL : Nat} (C : jF X cc own R kk nL) {g : Nat → Nat} {σ : St} {ce sl : Nat} {lv : List (Nat × Value)} {pc : Nat} {st : List Value} {index : Nat} (hl : Cond.fieldLink own index "RainCans$Fixes" "last" "[I" ∈ lw_tbl)  (d : decode cc pc = .ok (.getfield index, 3)) (k : J X ce sl (cX g kk σ) lv (pc + 3) (.ref (g 91) :: st)) : J X ce sl (cX g kk σ) lv pc (.ref (g 87) :: st) := by
  exact j_get C inX1 gdX1 rfl 4 (by decide) rfl hl 87 (eX_87 g kk σ) rfl d k
theorem rX_88 {X : jC} {cc : ByteArray} {own : String} {R : Room} {kk : Nat → Nat} {nL : Nat} (C : jF X cc own R kk nL) {g : Nat → Nat} {σ : St} {ce sl : Nat} {lv : List (Nat × Value)} {pc : Nat} {st : List Value} {i : Int32} (n : Nat) (e : i = nI n) (h : n < 20) (v : Int32) (hv : σ.2.1 88 n = v) (d : decode cc pc = .ok (.iaload, 1)) (k : J X ce sl (cX g kk σ) lv (pc + 1) (.int v :: st)) : J X ce sl (cX g kk σ) lv pc (.int i :: .ref (g 88) :: st) := by
  subst hv
  refine j_iald C 88 (f := σ.2.1 88) rfl (vp_inN e h (by decide)) d ?_
  rw [clN e (by omega)]
  exact k
theorem tX_88 {X : jC} {cc : ByteArray} {own : String} {R : Room} {kk : Nat → Nat} {nL : Nat} (C : jF X cc own R kk nL) {g : Nat → Nat} {σ : St} {ce sl : Nat} {lv : List (Nat × Value)} {pc : Nat} {st : List Value} {i : Int32} {x : Int32} (n : Nat) (e : i = nI n) (h : n < 20) (d : decode cc pc = .ok (.iastore, 1)) (k : J X ce sl (cX g kk (sF σ 88 (upd (σ.2.1 88) n x))) lv (pc + 1) st) : J X ce sl (cX g kk σ) lv pc (.int x :: .int i :: .ref (g 88) :: st) := by
  refine j_iast C 88 (f := σ.2.1 88) rfl (vp_inN e h (by decide)) (w' := cX g kk (sF σ 88 (upd (σ.2.1 88) n x))) ?_ d k
  rw [clN e (by omega)]
  rfl
theorem rX_89 {X : jC} {cc : ByteArray} {own : String} {R : Room} {kk : Nat → Nat} {nL : Nat} (C : jF X cc own R kk nL) {g : Nat → Nat} {σ : St} {ce sl : Nat} {lv : List (Nat × Value)} {pc : Nat} {st : List Value} {i : Int32} (n : Nat) (e : i = nI n) (h : n < 20) (v : Int32) (hv : σ.2.1 89 n = v) (d : decode cc pc = .ok (.iaload, 1)) (k : J X ce sl (cX g kk σ) lv (pc + 1) (.int v :: st)) : J X ce sl (cX g kk σ) lv pc (.int i :: .ref (g 89) :: st) := by
  subst hv
  refine j_iald C 89 (f := σ.2.1 89) rfl (vp_inN e h (by decide)) d ?_
  rw [clN e (by omega)]
  exact k
theorem tX_89 {X : jC} {cc : ByteArray} {own : String} {R : Room} {kk : Nat → Nat} {nL : Nat} (C : jF X cc own R kk nL) {g : Nat → Nat} {σ : St} {ce sl : Nat} {lv : List (Nat × Value)} {pc : Nat} {st : List Value} {i : Int32} {x : Int32} (n : Nat) (e : i = nI n) (h : n < 20) (d : decode cc pc = .ok (.iastore, 1)) (k : J X ce sl (cX g kk (sF σ 89 (upd (σ.2.1 89) n x))) lv (pc + 1) st) : J X ce sl (cX g kk σ) lv pc (.int x :: .int i :: .ref (g 89) :: st) := by
  refine j_iast C 89 (f := σ.2.1 89) rfl (vp_inN e h (by decide)) (w' := cX g kk (sF σ 89 (upd (σ.2.1 89) n x))) ?_ d k
  rw [clN e (by omega)]
  rfl
theorem rX_90 {X : jC} {cc : ByteArray} {own : String} {R : Room} {kk : Nat → Nat} {nL : Nat} (C : jF X cc own R kk nL) {g : Nat → Nat} {σ : St} {ce sl : Nat} {lv : List (Nat × Value)} {pc : Nat} {st : List Value} {i : Int32} (n : Nat) (e : i = nI n) (h : n < 20) (v : Int32) (hv : σ.2.1 90 n = v) (d : decode cc pc = .ok (.iaload, 1)) (k : J X ce sl (cX g kk σ) lv (pc + 1) (.int v :: st)) : J X ce sl (cX g kk σ) lv pc (.int i :: .ref (g 90) :: st) := by
  subst hv
  refine j_iald C 90 (f := σ.2.1 90) rfl (vp_inN e h (by decide)) d ?_
  rw [clN e (by omega)]
  exact k
theorem tX_90 {X : jC} {cc : ByteArray} {own : String} {R : Room} {kk : Nat → Nat} {nL : Nat} (C : jF X cc own R kk nL) {g : Nat → Nat} {σ : St} {ce sl : Nat} {lv : List (Nat × Value)} {pc : Nat} {st : List Value} {i : Int32} {x : Int32} (n : Nat) (e : i = nI n) (h : n < 20) (d : decode cc pc = .ok (.iastore, 1)) (k : J X ce sl (cX g kk (sF σ 90 (upd (σ.2.1 90) n x))) lv (pc + 1) st) : J X ce sl (cX g kk σ) lv pc (.int x :: .int i :: .ref (g 90) :: st) := by
  refine j_iast C 90 (f := σ.2.1 90) rfl (vp_inN e h (by decide)) (w' := cX g kk (sF σ 90 (upd (σ.2.1 90) n x))) ?_ d k
  rw [clN e (by omega)]
  rfl
theorem rX_91 {X : jC} {cc : ByteArray} {own : String} {R : Room} {kk : Nat → Nat} {nL : Nat} (C : jF X cc own R kk nL) {g : Nat → Nat} {σ : St} {ce sl : Nat} {lv : List (Nat × Value)} {pc : Nat} {st : List Value} {i : Int32} (n : Nat) (e : i = nI n) (h : n < 168) (v : Int32) (hv : σ.2.1 91 n = v) (d : decode cc pc = .ok (.iaload, 1)) (k : J X ce sl (cX g kk σ) lv (pc + 1) (.int v :: st)) : J X ce sl (cX g kk σ) lv pc (.int i :: .ref (g 91) :: st) := by
  subst hv
  refine j_iald C 91 (f := σ.2.1 91) rfl (vp_inN e h (by decide)) d ?_
  rw [clN e (by omega)]
  exact k
theorem tX_91 {X : jC} {cc : ByteArray} {own : String} {R : Room} {kk : Nat → Nat} {nL : Nat} (C : jF X cc own R kk nL) {g : Nat → Nat} {σ : St} {ce sl : Nat} {lv : List (Nat × Value)} {pc : Nat} {st : List Value} {i : Int32} {x : Int32} (n : Nat) (e : i = nI n) (h : n < 168) (d : decode cc pc = .ok (.iastore, 1)) (k : J X ce sl (cX g kk (sF σ 91 (upd (σ.2.1 91) n x))) lv (pc + 1) st) : J X ce sl (cX g kk σ) lv pc (.int x :: .int i :: .ref (g 91) :: st) := by
  refine j_iast C 91 (f := σ.2.1 91) rfl (vp_inN e h (by decide)) (w' := cX g kk (sF σ 91 (upd (σ.2.1 91) n x))) ?_ d k
  rw [clN e (by omega)]
  rfl
theorem eX_92 (g : Nat → Nat) (kk : Nat → Nat) (σ : St) : (cX g kk σ)[92]? = some (g 92, .inr (6, [.int (σ.1 1472), .ref (g 93), .ref (g 94), .ref (g 95), .ref (g 96), .ref (g 97)])) := rfl
theorem gX_92_0 {X : jC} {cc : ByteArray} {own : String} {R : Room} {kk : Nat → Nat} {nL : Nat} (C : jF X cc own R kk nL) {g : Nat → Nat} {σ : St} {ce sl : Nat} {lv : List (Nat × Value)} {pc : Nat} {st : List Value} {index : Nat} (hl : Cond.fieldLink own index "RainCans$Radars" "count" "I" ∈ lw_tbl) (v : Int32) (hv : σ.1 1472 = v) (d : decode cc pc = .ok (.getfield index, 3)) (k : J X ce sl (cX g kk σ) lv (pc + 3) (.int v :: st)) : J X ce sl (cX g kk σ) lv pc (.ref (g 92) :: st) := by
  subst hv
  exact j_get C inX6 gdX6 rfl 0 (by decide) rfl hl 92 (eX_92 g kk σ) rfl d k
theorem pX_92_0 {X : jC} {cc : ByteArray} {own : String} {R : Room} {kk : Nat → Nat} {nL : Nat} (C : jF X cc own R kk nL) {g : Nat → Nat} {σ : St} {ce sl : Nat} {lv : List (Nat × Value)} {pc : Nat} {st : List Value} {index : Nat} (hl : Cond.fieldLink own index "RainCans$Radars" "count" "I" ∈ lw_tbl) {v : Int32} (d : decode cc pc = .ok (.putfield index, 3)) (k : J X ce sl (cX g kk (sI σ 1472 v)) lv (pc + 3) st) : J X ce sl (cX g kk σ) lv pc (.int v :: .ref (g 92) :: st) :=
  j_put (ty := .int) C inX6 gdX6 tyX6_ok nmX6 rfl 0 (by decide) rfl hl rfl (by decide +kernel) 92 (eX_92 g kk σ) rfl rfl (Nat.le_of_ble_eq_true rfl) (w' := cX g kk (sI σ 1472 v)) rfl d k
theorem gX_92_1 {X : jC} {cc : ByteArray} {own : String} {R : Room} {kk : Nat → Nat} {nL : Nat} (C : jF X cc own R kk nL) {g : Nat → Nat} {σ : St} {ce sl : Nat} {lv : List (Nat × Value)} {pc : Nat} {st : List Value} {index : Nat} (hl : Cond.fieldLink own index "RainCans$Radars" "days" "[I" ∈ lw_tbl)  (d : decode cc pc = .ok (.getfield index, 3)) (k : J X ce sl (cX g kk σ) lv (pc + 3) (.ref (g 93) :: st)) : J X ce sl (cX g kk σ) lv pc (.ref (g 92) :: st) := by
  exact j_get C inX6 gdX6 rfl 1 (by decide) rfl hl 92 (eX_92 g kk σ) rfl d k
theorem gX_92_2 {X : jC} {cc : ByteArray} {own : String} {R : Room} {kk : Nat → Nat} {nL : Nat} (C : jF X cc own R kk nL) {g : Nat → Nat} {σ : St} {ce sl : Nat} {lv : List (Nat × Value)} {pc : Nat} {st : List Value} {index : Nat} (hl : Cond.fieldLink own index "RainCans$Radars" "x" "[I" ∈ lw_tbl)  (d : decode cc pc = .ok (.getfield index, 3)) (k : J X ce sl (cX g kk σ) lv (pc + 3) (.ref (g 94) :: st)) : J X ce sl (cX g kk σ) lv pc (.ref (g 92) :: st) := by
  exact j_get C inX6 gdX6 rfl 2 (by decide) rfl hl 92 (eX_92 g kk σ) rfl d k
theorem gX_92_3 {X : jC} {cc : ByteArray} {own : String} {R : Room} {kk : Nat → Nat} {nL : Nat} (C : jF X cc own R kk nL) {g : Nat → Nat} {σ : St} {ce sl : Nat} {lv : List (Nat × Value)} {pc : Nat} {st : List Value} {index : Nat} (hl : Cond.fieldLink own index "RainCans$Radars" "y" "[I" ∈ lw_tbl)  (d : decode cc pc = .ok (.getfield index, 3)) (k : J X ce sl (cX g kk σ) lv (pc + 3) (.ref (g 95) :: st)) : J X ce sl (cX g kk σ) lv pc (.ref (g 92) :: st) := by
  exact j_get C inX6 gdX6 rfl 3 (by decide) rfl hl 92 (eX_92 g kk σ) rfl d k
theorem gX_92_4 {X : jC} {cc : ByteArray} {own : String} {R : Room} {kk : Nat → Nat} {nL : Nat} (C : jF X cc own R kk nL) {g : Nat → Nat} {σ : St} {ce sl : Nat} {lv : List (Nat × Value)} {pc : Nat} {st : List Value} {index : Nat} (hl : Cond.fieldLink own index "RainCans$Radars" "least" "[I" ∈ lw_tbl)  (d : decode cc pc = .ok (.getfield index, 3)) (k : J X ce sl (cX g kk σ) lv (pc + 3) (.ref (g 96) :: st)) : J X ce sl (cX g kk σ) lv pc (.ref (g 92) :: st) := by
  exact j_get C inX6 gdX6 rfl 4 (by decide) rfl hl 92 (eX_92 g kk σ) rfl d k
theorem gX_92_5 {X : jC} {cc : ByteArray} {own : String} {R : Room} {kk : Nat → Nat} {nL : Nat} (C : jF X cc own R kk nL) {g : Nat → Nat} {σ : St} {ce sl : Nat} {lv : List (Nat × Value)} {pc : Nat} {st : List Value} {index : Nat} (hl : Cond.fieldLink own index "RainCans$Radars" "most" "[I" ∈ lw_tbl)  (d : decode cc pc = .ok (.getfield index, 3)) (k : J X ce sl (cX g kk σ) lv (pc + 3) (.ref (g 97) :: st)) : J X ce sl (cX g kk σ) lv pc (.ref (g 92) :: st) := by
  exact j_get C inX6 gdX6 rfl 5 (by decide) rfl hl 92 (eX_92 g kk σ) rfl d k
theorem rX_93 {X : jC} {cc : ByteArray} {own : String} {R : Room} {kk : Nat → Nat} {nL : Nat} (C : jF X cc own R kk nL) {g : Nat → Nat} {σ : St} {ce sl : Nat} {lv : List (Nat × Value)} {pc : Nat} {st : List Value} {i : Int32} (n : Nat) (e : i = nI n) (h : n < 6) (v : Int32) (hv : σ.2.1 93 n = v) (d : decode cc pc = .ok (.iaload, 1)) (k : J X ce sl (cX g kk σ) lv (pc + 1) (.int v :: st)) : J X ce sl (cX g kk σ) lv pc (.int i :: .ref (g 93) :: st) := by
  subst hv
  refine j_iald C 93 (f := σ.2.1 93) rfl (vp_inN e h (by decide)) d ?_
  rw [clN e (by omega)]
  exact k
theorem tX_93 {X : jC} {cc : ByteArray} {own : String} {R : Room} {kk : Nat → Nat} {nL : Nat} (C : jF X cc own R kk nL) {g : Nat → Nat} {σ : St} {ce sl : Nat} {lv : List (Nat × Value)} {pc : Nat} {st : List Value} {i : Int32} {x : Int32} (n : Nat) (e : i = nI n) (h : n < 6) (d : decode cc pc = .ok (.iastore, 1)) (k : J X ce sl (cX g kk (sF σ 93 (upd (σ.2.1 93) n x))) lv (pc + 1) st) : J X ce sl (cX g kk σ) lv pc (.int x :: .int i :: .ref (g 93) :: st) := by
  refine j_iast C 93 (f := σ.2.1 93) rfl (vp_inN e h (by decide)) (w' := cX g kk (sF σ 93 (upd (σ.2.1 93) n x))) ?_ d k
  rw [clN e (by omega)]
  rfl
theorem rX_94 {X : jC} {cc : ByteArray} {own : String} {R : Room} {kk : Nat → Nat} {nL : Nat} (C : jF X cc own R kk nL) {g : Nat → Nat} {σ : St} {ce sl : Nat} {lv : List (Nat × Value)} {pc : Nat} {st : List Value} {i : Int32} (n : Nat) (e : i = nI n) (h : n < 6) (v : Int32) (hv : σ.2.1 94 n = v) (d : decode cc pc = .ok (.iaload, 1)) (k : J X ce sl (cX g kk σ) lv (pc + 1) (.int v :: st)) : J X ce sl (cX g kk σ) lv pc (.int i :: .ref (g 94) :: st) := by
  subst hv
  refine j_iald C 94 (f := σ.2.1 94) rfl (vp_inN e h (by decide)) d ?_
  rw [clN e (by omega)]
  exact k
theorem tX_94 {X : jC} {cc : ByteArray} {own : String} {R : Room} {kk : Nat → Nat} {nL : Nat} (C : jF X cc own R kk nL) {g : Nat → Nat} {σ : St} {ce sl : Nat} {lv : List (Nat × Value)} {pc : Nat} {st : List Value} {i : Int32} {x : Int32} (n : Nat) (e : i = nI n) (h : n < 6) (d : decode cc pc = .ok (.iastore, 1)) (k : J X ce sl (cX g kk (sF σ 94 (upd (σ.2.1 94) n x))) lv (pc + 1) st) : J X ce sl (cX g kk σ) lv pc (.int x :: .int i :: .ref (g 94) :: st) := by
  refine j_iast C 94 (f := σ.2.1 94) rfl (vp_inN e h (by decide)) (w' := cX g kk (sF σ 94 (upd (σ.2.1 94) n x))) ?_ d k
  rw [clN e (by omega)]
  rfl
theorem rX_95 {X : jC} {cc : ByteArray} {own : String} {R : Room} {kk : Nat → Nat} {nL : Nat} (C : jF X cc own R kk nL) {g : Nat → Nat} {σ : St} {ce sl : Nat} {lv : List (Nat × Value)} {pc : Nat} {st : List Value} {i : Int32} (n : Nat) (e : i = nI n) (h : n < 6) (v : Int32) (hv : σ.2.1 95 n = v) (d : decode cc pc = .ok (.iaload, 1)) (k : J X ce sl (cX g kk σ) lv (pc + 1) (.int v :: st)) : J X ce sl (cX g kk σ) lv pc (.int i :: .ref (g 95) :: st) := by
  subst hv
  refine j_iald C 95 (f := σ.2.1 95) rfl (vp_inN e h (by decide)) d ?_
  rw [clN e (by omega)]
  exact k
theorem tX_95 {X : jC} {cc : ByteArray} {own : String} {R : Room} {kk : Nat → Nat} {nL : Nat} (C : jF X cc own R kk nL) {g : Nat → Nat} {σ : St} {ce sl : Nat} {lv : List (Nat × Value)} {pc : Nat} {st : List Value} {i : Int32} {x : Int32} (n : Nat) (e : i = nI n) (h : n < 6) (d : decode cc pc = .ok (.iastore, 1)) (k : J X ce sl (cX g kk (sF σ 95 (upd (σ.2.1 95) n x))) lv (pc + 1) st) : J X ce sl (cX g kk σ) lv pc (.int x :: .int i :: .ref (g 95) :: st) := by
  refine j_iast C 95 (f := σ.2.1 95) rfl (vp_inN e h (by decide)) (w' := cX g kk (sF σ 95 (upd (σ.2.1 95) n x))) ?_ d k
  rw [clN e (by omega)]
  rfl
theorem rX_96 {X : jC} {cc : ByteArray} {own : String} {R : Room} {kk : Nat → Nat} {nL : Nat} (C : jF X cc own R kk nL) {g : Nat → Nat} {σ : St} {ce sl : Nat} {lv : List (Nat × Value)} {pc : Nat} {st : List Value} {i : Int32} (n : Nat) (e : i = nI n) (h : n < 6) (v : Int32) (hv : σ.2.1 96 n = v) (d : decode cc pc = .ok (.iaload, 1)) (k : J X ce sl (cX g kk σ) lv (pc + 1) (.int v :: st)) : J X ce sl (cX g kk σ) lv pc (.int i :: .ref (g 96) :: st) := by
  subst hv
  refine j_iald C 96 (f := σ.2.1 96) rfl (vp_inN e h (by decide)) d ?_
  rw [clN e (by omega)]
  exact k
theorem tX_96 {X : jC} {cc : ByteArray} {own : String} {R : Room} {kk : Nat → Nat} {nL : Nat} (C : jF X cc own R kk nL) {g : Nat → Nat} {σ : St} {ce sl : Nat} {lv : List (Nat × Value)} {pc : Nat} {st : List Value} {i : Int32} {x : Int32} (n : Nat) (e : i = nI n) (h : n < 6) (d : decode cc pc = .ok (.iastore, 1)) (k : J X ce sl (cX g kk (sF σ 96 (upd (σ.2.1 96) n x))) lv (pc + 1) st) : J X ce sl (cX g kk σ) lv pc (.int x :: .int i :: .ref (g 96) :: st) := by
  refine j_iast C 96 (f := σ.2.1 96) rfl (vp_inN e h (by decide)) (w' := cX g kk (sF σ 96 (upd (σ.2.1 96) n x))) ?_ d k
  rw [clN e (by omega)]
  rfl
theorem rX_97 {X : jC} {cc : ByteArray} {own : String} {R : Room} {kk : Nat → Nat} {nL : Nat} (C : jF X cc own R kk nL) {g : Nat → Nat} {σ : St} {ce sl : Nat} {lv : List (Nat × Value)} {pc : Nat} {st : List Value} {i : Int32} (n : Nat) (e : i = nI n) (h : n < 6) (v : Int32) (hv : σ.2.1 97 n = v) (d : decode cc pc = .ok (.iaload, 1)) (k : J X ce sl (cX g kk σ) lv (pc + 1) (.int v :: st)) : J X ce sl (cX g kk σ) lv pc (.int i :: .ref (g 97) :: st) := by
  subst hv
  refine j_iald C 97 (f := σ.2.1 97) rfl (vp_inN e h (by decide)) d ?_
  rw [clN e (by omega)]
  exact k
theorem tX_97 {X : jC} {cc : ByteArray} {own : String} {R : Room} {kk : Nat → Nat} {nL : Nat} (C : jF X cc own R kk nL) {g : Nat → Nat} {σ : St} {ce sl : Nat} {lv : List (Nat × Value)} {pc : Nat} {st : List Value} {i : Int32} {x : Int32} (n : Nat) (e : i = nI n) (h : n < 6) (d : decode cc pc = .ok (.iastore, 1)) (k : J X ce sl (cX g kk (sF σ 97 (upd (σ.2.1 97) n x))) lv (pc + 1) st) : J X ce sl (cX g kk σ) lv pc (.int x :: .int i :: .ref (g 97) :: st) := by
  refine j_iast C 97 (f := σ.2.1 97) rfl (vp_inN e h (by decide)) (w' := cX g kk (sF σ 97 (upd (σ.2.1 97) n x))) ?_ d k
  rw [clN e (by omega)]
  rfl
theorem rX_98 {X : jC} {cc : ByteArray} {own : String} {R : Room} {kk : Nat → Nat} {nL : Nat} (C : jF X cc own R kk nL) {g : Nat → Nat} {σ : St} {ce sl : Nat} {lv : List (Nat × Value)} {pc : Nat} {st : List Value} {i : Int32} (n : Nat) (e : i = nI n) (h : n < 2) (v : Int32) (hv : σ.2.1 98 n = v) (d : decode cc pc = .ok (.baload, 1)) (k : J X ce sl (cX g kk σ) lv (pc + 1) (.int v :: st)) : J X ce sl (cX g kk σ) lv pc (.int i :: .ref (g 98) :: st) := by
  subst hv
  refine j_zald C 98 (f := σ.2.1 98) rfl (vp_inN e h (by decide)) d ?_
  rw [clN e (by omega)]
  exact k
theorem tX_98 {X : jC} {cc : ByteArray} {own : String} {R : Room} {kk : Nat → Nat} {nL : Nat} (C : jF X cc own R kk nL) {g : Nat → Nat} {σ : St} {ce sl : Nat} {lv : List (Nat × Value)} {pc : Nat} {st : List Value} {i : Int32} {x : Int32} (n : Nat) (e : i = nI n) (h : n < 2) (d : decode cc pc = .ok (.bastore, 1)) (k : J X ce sl (cX g kk (sF σ 98 (upd (σ.2.1 98) n (vp_nar .boolean x)))) lv (pc + 1) st) : J X ce sl (cX g kk σ) lv pc (.int x :: .int i :: .ref (g 98) :: st) := by
  refine j_zast C 98 (f := σ.2.1 98) rfl (vp_inN e h (by decide)) (w' := cX g kk (sF σ 98 (upd (σ.2.1 98) n (vp_nar .boolean x)))) ?_ d k
  rw [clN e (by omega)]
  rfl
theorem eM_0 (g : Nat → Nat) (kk : Nat → Nat) (σ : St) : (cM g kk σ)[0]? = some (g 0, .inr (11, [.ref (g 1), .ref (g 2), .ref (g 3), .int (σ.1 3), .ref (g 4), .ref (g 5), .ref (g 6), .ref (g 7), .ref (g 8), .int (σ.1 9), .int (σ.1 10), .int (σ.1 11), .int (σ.1 12), .int (σ.1 13), .ref (g 9), .int (σ.1 15), .ref (g 10), .ref (g 11), .ref (g 12), .ref (g 13), .ref (g 14), .ref (g 15), .ref (g 16), .ref (g 17), .ref (g 18), .ref (g 19), .ref (g 20), .ref (g 21), .ref (g 22), .ref (g 23), .int (σ.1 30), .int (σ.1 31), .int (σ.1 32), .int (σ.1 33), .ref (g 24), .ref (g 25), .int (σ.1 36), .int (σ.1 37), .long (σ.2.2.1 38), .long (σ.2.2.1 39), .long (σ.2.2.1 40), .ref (g 26), .ref (g 27), .ref (g 28), .ref (g 29), .ref (g 30), .int (σ.1 46), .int (σ.1 47), .int (σ.1 48), .int (σ.1 49), .int (σ.1 50), .int (σ.1 51), .int (σ.1 52), .ref (g 31), .ref (g 32), .ref (g 33), .int (σ.1 56), .int (σ.1 57)])) := rfl
theorem gM_0_0 {X : jC} {cc : ByteArray} {own : String} {R : Room} {kk : Nat → Nat} {nL : Nat} (C : jF X cc own R kk nL) {g : Nat → Nat} {σ : St} {ce sl : Nat} {lv : List (Nat × Value)} {pc : Nat} {st : List Value} {index : Nat} (hl : Cond.fieldLink own index "RainCansModel" "canX" "[I" ∈ lw_tbl)  (d : decode cc pc = .ok (.getfield index, 3)) (k : J X ce sl (cM g kk σ) lv (pc + 3) (.ref (g 1) :: st)) : J X ce sl (cM g kk σ) lv pc (.ref (g 0) :: st) := by
  exact j_get C inX11 gdX11 rfl 0 (by decide) rfl hl 0 (eM_0 g kk σ) rfl d k
theorem gM_0_1 {X : jC} {cc : ByteArray} {own : String} {R : Room} {kk : Nat → Nat} {nL : Nat} (C : jF X cc own R kk nL) {g : Nat → Nat} {σ : St} {ce sl : Nat} {lv : List (Nat × Value)} {pc : Nat} {st : List Value} {index : Nat} (hl : Cond.fieldLink own index "RainCansModel" "canY" "[I" ∈ lw_tbl)  (d : decode cc pc = .ok (.getfield index, 3)) (k : J X ce sl (cM g kk σ) lv (pc + 3) (.ref (g 2) :: st)) : J X ce sl (cM g kk σ) lv pc (.ref (g 0) :: st) := by
  exact j_get C inX11 gdX11 rfl 1 (by decide) rfl hl 0 (eM_0 g kk σ) rfl d k
theorem gM_0_2 {X : jC} {cc : ByteArray} {own : String} {R : Room} {kk : Nat → Nat} {nL : Nat} (C : jF X cc own R kk nL) {g : Nat → Nat} {σ : St} {ce sl : Nat} {lv : List (Nat × Value)} {pc : Nat} {st : List Value} {index : Nat} (hl : Cond.fieldLink own index "RainCansModel" "misses" "[I" ∈ lw_tbl)  (d : decode cc pc = .ok (.getfield index, 3)) (k : J X ce sl (cM g kk σ) lv (pc + 3) (.ref (g 3) :: st)) : J X ce sl (cM g kk σ) lv pc (.ref (g 0) :: st) := by
  exact j_get C inX11 gdX11 rfl 2 (by decide) rfl hl 0 (eM_0 g kk σ) rfl d k
theorem gM_0_3 {X : jC} {cc : ByteArray} {own : String} {R : Room} {kk : Nat → Nat} {nL : Nat} (C : jF X cc own R kk nL) {g : Nat → Nat} {σ : St} {ce sl : Nat} {lv : List (Nat × Value)} {pc : Nat} {st : List Value} {index : Nat} (hl : Cond.fieldLink own index "RainCansModel" "cans" "I" ∈ lw_tbl) (v : Int32) (hv : σ.1 3 = v) (d : decode cc pc = .ok (.getfield index, 3)) (k : J X ce sl (cM g kk σ) lv (pc + 3) (.int v :: st)) : J X ce sl (cM g kk σ) lv pc (.ref (g 0) :: st) := by
  subst hv
  exact j_get C inX11 gdX11 rfl 3 (by decide) rfl hl 0 (eM_0 g kk σ) rfl d k
theorem pM_0_3 {X : jC} {cc : ByteArray} {own : String} {R : Room} {kk : Nat → Nat} {nL : Nat} (C : jF X cc own R kk nL) {g : Nat → Nat} {σ : St} {ce sl : Nat} {lv : List (Nat × Value)} {pc : Nat} {st : List Value} {index : Nat} (hl : Cond.fieldLink own index "RainCansModel" "cans" "I" ∈ lw_tbl) {v : Int32} (d : decode cc pc = .ok (.putfield index, 3)) (k : J X ce sl (cM g kk (sI σ 3 v)) lv (pc + 3) st) : J X ce sl (cM g kk σ) lv pc (.int v :: .ref (g 0) :: st) :=
  j_put (ty := .int) C inX11 gdX11 tyX11_ok nmX11 rfl 3 (by decide) rfl hl rfl (by decide +kernel) 0 (eM_0 g kk σ) rfl rfl (Nat.le_of_ble_eq_true rfl) (w' := cM g kk (sI σ 3 v)) rfl d k
theorem gM_0_4 {X : jC} {cc : ByteArray} {own : String} {R : Room} {kk : Nat → Nat} {nL : Nat} (C : jF X cc own R kk nL) {g : Nat → Nat} {σ : St} {ce sl : Nat} {lv : List (Nat × Value)} {pc : Nat} {st : List Value} {index : Nat} (hl : Cond.fieldLink own index "RainCansModel" "winds" "[I" ∈ lw_tbl)  (d : decode cc pc = .ok (.getfield index, 3)) (k : J X ce sl (cM g kk σ) lv (pc + 3) (.ref (g 4) :: st)) : J X ce sl (cM g kk σ) lv pc (.ref (g 0) :: st) := by
  exact j_get C inX11 gdX11 rfl 4 (by decide) rfl hl 0 (eM_0 g kk σ) rfl d k
theorem gM_0_5 {X : jC} {cc : ByteArray} {own : String} {R : Room} {kk : Nat → Nat} {nL : Nat} (C : jF X cc own R kk nL) {g : Nat → Nat} {σ : St} {ce sl : Nat} {lv : List (Nat × Value)} {pc : Nat} {st : List Value} {index : Nat} (hl : Cond.fieldLink own index "RainCansModel" "raws" "[I" ∈ lw_tbl)  (d : decode cc pc = .ok (.getfield index, 3)) (k : J X ce sl (cM g kk σ) lv (pc + 3) (.ref (g 5) :: st)) : J X ce sl (cM g kk σ) lv pc (.ref (g 0) :: st) := by
  exact j_get C inX11 gdX11 rfl 5 (by decide) rfl hl 0 (eM_0 g kk σ) rfl d k
theorem gM_0_6 {X : jC} {cc : ByteArray} {own : String} {R : Room} {kk : Nat → Nat} {nL : Nat} (C : jF X cc own R kk nL) {g : Nat → Nat} {σ : St} {ce sl : Nat} {lv : List (Nat × Value)} {pc : Nat} {st : List Value} {index : Nat} (hl : Cond.fieldLink own index "RainCansModel" "fixCan" "[I" ∈ lw_tbl)  (d : decode cc pc = .ok (.getfield index, 3)) (k : J X ce sl (cM g kk σ) lv (pc + 3) (.ref (g 6) :: st)) : J X ce sl (cM g kk σ) lv pc (.ref (g 0) :: st) := by
  exact j_get C inX11 gdX11 rfl 6 (by decide) rfl hl 0 (eM_0 g kk σ) rfl d k
theorem gM_0_7 {X : jC} {cc : ByteArray} {own : String} {R : Room} {kk : Nat → Nat} {nL : Nat} (C : jF X cc own R kk nL) {g : Nat → Nat} {σ : St} {ce sl : Nat} {lv : List (Nat × Value)} {pc : Nat} {st : List Value} {index : Nat} (hl : Cond.fieldLink own index "RainCansModel" "fixDay" "[I" ∈ lw_tbl)  (d : decode cc pc = .ok (.getfield index, 3)) (k : J X ce sl (cM g kk σ) lv (pc + 3) (.ref (g 7) :: st)) : J X ce sl (cM g kk σ) lv pc (.ref (g 0) :: st) := by
  exact j_get C inX11 gdX11 rfl 7 (by decide) rfl hl 0 (eM_0 g kk σ) rfl d k
theorem gM_0_8 {X : jC} {cc : ByteArray} {own : String} {R : Room} {kk : Nat → Nat} {nL : Nat} (C : jF X cc own R kk nL) {g : Nat → Nat} {σ : St} {ce sl : Nat} {lv : List (Nat × Value)} {pc : Nat} {st : List Value} {index : Nat} (hl : Cond.fieldLink own index "RainCansModel" "fixTo" "[I" ∈ lw_tbl)  (d : decode cc pc = .ok (.getfield index, 3)) (k : J X ce sl (cM g kk σ) lv (pc + 3) (.ref (g 8) :: st)) : J X ce sl (cM g kk σ) lv pc (.ref (g 0) :: st) := by
  exact j_get C inX11 gdX11 rfl 8 (by decide) rfl hl 0 (eM_0 g kk σ) rfl d k
theorem gM_0_9 {X : jC} {cc : ByteArray} {own : String} {R : Room} {kk : Nat → Nat} {nL : Nat} (C : jF X cc own R kk nL) {g : Nat → Nat} {σ : St} {ce sl : Nat} {lv : List (Nat × Value)} {pc : Nat} {st : List Value} {index : Nat} (hl : Cond.fieldLink own index "RainCansModel" "fixes" "I" ∈ lw_tbl) (v : Int32) (hv : σ.1 9 = v) (d : decode cc pc = .ok (.getfield index, 3)) (k : J X ce sl (cM g kk σ) lv (pc + 3) (.int v :: st)) : J X ce sl (cM g kk σ) lv pc (.ref (g 0) :: st) := by
  subst hv
  exact j_get C inX11 gdX11 rfl 9 (by decide) rfl hl 0 (eM_0 g kk σ) rfl d k
theorem pM_0_9 {X : jC} {cc : ByteArray} {own : String} {R : Room} {kk : Nat → Nat} {nL : Nat} (C : jF X cc own R kk nL) {g : Nat → Nat} {σ : St} {ce sl : Nat} {lv : List (Nat × Value)} {pc : Nat} {st : List Value} {index : Nat} (hl : Cond.fieldLink own index "RainCansModel" "fixes" "I" ∈ lw_tbl) {v : Int32} (d : decode cc pc = .ok (.putfield index, 3)) (k : J X ce sl (cM g kk (sI σ 9 v)) lv (pc + 3) st) : J X ce sl (cM g kk σ) lv pc (.int v :: .ref (g 0) :: st) :=
  j_put (ty := .int) C inX11 gdX11 tyX11_ok nmX11 rfl 9 (by decide) rfl hl rfl (by decide +kernel) 0 (eM_0 g kk σ) rfl rfl (Nat.le_of_ble_eq_true rfl) (w' := cM g kk (sI σ 9 v)) rfl d k
theorem gM_0_10 {X : jC} {cc : ByteArray} {own : String} {R : Room} {kk : Nat → Nat} {nL : Nat} (C : jF X cc own R kk nL) {g : Nat → Nat} {σ : St} {ce sl : Nat} {lv : List (Nat × Value)} {pc : Nat} {st : List Value} {index : Nat} (hl : Cond.fieldLink own index "RainCansModel" "reachIs" "I" ∈ lw_tbl) (v : Int32) (hv : σ.1 10 = v) (d : decode cc pc = .ok (.getfield index, 3)) (k : J X ce sl (cM g kk σ) lv (pc + 3) (.int v :: st)) : J X ce sl (cM g kk σ) lv pc (.ref (g 0) :: st) := by
  subst hv
  exact j_get C inX11 gdX11 rfl 10 (by decide) rfl hl 0 (eM_0 g kk σ) rfl d k
theorem pM_0_10 {X : jC} {cc : ByteArray} {own : String} {R : Room} {kk : Nat → Nat} {nL : Nat} (C : jF X cc own R kk nL) {g : Nat → Nat} {σ : St} {ce sl : Nat} {lv : List (Nat × Value)} {pc : Nat} {st : List Value} {index : Nat} (hl : Cond.fieldLink own index "RainCansModel" "reachIs" "I" ∈ lw_tbl) {v : Int32} (d : decode cc pc = .ok (.putfield index, 3)) (k : J X ce sl (cM g kk (sI σ 10 v)) lv (pc + 3) st) : J X ce sl (cM g kk σ) lv pc (.int v :: .ref (g 0) :: st) :=
  j_put (ty := .int) C inX11 gdX11 tyX11_ok nmX11 rfl 10 (by decide) rfl hl rfl (by decide +kernel) 0 (eM_0 g kk σ) rfl rfl (Nat.le_of_ble_eq_true rfl) (w' := cM g kk (sI σ 10 v)) rfl d k
theorem gM_0_11 {X : jC} {cc : ByteArray} {own : String} {R : Room} {kk : Nat → Nat} {nL : Nat} (C : jF X cc own R kk nL) {g : Nat → Nat} {σ : St} {ce sl : Nat} {lv : List (Nat × Value)} {pc : Nat} {st : List Value} {index : Nat} (hl : Cond.fieldLink own index "RainCansModel" "priceIs" "I" ∈ lw_tbl) (v : Int32) (hv : σ.1 11 = v) (d : decode cc pc = .ok (.getfield index, 3)) (k : J X ce sl (cM g kk σ) lv (pc + 3) (.int v :: st)) : J X ce sl (cM g kk σ) lv pc (.ref (g 0) :: st) := by
  subst hv
  exact j_get C inX11 gdX11 rfl 11 (by decide) rfl hl 0 (eM_0 g kk σ) rfl d k
theorem pM_0_11 {X : jC} {cc : ByteArray} {own : String} {R : Room} {kk : Nat → Nat} {nL : Nat} (C : jF X cc own R kk nL) {g : Nat → Nat} {σ : St} {ce sl : Nat} {lv : List (Nat × Value)} {pc : Nat} {st : List Value} {index : Nat} (hl : Cond.fieldLink own index "RainCansModel" "priceIs" "I" ∈ lw_tbl) {v : Int32} (d : decode cc pc = .ok (.putfield index, 3)) (k : J X ce sl (cM g kk (sI σ 11 v)) lv (pc + 3) st) : J X ce sl (cM g kk σ) lv pc (.int v :: .ref (g 0) :: st) :=
  j_put (ty := .int) C inX11 gdX11 tyX11_ok nmX11 rfl 11 (by decide) rfl hl rfl (by decide +kernel) 0 (eM_0 g kk σ) rfl rfl (Nat.le_of_ble_eq_true rfl) (w' := cM g kk (sI σ 11 v)) rfl d k
theorem gM_0_12 {X : jC} {cc : ByteArray} {own : String} {R : Room} {kk : Nat → Nat} {nL : Nat} (C : jF X cc own R kk nL) {g : Nat → Nat} {σ : St} {ce sl : Nat} {lv : List (Nat × Value)} {pc : Nat} {st : List Value} {index : Nat} (hl : Cond.fieldLink own index "RainCansModel" "slopeIs" "I" ∈ lw_tbl) (v : Int32) (hv : σ.1 12 = v) (d : decode cc pc = .ok (.getfield index, 3)) (k : J X ce sl (cM g kk σ) lv (pc + 3) (.int v :: st)) : J X ce sl (cM g kk σ) lv pc (.ref (g 0) :: st) := by
  subst hv
  exact j_get C inX11 gdX11 rfl 12 (by decide) rfl hl 0 (eM_0 g kk σ) rfl d k
theorem pM_0_12 {X : jC} {cc : ByteArray} {own : String} {R : Room} {kk : Nat → Nat} {nL : Nat} (C : jF X cc own R kk nL) {g : Nat → Nat} {σ : St} {ce sl : Nat} {lv : List (Nat × Value)} {pc : Nat} {st : List Value} {index : Nat} (hl : Cond.fieldLink own index "RainCansModel" "slopeIs" "I" ∈ lw_tbl) {v : Int32} (d : decode cc pc = .ok (.putfield index, 3)) (k : J X ce sl (cM g kk (sI σ 12 v)) lv (pc + 3) st) : J X ce sl (cM g kk σ) lv pc (.int v :: .ref (g 0) :: st) :=
  j_put (ty := .int) C inX11 gdX11 tyX11_ok nmX11 rfl 12 (by decide) rfl hl rfl (by decide +kernel) 0 (eM_0 g kk σ) rfl rfl (Nat.le_of_ble_eq_true rfl) (w' := cM g kk (sI σ 12 v)) rfl d k
theorem gM_0_13 {X : jC} {cc : ByteArray} {own : String} {R : Room} {kk : Nat → Nat} {nL : Nat} (C : jF X cc own R kk nL) {g : Nat → Nat} {σ : St} {ce sl : Nat} {lv : List (Nat × Value)} {pc : Nat} {st : List Value} {index : Nat} (hl : Cond.fieldLink own index "RainCansModel" "doubtIs" "I" ∈ lw_tbl) (v : Int32) (hv : σ.1 13 = v) (d : decode cc pc = .ok (.getfield index, 3)) (k : J X ce sl (cM g kk σ) lv (pc + 3) (.int v :: st)) : J X ce sl (cM g kk σ) lv pc (.ref (g 0) :: st) := by
  subst hv
  exact j_get C inX11 gdX11 rfl 13 (by decide) rfl hl 0 (eM_0 g kk σ) rfl d k
theorem pM_0_13 {X : jC} {cc : ByteArray} {own : String} {R : Room} {kk : Nat → Nat} {nL : Nat} (C : jF X cc own R kk nL) {g : Nat → Nat} {σ : St} {ce sl : Nat} {lv : List (Nat × Value)} {pc : Nat} {st : List Value} {index : Nat} (hl : Cond.fieldLink own index "RainCansModel" "doubtIs" "I" ∈ lw_tbl) {v : Int32} (d : decode cc pc = .ok (.putfield index, 3)) (k : J X ce sl (cM g kk (sI σ 13 v)) lv (pc + 3) st) : J X ce sl (cM g kk σ) lv pc (.int v :: .ref (g 0) :: st) :=
  j_put (ty := .int) C inX11 gdX11 tyX11_ok nmX11 rfl 13 (by decide) rfl hl rfl (by decide +kernel) 0 (eM_0 g kk σ) rfl rfl (Nat.le_of_ble_eq_true rfl) (w' := cM g kk (sI σ 13 v)) rfl d k
theorem gM_0_14 {X : jC} {cc : ByteArray} {own : String} {R : Room} {kk : Nat → Nat} {nL : Nat} (C : jF X cc own R kk nL) {g : Nat → Nat} {σ : St} {ce sl : Nat} {lv : List (Nat × Value)} {pc : Nat} {st : List Value} {index : Nat} (hl : Cond.fieldLink own index "RainCansModel" "signs" "[I" ∈ lw_tbl)  (d : decode cc pc = .ok (.getfield index, 3)) (k : J X ce sl (cM g kk σ) lv (pc + 3) (.ref (g 9) :: st)) : J X ce sl (cM g kk σ) lv pc (.ref (g 0) :: st) := by
  exact j_get C inX11 gdX11 rfl 14 (by decide) rfl hl 0 (eM_0 g kk σ) rfl d k
theorem gM_0_15 {X : jC} {cc : ByteArray} {own : String} {R : Room} {kk : Nat → Nat} {nL : Nat} (C : jF X cc own R kk nL) {g : Nat → Nat} {σ : St} {ce sl : Nat} {lv : List (Nat × Value)} {pc : Nat} {st : List Value} {index : Nat} (hl : Cond.fieldLink own index "RainCansModel" "signMany" "I" ∈ lw_tbl) (v : Int32) (hv : σ.1 15 = v) (d : decode cc pc = .ok (.getfield index, 3)) (k : J X ce sl (cM g kk σ) lv (pc + 3) (.int v :: st)) : J X ce sl (cM g kk σ) lv pc (.ref (g 0) :: st) := by
  subst hv
  exact j_get C inX11 gdX11 rfl 15 (by decide) rfl hl 0 (eM_0 g kk σ) rfl d k
theorem pM_0_15 {X : jC} {cc : ByteArray} {own : String} {R : Room} {kk : Nat → Nat} {nL : Nat} (C : jF X cc own R kk nL) {g : Nat → Nat} {σ : St} {ce sl : Nat} {lv : List (Nat × Value)} {pc : Nat} {st : List Value} {index : Nat} (hl : Cond.fieldLink own index "RainCansModel" "signMany" "I" ∈ lw_tbl) {v : Int32} (d : decode cc pc = .ok (.putfield index, 3)) (k : J X ce sl (cM g kk (sI σ 15 v)) lv (pc + 3) st) : J X ce sl (cM g kk σ) lv pc (.int v :: .ref (g 0) :: st) :=
  j_put (ty := .int) C inX11 gdX11 tyX11_ok nmX11 rfl 15 (by decide) rfl hl rfl (by decide +kernel) 0 (eM_0 g kk σ) rfl rfl (Nat.le_of_ble_eq_true rfl) (w' := cM g kk (sI σ 15 v)) rfl d k
theorem gM_0_16 {X : jC} {cc : ByteArray} {own : String} {R : Room} {kk : Nat → Nat} {nL : Nat} (C : jF X cc own R kk nL) {g : Nat → Nat} {σ : St} {ce sl : Nat} {lv : List (Nat × Value)} {pc : Nat} {st : List Value} {index : Nat} (hl : Cond.fieldLink own index "RainCansModel" "kinds" "[I" ∈ lw_tbl)  (d : decode cc pc = .ok (.getfield index, 3)) (k : J X ce sl (cM g kk σ) lv (pc + 3) (.ref (g 10) :: st)) : J X ce sl (cM g kk σ) lv pc (.ref (g 0) :: st) := by
  exact j_get C inX11 gdX11 rfl 16 (by decide) rfl hl 0 (eM_0 g kk σ) rfl d k
theorem gM_0_17 {X : jC} {cc : ByteArray} {own : String} {R : Room} {kk : Nat → Nat} {nL : Nat} (C : jF X cc own R kk nL) {g : Nat → Nat} {σ : St} {ce sl : Nat} {lv : List (Nat × Value)} {pc : Nat} {st : List Value} {index : Nat} (hl : Cond.fieldLink own index "RainCansModel" "firstOf" "[I" ∈ lw_tbl)  (d : decode cc pc = .ok (.getfield index, 3)) (k : J X ce sl (cM g kk σ) lv (pc + 3) (.ref (g 11) :: st)) : J X ce sl (cM g kk σ) lv pc (.ref (g 0) :: st) := by
  exact j_get C inX11 gdX11 rfl 17 (by decide) rfl hl 0 (eM_0 g kk σ) rfl d k
theorem gM_0_18 {X : jC} {cc : ByteArray} {own : String} {R : Room} {kk : Nat → Nat} {nL : Nat} (C : jF X cc own R kk nL) {g : Nat → Nat} {σ : St} {ce sl : Nat} {lv : List (Nat × Value)} {pc : Nat} {st : List Value} {index : Nat} (hl : Cond.fieldLink own index "RainCansModel" "lastOf" "[I" ∈ lw_tbl)  (d : decode cc pc = .ok (.getfield index, 3)) (k : J X ce sl (cM g kk σ) lv (pc + 3) (.ref (g 12) :: st)) : J X ce sl (cM g kk σ) lv pc (.ref (g 0) :: st) := by
  exact j_get C inX11 gdX11 rfl 18 (by decide) rfl hl 0 (eM_0 g kk σ) rfl d k
theorem gM_0_19 {X : jC} {cc : ByteArray} {own : String} {R : Room} {kk : Nat → Nat} {nL : Nat} (C : jF X cc own R kk nL) {g : Nat → Nat} {σ : St} {ce sl : Nat} {lv : List (Nat × Value)} {pc : Nat} {st : List Value} {index : Nat} (hl : Cond.fieldLink own index "RainCansModel" "newKinds" "[I" ∈ lw_tbl)  (d : decode cc pc = .ok (.getfield index, 3)) (k : J X ce sl (cM g kk σ) lv (pc + 3) (.ref (g 13) :: st)) : J X ce sl (cM g kk σ) lv pc (.ref (g 0) :: st) := by
  exact j_get C inX11 gdX11 rfl 19 (by decide) rfl hl 0 (eM_0 g kk σ) rfl d k
theorem gM_0_20 {X : jC} {cc : ByteArray} {own : String} {R : Room} {kk : Nat → Nat} {nL : Nat} (C : jF X cc own R kk nL) {g : Nat → Nat} {σ : St} {ce sl : Nat} {lv : List (Nat × Value)} {pc : Nat} {st : List Value} {index : Nat} (hl : Cond.fieldLink own index "RainCansModel" "newFirst" "[I" ∈ lw_tbl)  (d : decode cc pc = .ok (.getfield index, 3)) (k : J X ce sl (cM g kk σ) lv (pc + 3) (.ref (g 14) :: st)) : J X ce sl (cM g kk σ) lv pc (.ref (g 0) :: st) := by
  exact j_get C inX11 gdX11 rfl 20 (by decide) rfl hl 0 (eM_0 g kk σ) rfl d k
theorem gM_0_21 {X : jC} {cc : ByteArray} {own : String} {R : Room} {kk : Nat → Nat} {nL : Nat} (C : jF X cc own R kk nL) {g : Nat → Nat} {σ : St} {ce sl : Nat} {lv : List (Nat × Value)} {pc : Nat} {st : List Value} {index : Nat} (hl : Cond.fieldLink own index "RainCansModel" "newLast" "[I" ∈ lw_tbl)  (d : decode cc pc = .ok (.getfield index, 3)) (k : J X ce sl (cM g kk σ) lv (pc + 3) (.ref (g 15) :: st)) : J X ce sl (cM g kk σ) lv pc (.ref (g 0) :: st) := by
  exact j_get C inX11 gdX11 rfl 21 (by decide) rfl hl 0 (eM_0 g kk σ) rfl d k
theorem gM_0_22 {X : jC} {cc : ByteArray} {own : String} {R : Room} {kk : Nat → Nat} {nL : Nat} (C : jF X cc own R kk nL) {g : Nat → Nat} {σ : St} {ce sl : Nat} {lv : List (Nat × Value)} {pc : Nat} {st : List Value} {index : Nat} (hl : Cond.fieldLink own index "RainCansModel" "plains" "[I" ∈ lw_tbl)  (d : decode cc pc = .ok (.getfield index, 3)) (k : J X ce sl (cM g kk σ) lv (pc + 3) (.ref (g 16) :: st)) : J X ce sl (cM g kk σ) lv pc (.ref (g 0) :: st) := by
  exact j_get C inX11 gdX11 rfl 22 (by decide) rfl hl 0 (eM_0 g kk σ) rfl d k
theorem gM_0_23 {X : jC} {cc : ByteArray} {own : String} {R : Room} {kk : Nat → Nat} {nL : Nat} (C : jF X cc own R kk nL) {g : Nat → Nat} {σ : St} {ce sl : Nat} {lv : List (Nat × Value)} {pc : Nat} {st : List Value} {index : Nat} (hl : Cond.fieldLink own index "RainCansModel" "expects" "[I" ∈ lw_tbl)  (d : decode cc pc = .ok (.getfield index, 3)) (k : J X ce sl (cM g kk σ) lv (pc + 3) (.ref (g 17) :: st)) : J X ce sl (cM g kk σ) lv pc (.ref (g 0) :: st) := by
  exact j_get C inX11 gdX11 rfl 23 (by decide) rfl hl 0 (eM_0 g kk σ) rfl d k
theorem gM_0_24 {X : jC} {cc : ByteArray} {own : String} {R : Room} {kk : Nat → Nat} {nL : Nat} (C : jF X cc own R kk nL) {g : Nat → Nat} {σ : St} {ce sl : Nat} {lv : List (Nat × Value)} {pc : Nat} {st : List Value} {index : Nat} (hl : Cond.fieldLink own index "RainCansModel" "values" "[I" ∈ lw_tbl)  (d : decode cc pc = .ok (.getfield index, 3)) (k : J X ce sl (cM g kk σ) lv (pc + 3) (.ref (g 18) :: st)) : J X ce sl (cM g kk σ) lv pc (.ref (g 0) :: st) := by
  exact j_get C inX11 gdX11 rfl 24 (by decide) rfl hl 0 (eM_0 g kk σ) rfl d k
theorem gM_0_25 {X : jC} {cc : ByteArray} {own : String} {R : Room} {kk : Nat → Nat} {nL : Nat} (C : jF X cc own R kk nL) {g : Nat → Nat} {σ : St} {ce sl : Nat} {lv : List (Nat × Value)} {pc : Nat} {st : List Value} {index : Nat} (hl : Cond.fieldLink own index "RainCansModel" "rows" "[I" ∈ lw_tbl)  (d : decode cc pc = .ok (.getfield index, 3)) (k : J X ce sl (cM g kk σ) lv (pc + 3) (.ref (g 19) :: st)) : J X ce sl (cM g kk σ) lv pc (.ref (g 0) :: st) := by
  exact j_get C inX11 gdX11 rfl 25 (by decide) rfl hl 0 (eM_0 g kk σ) rfl d k
theorem gM_0_26 {X : jC} {cc : ByteArray} {own : String} {R : Room} {kk : Nat → Nat} {nL : Nat} (C : jF X cc own R kk nL) {g : Nat → Nat} {σ : St} {ce sl : Nat} {lv : List (Nat × Value)} {pc : Nat} {st : List Value} {index : Nat} (hl : Cond.fieldLink own index "RainCansModel" "hoped" "[I" ∈ lw_tbl)  (d : decode cc pc = .ok (.getfield index, 3)) (k : J X ce sl (cM g kk σ) lv (pc + 3) (.ref (g 20) :: st)) : J X ce sl (cM g kk σ) lv pc (.ref (g 0) :: st) := by
  exact j_get C inX11 gdX11 rfl 26 (by decide) rfl hl 0 (eM_0 g kk σ) rfl d k
theorem gM_0_27 {X : jC} {cc : ByteArray} {own : String} {R : Room} {kk : Nat → Nat} {nL : Nat} (C : jF X cc own R kk nL) {g : Nat → Nat} {σ : St} {ce sl : Nat} {lv : List (Nat × Value)} {pc : Nat} {st : List Value} {index : Nat} (hl : Cond.fieldLink own index "RainCansModel" "mendKind" "[I" ∈ lw_tbl)  (d : decode cc pc = .ok (.getfield index, 3)) (k : J X ce sl (cM g kk σ) lv (pc + 3) (.ref (g 21) :: st)) : J X ce sl (cM g kk σ) lv pc (.ref (g 0) :: st) := by
  exact j_get C inX11 gdX11 rfl 27 (by decide) rfl hl 0 (eM_0 g kk σ) rfl d k
theorem gM_0_28 {X : jC} {cc : ByteArray} {own : String} {R : Room} {kk : Nat → Nat} {nL : Nat} (C : jF X cc own R kk nL) {g : Nat → Nat} {σ : St} {ce sl : Nat} {lv : List (Nat × Value)} {pc : Nat} {st : List Value} {index : Nat} (hl : Cond.fieldLink own index "RainCansModel" "mendFrom" "[I" ∈ lw_tbl)  (d : decode cc pc = .ok (.getfield index, 3)) (k : J X ce sl (cM g kk σ) lv (pc + 3) (.ref (g 22) :: st)) : J X ce sl (cM g kk σ) lv pc (.ref (g 0) :: st) := by
  exact j_get C inX11 gdX11 rfl 28 (by decide) rfl hl 0 (eM_0 g kk σ) rfl d k
theorem gM_0_29 {X : jC} {cc : ByteArray} {own : String} {R : Room} {kk : Nat → Nat} {nL : Nat} (C : jF X cc own R kk nL) {g : Nat → Nat} {σ : St} {ce sl : Nat} {lv : List (Nat × Value)} {pc : Nat} {st : List Value} {index : Nat} (hl : Cond.fieldLink own index "RainCansModel" "mendTo" "[I" ∈ lw_tbl)  (d : decode cc pc = .ok (.getfield index, 3)) (k : J X ce sl (cM g kk σ) lv (pc + 3) (.ref (g 23) :: st)) : J X ce sl (cM g kk σ) lv pc (.ref (g 0) :: st) := by
  exact j_get C inX11 gdX11 rfl 29 (by decide) rfl hl 0 (eM_0 g kk σ) rfl d k
theorem gM_0_30 {X : jC} {cc : ByteArray} {own : String} {R : Room} {kk : Nat → Nat} {nL : Nat} (C : jF X cc own R kk nL) {g : Nat → Nat} {σ : St} {ce sl : Nat} {lv : List (Nat × Value)} {pc : Nat} {st : List Value} {index : Nat} (hl : Cond.fieldLink own index "RainCansModel" "bestMisfit" "I" ∈ lw_tbl) (v : Int32) (hv : σ.1 30 = v) (d : decode cc pc = .ok (.getfield index, 3)) (k : J X ce sl (cM g kk σ) lv (pc + 3) (.int v :: st)) : J X ce sl (cM g kk σ) lv pc (.ref (g 0) :: st) := by
  subst hv
  exact j_get C inX11 gdX11 rfl 30 (by decide) rfl hl 0 (eM_0 g kk σ) rfl d k
theorem pM_0_30 {X : jC} {cc : ByteArray} {own : String} {R : Room} {kk : Nat → Nat} {nL : Nat} (C : jF X cc own R kk nL) {g : Nat → Nat} {σ : St} {ce sl : Nat} {lv : List (Nat × Value)} {pc : Nat} {st : List Value} {index : Nat} (hl : Cond.fieldLink own index "RainCansModel" "bestMisfit" "I" ∈ lw_tbl) {v : Int32} (d : decode cc pc = .ok (.putfield index, 3)) (k : J X ce sl (cM g kk (sI σ 30 v)) lv (pc + 3) st) : J X ce sl (cM g kk σ) lv pc (.int v :: .ref (g 0) :: st) :=
  j_put (ty := .int) C inX11 gdX11 tyX11_ok nmX11 rfl 30 (by decide) rfl hl rfl (by decide +kernel) 0 (eM_0 g kk σ) rfl rfl (Nat.le_of_ble_eq_true rfl) (w' := cM g kk (sI σ 30 v)) rfl d k
theorem gM_0_31 {X : jC} {cc : ByteArray} {own : String} {R : Room} {kk : Nat → Nat} {nL : Nat} (C : jF X cc own R kk nL) {g : Nat → Nat} {σ : St} {ce sl : Nat} {lv : List (Nat × Value)} {pc : Nat} {st : List Value} {index : Nat} (hl : Cond.fieldLink own index "RainCansModel" "bestMany" "I" ∈ lw_tbl) (v : Int32) (hv : σ.1 31 = v) (d : decode cc pc = .ok (.getfield index, 3)) (k : J X ce sl (cM g kk σ) lv (pc + 3) (.int v :: st)) : J X ce sl (cM g kk σ) lv pc (.ref (g 0) :: st) := by
  subst hv
  exact j_get C inX11 gdX11 rfl 31 (by decide) rfl hl 0 (eM_0 g kk σ) rfl d k
theorem pM_0_31 {X : jC} {cc : ByteArray} {own : String} {R : Room} {kk : Nat → Nat} {nL : Nat} (C : jF X cc own R kk nL) {g : Nat → Nat} {σ : St} {ce sl : Nat} {lv : List (Nat × Value)} {pc : Nat} {st : List Value} {index : Nat} (hl : Cond.fieldLink own index "RainCansModel" "bestMany" "I" ∈ lw_tbl) {v : Int32} (d : decode cc pc = .ok (.putfield index, 3)) (k : J X ce sl (cM g kk (sI σ 31 v)) lv (pc + 3) st) : J X ce sl (cM g kk σ) lv pc (.int v :: .ref (g 0) :: st) :=
  j_put (ty := .int) C inX11 gdX11 tyX11_ok nmX11 rfl 31 (by decide) rfl hl rfl (by decide +kernel) 0 (eM_0 g kk σ) rfl rfl (Nat.le_of_ble_eq_true rfl) (w' := cM g kk (sI σ 31 v)) rfl d k
theorem gM_0_32 {X : jC} {cc : ByteArray} {own : String} {R : Room} {kk : Nat → Nat} {nL : Nat} (C : jF X cc own R kk nL) {g : Nat → Nat} {σ : St} {ce sl : Nat} {lv : List (Nat × Value)} {pc : Nat} {st : List Value} {index : Nat} (hl : Cond.fieldLink own index "RainCansModel" "bestFirst" "I" ∈ lw_tbl) (v : Int32) (hv : σ.1 32 = v) (d : decode cc pc = .ok (.getfield index, 3)) (k : J X ce sl (cM g kk σ) lv (pc + 3) (.int v :: st)) : J X ce sl (cM g kk σ) lv pc (.ref (g 0) :: st) := by
  subst hv
  exact j_get C inX11 gdX11 rfl 32 (by decide) rfl hl 0 (eM_0 g kk σ) rfl d k
theorem pM_0_32 {X : jC} {cc : ByteArray} {own : String} {R : Room} {kk : Nat → Nat} {nL : Nat} (C : jF X cc own R kk nL) {g : Nat → Nat} {σ : St} {ce sl : Nat} {lv : List (Nat × Value)} {pc : Nat} {st : List Value} {index : Nat} (hl : Cond.fieldLink own index "RainCansModel" "bestFirst" "I" ∈ lw_tbl) {v : Int32} (d : decode cc pc = .ok (.putfield index, 3)) (k : J X ce sl (cM g kk (sI σ 32 v)) lv (pc + 3) st) : J X ce sl (cM g kk σ) lv pc (.int v :: .ref (g 0) :: st) :=
  j_put (ty := .int) C inX11 gdX11 tyX11_ok nmX11 rfl 32 (by decide) rfl hl rfl (by decide +kernel) 0 (eM_0 g kk σ) rfl rfl (Nat.le_of_ble_eq_true rfl) (w' := cM g kk (sI σ 32 v)) rfl d k
theorem gM_0_33 {X : jC} {cc : ByteArray} {own : String} {R : Room} {kk : Nat → Nat} {nL : Nat} (C : jF X cc own R kk nL) {g : Nat → Nat} {σ : St} {ce sl : Nat} {lv : List (Nat × Value)} {pc : Nat} {st : List Value} {index : Nat} (hl : Cond.fieldLink own index "RainCansModel" "bestSecond" "I" ∈ lw_tbl) (v : Int32) (hv : σ.1 33 = v) (d : decode cc pc = .ok (.getfield index, 3)) (k : J X ce sl (cM g kk σ) lv (pc + 3) (.int v :: st)) : J X ce sl (cM g kk σ) lv pc (.ref (g 0) :: st) := by
  subst hv
  exact j_get C inX11 gdX11 rfl 33 (by decide) rfl hl 0 (eM_0 g kk σ) rfl d k
theorem pM_0_33 {X : jC} {cc : ByteArray} {own : String} {R : Room} {kk : Nat → Nat} {nL : Nat} (C : jF X cc own R kk nL) {g : Nat → Nat} {σ : St} {ce sl : Nat} {lv : List (Nat × Value)} {pc : Nat} {st : List Value} {index : Nat} (hl : Cond.fieldLink own index "RainCansModel" "bestSecond" "I" ∈ lw_tbl) {v : Int32} (d : decode cc pc = .ok (.putfield index, 3)) (k : J X ce sl (cM g kk (sI σ 33 v)) lv (pc + 3) st) : J X ce sl (cM g kk σ) lv pc (.int v :: .ref (g 0) :: st) :=
  j_put (ty := .int) C inX11 gdX11 tyX11_ok nmX11 rfl 33 (by decide) rfl hl rfl (by decide +kernel) 0 (eM_0 g kk σ) rfl rfl (Nat.le_of_ble_eq_true rfl) (w' := cM g kk (sI σ 33 v)) rfl d k
theorem gM_0_34 {X : jC} {cc : ByteArray} {own : String} {R : Room} {kk : Nat → Nat} {nL : Nat} (C : jF X cc own R kk nL) {g : Nat → Nat} {σ : St} {ce sl : Nat} {lv : List (Nat × Value)} {pc : Nat} {st : List Value} {index : Nat} (hl : Cond.fieldLink own index "RainCansModel" "differences" "[I" ∈ lw_tbl)  (d : decode cc pc = .ok (.getfield index, 3)) (k : J X ce sl (cM g kk σ) lv (pc + 3) (.ref (g 24) :: st)) : J X ce sl (cM g kk σ) lv pc (.ref (g 0) :: st) := by
  exact j_get C inX11 gdX11 rfl 34 (by decide) rfl hl 0 (eM_0 g kk σ) rfl d k
theorem gM_0_35 {X : jC} {cc : ByteArray} {own : String} {R : Room} {kk : Nat → Nat} {nL : Nat} (C : jF X cc own R kk nL) {g : Nat → Nat} {σ : St} {ce sl : Nat} {lv : List (Nat × Value)} {pc : Nat} {st : List Value} {index : Nat} (hl : Cond.fieldLink own index "RainCansModel" "differenceDay" "[I" ∈ lw_tbl)  (d : decode cc pc = .ok (.getfield index, 3)) (k : J X ce sl (cM g kk σ) lv (pc + 3) (.ref (g 25) :: st)) : J X ce sl (cM g kk σ) lv pc (.ref (g 0) :: st) := by
  exact j_get C inX11 gdX11 rfl 35 (by decide) rfl hl 0 (eM_0 g kk σ) rfl d k
theorem gM_0_36 {X : jC} {cc : ByteArray} {own : String} {R : Room} {kk : Nat → Nat} {nL : Nat} (C : jF X cc own R kk nL) {g : Nat → Nat} {σ : St} {ce sl : Nat} {lv : List (Nat × Value)} {pc : Nat} {st : List Value} {index : Nat} (hl : Cond.fieldLink own index "RainCansModel" "differenceMany" "I" ∈ lw_tbl) (v : Int32) (hv : σ.1 36 = v) (d : decode cc pc = .ok (.getfield index, 3)) (k : J X ce sl (cM g kk σ) lv (pc + 3) (.int v :: st)) : J X ce sl (cM g kk σ) lv pc (.ref (g 0) :: st) := by
  subst hv
  exact j_get C inX11 gdX11 rfl 36 (by decide) rfl hl 0 (eM_0 g kk σ) rfl d k
theorem pM_0_36 {X : jC} {cc : ByteArray} {own : String} {R : Room} {kk : Nat → Nat} {nL : Nat} (C : jF X cc own R kk nL) {g : Nat → Nat} {σ : St} {ce sl : Nat} {lv : List (Nat × Value)} {pc : Nat} {st : List Value} {index : Nat} (hl : Cond.fieldLink own index "RainCansModel" "differenceMany" "I" ∈ lw_tbl) {v : Int32} (d : decode cc pc = .ok (.putfield index, 3)) (k : J X ce sl (cM g kk (sI σ 36 v)) lv (pc + 3) st) : J X ce sl (cM g kk σ) lv pc (.int v :: .ref (g 0) :: st) :=
  j_put (ty := .int) C inX11 gdX11 tyX11_ok nmX11 rfl 36 (by decide) rfl hl rfl (by decide +kernel) 0 (eM_0 g kk σ) rfl rfl (Nat.le_of_ble_eq_true rfl) (w' := cM g kk (sI σ 36 v)) rfl d k
theorem gM_0_37 {X : jC} {cc : ByteArray} {own : String} {R : Room} {kk : Nat → Nat} {nL : Nat} (C : jF X cc own R kk nL) {g : Nat → Nat} {σ : St} {ce sl : Nat} {lv : List (Nat × Value)} {pc : Nat} {st : List Value} {index : Nat} (hl : Cond.fieldLink own index "RainCansModel" "partAt" "I" ∈ lw_tbl) (v : Int32) (hv : σ.1 37 = v) (d : decode cc pc = .ok (.getfield index, 3)) (k : J X ce sl (cM g kk σ) lv (pc + 3) (.int v :: st)) : J X ce sl (cM g kk σ) lv pc (.ref (g 0) :: st) := by
  subst hv
  exact j_get C inX11 gdX11 rfl 37 (by decide) rfl hl 0 (eM_0 g kk σ) rfl d k
theorem pM_0_37 {X : jC} {cc : ByteArray} {own : String} {R : Room} {kk : Nat → Nat} {nL : Nat} (C : jF X cc own R kk nL) {g : Nat → Nat} {σ : St} {ce sl : Nat} {lv : List (Nat × Value)} {pc : Nat} {st : List Value} {index : Nat} (hl : Cond.fieldLink own index "RainCansModel" "partAt" "I" ∈ lw_tbl) {v : Int32} (d : decode cc pc = .ok (.putfield index, 3)) (k : J X ce sl (cM g kk (sI σ 37 v)) lv (pc + 3) st) : J X ce sl (cM g kk σ) lv pc (.int v :: .ref (g 0) :: st) :=
  j_put (ty := .int) C inX11 gdX11 tyX11_ok nmX11 rfl 37 (by decide) rfl hl rfl (by decide +kernel) 0 (eM_0 g kk σ) rfl rfl (Nat.le_of_ble_eq_true rfl) (w' := cM g kk (sI σ 37 v)) rfl d k
theorem gM_0_38 {X : jC} {cc : ByteArray} {own : String} {R : Room} {kk : Nat → Nat} {nL : Nat} (C : jF X cc own R kk nL) {g : Nat → Nat} {σ : St} {ce sl : Nat} {lv : List (Nat × Value)} {pc : Nat} {st : List Value} {index : Nat} (hl : Cond.fieldLink own index "RainCansModel" "partUpper" "J" ∈ lw_tbl) (v : Int64) (hv : σ.2.2.1 38 = v) (d : decode cc pc = .ok (.getfield index, 3)) (k : J X ce sl (cM g kk σ) lv (pc + 3) (.long v :: st)) : J X ce sl (cM g kk σ) lv pc (.ref (g 0) :: st) := by
  subst hv
  exact j_get C inX11 gdX11 rfl 38 (by decide) rfl hl 0 (eM_0 g kk σ) rfl d k
theorem pM_0_38 {X : jC} {cc : ByteArray} {own : String} {R : Room} {kk : Nat → Nat} {nL : Nat} (C : jF X cc own R kk nL) {g : Nat → Nat} {σ : St} {ce sl : Nat} {lv : List (Nat × Value)} {pc : Nat} {st : List Value} {index : Nat} (hl : Cond.fieldLink own index "RainCansModel" "partUpper" "J" ∈ lw_tbl) {v : Int64} (d : decode cc pc = .ok (.putfield index, 3)) (k : J X ce sl (cM g kk (sL σ 38 v)) lv (pc + 3) st) : J X ce sl (cM g kk σ) lv pc (.long v :: .ref (g 0) :: st) :=
  j_put (ty := .long) C inX11 gdX11 tyX11_ok nmX11 rfl 38 (by decide) rfl hl rfl (by decide +kernel) 0 (eM_0 g kk σ) rfl rfl (Nat.le_of_ble_eq_true rfl) (w' := cM g kk (sL σ 38 v)) rfl d k
theorem gM_0_39 {X : jC} {cc : ByteArray} {own : String} {R : Room} {kk : Nat → Nat} {nL : Nat} (C : jF X cc own R kk nL) {g : Nat → Nat} {σ : St} {ce sl : Nat} {lv : List (Nat × Value)} {pc : Nat} {st : List Value} {index : Nat} (hl : Cond.fieldLink own index "RainCansModel" "partLower" "J" ∈ lw_tbl) (v : Int64) (hv : σ.2.2.1 39 = v) (d : decode cc pc = .ok (.getfield index, 3)) (k : J X ce sl (cM g kk σ) lv (pc + 3) (.long v :: st)) : J X ce sl (cM g kk σ) lv pc (.ref (g 0) :: st) := by
  subst hv
  exact j_get C inX11 gdX11 rfl 39 (by decide) rfl hl 0 (eM_0 g kk σ) rfl d k
theorem pM_0_39 {X : jC} {cc : ByteArray} {own : String} {R : Room} {kk : Nat → Nat} {nL : Nat} (C : jF X cc own R kk nL) {g : Nat → Nat} {σ : St} {ce sl : Nat} {lv : List (Nat × Value)} {pc : Nat} {st : List Value} {index : Nat} (hl : Cond.fieldLink own index "RainCansModel" "partLower" "J" ∈ lw_tbl) {v : Int64} (d : decode cc pc = .ok (.putfield index, 3)) (k : J X ce sl (cM g kk (sL σ 39 v)) lv (pc + 3) st) : J X ce sl (cM g kk σ) lv pc (.long v :: .ref (g 0) :: st) :=
  j_put (ty := .long) C inX11 gdX11 tyX11_ok nmX11 rfl 39 (by decide) rfl hl rfl (by decide +kernel) 0 (eM_0 g kk σ) rfl rfl (Nat.le_of_ble_eq_true rfl) (w' := cM g kk (sL σ 39 v)) rfl d k
theorem gM_0_40 {X : jC} {cc : ByteArray} {own : String} {R : Room} {kk : Nat → Nat} {nL : Nat} (C : jF X cc own R kk nL) {g : Nat → Nat} {σ : St} {ce sl : Nat} {lv : List (Nat × Value)} {pc : Nat} {st : List Value} {index : Nat} (hl : Cond.fieldLink own index "RainCansModel" "partOff" "J" ∈ lw_tbl) (v : Int64) (hv : σ.2.2.1 40 = v) (d : decode cc pc = .ok (.getfield index, 3)) (k : J X ce sl (cM g kk σ) lv (pc + 3) (.long v :: st)) : J X ce sl (cM g kk σ) lv pc (.ref (g 0) :: st) := by
  subst hv
  exact j_get C inX11 gdX11 rfl 40 (by decide) rfl hl 0 (eM_0 g kk σ) rfl d k
theorem pM_0_40 {X : jC} {cc : ByteArray} {own : String} {R : Room} {kk : Nat → Nat} {nL : Nat} (C : jF X cc own R kk nL) {g : Nat → Nat} {σ : St} {ce sl : Nat} {lv : List (Nat × Value)} {pc : Nat} {st : List Value} {index : Nat} (hl : Cond.fieldLink own index "RainCansModel" "partOff" "J" ∈ lw_tbl) {v : Int64} (d : decode cc pc = .ok (.putfield index, 3)) (k : J X ce sl (cM g kk (sL σ 40 v)) lv (pc + 3) st) : J X ce sl (cM g kk σ) lv pc (.long v :: .ref (g 0) :: st) :=
  j_put (ty := .long) C inX11 gdX11 tyX11_ok nmX11 rfl 40 (by decide) rfl hl rfl (by decide +kernel) 0 (eM_0 g kk σ) rfl rfl (Nat.le_of_ble_eq_true rfl) (w' := cM g kk (sL σ 40 v)) rfl d k
theorem gM_0_41 {X : jC} {cc : ByteArray} {own : String} {R : Room} {kk : Nat → Nat} {nL : Nat} (C : jF X cc own R kk nL) {g : Nat → Nat} {σ : St} {ce sl : Nat} {lv : List (Nat × Value)} {pc : Nat} {st : List Value} {index : Nat} (hl : Cond.fieldLink own index "RainCansModel" "radarDay" "[I" ∈ lw_tbl)  (d : decode cc pc = .ok (.getfield index, 3)) (k : J X ce sl (cM g kk σ) lv (pc + 3) (.ref (g 26) :: st)) : J X ce sl (cM g kk σ) lv pc (.ref (g 0) :: st) := by
  exact j_get C inX11 gdX11 rfl 41 (by decide) rfl hl 0 (eM_0 g kk σ) rfl d k
theorem gM_0_42 {X : jC} {cc : ByteArray} {own : String} {R : Room} {kk : Nat → Nat} {nL : Nat} (C : jF X cc own R kk nL) {g : Nat → Nat} {σ : St} {ce sl : Nat} {lv : List (Nat × Value)} {pc : Nat} {st : List Value} {index : Nat} (hl : Cond.fieldLink own index "RainCansModel" "radarX" "[I" ∈ lw_tbl)  (d : decode cc pc = .ok (.getfield index, 3)) (k : J X ce sl (cM g kk σ) lv (pc + 3) (.ref (g 27) :: st)) : J X ce sl (cM g kk σ) lv pc (.ref (g 0) :: st) := by
  exact j_get C inX11 gdX11 rfl 42 (by decide) rfl hl 0 (eM_0 g kk σ) rfl d k
theorem gM_0_43 {X : jC} {cc : ByteArray} {own : String} {R : Room} {kk : Nat → Nat} {nL : Nat} (C : jF X cc own R kk nL) {g : Nat → Nat} {σ : St} {ce sl : Nat} {lv : List (Nat × Value)} {pc : Nat} {st : List Value} {index : Nat} (hl : Cond.fieldLink own index "RainCansModel" "radarY" "[I" ∈ lw_tbl)  (d : decode cc pc = .ok (.getfield index, 3)) (k : J X ce sl (cM g kk σ) lv (pc + 3) (.ref (g 28) :: st)) : J X ce sl (cM g kk σ) lv pc (.ref (g 0) :: st) := by
  exact j_get C inX11 gdX11 rfl 43 (by decide) rfl hl 0 (eM_0 g kk σ) rfl d k
theorem gM_0_44 {X : jC} {cc : ByteArray} {own : String} {R : Room} {kk : Nat → Nat} {nL : Nat} (C : jF X cc own R kk nL) {g : Nat → Nat} {σ : St} {ce sl : Nat} {lv : List (Nat × Value)} {pc : Nat} {st : List Value} {index : Nat} (hl : Cond.fieldLink own index "RainCansModel" "radarLeast" "[I" ∈ lw_tbl)  (d : decode cc pc = .ok (.getfield index, 3)) (k : J X ce sl (cM g kk σ) lv (pc + 3) (.ref (g 29) :: st)) : J X ce sl (cM g kk σ) lv pc (.ref (g 0) :: st) := by
  exact j_get C inX11 gdX11 rfl 44 (by decide) rfl hl 0 (eM_0 g kk σ) rfl d k
theorem gM_0_45 {X : jC} {cc : ByteArray} {own : String} {R : Room} {kk : Nat → Nat} {nL : Nat} (C : jF X cc own R kk nL) {g : Nat → Nat} {σ : St} {ce sl : Nat} {lv : List (Nat × Value)} {pc : Nat} {st : List Value} {index : Nat} (hl : Cond.fieldLink own index "RainCansModel" "radarMost" "[I" ∈ lw_tbl)  (d : decode cc pc = .ok (.getfield index, 3)) (k : J X ce sl (cM g kk σ) lv (pc + 3) (.ref (g 30) :: st)) : J X ce sl (cM g kk σ) lv pc (.ref (g 0) :: st) := by
  exact j_get C inX11 gdX11 rfl 45 (by decide) rfl hl 0 (eM_0 g kk σ) rfl d k
theorem gM_0_46 {X : jC} {cc : ByteArray} {own : String} {R : Room} {kk : Nat → Nat} {nL : Nat} (C : jF X cc own R kk nL) {g : Nat → Nat} {σ : St} {ce sl : Nat} {lv : List (Nat × Value)} {pc : Nat} {st : List Value} {index : Nat} (hl : Cond.fieldLink own index "RainCansModel" "radars" "I" ∈ lw_tbl) (v : Int32) (hv : σ.1 46 = v) (d : decode cc pc = .ok (.getfield index, 3)) (k : J X ce sl (cM g kk σ) lv (pc + 3) (.int v :: st)) : J X ce sl (cM g kk σ) lv pc (.ref (g 0) :: st) := by
  subst hv
  exact j_get C inX11 gdX11 rfl 46 (by decide) rfl hl 0 (eM_0 g kk σ) rfl d k
theorem pM_0_46 {X : jC} {cc : ByteArray} {own : String} {R : Room} {kk : Nat → Nat} {nL : Nat} (C : jF X cc own R kk nL) {g : Nat → Nat} {σ : St} {ce sl : Nat} {lv : List (Nat × Value)} {pc : Nat} {st : List Value} {index : Nat} (hl : Cond.fieldLink own index "RainCansModel" "radars" "I" ∈ lw_tbl) {v : Int32} (d : decode cc pc = .ok (.putfield index, 3)) (k : J X ce sl (cM g kk (sI σ 46 v)) lv (pc + 3) st) : J X ce sl (cM g kk σ) lv pc (.int v :: .ref (g 0) :: st) :=
  j_put (ty := .int) C inX11 gdX11 tyX11_ok nmX11 rfl 46 (by decide) rfl hl rfl (by decide +kernel) 0 (eM_0 g kk σ) rfl rfl (Nat.le_of_ble_eq_true rfl) (w' := cM g kk (sI σ 46 v)) rfl d k
theorem gM_0_47 {X : jC} {cc : ByteArray} {own : String} {R : Room} {kk : Nat → Nat} {nL : Nat} (C : jF X cc own R kk nL) {g : Nat → Nat} {σ : St} {ce sl : Nat} {lv : List (Nat × Value)} {pc : Nat} {st : List Value} {index : Nat} (hl : Cond.fieldLink own index "RainCansModel" "low" "I" ∈ lw_tbl) (v : Int32) (hv : σ.1 47 = v) (d : decode cc pc = .ok (.getfield index, 3)) (k : J X ce sl (cM g kk σ) lv (pc + 3) (.int v :: st)) : J X ce sl (cM g kk σ) lv pc (.ref (g 0) :: st) := by
  subst hv
  exact j_get C inX11 gdX11 rfl 47 (by decide) rfl hl 0 (eM_0 g kk σ) rfl d k
theorem pM_0_47 {X : jC} {cc : ByteArray} {own : String} {R : Room} {kk : Nat → Nat} {nL : Nat} (C : jF X cc own R kk nL) {g : Nat → Nat} {σ : St} {ce sl : Nat} {lv : List (Nat × Value)} {pc : Nat} {st : List Value} {index : Nat} (hl : Cond.fieldLink own index "RainCansModel" "low" "I" ∈ lw_tbl) {v : Int32} (d : decode cc pc = .ok (.putfield index, 3)) (k : J X ce sl (cM g kk (sI σ 47 v)) lv (pc + 3) st) : J X ce sl (cM g kk σ) lv pc (.int v :: .ref (g 0) :: st) :=
  j_put (ty := .int) C inX11 gdX11 tyX11_ok nmX11 rfl 47 (by decide) rfl hl rfl (by decide +kernel) 0 (eM_0 g kk σ) rfl rfl (Nat.le_of_ble_eq_true rfl) (w' := cM g kk (sI σ 47 v)) rfl d k
theorem gM_0_48 {X : jC} {cc : ByteArray} {own : String} {R : Room} {kk : Nat → Nat} {nL : Nat} (C : jF X cc own R kk nL) {g : Nat → Nat} {σ : St} {ce sl : Nat} {lv : List (Nat × Value)} {pc : Nat} {st : List Value} {index : Nat} (hl : Cond.fieldLink own index "RainCansModel" "high" "I" ∈ lw_tbl) (v : Int32) (hv : σ.1 48 = v) (d : decode cc pc = .ok (.getfield index, 3)) (k : J X ce sl (cM g kk σ) lv (pc + 3) (.int v :: st)) : J X ce sl (cM g kk σ) lv pc (.ref (g 0) :: st) := by
  subst hv
  exact j_get C inX11 gdX11 rfl 48 (by decide) rfl hl 0 (eM_0 g kk σ) rfl d k
theorem pM_0_48 {X : jC} {cc : ByteArray} {own : String} {R : Room} {kk : Nat → Nat} {nL : Nat} (C : jF X cc own R kk nL) {g : Nat → Nat} {σ : St} {ce sl : Nat} {lv : List (Nat × Value)} {pc : Nat} {st : List Value} {index : Nat} (hl : Cond.fieldLink own index "RainCansModel" "high" "I" ∈ lw_tbl) {v : Int32} (d : decode cc pc = .ok (.putfield index, 3)) (k : J X ce sl (cM g kk (sI σ 48 v)) lv (pc + 3) st) : J X ce sl (cM g kk σ) lv pc (.int v :: .ref (g 0) :: st) :=
  j_put (ty := .int) C inX11 gdX11 tyX11_ok nmX11 rfl 48 (by decide) rfl hl rfl (by decide +kernel) 0 (eM_0 g kk σ) rfl rfl (Nat.le_of_ble_eq_true rfl) (w' := cM g kk (sI σ 48 v)) rfl d k
theorem gM_0_49 {X : jC} {cc : ByteArray} {own : String} {R : Room} {kk : Nat → Nat} {nL : Nat} (C : jF X cc own R kk nL) {g : Nat → Nat} {σ : St} {ce sl : Nat} {lv : List (Nat × Value)} {pc : Nat} {st : List Value} {index : Nat} (hl : Cond.fieldLink own index "RainCansModel" "overLow" "I" ∈ lw_tbl) (v : Int32) (hv : σ.1 49 = v) (d : decode cc pc = .ok (.getfield index, 3)) (k : J X ce sl (cM g kk σ) lv (pc + 3) (.int v :: st)) : J X ce sl (cM g kk σ) lv pc (.ref (g 0) :: st) := by
  subst hv
  exact j_get C inX11 gdX11 rfl 49 (by decide) rfl hl 0 (eM_0 g kk σ) rfl d k
theorem pM_0_49 {X : jC} {cc : ByteArray} {own : String} {R : Room} {kk : Nat → Nat} {nL : Nat} (C : jF X cc own R kk nL) {g : Nat → Nat} {σ : St} {ce sl : Nat} {lv : List (Nat × Value)} {pc : Nat} {st : List Value} {index : Nat} (hl : Cond.fieldLink own index "RainCansModel" "overLow" "I" ∈ lw_tbl) {v : Int32} (d : decode cc pc = .ok (.putfield index, 3)) (k : J X ce sl (cM g kk (sI σ 49 v)) lv (pc + 3) st) : J X ce sl (cM g kk σ) lv pc (.int v :: .ref (g 0) :: st) :=
  j_put (ty := .int) C inX11 gdX11 tyX11_ok nmX11 rfl 49 (by decide) rfl hl rfl (by decide +kernel) 0 (eM_0 g kk σ) rfl rfl (Nat.le_of_ble_eq_true rfl) (w' := cM g kk (sI σ 49 v)) rfl d k
theorem gM_0_50 {X : jC} {cc : ByteArray} {own : String} {R : Room} {kk : Nat → Nat} {nL : Nat} (C : jF X cc own R kk nL) {g : Nat → Nat} {σ : St} {ce sl : Nat} {lv : List (Nat × Value)} {pc : Nat} {st : List Value} {index : Nat} (hl : Cond.fieldLink own index "RainCansModel" "overHigh" "I" ∈ lw_tbl) (v : Int32) (hv : σ.1 50 = v) (d : decode cc pc = .ok (.getfield index, 3)) (k : J X ce sl (cM g kk σ) lv (pc + 3) (.int v :: st)) : J X ce sl (cM g kk σ) lv pc (.ref (g 0) :: st) := by
  subst hv
  exact j_get C inX11 gdX11 rfl 50 (by decide) rfl hl 0 (eM_0 g kk σ) rfl d k
theorem pM_0_50 {X : jC} {cc : ByteArray} {own : String} {R : Room} {kk : Nat → Nat} {nL : Nat} (C : jF X cc own R kk nL) {g : Nat → Nat} {σ : St} {ce sl : Nat} {lv : List (Nat × Value)} {pc : Nat} {st : List Value} {index : Nat} (hl : Cond.fieldLink own index "RainCansModel" "overHigh" "I" ∈ lw_tbl) {v : Int32} (d : decode cc pc = .ok (.putfield index, 3)) (k : J X ce sl (cM g kk (sI σ 50 v)) lv (pc + 3) st) : J X ce sl (cM g kk σ) lv pc (.int v :: .ref (g 0) :: st) :=
  j_put (ty := .int) C inX11 gdX11 tyX11_ok nmX11 rfl 50 (by decide) rfl hl rfl (by decide +kernel) 0 (eM_0 g kk σ) rfl rfl (Nat.le_of_ble_eq_true rfl) (w' := cM g kk (sI σ 50 v)) rfl d k
theorem gM_0_51 {X : jC} {cc : ByteArray} {own : String} {R : Room} {kk : Nat → Nat} {nL : Nat} (C : jF X cc own R kk nL) {g : Nat → Nat} {σ : St} {ce sl : Nat} {lv : List (Nat × Value)} {pc : Nat} {st : List Value} {index : Nat} (hl : Cond.fieldLink own index "RainCansModel" "fiveMany" "I" ∈ lw_tbl) (v : Int32) (hv : σ.1 51 = v) (d : decode cc pc = .ok (.getfield index, 3)) (k : J X ce sl (cM g kk σ) lv (pc + 3) (.int v :: st)) : J X ce sl (cM g kk σ) lv pc (.ref (g 0) :: st) := by
  subst hv
  exact j_get C inX11 gdX11 rfl 51 (by decide) rfl hl 0 (eM_0 g kk σ) rfl d k
theorem pM_0_51 {X : jC} {cc : ByteArray} {own : String} {R : Room} {kk : Nat → Nat} {nL : Nat} (C : jF X cc own R kk nL) {g : Nat → Nat} {σ : St} {ce sl : Nat} {lv : List (Nat × Value)} {pc : Nat} {st : List Value} {index : Nat} (hl : Cond.fieldLink own index "RainCansModel" "fiveMany" "I" ∈ lw_tbl) {v : Int32} (d : decode cc pc = .ok (.putfield index, 3)) (k : J X ce sl (cM g kk (sI σ 51 v)) lv (pc + 3) st) : J X ce sl (cM g kk σ) lv pc (.int v :: .ref (g 0) :: st) :=
  j_put (ty := .int) C inX11 gdX11 tyX11_ok nmX11 rfl 51 (by decide) rfl hl rfl (by decide +kernel) 0 (eM_0 g kk σ) rfl rfl (Nat.le_of_ble_eq_true rfl) (w' := cM g kk (sI σ 51 v)) rfl d k
theorem gM_0_52 {X : jC} {cc : ByteArray} {own : String} {R : Room} {kk : Nat → Nat} {nL : Nat} (C : jF X cc own R kk nL) {g : Nat → Nat} {σ : St} {ce sl : Nat} {lv : List (Nat × Value)} {pc : Nat} {st : List Value} {index : Nat} (hl : Cond.fieldLink own index "RainCansModel" "fiveAll" "I" ∈ lw_tbl) (v : Int32) (hv : σ.1 52 = v) (d : decode cc pc = .ok (.getfield index, 3)) (k : J X ce sl (cM g kk σ) lv (pc + 3) (.int v :: st)) : J X ce sl (cM g kk σ) lv pc (.ref (g 0) :: st) := by
  subst hv
  exact j_get C inX11 gdX11 rfl 52 (by decide) rfl hl 0 (eM_0 g kk σ) rfl d k
theorem pM_0_52 {X : jC} {cc : ByteArray} {own : String} {R : Room} {kk : Nat → Nat} {nL : Nat} (C : jF X cc own R kk nL) {g : Nat → Nat} {σ : St} {ce sl : Nat} {lv : List (Nat × Value)} {pc : Nat} {st : List Value} {index : Nat} (hl : Cond.fieldLink own index "RainCansModel" "fiveAll" "I" ∈ lw_tbl) {v : Int32} (d : decode cc pc = .ok (.putfield index, 3)) (k : J X ce sl (cM g kk (sI σ 52 v)) lv (pc + 3) st) : J X ce sl (cM g kk σ) lv pc (.int v :: .ref (g 0) :: st) :=
  j_put (ty := .int) C inX11 gdX11 tyX11_ok nmX11 rfl 52 (by decide) rfl hl rfl (by decide +kernel) 0 (eM_0 g kk σ) rfl rfl (Nat.le_of_ble_eq_true rfl) (w' := cM g kk (sI σ 52 v)) rfl d k
theorem gM_0_53 {X : jC} {cc : ByteArray} {own : String} {R : Room} {kk : Nat → Nat} {nL : Nat} (C : jF X cc own R kk nL) {g : Nat → Nat} {σ : St} {ce sl : Nat} {lv : List (Nat × Value)} {pc : Nat} {st : List Value} {index : Nat} (hl : Cond.fieldLink own index "RainCansModel" "ways" "[J" ∈ lw_tbl)  (d : decode cc pc = .ok (.getfield index, 3)) (k : J X ce sl (cM g kk σ) lv (pc + 3) (.ref (g 31) :: st)) : J X ce sl (cM g kk σ) lv pc (.ref (g 0) :: st) := by
  exact j_get C inX11 gdX11 rfl 53 (by decide) rfl hl 0 (eM_0 g kk σ) rfl d k
theorem gM_0_54 {X : jC} {cc : ByteArray} {own : String} {R : Room} {kk : Nat → Nat} {nL : Nat} (C : jF X cc own R kk nL) {g : Nat → Nat} {σ : St} {ce sl : Nat} {lv : List (Nat × Value)} {pc : Nat} {st : List Value} {index : Nat} (hl : Cond.fieldLink own index "RainCansModel" "kept" "[I" ∈ lw_tbl)  (d : decode cc pc = .ok (.getfield index, 3)) (k : J X ce sl (cM g kk σ) lv (pc + 3) (.ref (g 32) :: st)) : J X ce sl (cM g kk σ) lv pc (.ref (g 0) :: st) := by
  exact j_get C inX11 gdX11 rfl 54 (by decide) rfl hl 0 (eM_0 g kk σ) rfl d k
theorem gM_0_55 {X : jC} {cc : ByteArray} {own : String} {R : Room} {kk : Nat → Nat} {nL : Nat} (C : jF X cc own R kk nL) {g : Nat → Nat} {σ : St} {ce sl : Nat} {lv : List (Nat × Value)} {pc : Nat} {st : List Value} {index : Nat} (hl : Cond.fieldLink own index "RainCansModel" "isKept" "[Z" ∈ lw_tbl)  (d : decode cc pc = .ok (.getfield index, 3)) (k : J X ce sl (cM g kk σ) lv (pc + 3) (.ref (g 33) :: st)) : J X ce sl (cM g kk σ) lv pc (.ref (g 0) :: st) := by
  exact j_get C inX11 gdX11 rfl 55 (by decide) rfl hl 0 (eM_0 g kk σ) rfl d k
theorem gM_0_56 {X : jC} {cc : ByteArray} {own : String} {R : Room} {kk : Nat → Nat} {nL : Nat} (C : jF X cc own R kk nL) {g : Nat → Nat} {σ : St} {ce sl : Nat} {lv : List (Nat × Value)} {pc : Nat} {st : List Value} {index : Nat} (hl : Cond.fieldLink own index "RainCansModel" "keptAt" "I" ∈ lw_tbl) (v : Int32) (hv : σ.1 56 = v) (d : decode cc pc = .ok (.getfield index, 3)) (k : J X ce sl (cM g kk σ) lv (pc + 3) (.int v :: st)) : J X ce sl (cM g kk σ) lv pc (.ref (g 0) :: st) := by
  subst hv
  exact j_get C inX11 gdX11 rfl 56 (by decide) rfl hl 0 (eM_0 g kk σ) rfl d k
theorem pM_0_56 {X : jC} {cc : ByteArray} {own : String} {R : Room} {kk : Nat → Nat} {nL : Nat} (C : jF X cc own R kk nL) {g : Nat → Nat} {σ : St} {ce sl : Nat} {lv : List (Nat × Value)} {pc : Nat} {st : List Value} {index : Nat} (hl : Cond.fieldLink own index "RainCansModel" "keptAt" "I" ∈ lw_tbl) {v : Int32} (d : decode cc pc = .ok (.putfield index, 3)) (k : J X ce sl (cM g kk (sI σ 56 v)) lv (pc + 3) st) : J X ce sl (cM g kk σ) lv pc (.int v :: .ref (g 0) :: st) :=
  j_put (ty := .int) C inX11 gdX11 tyX11_ok nmX11 rfl 56 (by decide) rfl hl rfl (by decide +kernel) 0 (eM_0 g kk σ) rfl rfl (Nat.le_of_ble_eq_true rfl) (w' := cM g kk (sI σ 56 v)) rfl d k
theorem gM_0_57 {X : jC} {cc : ByteArray} {own : String} {R : Room} {kk : Nat → Nat} {nL : Nat} (C : jF X cc own R kk nL) {g : Nat → Nat} {σ : St} {ce sl : Nat} {lv : List (Nat × Value)} {pc : Nat} {st : List Value} {index : Nat} (hl : Cond.fieldLink own index "RainCansModel" "isWriting" "Z" ∈ lw_tbl) (v : Int32) (hv : σ.1 57 = v) (d : decode cc pc = .ok (.getfield index, 3)) (k : J X ce sl (cM g kk σ) lv (pc + 3) (.int v :: st)) : J X ce sl (cM g kk σ) lv pc (.ref (g 0) :: st) := by
  subst hv
  exact j_get C inX11 gdX11 rfl 57 (by decide) rfl hl 0 (eM_0 g kk σ) rfl d k
theorem pM_0_57 {X : jC} {cc : ByteArray} {own : String} {R : Room} {kk : Nat → Nat} {nL : Nat} (C : jF X cc own R kk nL) {g : Nat → Nat} {σ : St} {ce sl : Nat} {lv : List (Nat × Value)} {pc : Nat} {st : List Value} {index : Nat} (hl : Cond.fieldLink own index "RainCansModel" "isWriting" "Z" ∈ lw_tbl) {v : Int32} (hz : narrow .boolean (.int v) = .int v) (hzf : fits .boolean (.int v) = true) (d : decode cc pc = .ok (.putfield index, 3)) (k : J X ce sl (cM g kk (sI σ 57 v)) lv (pc + 3) st) : J X ce sl (cM g kk σ) lv pc (.int v :: .ref (g 0) :: st) :=
  j_put (ty := .boolean) C inX11 gdX11 tyX11_ok nmX11 rfl 57 (by decide) rfl hl rfl (by decide +kernel) 0 (eM_0 g kk σ) hz (hzf) (Nat.le_of_ble_eq_true rfl) (w' := cM g kk (sI σ 57 v)) rfl d k
theorem rM_1 {X : jC} {cc : ByteArray} {own : String} {R : Room} {kk : Nat → Nat} {nL : Nat} (C : jF X cc own R kk nL) {g : Nat → Nat} {σ : St} {ce sl : Nat} {lv : List (Nat × Value)} {pc : Nat} {st : List Value} {i : Int32} (n : Nat) (e : i = nI n) (h : n < 6) (v : Int32) (hv : σ.2.1 1 n = v) (d : decode cc pc = .ok (.iaload, 1)) (k : J X ce sl (cM g kk σ) lv (pc + 1) (.int v :: st)) : J X ce sl (cM g kk σ) lv pc (.int i :: .ref (g 1) :: st) := by
  subst hv
  refine j_iald C 1 (f := σ.2.1 1) rfl (vp_inN e h (by decide)) d ?_
  rw [clN e (by omega)]
  exact k
theorem tM_1 {X : jC} {cc : ByteArray} {own : String} {R : Room} {kk : Nat → Nat} {nL : Nat} (C : jF X cc own R kk nL) {g : Nat → Nat} {σ : St} {ce sl : Nat} {lv : List (Nat × Value)} {pc : Nat} {st : List Value} {i : Int32} {x : Int32} (n : Nat) (e : i = nI n) (h : n < 6) (d : decode cc pc = .ok (.iastore, 1)) (k : J X ce sl (cM g kk (sF σ 1 (upd (σ.2.1 1) n x))) lv (pc + 1) st) : J X ce sl (cM g kk σ) lv pc (.int x :: .int i :: .ref (g 1) :: st) := by
  refine j_iast C 1 (f := σ.2.1 1) rfl (vp_inN e h (by decide)) (w' := cM g kk (sF σ 1 (upd (σ.2.1 1) n x))) ?_ d k
  rw [clN e (by omega)]
  rfl
theorem rM_2 {X : jC} {cc : ByteArray} {own : String} {R : Room} {kk : Nat → Nat} {nL : Nat} (C : jF X cc own R kk nL) {g : Nat → Nat} {σ : St} {ce sl : Nat} {lv : List (Nat × Value)} {pc : Nat} {st : List Value} {i : Int32} (n : Nat) (e : i = nI n) (h : n < 6) (v : Int32) (hv : σ.2.1 2 n = v) (d : decode cc pc = .ok (.iaload, 1)) (k : J X ce sl (cM g kk σ) lv (pc + 1) (.int v :: st)) : J X ce sl (cM g kk σ) lv pc (.int i :: .ref (g 2) :: st) := by
  subst hv
  refine j_iald C 2 (f := σ.2.1 2) rfl (vp_inN e h (by decide)) d ?_
  rw [clN e (by omega)]
  exact k
theorem tM_2 {X : jC} {cc : ByteArray} {own : String} {R : Room} {kk : Nat → Nat} {nL : Nat} (C : jF X cc own R kk nL) {g : Nat → Nat} {σ : St} {ce sl : Nat} {lv : List (Nat × Value)} {pc : Nat} {st : List Value} {i : Int32} {x : Int32} (n : Nat) (e : i = nI n) (h : n < 6) (d : decode cc pc = .ok (.iastore, 1)) (k : J X ce sl (cM g kk (sF σ 2 (upd (σ.2.1 2) n x))) lv (pc + 1) st) : J X ce sl (cM g kk σ) lv pc (.int x :: .int i :: .ref (g 2) :: st) := by
  refine j_iast C 2 (f := σ.2.1 2) rfl (vp_inN e h (by decide)) (w' := cM g kk (sF σ 2 (upd (σ.2.1 2) n x))) ?_ d k
  rw [clN e (by omega)]
  rfl
theorem rM_3 {X : jC} {cc : ByteArray} {own : String} {R : Room} {kk : Nat → Nat} {nL : Nat} (C : jF X cc own R kk nL) {g : Nat → Nat} {σ : St} {ce sl : Nat} {lv : List (Nat × Value)} {pc : Nat} {st : List Value} {i : Int32} (n : Nat) (e : i = nI n) (h : n < 18) (v : Int32) (hv : σ.2.1 3 n = v) (d : decode cc pc = .ok (.iaload, 1)) (k : J X ce sl (cM g kk σ) lv (pc + 1) (.int v :: st)) : J X ce sl (cM g kk σ) lv pc (.int i :: .ref (g 3) :: st) := by
  subst hv
  refine j_iald C 3 (f := σ.2.1 3) rfl (vp_inN e h (by decide)) d ?_
  rw [clN e (by omega)]
  exact k
theorem tM_3 {X : jC} {cc : ByteArray} {own : String} {R : Room} {kk : Nat → Nat} {nL : Nat} (C : jF X cc own R kk nL) {g : Nat → Nat} {σ : St} {ce sl : Nat} {lv : List (Nat × Value)} {pc : Nat} {st : List Value} {i : Int32} {x : Int32} (n : Nat) (e : i = nI n) (h : n < 18) (d : decode cc pc = .ok (.iastore, 1)) (k : J X ce sl (cM g kk (sF σ 3 (upd (σ.2.1 3) n x))) lv (pc + 1) st) : J X ce sl (cM g kk σ) lv pc (.int x :: .int i :: .ref (g 3) :: st) := by
  refine j_iast C 3 (f := σ.2.1 3) rfl (vp_inN e h (by decide)) (w' := cM g kk (sF σ 3 (upd (σ.2.1 3) n x))) ?_ d k
  rw [clN e (by omega)]
  rfl
theorem rM_4 {X : jC} {cc : ByteArray} {own : String} {R : Room} {kk : Nat → Nat} {nL : Nat} (C : jF X cc own R kk nL) {g : Nat → Nat} {σ : St} {ce sl : Nat} {lv : List (Nat × Value)} {pc : Nat} {st : List Value} {i : Int32} (n : Nat) (e : i = nI n) (h : n < 28) (v : Int32) (hv : σ.2.1 4 n = v) (d : decode cc pc = .ok (.iaload, 1)) (k : J X ce sl (cM g kk σ) lv (pc + 1) (.int v :: st)) : J X ce sl (cM g kk σ) lv pc (.int i :: .ref (g 4) :: st) := by
  subst hv
  refine j_iald C 4 (f := σ.2.1 4) rfl (vp_inN e h (by decide)) d ?_
  rw [clN e (by omega)]
  exact k
theorem tM_4 {X : jC} {cc : ByteArray} {own : String} {R : Room} {kk : Nat → Nat} {nL : Nat} (C : jF X cc own R kk nL) {g : Nat → Nat} {σ : St} {ce sl : Nat} {lv : List (Nat × Value)} {pc : Nat} {st : List Value} {i : Int32} {x : Int32} (n : Nat) (e : i = nI n) (h : n < 28) (d : decode cc pc = .ok (.iastore, 1)) (k : J X ce sl (cM g kk (sF σ 4 (upd (σ.2.1 4) n x))) lv (pc + 1) st) : J X ce sl (cM g kk σ) lv pc (.int x :: .int i :: .ref (g 4) :: st) := by
  refine j_iast C 4 (f := σ.2.1 4) rfl (vp_inN e h (by decide)) (w' := cM g kk (sF σ 4 (upd (σ.2.1 4) n x))) ?_ d k
  rw [clN e (by omega)]
  rfl
theorem rM_5 {X : jC} {cc : ByteArray} {own : String} {R : Room} {kk : Nat → Nat} {nL : Nat} (C : jF X cc own R kk nL) {g : Nat → Nat} {σ : St} {ce sl : Nat} {lv : List (Nat × Value)} {pc : Nat} {st : List Value} {i : Int32} (n : Nat) (e : i = nI n) (h : n < 168) (v : Int32) (hv : σ.2.1 5 n = v) (d : decode cc pc = .ok (.iaload, 1)) (k : J X ce sl (cM g kk σ) lv (pc + 1) (.int v :: st)) : J X ce sl (cM g kk σ) lv pc (.int i :: .ref (g 5) :: st) := by
  subst hv
  refine j_iald C 5 (f := σ.2.1 5) rfl (vp_inN e h (by decide)) d ?_
  rw [clN e (by omega)]
  exact k
theorem tM_5 {X : jC} {cc : ByteArray} {own : String} {R : Room} {kk : Nat → Nat} {nL : Nat} (C : jF X cc own R kk nL) {g : Nat → Nat} {σ : St} {ce sl : Nat} {lv : List (Nat × Value)} {pc : Nat} {st : List Value} {i : Int32} {x : Int32} (n : Nat) (e : i = nI n) (h : n < 168) (d : decode cc pc = .ok (.iastore, 1)) (k : J X ce sl (cM g kk (sF σ 5 (upd (σ.2.1 5) n x))) lv (pc + 1) st) : J X ce sl (cM g kk σ) lv pc (.int x :: .int i :: .ref (g 5) :: st) := by
  refine j_iast C 5 (f := σ.2.1 5) rfl (vp_inN e h (by decide)) (w' := cM g kk (sF σ 5 (upd (σ.2.1 5) n x))) ?_ d k
  rw [clN e (by omega)]
  rfl
theorem rM_6 {X : jC} {cc : ByteArray} {own : String} {R : Room} {kk : Nat → Nat} {nL : Nat} (C : jF X cc own R kk nL) {g : Nat → Nat} {σ : St} {ce sl : Nat} {lv : List (Nat × Value)} {pc : Nat} {st : List Value} {i : Int32} (n : Nat) (e : i = nI n) (h : n < 20) (v : Int32) (hv : σ.2.1 6 n = v) (d : decode cc pc = .ok (.iaload, 1)) (k : J X ce sl (cM g kk σ) lv (pc + 1) (.int v :: st)) : J X ce sl (cM g kk σ) lv pc (.int i :: .ref (g 6) :: st) := by
  subst hv
  refine j_iald C 6 (f := σ.2.1 6) rfl (vp_inN e h (by decide)) d ?_
  rw [clN e (by omega)]
  exact k
theorem tM_6 {X : jC} {cc : ByteArray} {own : String} {R : Room} {kk : Nat → Nat} {nL : Nat} (C : jF X cc own R kk nL) {g : Nat → Nat} {σ : St} {ce sl : Nat} {lv : List (Nat × Value)} {pc : Nat} {st : List Value} {i : Int32} {x : Int32} (n : Nat) (e : i = nI n) (h : n < 20) (d : decode cc pc = .ok (.iastore, 1)) (k : J X ce sl (cM g kk (sF σ 6 (upd (σ.2.1 6) n x))) lv (pc + 1) st) : J X ce sl (cM g kk σ) lv pc (.int x :: .int i :: .ref (g 6) :: st) := by
  refine j_iast C 6 (f := σ.2.1 6) rfl (vp_inN e h (by decide)) (w' := cM g kk (sF σ 6 (upd (σ.2.1 6) n x))) ?_ d k
  rw [clN e (by omega)]
  rfl
theorem rM_7 {X : jC} {cc : ByteArray} {own : String} {R : Room} {kk : Nat → Nat} {nL : Nat} (C : jF X cc own R kk nL) {g : Nat → Nat} {σ : St} {ce sl : Nat} {lv : List (Nat × Value)} {pc : Nat} {st : List Value} {i : Int32} (n : Nat) (e : i = nI n) (h : n < 20) (v : Int32) (hv : σ.2.1 7 n = v) (d : decode cc pc = .ok (.iaload, 1)) (k : J X ce sl (cM g kk σ) lv (pc + 1) (.int v :: st)) : J X ce sl (cM g kk σ) lv pc (.int i :: .ref (g 7) :: st) := by
  subst hv
  refine j_iald C 7 (f := σ.2.1 7) rfl (vp_inN e h (by decide)) d ?_
  rw [clN e (by omega)]
  exact k
theorem tM_7 {X : jC} {cc : ByteArray} {own : String} {R : Room} {kk : Nat → Nat} {nL : Nat} (C : jF X cc own R kk nL) {g : Nat → Nat} {σ : St} {ce sl : Nat} {lv : List (Nat × Value)} {pc : Nat} {st : List Value} {i : Int32} {x : Int32} (n : Nat) (e : i = nI n) (h : n < 20) (d : decode cc pc = .ok (.iastore, 1)) (k : J X ce sl (cM g kk (sF σ 7 (upd (σ.2.1 7) n x))) lv (pc + 1) st) : J X ce sl (cM g kk σ) lv pc (.int x :: .int i :: .ref (g 7) :: st) := by
  refine j_iast C 7 (f := σ.2.1 7) rfl (vp_inN e h (by decide)) (w' := cM g kk (sF σ 7 (upd (σ.2.1 7) n x))) ?_ d k
  rw [clN e (by omega)]
  rfl
theorem rM_8 {X : jC} {cc : ByteArray} {own : String} {R : Room} {kk : Nat → Nat} {nL : Nat} (C : jF X cc own R kk nL) {g : Nat → Nat} {σ : St} {ce sl : Nat} {lv : List (Nat × Value)} {pc : Nat} {st : List Value} {i : Int32} (n : Nat) (e : i = nI n) (h : n < 20) (v : Int32) (hv : σ.2.1 8 n = v) (d : decode cc pc = .ok (.iaload, 1)) (k : J X ce sl (cM g kk σ) lv (pc + 1) (.int v :: st)) : J X ce sl (cM g kk σ) lv pc (.int i :: .ref (g 8) :: st) := by
  subst hv
  refine j_iald C 8 (f := σ.2.1 8) rfl (vp_inN e h (by decide)) d ?_
  rw [clN e (by omega)]
  exact k
theorem tM_8 {X : jC} {cc : ByteArray} {own : String} {R : Room} {kk : Nat → Nat} {nL : Nat} (C : jF X cc own R kk nL) {g : Nat → Nat} {σ : St} {ce sl : Nat} {lv : List (Nat × Value)} {pc : Nat} {st : List Value} {i : Int32} {x : Int32} (n : Nat) (e : i = nI n) (h : n < 20) (d : decode cc pc = .ok (.iastore, 1)) (k : J X ce sl (cM g kk (sF σ 8 (upd (σ.2.1 8) n x))) lv (pc + 1) st) : J X ce sl (cM g kk σ) lv pc (.int x :: .int i :: .ref (g 8) :: st) := by
  refine j_iast C 8 (f := σ.2.1 8) rfl (vp_inN e h (by decide)) (w' := cM g kk (sF σ 8 (upd (σ.2.1 8) n x))) ?_ d k
  rw [clN e (by omega)]
  rfl
theorem rM_9 {X : jC} {cc : ByteArray} {own : String} {R : Room} {kk : Nat → Nat} {nL : Nat} (C : jF X cc own R kk nL) {g : Nat → Nat} {σ : St} {ce sl : Nat} {lv : List (Nat × Value)} {pc : Nat} {st : List Value} {i : Int32} (n : Nat) (e : i = nI n) (h : n < 40) (v : Int32) (hv : σ.2.1 9 n = v) (d : decode cc pc = .ok (.iaload, 1)) (k : J X ce sl (cM g kk σ) lv (pc + 1) (.int v :: st)) : J X ce sl (cM g kk σ) lv pc (.int i :: .ref (g 9) :: st) := by
  subst hv
  refine j_iald C 9 (f := σ.2.1 9) rfl (vp_inN e h (by decide)) d ?_
  rw [clN e (by omega)]
  exact k
theorem tM_9 {X : jC} {cc : ByteArray} {own : String} {R : Room} {kk : Nat → Nat} {nL : Nat} (C : jF X cc own R kk nL) {g : Nat → Nat} {σ : St} {ce sl : Nat} {lv : List (Nat × Value)} {pc : Nat} {st : List Value} {i : Int32} {x : Int32} (n : Nat) (e : i = nI n) (h : n < 40) (d : decode cc pc = .ok (.iastore, 1)) (k : J X ce sl (cM g kk (sF σ 9 (upd (σ.2.1 9) n x))) lv (pc + 1) st) : J X ce sl (cM g kk σ) lv pc (.int x :: .int i :: .ref (g 9) :: st) := by
  refine j_iast C 9 (f := σ.2.1 9) rfl (vp_inN e h (by decide)) (w' := cM g kk (sF σ 9 (upd (σ.2.1 9) n x))) ?_ d k
  rw [clN e (by omega)]
  rfl
theorem rM_10 {X : jC} {cc : ByteArray} {own : String} {R : Room} {kk : Nat → Nat} {nL : Nat} (C : jF X cc own R kk nL) {g : Nat → Nat} {σ : St} {ce sl : Nat} {lv : List (Nat × Value)} {pc : Nat} {st : List Value} {i : Int32} (n : Nat) (e : i = nI n) (h : n < 168) (v : Int32) (hv : σ.2.1 10 n = v) (d : decode cc pc = .ok (.iaload, 1)) (k : J X ce sl (cM g kk σ) lv (pc + 1) (.int v :: st)) : J X ce sl (cM g kk σ) lv pc (.int i :: .ref (g 10) :: st) := by
  subst hv
  refine j_iald C 10 (f := σ.2.1 10) rfl (vp_inN e h (by decide)) d ?_
  rw [clN e (by omega)]
  exact k
theorem tM_10 {X : jC} {cc : ByteArray} {own : String} {R : Room} {kk : Nat → Nat} {nL : Nat} (C : jF X cc own R kk nL) {g : Nat → Nat} {σ : St} {ce sl : Nat} {lv : List (Nat × Value)} {pc : Nat} {st : List Value} {i : Int32} {x : Int32} (n : Nat) (e : i = nI n) (h : n < 168) (d : decode cc pc = .ok (.iastore, 1)) (k : J X ce sl (cM g kk (sF σ 10 (upd (σ.2.1 10) n x))) lv (pc + 1) st) : J X ce sl (cM g kk σ) lv pc (.int x :: .int i :: .ref (g 10) :: st) := by
  refine j_iast C 10 (f := σ.2.1 10) rfl (vp_inN e h (by decide)) (w' := cM g kk (sF σ 10 (upd (σ.2.1 10) n x))) ?_ d k
  rw [clN e (by omega)]
  rfl
theorem rM_11 {X : jC} {cc : ByteArray} {own : String} {R : Room} {kk : Nat → Nat} {nL : Nat} (C : jF X cc own R kk nL) {g : Nat → Nat} {σ : St} {ce sl : Nat} {lv : List (Nat × Value)} {pc : Nat} {st : List Value} {i : Int32} (n : Nat) (e : i = nI n) (h : n < 168) (v : Int32) (hv : σ.2.1 11 n = v) (d : decode cc pc = .ok (.iaload, 1)) (k : J X ce sl (cM g kk σ) lv (pc + 1) (.int v :: st)) : J X ce sl (cM g kk σ) lv pc (.int i :: .ref (g 11) :: st) := by
  subst hv
  refine j_iald C 11 (f := σ.2.1 11) rfl (vp_inN e h (by decide)) d ?_
  rw [clN e (by omega)]
  exact k
theorem tM_11 {X : jC} {cc : ByteArray} {own : String} {R : Room} {kk : Nat → Nat} {nL : Nat} (C : jF X cc own R kk nL) {g : Nat → Nat} {σ : St} {ce sl : Nat} {lv : List (Nat × Value)} {pc : Nat} {st : List Value} {i : Int32} {x : Int32} (n : Nat) (e : i = nI n) (h : n < 168) (d : decode cc pc = .ok (.iastore, 1)) (k : J X ce sl (cM g kk (sF σ 11 (upd (σ.2.1 11) n x))) lv (pc + 1) st) : J X ce sl (cM g kk σ) lv pc (.int x :: .int i :: .ref (g 11) :: st) := by
  refine j_iast C 11 (f := σ.2.1 11) rfl (vp_inN e h (by decide)) (w' := cM g kk (sF σ 11 (upd (σ.2.1 11) n x))) ?_ d k
  rw [clN e (by omega)]
  rfl
theorem rM_12 {X : jC} {cc : ByteArray} {own : String} {R : Room} {kk : Nat → Nat} {nL : Nat} (C : jF X cc own R kk nL) {g : Nat → Nat} {σ : St} {ce sl : Nat} {lv : List (Nat × Value)} {pc : Nat} {st : List Value} {i : Int32} (n : Nat) (e : i = nI n) (h : n < 168) (v : Int32) (hv : σ.2.1 12 n = v) (d : decode cc pc = .ok (.iaload, 1)) (k : J X ce sl (cM g kk σ) lv (pc + 1) (.int v :: st)) : J X ce sl (cM g kk σ) lv pc (.int i :: .ref (g 12) :: st) := by
  subst hv
  refine j_iald C 12 (f := σ.2.1 12) rfl (vp_inN e h (by decide)) d ?_
  rw [clN e (by omega)]
  exact k
theorem tM_12 {X : jC} {cc : ByteArray} {own : String} {R : Room} {kk : Nat → Nat} {nL : Nat} (C : jF X cc own R kk nL) {g : Nat → Nat} {σ : St} {ce sl : Nat} {lv : List (Nat × Value)} {pc : Nat} {st : List Value} {i : Int32} {x : Int32} (n : Nat) (e : i = nI n) (h : n < 168) (d : decode cc pc = .ok (.iastore, 1)) (k : J X ce sl (cM g kk (sF σ 12 (upd (σ.2.1 12) n x))) lv (pc + 1) st) : J X ce sl (cM g kk σ) lv pc (.int x :: .int i :: .ref (g 12) :: st) := by
  refine j_iast C 12 (f := σ.2.1 12) rfl (vp_inN e h (by decide)) (w' := cM g kk (sF σ 12 (upd (σ.2.1 12) n x))) ?_ d k
  rw [clN e (by omega)]
  rfl
theorem rM_13 {X : jC} {cc : ByteArray} {own : String} {R : Room} {kk : Nat → Nat} {nL : Nat} (C : jF X cc own R kk nL) {g : Nat → Nat} {σ : St} {ce sl : Nat} {lv : List (Nat × Value)} {pc : Nat} {st : List Value} {i : Int32} (n : Nat) (e : i = nI n) (h : n < 28) (v : Int32) (hv : σ.2.1 13 n = v) (d : decode cc pc = .ok (.iaload, 1)) (k : J X ce sl (cM g kk σ) lv (pc + 1) (.int v :: st)) : J X ce sl (cM g kk σ) lv pc (.int i :: .ref (g 13) :: st) := by
  subst hv
  refine j_iald C 13 (f := σ.2.1 13) rfl (vp_inN e h (by decide)) d ?_
  rw [clN e (by omega)]
  exact k
theorem tM_13 {X : jC} {cc : ByteArray} {own : String} {R : Room} {kk : Nat → Nat} {nL : Nat} (C : jF X cc own R kk nL) {g : Nat → Nat} {σ : St} {ce sl : Nat} {lv : List (Nat × Value)} {pc : Nat} {st : List Value} {i : Int32} {x : Int32} (n : Nat) (e : i = nI n) (h : n < 28) (d : decode cc pc = .ok (.iastore, 1)) (k : J X ce sl (cM g kk (sF σ 13 (upd (σ.2.1 13) n x))) lv (pc + 1) st) : J X ce sl (cM g kk σ) lv pc (.int x :: .int i :: .ref (g 13) :: st) := by
  refine j_iast C 13 (f := σ.2.1 13) rfl (vp_inN e h (by decide)) (w' := cM g kk (sF σ 13 (upd (σ.2.1 13) n x))) ?_ d k
  rw [clN e (by omega)]
  rfl
theorem rM_14 {X : jC} {cc : ByteArray} {own : String} {R : Room} {kk : Nat → Nat} {nL : Nat} (C : jF X cc own R kk nL) {g : Nat → Nat} {σ : St} {ce sl : Nat} {lv : List (Nat × Value)} {pc : Nat} {st : List Value} {i : Int32} (n : Nat) (e : i = nI n) (h : n < 28) (v : Int32) (hv : σ.2.1 14 n = v) (d : decode cc pc = .ok (.iaload, 1)) (k : J X ce sl (cM g kk σ) lv (pc + 1) (.int v :: st)) : J X ce sl (cM g kk σ) lv pc (.int i :: .ref (g 14) :: st) := by
  subst hv
  refine j_iald C 14 (f := σ.2.1 14) rfl (vp_inN e h (by decide)) d ?_
  rw [clN e (by omega)]
  exact k
theorem tM_14 {X : jC} {cc : ByteArray} {own : String} {R : Room} {kk : Nat → Nat} {nL : Nat} (C : jF X cc own R kk nL) {g : Nat → Nat} {σ : St} {ce sl : Nat} {lv : List (Nat × Value)} {pc : Nat} {st : List Value} {i : Int32} {x : Int32} (n : Nat) (e : i = nI n) (h : n < 28) (d : decode cc pc = .ok (.iastore, 1)) (k : J X ce sl (cM g kk (sF σ 14 (upd (σ.2.1 14) n x))) lv (pc + 1) st) : J X ce sl (cM g kk σ) lv pc (.int x :: .int i :: .ref (g 14) :: st) := by
  refine j_iast C 14 (f := σ.2.1 14) rfl (vp_inN e h (by decide)) (w' := cM g kk (sF σ 14 (upd (σ.2.1 14) n x))) ?_ d k
  rw [clN e (by omega)]
  rfl
theorem rM_15 {X : jC} {cc : ByteArray} {own : String} {R : Room} {kk : Nat → Nat} {nL : Nat} (C : jF X cc own R kk nL) {g : Nat → Nat} {σ : St} {ce sl : Nat} {lv : List (Nat × Value)} {pc : Nat} {st : List Value} {i : Int32} (n : Nat) (e : i = nI n) (h : n < 28) (v : Int32) (hv : σ.2.1 15 n = v) (d : decode cc pc = .ok (.iaload, 1)) (k : J X ce sl (cM g kk σ) lv (pc + 1) (.int v :: st)) : J X ce sl (cM g kk σ) lv pc (.int i :: .ref (g 15) :: st) := by
  subst hv
  refine j_iald C 15 (f := σ.2.1 15) rfl (vp_inN e h (by decide)) d ?_
  rw [clN e (by omega)]
  exact k
theorem tM_15 {X : jC} {cc : ByteArray} {own : String} {R : Room} {kk : Nat → Nat} {nL : Nat} (C : jF X cc own R kk nL) {g : Nat → Nat} {σ : St} {ce sl : Nat} {lv : List (Nat × Value)} {pc : Nat} {st : List Value} {i : Int32} {x : Int32} (n : Nat) (e : i = nI n) (h : n < 28) (d : decode cc pc = .ok (.iastore, 1)) (k : J X ce sl (cM g kk (sF σ 15 (upd (σ.2.1 15) n x))) lv (pc + 1) st) : J X ce sl (cM g kk σ) lv pc (.int x :: .int i :: .ref (g 15) :: st) := by
  refine j_iast C 15 (f := σ.2.1 15) rfl (vp_inN e h (by decide)) (w' := cM g kk (sF σ 15 (upd (σ.2.1 15) n x))) ?_ d k
  rw [clN e (by omega)]
  rfl
theorem rM_16 {X : jC} {cc : ByteArray} {own : String} {R : Room} {kk : Nat → Nat} {nL : Nat} (C : jF X cc own R kk nL) {g : Nat → Nat} {σ : St} {ce sl : Nat} {lv : List (Nat × Value)} {pc : Nat} {st : List Value} {i : Int32} (n : Nat) (e : i = nI n) (h : n < 168) (v : Int32) (hv : σ.2.1 16 n = v) (d : decode cc pc = .ok (.iaload, 1)) (k : J X ce sl (cM g kk σ) lv (pc + 1) (.int v :: st)) : J X ce sl (cM g kk σ) lv pc (.int i :: .ref (g 16) :: st) := by
  subst hv
  refine j_iald C 16 (f := σ.2.1 16) rfl (vp_inN e h (by decide)) d ?_
  rw [clN e (by omega)]
  exact k
theorem tM_16 {X : jC} {cc : ByteArray} {own : String} {R : Room} {kk : Nat → Nat} {nL : Nat} (C : jF X cc own R kk nL) {g : Nat → Nat} {σ : St} {ce sl : Nat} {lv : List (Nat × Value)} {pc : Nat} {st : List Value} {i : Int32} {x : Int32} (n : Nat) (e : i = nI n) (h : n < 168) (d : decode cc pc = .ok (.iastore, 1)) (k : J X ce sl (cM g kk (sF σ 16 (upd (σ.2.1 16) n x))) lv (pc + 1) st) : J X ce sl (cM g kk σ) lv pc (.int x :: .int i :: .ref (g 16) :: st) := by
  refine j_iast C 16 (f := σ.2.1 16) rfl (vp_inN e h (by decide)) (w' := cM g kk (sF σ 16 (upd (σ.2.1 16) n x))) ?_ d k
  rw [clN e (by omega)]
  rfl
theorem rM_17 {X : jC} {cc : ByteArray} {own : String} {R : Room} {kk : Nat → Nat} {nL : Nat} (C : jF X cc own R kk nL) {g : Nat → Nat} {σ : St} {ce sl : Nat} {lv : List (Nat × Value)} {pc : Nat} {st : List Value} {i : Int32} (n : Nat) (e : i = nI n) (h : n < 168) (v : Int32) (hv : σ.2.1 17 n = v) (d : decode cc pc = .ok (.iaload, 1)) (k : J X ce sl (cM g kk σ) lv (pc + 1) (.int v :: st)) : J X ce sl (cM g kk σ) lv pc (.int i :: .ref (g 17) :: st) := by
  subst hv
  refine j_iald C 17 (f := σ.2.1 17) rfl (vp_inN e h (by decide)) d ?_
  rw [clN e (by omega)]
  exact k
theorem tM_17 {X : jC} {cc : ByteArray} {own : String} {R : Room} {kk : Nat → Nat} {nL : Nat} (C : jF X cc own R kk nL) {g : Nat → Nat} {σ : St} {ce sl : Nat} {lv : List (Nat × Value)} {pc : Nat} {st : List Value} {i : Int32} {x : Int32} (n : Nat) (e : i = nI n) (h : n < 168) (d : decode cc pc = .ok (.iastore, 1)) (k : J X ce sl (cM g kk (sF σ 17 (upd (σ.2.1 17) n x))) lv (pc + 1) st) : J X ce sl (cM g kk σ) lv pc (.int x :: .int i :: .ref (g 17) :: st) := by
  refine j_iast C 17 (f := σ.2.1 17) rfl (vp_inN e h (by decide)) (w' := cM g kk (sF σ 17 (upd (σ.2.1 17) n x))) ?_ d k
  rw [clN e (by omega)]
  rfl
theorem rM_18 {X : jC} {cc : ByteArray} {own : String} {R : Room} {kk : Nat → Nat} {nL : Nat} (C : jF X cc own R kk nL) {g : Nat → Nat} {σ : St} {ce sl : Nat} {lv : List (Nat × Value)} {pc : Nat} {st : List Value} {i : Int32} (n : Nat) (e : i = nI n) (h : n < 168) (v : Int32) (hv : σ.2.1 18 n = v) (d : decode cc pc = .ok (.iaload, 1)) (k : J X ce sl (cM g kk σ) lv (pc + 1) (.int v :: st)) : J X ce sl (cM g kk σ) lv pc (.int i :: .ref (g 18) :: st) := by
  subst hv
  refine j_iald C 18 (f := σ.2.1 18) rfl (vp_inN e h (by decide)) d ?_
  rw [clN e (by omega)]
  exact k
theorem tM_18 {X : jC} {cc : ByteArray} {own : String} {R : Room} {kk : Nat → Nat} {nL : Nat} (C : jF X cc own R kk nL) {g : Nat → Nat} {σ : St} {ce sl : Nat} {lv : List (Nat × Value)} {pc : Nat} {st : List Value} {i : Int32} {x : Int32} (n : Nat) (e : i = nI n) (h : n < 168) (d : decode cc pc = .ok (.iastore, 1)) (k : J X ce sl (cM g kk (sF σ 18 (upd (σ.2.1 18) n x))) lv (pc + 1) st) : J X ce sl (cM g kk σ) lv pc (.int x :: .int i :: .ref (g 18) :: st) := by
  refine j_iast C 18 (f := σ.2.1 18) rfl (vp_inN e h (by decide)) (w' := cM g kk (sF σ 18 (upd (σ.2.1 18) n x))) ?_ d k
  rw [clN e (by omega)]
  rfl
theorem rM_19 {X : jC} {cc : ByteArray} {own : String} {R : Room} {kk : Nat → Nat} {nL : Nat} (C : jF X cc own R kk nL) {g : Nat → Nat} {σ : St} {ce sl : Nat} {lv : List (Nat × Value)} {pc : Nat} {st : List Value} {i : Int32} (n : Nat) (e : i = nI n) (h : n < 21) (v : Int32) (hv : σ.2.1 19 n = v) (d : decode cc pc = .ok (.iaload, 1)) (k : J X ce sl (cM g kk σ) lv (pc + 1) (.int v :: st)) : J X ce sl (cM g kk σ) lv pc (.int i :: .ref (g 19) :: st) := by
  subst hv
  refine j_iald C 19 (f := σ.2.1 19) rfl (vp_inN e h (by decide)) d ?_
  rw [clN e (by omega)]
  exact k
theorem tM_19 {X : jC} {cc : ByteArray} {own : String} {R : Room} {kk : Nat → Nat} {nL : Nat} (C : jF X cc own R kk nL) {g : Nat → Nat} {σ : St} {ce sl : Nat} {lv : List (Nat × Value)} {pc : Nat} {st : List Value} {i : Int32} {x : Int32} (n : Nat) (e : i = nI n) (h : n < 21) (d : decode cc pc = .ok (.iastore, 1)) (k : J X ce sl (cM g kk (sF σ 19 (upd (σ.2.1 19) n x))) lv (pc + 1) st) : J X ce sl (cM g kk σ) lv pc (.int x :: .int i :: .ref (g 19) :: st) := by
  refine j_iast C 19 (f := σ.2.1 19) rfl (vp_inN e h (by decide)) (w' := cM g kk (sF σ 19 (upd (σ.2.1 19) n x))) ?_ d k
  rw [clN e (by omega)]
  rfl
theorem rM_20 {X : jC} {cc : ByteArray} {own : String} {R : Room} {kk : Nat → Nat} {nL : Nat} (C : jF X cc own R kk nL) {g : Nat → Nat} {σ : St} {ce sl : Nat} {lv : List (Nat × Value)} {pc : Nat} {st : List Value} {i : Int32} (n : Nat) (e : i = nI n) (h : n < 7) (v : Int32) (hv : σ.2.1 20 n = v) (d : decode cc pc = .ok (.iaload, 1)) (k : J X ce sl (cM g kk σ) lv (pc + 1) (.int v :: st)) : J X ce sl (cM g kk σ) lv pc (.int i :: .ref (g 20) :: st) := by
  subst hv
  refine j_iald C 20 (f := σ.2.1 20) rfl (vp_inN e h (by decide)) d ?_
  rw [clN e (by omega)]
  exact k
theorem tM_20 {X : jC} {cc : ByteArray} {own : String} {R : Room} {kk : Nat → Nat} {nL : Nat} (C : jF X cc own R kk nL) {g : Nat → Nat} {σ : St} {ce sl : Nat} {lv : List (Nat × Value)} {pc : Nat} {st : List Value} {i : Int32} {x : Int32} (n : Nat) (e : i = nI n) (h : n < 7) (d : decode cc pc = .ok (.iastore, 1)) (k : J X ce sl (cM g kk (sF σ 20 (upd (σ.2.1 20) n x))) lv (pc + 1) st) : J X ce sl (cM g kk σ) lv pc (.int x :: .int i :: .ref (g 20) :: st) := by
  refine j_iast C 20 (f := σ.2.1 20) rfl (vp_inN e h (by decide)) (w' := cM g kk (sF σ 20 (upd (σ.2.1 20) n x))) ?_ d k
  rw [clN e (by omega)]
  rfl
theorem rM_21 {X : jC} {cc : ByteArray} {own : String} {R : Room} {kk : Nat → Nat} {nL : Nat} (C : jF X cc own R kk nL) {g : Nat → Nat} {σ : St} {ce sl : Nat} {lv : List (Nat × Value)} {pc : Nat} {st : List Value} {i : Int32} (n : Nat) (e : i = nI n) (h : n < 38) (v : Int32) (hv : σ.2.1 21 n = v) (d : decode cc pc = .ok (.iaload, 1)) (k : J X ce sl (cM g kk σ) lv (pc + 1) (.int v :: st)) : J X ce sl (cM g kk σ) lv pc (.int i :: .ref (g 21) :: st) := by
  subst hv
  refine j_iald C 21 (f := σ.2.1 21) rfl (vp_inN e h (by decide)) d ?_
  rw [clN e (by omega)]
  exact k
theorem tM_21 {X : jC} {cc : ByteArray} {own : String} {R : Room} {kk : Nat → Nat} {nL : Nat} (C : jF X cc own R kk nL) {g : Nat → Nat} {σ : St} {ce sl : Nat} {lv : List (Nat × Value)} {pc : Nat} {st : List Value} {i : Int32} {x : Int32} (n : Nat) (e : i = nI n) (h : n < 38) (d : decode cc pc = .ok (.iastore, 1)) (k : J X ce sl (cM g kk (sF σ 21 (upd (σ.2.1 21) n x))) lv (pc + 1) st) : J X ce sl (cM g kk σ) lv pc (.int x :: .int i :: .ref (g 21) :: st) := by
  refine j_iast C 21 (f := σ.2.1 21) rfl (vp_inN e h (by decide)) (w' := cM g kk (sF σ 21 (upd (σ.2.1 21) n x))) ?_ d k
  rw [clN e (by omega)]
  rfl
theorem rM_22 {X : jC} {cc : ByteArray} {own : String} {R : Room} {kk : Nat → Nat} {nL : Nat} (C : jF X cc own R kk nL) {g : Nat → Nat} {σ : St} {ce sl : Nat} {lv : List (Nat × Value)} {pc : Nat} {st : List Value} {i : Int32} (n : Nat) (e : i = nI n) (h : n < 38) (v : Int32) (hv : σ.2.1 22 n = v) (d : decode cc pc = .ok (.iaload, 1)) (k : J X ce sl (cM g kk σ) lv (pc + 1) (.int v :: st)) : J X ce sl (cM g kk σ) lv pc (.int i :: .ref (g 22) :: st) := by
  subst hv
  refine j_iald C 22 (f := σ.2.1 22) rfl (vp_inN e h (by decide)) d ?_
  rw [clN e (by omega)]
  exact k
theorem tM_22 {X : jC} {cc : ByteArray} {own : String} {R : Room} {kk : Nat → Nat} {nL : Nat} (C : jF X cc own R kk nL) {g : Nat → Nat} {σ : St} {ce sl : Nat} {lv : List (Nat × Value)} {pc : Nat} {st : List Value} {i : Int32} {x : Int32} (n : Nat) (e : i = nI n) (h : n < 38) (d : decode cc pc = .ok (.iastore, 1)) (k : J X ce sl (cM g kk (sF σ 22 (upd (σ.2.1 22) n x))) lv (pc + 1) st) : J X ce sl (cM g kk σ) lv pc (.int x :: .int i :: .ref (g 22) :: st) := by
  refine j_iast C 22 (f := σ.2.1 22) rfl (vp_inN e h (by decide)) (w' := cM g kk (sF σ 22 (upd (σ.2.1 22) n x))) ?_ d k
  rw [clN e (by omega)]
  rfl
theorem rM_23 {X : jC} {cc : ByteArray} {own : String} {R : Room} {kk : Nat → Nat} {nL : Nat} (C : jF X cc own R kk nL) {g : Nat → Nat} {σ : St} {ce sl : Nat} {lv : List (Nat × Value)} {pc : Nat} {st : List Value} {i : Int32} (n : Nat) (e : i = nI n) (h : n < 38) (v : Int32) (hv : σ.2.1 23 n = v) (d : decode cc pc = .ok (.iaload, 1)) (k : J X ce sl (cM g kk σ) lv (pc + 1) (.int v :: st)) : J X ce sl (cM g kk σ) lv pc (.int i :: .ref (g 23) :: st) := by
  subst hv
  refine j_iald C 23 (f := σ.2.1 23) rfl (vp_inN e h (by decide)) d ?_
  rw [clN e (by omega)]
  exact k
theorem tM_23 {X : jC} {cc : ByteArray} {own : String} {R : Room} {kk : Nat → Nat} {nL : Nat} (C : jF X cc own R kk nL) {g : Nat → Nat} {σ : St} {ce sl : Nat} {lv : List (Nat × Value)} {pc : Nat} {st : List Value} {i : Int32} {x : Int32} (n : Nat) (e : i = nI n) (h : n < 38) (d : decode cc pc = .ok (.iastore, 1)) (k : J X ce sl (cM g kk (sF σ 23 (upd (σ.2.1 23) n x))) lv (pc + 1) st) : J X ce sl (cM g kk σ) lv pc (.int x :: .int i :: .ref (g 23) :: st) := by
  refine j_iast C 23 (f := σ.2.1 23) rfl (vp_inN e h (by decide)) (w' := cM g kk (sF σ 23 (upd (σ.2.1 23) n x))) ?_ d k
  rw [clN e (by omega)]
  rfl
theorem rM_24 {X : jC} {cc : ByteArray} {own : String} {R : Room} {kk : Nat → Nat} {nL : Nat} (C : jF X cc own R kk nL) {g : Nat → Nat} {σ : St} {ce sl : Nat} {lv : List (Nat × Value)} {pc : Nat} {st : List Value} {i : Int32} (n : Nat) (e : i = nI n) (h : n < 28) (v : Int32) (hv : σ.2.1 24 n = v) (d : decode cc pc = .ok (.iaload, 1)) (k : J X ce sl (cM g kk σ) lv (pc + 1) (.int v :: st)) : J X ce sl (cM g kk σ) lv pc (.int i :: .ref (g 24) :: st) := by
  subst hv
  refine j_iald C 24 (f := σ.2.1 24) rfl (vp_inN e h (by decide)) d ?_
  rw [clN e (by omega)]
  exact k
theorem tM_24 {X : jC} {cc : ByteArray} {own : String} {R : Room} {kk : Nat → Nat} {nL : Nat} (C : jF X cc own R kk nL) {g : Nat → Nat} {σ : St} {ce sl : Nat} {lv : List (Nat × Value)} {pc : Nat} {st : List Value} {i : Int32} {x : Int32} (n : Nat) (e : i = nI n) (h : n < 28) (d : decode cc pc = .ok (.iastore, 1)) (k : J X ce sl (cM g kk (sF σ 24 (upd (σ.2.1 24) n x))) lv (pc + 1) st) : J X ce sl (cM g kk σ) lv pc (.int x :: .int i :: .ref (g 24) :: st) := by
  refine j_iast C 24 (f := σ.2.1 24) rfl (vp_inN e h (by decide)) (w' := cM g kk (sF σ 24 (upd (σ.2.1 24) n x))) ?_ d k
  rw [clN e (by omega)]
  rfl
theorem rM_25 {X : jC} {cc : ByteArray} {own : String} {R : Room} {kk : Nat → Nat} {nL : Nat} (C : jF X cc own R kk nL) {g : Nat → Nat} {σ : St} {ce sl : Nat} {lv : List (Nat × Value)} {pc : Nat} {st : List Value} {i : Int32} (n : Nat) (e : i = nI n) (h : n < 28) (v : Int32) (hv : σ.2.1 25 n = v) (d : decode cc pc = .ok (.iaload, 1)) (k : J X ce sl (cM g kk σ) lv (pc + 1) (.int v :: st)) : J X ce sl (cM g kk σ) lv pc (.int i :: .ref (g 25) :: st) := by
  subst hv
  refine j_iald C 25 (f := σ.2.1 25) rfl (vp_inN e h (by decide)) d ?_
  rw [clN e (by omega)]
  exact k
theorem tM_25 {X : jC} {cc : ByteArray} {own : String} {R : Room} {kk : Nat → Nat} {nL : Nat} (C : jF X cc own R kk nL) {g : Nat → Nat} {σ : St} {ce sl : Nat} {lv : List (Nat × Value)} {pc : Nat} {st : List Value} {i : Int32} {x : Int32} (n : Nat) (e : i = nI n) (h : n < 28) (d : decode cc pc = .ok (.iastore, 1)) (k : J X ce sl (cM g kk (sF σ 25 (upd (σ.2.1 25) n x))) lv (pc + 1) st) : J X ce sl (cM g kk σ) lv pc (.int x :: .int i :: .ref (g 25) :: st) := by
  refine j_iast C 25 (f := σ.2.1 25) rfl (vp_inN e h (by decide)) (w' := cM g kk (sF σ 25 (upd (σ.2.1 25) n x))) ?_ d k
  rw [clN e (by omega)]
  rfl
theorem rM_26 {X : jC} {cc : ByteArray} {own : String} {R : Room} {kk : Nat → Nat} {nL : Nat} (C : jF X cc own R kk nL) {g : Nat → Nat} {σ : St} {ce sl : Nat} {lv : List (Nat × Value)} {pc : Nat} {st : List Value} {i : Int32} (n : Nat) (e : i = nI n) (h : n < 6) (v : Int32) (hv : σ.2.1 26 n = v) (d : decode cc pc = .ok (.iaload, 1)) (k : J X ce sl (cM g kk σ) lv (pc + 1) (.int v :: st)) : J X ce sl (cM g kk σ) lv pc (.int i :: .ref (g 26) :: st) := by
  subst hv
  refine j_iald C 26 (f := σ.2.1 26) rfl (vp_inN e h (by decide)) d ?_
  rw [clN e (by omega)]
  exact k
theorem tM_26 {X : jC} {cc : ByteArray} {own : String} {R : Room} {kk : Nat → Nat} {nL : Nat} (C : jF X cc own R kk nL) {g : Nat → Nat} {σ : St} {ce sl : Nat} {lv : List (Nat × Value)} {pc : Nat} {st : List Value} {i : Int32} {x : Int32} (n : Nat) (e : i = nI n) (h : n < 6) (d : decode cc pc = .ok (.iastore, 1)) (k : J X ce sl (cM g kk (sF σ 26 (upd (σ.2.1 26) n x))) lv (pc + 1) st) : J X ce sl (cM g kk σ) lv pc (.int x :: .int i :: .ref (g 26) :: st) := by
  refine j_iast C 26 (f := σ.2.1 26) rfl (vp_inN e h (by decide)) (w' := cM g kk (sF σ 26 (upd (σ.2.1 26) n x))) ?_ d k
  rw [clN e (by omega)]
  rfl
theorem rM_27 {X : jC} {cc : ByteArray} {own : String} {R : Room} {kk : Nat → Nat} {nL : Nat} (C : jF X cc own R kk nL) {g : Nat → Nat} {σ : St} {ce sl : Nat} {lv : List (Nat × Value)} {pc : Nat} {st : List Value} {i : Int32} (n : Nat) (e : i = nI n) (h : n < 6) (v : Int32) (hv : σ.2.1 27 n = v) (d : decode cc pc = .ok (.iaload, 1)) (k : J X ce sl (cM g kk σ) lv (pc + 1) (.int v :: st)) : J X ce sl (cM g kk σ) lv pc (.int i :: .ref (g 27) :: st) := by
  subst hv
  refine j_iald C 27 (f := σ.2.1 27) rfl (vp_inN e h (by decide)) d ?_
  rw [clN e (by omega)]
  exact k
theorem tM_27 {X : jC} {cc : ByteArray} {own : String} {R : Room} {kk : Nat → Nat} {nL : Nat} (C : jF X cc own R kk nL) {g : Nat → Nat} {σ : St} {ce sl : Nat} {lv : List (Nat × Value)} {pc : Nat} {st : List Value} {i : Int32} {x : Int32} (n : Nat) (e : i = nI n) (h : n < 6) (d : decode cc pc = .ok (.iastore, 1)) (k : J X ce sl (cM g kk (sF σ 27 (upd (σ.2.1 27) n x))) lv (pc + 1) st) : J X ce sl (cM g kk σ) lv pc (.int x :: .int i :: .ref (g 27) :: st) := by
  refine j_iast C 27 (f := σ.2.1 27) rfl (vp_inN e h (by decide)) (w' := cM g kk (sF σ 27 (upd (σ.2.1 27) n x))) ?_ d k
  rw [clN e (by omega)]
  rfl
theorem rM_28 {X : jC} {cc : ByteArray} {own : String} {R : Room} {kk : Nat → Nat} {nL : Nat} (C : jF X cc own R kk nL) {g : Nat → Nat} {σ : St} {ce sl : Nat} {lv : List (Nat × Value)} {pc : Nat} {st : List Value} {i : Int32} (n : Nat) (e : i = nI n) (h : n < 6) (v : Int32) (hv : σ.2.1 28 n = v) (d : decode cc pc = .ok (.iaload, 1)) (k : J X ce sl (cM g kk σ) lv (pc + 1) (.int v :: st)) : J X ce sl (cM g kk σ) lv pc (.int i :: .ref (g 28) :: st) := by
  subst hv
  refine j_iald C 28 (f := σ.2.1 28) rfl (vp_inN e h (by decide)) d ?_
  rw [clN e (by omega)]
  exact k
theorem tM_28 {X : jC} {cc : ByteArray} {own : String} {R : Room} {kk : Nat → Nat} {nL : Nat} (C : jF X cc own R kk nL) {g : Nat → Nat} {σ : St} {ce sl : Nat} {lv : List (Nat × Value)} {pc : Nat} {st : List Value} {i : Int32} {x : Int32} (n : Nat) (e : i = nI n) (h : n < 6) (d : decode cc pc = .ok (.iastore, 1)) (k : J X ce sl (cM g kk (sF σ 28 (upd (σ.2.1 28) n x))) lv (pc + 1) st) : J X ce sl (cM g kk σ) lv pc (.int x :: .int i :: .ref (g 28) :: st) := by
  refine j_iast C 28 (f := σ.2.1 28) rfl (vp_inN e h (by decide)) (w' := cM g kk (sF σ 28 (upd (σ.2.1 28) n x))) ?_ d k
  rw [clN e (by omega)]
  rfl
theorem rM_29 {X : jC} {cc : ByteArray} {own : String} {R : Room} {kk : Nat → Nat} {nL : Nat} (C : jF X cc own R kk nL) {g : Nat → Nat} {σ : St} {ce sl : Nat} {lv : List (Nat × Value)} {pc : Nat} {st : List Value} {i : Int32} (n : Nat) (e : i = nI n) (h : n < 6) (v : Int32) (hv : σ.2.1 29 n = v) (d : decode cc pc = .ok (.iaload, 1)) (k : J X ce sl (cM g kk σ) lv (pc + 1) (.int v :: st)) : J X ce sl (cM g kk σ) lv pc (.int i :: .ref (g 29) :: st) := by
  subst hv
  refine j_iald C 29 (f := σ.2.1 29) rfl (vp_inN e h (by decide)) d ?_
  rw [clN e (by omega)]
  exact k
theorem tM_29 {X : jC} {cc : ByteArray} {own : String} {R : Room} {kk : Nat → Nat} {nL : Nat} (C : jF X cc own R kk nL) {g : Nat → Nat} {σ : St} {ce sl : Nat} {lv : List (Nat × Value)} {pc : Nat} {st : List Value} {i : Int32} {x : Int32} (n : Nat) (e : i = nI n) (h : n < 6) (d : decode cc pc = .ok (.iastore, 1)) (k : J X ce sl (cM g kk (sF σ 29 (upd (σ.2.1 29) n x))) lv (pc + 1) st) : J X ce sl (cM g kk σ) lv pc (.int x :: .int i :: .ref (g 29) :: st) := by
  refine j_iast C 29 (f := σ.2.1 29) rfl (vp_inN e h (by decide)) (w' := cM g kk (sF σ 29 (upd (σ.2.1 29) n x))) ?_ d k
  rw [clN e (by omega)]
  rfl
theorem rM_30 {X : jC} {cc : ByteArray} {own : String} {R : Room} {kk : Nat → Nat} {nL : Nat} (C : jF X cc own R kk nL) {g : Nat → Nat} {σ : St} {ce sl : Nat} {lv : List (Nat × Value)} {pc : Nat} {st : List Value} {i : Int32} (n : Nat) (e : i = nI n) (h : n < 6) (v : Int32) (hv : σ.2.1 30 n = v) (d : decode cc pc = .ok (.iaload, 1)) (k : J X ce sl (cM g kk σ) lv (pc + 1) (.int v :: st)) : J X ce sl (cM g kk σ) lv pc (.int i :: .ref (g 30) :: st) := by
  subst hv
  refine j_iald C 30 (f := σ.2.1 30) rfl (vp_inN e h (by decide)) d ?_
  rw [clN e (by omega)]
  exact k
theorem tM_30 {X : jC} {cc : ByteArray} {own : String} {R : Room} {kk : Nat → Nat} {nL : Nat} (C : jF X cc own R kk nL) {g : Nat → Nat} {σ : St} {ce sl : Nat} {lv : List (Nat × Value)} {pc : Nat} {st : List Value} {i : Int32} {x : Int32} (n : Nat) (e : i = nI n) (h : n < 6) (d : decode cc pc = .ok (.iastore, 1)) (k : J X ce sl (cM g kk (sF σ 30 (upd (σ.2.1 30) n x))) lv (pc + 1) st) : J X ce sl (cM g kk σ) lv pc (.int x :: .int i :: .ref (g 30) :: st) := by
  refine j_iast C 30 (f := σ.2.1 30) rfl (vp_inN e h (by decide)) (w' := cM g kk (sF σ 30 (upd (σ.2.1 30) n x))) ?_ d k
  rw [clN e (by omega)]
  rfl
theorem rM_31 {X : jC} {cc : ByteArray} {own : String} {R : Room} {kk : Nat → Nat} {nL : Nat} (C : jF X cc own R kk nL) {g : Nat → Nat} {σ : St} {ce sl : Nat} {lv : List (Nat × Value)} {pc : Nat} {st : List Value} {i : Int32} (n : Nat) (e : i = nI n) (h : n < 28) (v : Int64) (hv : σ.2.2.2 31 n = v) (d : decode cc pc = .ok (.laload, 1)) (k : J X ce sl (cM g kk σ) lv (pc + 1) (.long v :: st)) : J X ce sl (cM g kk σ) lv pc (.int i :: .ref (g 31) :: st) := by
  subst hv
  refine j_lald C 31 (f := σ.2.2.2 31) rfl (vp_inN e h (by decide)) d ?_
  rw [clN e (by omega)]
  exact k
theorem tM_31 {X : jC} {cc : ByteArray} {own : String} {R : Room} {kk : Nat → Nat} {nL : Nat} (C : jF X cc own R kk nL) {g : Nat → Nat} {σ : St} {ce sl : Nat} {lv : List (Nat × Value)} {pc : Nat} {st : List Value} {i : Int32} {x : Int64} (n : Nat) (e : i = nI n) (h : n < 28) (d : decode cc pc = .ok (.lastore, 1)) (k : J X ce sl (cM g kk (sG σ 31 (vp_updL (σ.2.2.2 31) n x))) lv (pc + 1) st) : J X ce sl (cM g kk σ) lv pc (.long x :: .int i :: .ref (g 31) :: st) := by
  refine j_last C 31 (f := σ.2.2.2 31) rfl (vp_inN e h (by decide)) (w' := cM g kk (sG σ 31 (vp_updL (σ.2.2.2 31) n x))) ?_ d k
  rw [clN e (by omega)]
  rfl
theorem rM_32 {X : jC} {cc : ByteArray} {own : String} {R : Room} {kk : Nat → Nat} {nL : Nat} (C : jF X cc own R kk nL) {g : Nat → Nat} {σ : St} {ce sl : Nat} {lv : List (Nat × Value)} {pc : Nat} {st : List Value} {i : Int32} (n : Nat) (e : i = nI n) (h : n < 1800) (v : Int32) (hv : σ.2.1 32 n = v) (d : decode cc pc = .ok (.iaload, 1)) (k : J X ce sl (cM g kk σ) lv (pc + 1) (.int v :: st)) : J X ce sl (cM g kk σ) lv pc (.int i :: .ref (g 32) :: st) := by
  subst hv
  refine j_iald C 32 (f := σ.2.1 32) rfl (vp_inN e h (by decide)) d ?_
  rw [clN e (by omega)]
  exact k
theorem tM_32 {X : jC} {cc : ByteArray} {own : String} {R : Room} {kk : Nat → Nat} {nL : Nat} (C : jF X cc own R kk nL) {g : Nat → Nat} {σ : St} {ce sl : Nat} {lv : List (Nat × Value)} {pc : Nat} {st : List Value} {i : Int32} {x : Int32} (n : Nat) (e : i = nI n) (h : n < 1800) (d : decode cc pc = .ok (.iastore, 1)) (k : J X ce sl (cM g kk (sF σ 32 (upd (σ.2.1 32) n x))) lv (pc + 1) st) : J X ce sl (cM g kk σ) lv pc (.int x :: .int i :: .ref (g 32) :: st) := by
  refine j_iast C 32 (f := σ.2.1 32) rfl (vp_inN e h (by decide)) (w' := cM g kk (sF σ 32 (upd (σ.2.1 32) n x))) ?_ d k
  rw [clN e (by omega)]
  rfl
theorem rM_33 {X : jC} {cc : ByteArray} {own : String} {R : Room} {kk : Nat → Nat} {nL : Nat} (C : jF X cc own R kk nL) {g : Nat → Nat} {σ : St} {ce sl : Nat} {lv : List (Nat × Value)} {pc : Nat} {st : List Value} {i : Int32} (n : Nat) (e : i = nI n) (h : n < 2) (v : Int32) (hv : σ.2.1 33 n = v) (d : decode cc pc = .ok (.baload, 1)) (k : J X ce sl (cM g kk σ) lv (pc + 1) (.int v :: st)) : J X ce sl (cM g kk σ) lv pc (.int i :: .ref (g 33) :: st) := by
  subst hv
  refine j_zald C 33 (f := σ.2.1 33) rfl (vp_inN e h (by decide)) d ?_
  rw [clN e (by omega)]
  exact k
theorem tM_33 {X : jC} {cc : ByteArray} {own : String} {R : Room} {kk : Nat → Nat} {nL : Nat} (C : jF X cc own R kk nL) {g : Nat → Nat} {σ : St} {ce sl : Nat} {lv : List (Nat × Value)} {pc : Nat} {st : List Value} {i : Int32} {x : Int32} (n : Nat) (e : i = nI n) (h : n < 2) (d : decode cc pc = .ok (.bastore, 1)) (k : J X ce sl (cM g kk (sF σ 33 (upd (σ.2.1 33) n (vp_nar .boolean x)))) lv (pc + 1) st) : J X ce sl (cM g kk σ) lv pc (.int x :: .int i :: .ref (g 33) :: st) := by
  refine j_zast C 33 (f := σ.2.1 33) rfl (vp_inN e h (by decide)) (w' := cM g kk (sF σ 33 (upd (σ.2.1 33) n (vp_nar .boolean x)))) ?_ d k
  rw [clN e (by omega)]
  rfl
