def bHas (c : ByteArray) (p : Nat) (l : List UInt8) : Prop := ∃ r, c.data.toList.drop p = l ++ r
theorem bH_c {c : ByteArray} {p n : Nat} {l : List UInt8} (h : (c.data.toList.drop p).take n = l) : bHas c p l := ⟨(c.data.toList.drop p).drop n, by rw [← h, List.take_append_drop]⟩
theorem bH_1 {c : ByteArray} {p : Nat} {x : UInt8} {l : List UInt8} (h : bHas c p (x :: l)) : bHas c (p + 1) l := by
  obtain ⟨r, hr⟩ := h
  exact ⟨r, by rw [← List.drop_drop, hr]; rfl⟩
theorem bH_d {c : ByteArray} {p : Nat} {l m : List UInt8} (h : bHas c p l) (k : Nat) {q : Nat} (hq : p + k = q) (hm : l.drop k = m) (x : UInt8) (t : List UInt8) (ht : m = x :: t) : bHas c q m := by
  obtain ⟨r, hr⟩ := h
  refine ⟨r, ?_⟩
  have hk : k ≤ l.length := by
    rcases Nat.lt_or_ge l.length k with z | z
    · rw [List.drop_eq_nil_of_le (Nat.le_of_lt z)] at hm
      rw [← hm] at ht
      exact absurd ht (by simp)
    · exact z
  rw [← hq, ← List.drop_drop, hr, List.drop_append_of_le_length hk, hm]
theorem bH_lt {c : ByteArray} {p : Nat} {x : UInt8} {l : List UInt8} (h : bHas c p (x :: l)) : ∃ q : p < c.size, c[p] = x := by
  obtain ⟨r, hr⟩ := h
  have h1 : c.data.toList[p]? = some x := by
    have := congrArg (fun z : List UInt8 => z[0]?) hr
    simpa using this
  have h2 : p < c.data.toList.length := by
    rcases Nat.lt_or_ge p c.data.toList.length with q | q
    · exact q
    · rw [List.getElem?_eq_none q] at h1; exact absurd h1 (by simp)
  refine ⟨h2, ?_⟩
  rw [List.getElem?_eq_getElem h2] at h1
  exact Option.some.inj h1
theorem u1_at {c : ByteArray} {p : Nat} {x : UInt8} {l : List UInt8} (h : bHas c p (x :: l)) : (Reader.u1 : Decoder Nat) c p = .ok (x.toNat, p + 1) := by
  obtain ⟨q, e⟩ := bH_lt h
  unfold Reader.u1
  show (if h : p < c.size then _ else _ : Decoder Nat) c p = _
  rw [dif_pos q, e]
  rfl
theorem u2_at {c : ByteArray} {p : Nat} {x y : UInt8} {l : List UInt8} (h : bHas c p (x :: y :: l)) : (Reader.u2 : Decoder Nat) c p = .ok (x.toNat * 256 + y.toNat, p + 2) := by
  unfold Reader.u2
  show Except.bind ((Reader.u1 : Decoder Nat) c p) _ = _
  rw [u1_at h]
  show Except.bind ((Reader.u1 : Decoder Nat) c (p + 1)) _ = _
  rw [u1_at (bH_1 h)]
  rfl
theorem s1_at {c : ByteArray} {p : Nat} {x : UInt8} {l : List UInt8} (h : bHas c p (x :: l)) : (Reader.s1 : Decoder Int) c p = .ok (Reader.signed 8 x.toNat, p + 1) := by
  unfold Reader.s1
  show Except.map _ ((Reader.u1 : Decoder Nat) c p) = _
  rw [u1_at h]
  rfl
theorem s2_at {c : ByteArray} {p : Nat} {x y : UInt8} {l : List UInt8} (h : bHas c p (x :: y :: l)) : (Reader.s2 : Decoder Int) c p = .ok (Reader.signed 16 (x.toNat * 256 + y.toNat), p + 2) := by
  unfold Reader.s2
  show Except.map _ ((Reader.u2 : Decoder Nat) c p) = _
  rw [u2_at h]
  rfl
theorem de_gen {c : ByteArray} {p : Nat} {x : UInt8} {l : List UInt8} {K : Nat → Decoder Instr} {I : Instr} (n : Nat) (hK : Decoder.instr p = (Reader.u1 >>= K)) (h : bHas c p (x :: l)) (hI : (K x.toNat) c (p + 1) = .ok (I, p + n)) : decode c p = .ok (I, n) := by
  unfold decode Reader.runAt
  rw [hK]
  show Except.bind (Except.bind ((Reader.u1 : Decoder Nat) c p) _) _ = _
  rw [u1_at h]
  show Except.bind ((K x.toNat) c (p + 1)) _ = _
  rw [hI]
  show Except.ok (I, p + n - p) = _
  rw [Nat.add_sub_cancel_left]
theorem de2 {c : ByteArray} {p q : Nat} {w l : List UInt8} (hw : bHas c p w) (k : Nat) (hl : w.drop k = 2 :: l) (hq : p + k = q) : decode c q = .ok (.iconst (-1), 1) := by
  have h := bH_d hw k hq hl _ _ rfl
  exact de_gen 1 rfl h rfl
theorem de3 {c : ByteArray} {p q : Nat} {w l : List UInt8} (hw : bHas c p w) (k : Nat) (hl : w.drop k = 3 :: l) (hq : p + k = q) : decode c q = .ok (.iconst 0, 1) := by
  have h := bH_d hw k hq hl _ _ rfl
  exact de_gen 1 rfl h rfl
theorem de4 {c : ByteArray} {p q : Nat} {w l : List UInt8} (hw : bHas c p w) (k : Nat) (hl : w.drop k = 4 :: l) (hq : p + k = q) : decode c q = .ok (.iconst 1, 1) := by
  have h := bH_d hw k hq hl _ _ rfl
  exact de_gen 1 rfl h rfl
theorem de5 {c : ByteArray} {p q : Nat} {w l : List UInt8} (hw : bHas c p w) (k : Nat) (hl : w.drop k = 5 :: l) (hq : p + k = q) : decode c q = .ok (.iconst 2, 1) := by
  have h := bH_d hw k hq hl _ _ rfl
  exact de_gen 1 rfl h rfl
theorem de6 {c : ByteArray} {p q : Nat} {w l : List UInt8} (hw : bHas c p w) (k : Nat) (hl : w.drop k = 6 :: l) (hq : p + k = q) : decode c q = .ok (.iconst 3, 1) := by
  have h := bH_d hw k hq hl _ _ rfl
  exact de_gen 1 rfl h rfl
theorem de7 {c : ByteArray} {p q : Nat} {w l : List UInt8} (hw : bHas c p w) (k : Nat) (hl : w.drop k = 7 :: l) (hq : p + k = q) : decode c q = .ok (.iconst 4, 1) := by
  have h := bH_d hw k hq hl _ _ rfl
  exact de_gen 1 rfl h rfl
theorem de8 {c : ByteArray} {p q : Nat} {w l : List UInt8} (hw : bHas c p w) (k : Nat) (hl : w.drop k = 8 :: l) (hq : p + k = q) : decode c q = .ok (.iconst 5, 1) := by
  have h := bH_d hw k hq hl _ _ rfl
  exact de_gen 1 rfl h rfl
theorem de9 {c : ByteArray} {p q : Nat} {w l : List UInt8} (hw : bHas c p w) (k : Nat) (hl : w.drop k = 9 :: l) (hq : p + k = q) : decode c q = .ok (.lconst 0, 1) := by
  have h := bH_d hw k hq hl _ _ rfl
  exact de_gen 1 rfl h rfl
theorem de10 {c : ByteArray} {p q : Nat} {w l : List UInt8} (hw : bHas c p w) (k : Nat) (hl : w.drop k = 10 :: l) (hq : p + k = q) : decode c q = .ok (.lconst 1, 1) := by
  have h := bH_d hw k hq hl _ _ rfl
  exact de_gen 1 rfl h rfl
theorem de16 {c : ByteArray} {p q : Nat} {w l : List UInt8} {x : UInt8} {v : Int} (hw : bHas c p w) (k : Nat) (hl : w.drop k = 16 :: x :: l) (hq : p + k = q) (hv : Reader.signed 8 x.toNat = v) : decode c q = .ok (.bipush v, 2) := by
  have h := bH_d hw k hq hl _ _ rfl
  exact de_gen 2 rfl h (by
    show Except.bind ((Reader.s1 : Decoder Int) c (q + 1)) _ = _
    rw [s1_at (bH_1 h), hv]
    rfl)
theorem de17 {c : ByteArray} {p q : Nat} {w l : List UInt8} {x y : UInt8} {v : Int} (hw : bHas c p w) (k : Nat) (hl : w.drop k = 17 :: x :: y :: l) (hq : p + k = q) (hv : Reader.signed 16 (x.toNat * 256 + y.toNat) = v) : decode c q = .ok (.sipush v, 3) := by
  have h := bH_d hw k hq hl _ _ rfl
  exact de_gen 3 rfl h (by
    show Except.bind ((Reader.s2 : Decoder Int) c (q + 1)) _ = _
    rw [s2_at (bH_1 h), hv]
    rfl)
theorem de18 {c : ByteArray} {p q : Nat} {w l : List UInt8} {x : UInt8} {v : Nat} (hw : bHas c p w) (k : Nat) (hl : w.drop k = 18 :: x :: l) (hq : p + k = q) (hv : x.toNat = v) : decode c q = .ok (.ldc v, 2) := by
  have h := bH_d hw k hq hl _ _ rfl
  exact de_gen 2 rfl h (by
    show Except.bind ((Reader.u1 : Decoder Nat) c (q + 1)) _ = _
    rw [u1_at (bH_1 h), hv]
    rfl)
theorem de19 {c : ByteArray} {p q : Nat} {w l : List UInt8} {x y : UInt8} {v : Nat} (hw : bHas c p w) (k : Nat) (hl : w.drop k = 19 :: x :: y :: l) (hq : p + k = q) (hv : x.toNat * 256 + y.toNat = v) : decode c q = .ok (.ldc_w v, 3) := by
  have h := bH_d hw k hq hl _ _ rfl
  exact de_gen 3 rfl h (by
    show Except.bind ((Reader.u2 : Decoder Nat) c (q + 1)) _ = _
    rw [u2_at (bH_1 h), hv]
    rfl)
theorem de20 {c : ByteArray} {p q : Nat} {w l : List UInt8} {x y : UInt8} {v : Nat} (hw : bHas c p w) (k : Nat) (hl : w.drop k = 20 :: x :: y :: l) (hq : p + k = q) (hv : x.toNat * 256 + y.toNat = v) : decode c q = .ok (.ldc2_w v, 3) := by
  have h := bH_d hw k hq hl _ _ rfl
  exact de_gen 3 rfl h (by
    show Except.bind ((Reader.u2 : Decoder Nat) c (q + 1)) _ = _
    rw [u2_at (bH_1 h), hv]
    rfl)
theorem de21 {c : ByteArray} {p q : Nat} {w l : List UInt8} {x : UInt8} {v : Nat} (hw : bHas c p w) (k : Nat) (hl : w.drop k = 21 :: x :: l) (hq : p + k = q) (hv : x.toNat = v) : decode c q = .ok (.iload v, 2) := by
  have h := bH_d hw k hq hl _ _ rfl
  exact de_gen 2 rfl h (by
    show Except.bind ((Reader.u1 : Decoder Nat) c (q + 1)) _ = _
    rw [u1_at (bH_1 h), hv]
    rfl)
theorem de22 {c : ByteArray} {p q : Nat} {w l : List UInt8} {x : UInt8} {v : Nat} (hw : bHas c p w) (k : Nat) (hl : w.drop k = 22 :: x :: l) (hq : p + k = q) (hv : x.toNat = v) : decode c q = .ok (.lload v, 2) := by
  have h := bH_d hw k hq hl _ _ rfl
  exact de_gen 2 rfl h (by
    show Except.bind ((Reader.u1 : Decoder Nat) c (q + 1)) _ = _
    rw [u1_at (bH_1 h), hv]
    rfl)
theorem de25 {c : ByteArray} {p q : Nat} {w l : List UInt8} {x : UInt8} {v : Nat} (hw : bHas c p w) (k : Nat) (hl : w.drop k = 25 :: x :: l) (hq : p + k = q) (hv : x.toNat = v) : decode c q = .ok (.aload v, 2) := by
  have h := bH_d hw k hq hl _ _ rfl
  exact de_gen 2 rfl h (by
    show Except.bind ((Reader.u1 : Decoder Nat) c (q + 1)) _ = _
    rw [u1_at (bH_1 h), hv]
    rfl)
theorem de26 {c : ByteArray} {p q : Nat} {w l : List UInt8} (hw : bHas c p w) (k : Nat) (hl : w.drop k = 26 :: l) (hq : p + k = q) : decode c q = .ok (.iload_n 0, 1) := by
  have h := bH_d hw k hq hl _ _ rfl
  exact de_gen 1 rfl h rfl
theorem de27 {c : ByteArray} {p q : Nat} {w l : List UInt8} (hw : bHas c p w) (k : Nat) (hl : w.drop k = 27 :: l) (hq : p + k = q) : decode c q = .ok (.iload_n 1, 1) := by
  have h := bH_d hw k hq hl _ _ rfl
  exact de_gen 1 rfl h rfl
theorem de28 {c : ByteArray} {p q : Nat} {w l : List UInt8} (hw : bHas c p w) (k : Nat) (hl : w.drop k = 28 :: l) (hq : p + k = q) : decode c q = .ok (.iload_n 2, 1) := by
  have h := bH_d hw k hq hl _ _ rfl
  exact de_gen 1 rfl h rfl
theorem de29 {c : ByteArray} {p q : Nat} {w l : List UInt8} (hw : bHas c p w) (k : Nat) (hl : w.drop k = 29 :: l) (hq : p + k = q) : decode c q = .ok (.iload_n 3, 1) := by
  have h := bH_d hw k hq hl _ _ rfl
  exact de_gen 1 rfl h rfl
theorem de30 {c : ByteArray} {p q : Nat} {w l : List UInt8} (hw : bHas c p w) (k : Nat) (hl : w.drop k = 30 :: l) (hq : p + k = q) : decode c q = .ok (.lload_n 0, 1) := by
  have h := bH_d hw k hq hl _ _ rfl
  exact de_gen 1 rfl h rfl
theorem de31 {c : ByteArray} {p q : Nat} {w l : List UInt8} (hw : bHas c p w) (k : Nat) (hl : w.drop k = 31 :: l) (hq : p + k = q) : decode c q = .ok (.lload_n 1, 1) := by
  have h := bH_d hw k hq hl _ _ rfl
  exact de_gen 1 rfl h rfl
theorem de32 {c : ByteArray} {p q : Nat} {w l : List UInt8} (hw : bHas c p w) (k : Nat) (hl : w.drop k = 32 :: l) (hq : p + k = q) : decode c q = .ok (.lload_n 2, 1) := by
  have h := bH_d hw k hq hl _ _ rfl
  exact de_gen 1 rfl h rfl
theorem de33 {c : ByteArray} {p q : Nat} {w l : List UInt8} (hw : bHas c p w) (k : Nat) (hl : w.drop k = 33 :: l) (hq : p + k = q) : decode c q = .ok (.lload_n 3, 1) := by
  have h := bH_d hw k hq hl _ _ rfl
  exact de_gen 1 rfl h rfl
theorem de42 {c : ByteArray} {p q : Nat} {w l : List UInt8} (hw : bHas c p w) (k : Nat) (hl : w.drop k = 42 :: l) (hq : p + k = q) : decode c q = .ok (.aload_n 0, 1) := by
  have h := bH_d hw k hq hl _ _ rfl
  exact de_gen 1 rfl h rfl
theorem de43 {c : ByteArray} {p q : Nat} {w l : List UInt8} (hw : bHas c p w) (k : Nat) (hl : w.drop k = 43 :: l) (hq : p + k = q) : decode c q = .ok (.aload_n 1, 1) := by
  have h := bH_d hw k hq hl _ _ rfl
  exact de_gen 1 rfl h rfl
theorem de44 {c : ByteArray} {p q : Nat} {w l : List UInt8} (hw : bHas c p w) (k : Nat) (hl : w.drop k = 44 :: l) (hq : p + k = q) : decode c q = .ok (.aload_n 2, 1) := by
  have h := bH_d hw k hq hl _ _ rfl
  exact de_gen 1 rfl h rfl
theorem de45 {c : ByteArray} {p q : Nat} {w l : List UInt8} (hw : bHas c p w) (k : Nat) (hl : w.drop k = 45 :: l) (hq : p + k = q) : decode c q = .ok (.aload_n 3, 1) := by
  have h := bH_d hw k hq hl _ _ rfl
  exact de_gen 1 rfl h rfl
theorem de46 {c : ByteArray} {p q : Nat} {w l : List UInt8} (hw : bHas c p w) (k : Nat) (hl : w.drop k = 46 :: l) (hq : p + k = q) : decode c q = .ok (.iaload, 1) := by
  have h := bH_d hw k hq hl _ _ rfl
  exact de_gen 1 rfl h rfl
theorem de47 {c : ByteArray} {p q : Nat} {w l : List UInt8} (hw : bHas c p w) (k : Nat) (hl : w.drop k = 47 :: l) (hq : p + k = q) : decode c q = .ok (.laload, 1) := by
  have h := bH_d hw k hq hl _ _ rfl
  exact de_gen 1 rfl h rfl
theorem de50 {c : ByteArray} {p q : Nat} {w l : List UInt8} (hw : bHas c p w) (k : Nat) (hl : w.drop k = 50 :: l) (hq : p + k = q) : decode c q = .ok (.aaload, 1) := by
  have h := bH_d hw k hq hl _ _ rfl
  exact de_gen 1 rfl h rfl
theorem de51 {c : ByteArray} {p q : Nat} {w l : List UInt8} (hw : bHas c p w) (k : Nat) (hl : w.drop k = 51 :: l) (hq : p + k = q) : decode c q = .ok (.baload, 1) := by
  have h := bH_d hw k hq hl _ _ rfl
  exact de_gen 1 rfl h rfl
theorem de54 {c : ByteArray} {p q : Nat} {w l : List UInt8} {x : UInt8} {v : Nat} (hw : bHas c p w) (k : Nat) (hl : w.drop k = 54 :: x :: l) (hq : p + k = q) (hv : x.toNat = v) : decode c q = .ok (.istore v, 2) := by
  have h := bH_d hw k hq hl _ _ rfl
  exact de_gen 2 rfl h (by
    show Except.bind ((Reader.u1 : Decoder Nat) c (q + 1)) _ = _
    rw [u1_at (bH_1 h), hv]
    rfl)
theorem de55 {c : ByteArray} {p q : Nat} {w l : List UInt8} {x : UInt8} {v : Nat} (hw : bHas c p w) (k : Nat) (hl : w.drop k = 55 :: x :: l) (hq : p + k = q) (hv : x.toNat = v) : decode c q = .ok (.lstore v, 2) := by
  have h := bH_d hw k hq hl _ _ rfl
  exact de_gen 2 rfl h (by
    show Except.bind ((Reader.u1 : Decoder Nat) c (q + 1)) _ = _
    rw [u1_at (bH_1 h), hv]
    rfl)
theorem de60 {c : ByteArray} {p q : Nat} {w l : List UInt8} (hw : bHas c p w) (k : Nat) (hl : w.drop k = 60 :: l) (hq : p + k = q) : decode c q = .ok (.istore_n 1, 1) := by
  have h := bH_d hw k hq hl _ _ rfl
  exact de_gen 1 rfl h rfl
theorem de61 {c : ByteArray} {p q : Nat} {w l : List UInt8} (hw : bHas c p w) (k : Nat) (hl : w.drop k = 61 :: l) (hq : p + k = q) : decode c q = .ok (.istore_n 2, 1) := by
  have h := bH_d hw k hq hl _ _ rfl
  exact de_gen 1 rfl h rfl
theorem de62 {c : ByteArray} {p q : Nat} {w l : List UInt8} (hw : bHas c p w) (k : Nat) (hl : w.drop k = 62 :: l) (hq : p + k = q) : decode c q = .ok (.istore_n 3, 1) := by
  have h := bH_d hw k hq hl _ _ rfl
  exact de_gen 1 rfl h rfl
theorem de64 {c : ByteArray} {p q : Nat} {w l : List UInt8} (hw : bHas c p w) (k : Nat) (hl : w.drop k = 64 :: l) (hq : p + k = q) : decode c q = .ok (.lstore_n 1, 1) := by
  have h := bH_d hw k hq hl _ _ rfl
  exact de_gen 1 rfl h rfl
theorem de66 {c : ByteArray} {p q : Nat} {w l : List UInt8} (hw : bHas c p w) (k : Nat) (hl : w.drop k = 66 :: l) (hq : p + k = q) : decode c q = .ok (.lstore_n 3, 1) := by
  have h := bH_d hw k hq hl _ _ rfl
  exact de_gen 1 rfl h rfl
theorem de76 {c : ByteArray} {p q : Nat} {w l : List UInt8} (hw : bHas c p w) (k : Nat) (hl : w.drop k = 76 :: l) (hq : p + k = q) : decode c q = .ok (.astore_n 1, 1) := by
  have h := bH_d hw k hq hl _ _ rfl
  exact de_gen 1 rfl h rfl
theorem de77 {c : ByteArray} {p q : Nat} {w l : List UInt8} (hw : bHas c p w) (k : Nat) (hl : w.drop k = 77 :: l) (hq : p + k = q) : decode c q = .ok (.astore_n 2, 1) := by
  have h := bH_d hw k hq hl _ _ rfl
  exact de_gen 1 rfl h rfl
theorem de79 {c : ByteArray} {p q : Nat} {w l : List UInt8} (hw : bHas c p w) (k : Nat) (hl : w.drop k = 79 :: l) (hq : p + k = q) : decode c q = .ok (.iastore, 1) := by
  have h := bH_d hw k hq hl _ _ rfl
  exact de_gen 1 rfl h rfl
theorem de80 {c : ByteArray} {p q : Nat} {w l : List UInt8} (hw : bHas c p w) (k : Nat) (hl : w.drop k = 80 :: l) (hq : p + k = q) : decode c q = .ok (.lastore, 1) := by
  have h := bH_d hw k hq hl _ _ rfl
  exact de_gen 1 rfl h rfl
theorem de83 {c : ByteArray} {p q : Nat} {w l : List UInt8} (hw : bHas c p w) (k : Nat) (hl : w.drop k = 83 :: l) (hq : p + k = q) : decode c q = .ok (.aastore, 1) := by
  have h := bH_d hw k hq hl _ _ rfl
  exact de_gen 1 rfl h rfl
theorem de84 {c : ByteArray} {p q : Nat} {w l : List UInt8} (hw : bHas c p w) (k : Nat) (hl : w.drop k = 84 :: l) (hq : p + k = q) : decode c q = .ok (.bastore, 1) := by
  have h := bH_d hw k hq hl _ _ rfl
  exact de_gen 1 rfl h rfl
theorem de87 {c : ByteArray} {p q : Nat} {w l : List UInt8} (hw : bHas c p w) (k : Nat) (hl : w.drop k = 87 :: l) (hq : p + k = q) : decode c q = .ok (.pop, 1) := by
  have h := bH_d hw k hq hl _ _ rfl
  exact de_gen 1 rfl h rfl
theorem de88 {c : ByteArray} {p q : Nat} {w l : List UInt8} (hw : bHas c p w) (k : Nat) (hl : w.drop k = 88 :: l) (hq : p + k = q) : decode c q = .ok (.pop2, 1) := by
  have h := bH_d hw k hq hl _ _ rfl
  exact de_gen 1 rfl h rfl
theorem de89 {c : ByteArray} {p q : Nat} {w l : List UInt8} (hw : bHas c p w) (k : Nat) (hl : w.drop k = 89 :: l) (hq : p + k = q) : decode c q = .ok (.dup, 1) := by
  have h := bH_d hw k hq hl _ _ rfl
  exact de_gen 1 rfl h rfl
theorem de92 {c : ByteArray} {p q : Nat} {w l : List UInt8} (hw : bHas c p w) (k : Nat) (hl : w.drop k = 92 :: l) (hq : p + k = q) : decode c q = .ok (.dup2, 1) := by
  have h := bH_d hw k hq hl _ _ rfl
  exact de_gen 1 rfl h rfl
theorem de96 {c : ByteArray} {p q : Nat} {w l : List UInt8} (hw : bHas c p w) (k : Nat) (hl : w.drop k = 96 :: l) (hq : p + k = q) : decode c q = .ok (.iadd, 1) := by
  have h := bH_d hw k hq hl _ _ rfl
  exact de_gen 1 rfl h rfl
theorem de97 {c : ByteArray} {p q : Nat} {w l : List UInt8} (hw : bHas c p w) (k : Nat) (hl : w.drop k = 97 :: l) (hq : p + k = q) : decode c q = .ok (.ladd, 1) := by
  have h := bH_d hw k hq hl _ _ rfl
  exact de_gen 1 rfl h rfl
theorem de100 {c : ByteArray} {p q : Nat} {w l : List UInt8} (hw : bHas c p w) (k : Nat) (hl : w.drop k = 100 :: l) (hq : p + k = q) : decode c q = .ok (.isub, 1) := by
  have h := bH_d hw k hq hl _ _ rfl
  exact de_gen 1 rfl h rfl
theorem de101 {c : ByteArray} {p q : Nat} {w l : List UInt8} (hw : bHas c p w) (k : Nat) (hl : w.drop k = 101 :: l) (hq : p + k = q) : decode c q = .ok (.lsub, 1) := by
  have h := bH_d hw k hq hl _ _ rfl
  exact de_gen 1 rfl h rfl
theorem de104 {c : ByteArray} {p q : Nat} {w l : List UInt8} (hw : bHas c p w) (k : Nat) (hl : w.drop k = 104 :: l) (hq : p + k = q) : decode c q = .ok (.imul, 1) := by
  have h := bH_d hw k hq hl _ _ rfl
  exact de_gen 1 rfl h rfl
theorem de105 {c : ByteArray} {p q : Nat} {w l : List UInt8} (hw : bHas c p w) (k : Nat) (hl : w.drop k = 105 :: l) (hq : p + k = q) : decode c q = .ok (.lmul, 1) := by
  have h := bH_d hw k hq hl _ _ rfl
  exact de_gen 1 rfl h rfl
theorem de108 {c : ByteArray} {p q : Nat} {w l : List UInt8} (hw : bHas c p w) (k : Nat) (hl : w.drop k = 108 :: l) (hq : p + k = q) : decode c q = .ok (.idiv, 1) := by
  have h := bH_d hw k hq hl _ _ rfl
  exact de_gen 1 rfl h rfl
theorem de109 {c : ByteArray} {p q : Nat} {w l : List UInt8} (hw : bHas c p w) (k : Nat) (hl : w.drop k = 109 :: l) (hq : p + k = q) : decode c q = .ok (.ldiv, 1) := by
  have h := bH_d hw k hq hl _ _ rfl
  exact de_gen 1 rfl h rfl
theorem de112 {c : ByteArray} {p q : Nat} {w l : List UInt8} (hw : bHas c p w) (k : Nat) (hl : w.drop k = 112 :: l) (hq : p + k = q) : decode c q = .ok (.irem, 1) := by
  have h := bH_d hw k hq hl _ _ rfl
  exact de_gen 1 rfl h rfl
theorem de113 {c : ByteArray} {p q : Nat} {w l : List UInt8} (hw : bHas c p w) (k : Nat) (hl : w.drop k = 113 :: l) (hq : p + k = q) : decode c q = .ok (.lrem, 1) := by
  have h := bH_d hw k hq hl _ _ rfl
  exact de_gen 1 rfl h rfl
theorem de116 {c : ByteArray} {p q : Nat} {w l : List UInt8} (hw : bHas c p w) (k : Nat) (hl : w.drop k = 116 :: l) (hq : p + k = q) : decode c q = .ok (.ineg, 1) := by
  have h := bH_d hw k hq hl _ _ rfl
  exact de_gen 1 rfl h rfl
theorem de117 {c : ByteArray} {p q : Nat} {w l : List UInt8} (hw : bHas c p w) (k : Nat) (hl : w.drop k = 117 :: l) (hq : p + k = q) : decode c q = .ok (.lneg, 1) := by
  have h := bH_d hw k hq hl _ _ rfl
  exact de_gen 1 rfl h rfl
theorem de126 {c : ByteArray} {p q : Nat} {w l : List UInt8} (hw : bHas c p w) (k : Nat) (hl : w.drop k = 126 :: l) (hq : p + k = q) : decode c q = .ok (.iand, 1) := by
  have h := bH_d hw k hq hl _ _ rfl
  exact de_gen 1 rfl h rfl
theorem de132 {c : ByteArray} {p q : Nat} {w l : List UInt8} {x y : UInt8} {i : Nat} {v : Int} (hw : bHas c p w) (k : Nat) (hl : w.drop k = 132 :: x :: y :: l) (hq : p + k = q) (hi : x.toNat = i) (hv : Reader.signed 8 y.toNat = v) : decode c q = .ok (.iinc i v, 3) := by
  have h := bH_d hw k hq hl _ _ rfl
  exact de_gen 3 rfl h (by
    show Except.bind ((Reader.u1 : Decoder Nat) c (q + 1)) _ = _
    rw [u1_at (bH_1 h), hi]
    show Except.bind ((Reader.s1 : Decoder Int) c (q + 2)) _ = _
    rw [s1_at (bH_1 (bH_1 h)), hv]
    rfl)
theorem de133 {c : ByteArray} {p q : Nat} {w l : List UInt8} (hw : bHas c p w) (k : Nat) (hl : w.drop k = 133 :: l) (hq : p + k = q) : decode c q = .ok (.i2l, 1) := by
  have h := bH_d hw k hq hl _ _ rfl
  exact de_gen 1 rfl h rfl
theorem de136 {c : ByteArray} {p q : Nat} {w l : List UInt8} (hw : bHas c p w) (k : Nat) (hl : w.drop k = 136 :: l) (hq : p + k = q) : decode c q = .ok (.l2i, 1) := by
  have h := bH_d hw k hq hl _ _ rfl
  exact de_gen 1 rfl h rfl
theorem de148 {c : ByteArray} {p q : Nat} {w l : List UInt8} (hw : bHas c p w) (k : Nat) (hl : w.drop k = 148 :: l) (hq : p + k = q) : decode c q = .ok (.lcmp, 1) := by
  have h := bH_d hw k hq hl _ _ rfl
  exact de_gen 1 rfl h rfl
theorem de153 {c : ByteArray} {p q : Nat} {w l : List UInt8} {x y : UInt8} {v : Int} (hw : bHas c p w) (k : Nat) (hl : w.drop k = 153 :: x :: y :: l) (hq : p + k = q) (hv : Reader.signed 16 (x.toNat * 256 + y.toNat) = v) : decode c q = .ok (.ifCond .eq v, 3) := by
  have h := bH_d hw k hq hl _ _ rfl
  exact de_gen 3 rfl h (by
    show Except.bind ((Reader.s2 : Decoder Int) c (q + 1)) _ = _
    rw [s2_at (bH_1 h), hv]
    rfl)
theorem de154 {c : ByteArray} {p q : Nat} {w l : List UInt8} {x y : UInt8} {v : Int} (hw : bHas c p w) (k : Nat) (hl : w.drop k = 154 :: x :: y :: l) (hq : p + k = q) (hv : Reader.signed 16 (x.toNat * 256 + y.toNat) = v) : decode c q = .ok (.ifCond .ne v, 3) := by
  have h := bH_d hw k hq hl _ _ rfl
  exact de_gen 3 rfl h (by
    show Except.bind ((Reader.s2 : Decoder Int) c (q + 1)) _ = _
    rw [s2_at (bH_1 h), hv]
    rfl)
theorem de155 {c : ByteArray} {p q : Nat} {w l : List UInt8} {x y : UInt8} {v : Int} (hw : bHas c p w) (k : Nat) (hl : w.drop k = 155 :: x :: y :: l) (hq : p + k = q) (hv : Reader.signed 16 (x.toNat * 256 + y.toNat) = v) : decode c q = .ok (.ifCond .lt v, 3) := by
  have h := bH_d hw k hq hl _ _ rfl
  exact de_gen 3 rfl h (by
    show Except.bind ((Reader.s2 : Decoder Int) c (q + 1)) _ = _
    rw [s2_at (bH_1 h), hv]
    rfl)
theorem de156 {c : ByteArray} {p q : Nat} {w l : List UInt8} {x y : UInt8} {v : Int} (hw : bHas c p w) (k : Nat) (hl : w.drop k = 156 :: x :: y :: l) (hq : p + k = q) (hv : Reader.signed 16 (x.toNat * 256 + y.toNat) = v) : decode c q = .ok (.ifCond .ge v, 3) := by
  have h := bH_d hw k hq hl _ _ rfl
  exact de_gen 3 rfl h (by
    show Except.bind ((Reader.s2 : Decoder Int) c (q + 1)) _ = _
    rw [s2_at (bH_1 h), hv]
    rfl)
theorem de157 {c : ByteArray} {p q : Nat} {w l : List UInt8} {x y : UInt8} {v : Int} (hw : bHas c p w) (k : Nat) (hl : w.drop k = 157 :: x :: y :: l) (hq : p + k = q) (hv : Reader.signed 16 (x.toNat * 256 + y.toNat) = v) : decode c q = .ok (.ifCond .gt v, 3) := by
  have h := bH_d hw k hq hl _ _ rfl
  exact de_gen 3 rfl h (by
    show Except.bind ((Reader.s2 : Decoder Int) c (q + 1)) _ = _
    rw [s2_at (bH_1 h), hv]
    rfl)
theorem de158 {c : ByteArray} {p q : Nat} {w l : List UInt8} {x y : UInt8} {v : Int} (hw : bHas c p w) (k : Nat) (hl : w.drop k = 158 :: x :: y :: l) (hq : p + k = q) (hv : Reader.signed 16 (x.toNat * 256 + y.toNat) = v) : decode c q = .ok (.ifCond .le v, 3) := by
  have h := bH_d hw k hq hl _ _ rfl
  exact de_gen 3 rfl h (by
    show Except.bind ((Reader.s2 : Decoder Int) c (q + 1)) _ = _
    rw [s2_at (bH_1 h), hv]
    rfl)
theorem de159 {c : ByteArray} {p q : Nat} {w l : List UInt8} {x y : UInt8} {v : Int} (hw : bHas c p w) (k : Nat) (hl : w.drop k = 159 :: x :: y :: l) (hq : p + k = q) (hv : Reader.signed 16 (x.toNat * 256 + y.toNat) = v) : decode c q = .ok (.if_icmp .eq v, 3) := by
  have h := bH_d hw k hq hl _ _ rfl
  exact de_gen 3 rfl h (by
    show Except.bind ((Reader.s2 : Decoder Int) c (q + 1)) _ = _
    rw [s2_at (bH_1 h), hv]
    rfl)
theorem de160 {c : ByteArray} {p q : Nat} {w l : List UInt8} {x y : UInt8} {v : Int} (hw : bHas c p w) (k : Nat) (hl : w.drop k = 160 :: x :: y :: l) (hq : p + k = q) (hv : Reader.signed 16 (x.toNat * 256 + y.toNat) = v) : decode c q = .ok (.if_icmp .ne v, 3) := by
  have h := bH_d hw k hq hl _ _ rfl
  exact de_gen 3 rfl h (by
    show Except.bind ((Reader.s2 : Decoder Int) c (q + 1)) _ = _
    rw [s2_at (bH_1 h), hv]
    rfl)
theorem de161 {c : ByteArray} {p q : Nat} {w l : List UInt8} {x y : UInt8} {v : Int} (hw : bHas c p w) (k : Nat) (hl : w.drop k = 161 :: x :: y :: l) (hq : p + k = q) (hv : Reader.signed 16 (x.toNat * 256 + y.toNat) = v) : decode c q = .ok (.if_icmp .lt v, 3) := by
  have h := bH_d hw k hq hl _ _ rfl
  exact de_gen 3 rfl h (by
    show Except.bind ((Reader.s2 : Decoder Int) c (q + 1)) _ = _
    rw [s2_at (bH_1 h), hv]
    rfl)
theorem de162 {c : ByteArray} {p q : Nat} {w l : List UInt8} {x y : UInt8} {v : Int} (hw : bHas c p w) (k : Nat) (hl : w.drop k = 162 :: x :: y :: l) (hq : p + k = q) (hv : Reader.signed 16 (x.toNat * 256 + y.toNat) = v) : decode c q = .ok (.if_icmp .ge v, 3) := by
  have h := bH_d hw k hq hl _ _ rfl
  exact de_gen 3 rfl h (by
    show Except.bind ((Reader.s2 : Decoder Int) c (q + 1)) _ = _
    rw [s2_at (bH_1 h), hv]
    rfl)
theorem de163 {c : ByteArray} {p q : Nat} {w l : List UInt8} {x y : UInt8} {v : Int} (hw : bHas c p w) (k : Nat) (hl : w.drop k = 163 :: x :: y :: l) (hq : p + k = q) (hv : Reader.signed 16 (x.toNat * 256 + y.toNat) = v) : decode c q = .ok (.if_icmp .gt v, 3) := by
  have h := bH_d hw k hq hl _ _ rfl
  exact de_gen 3 rfl h (by
    show Except.bind ((Reader.s2 : Decoder Int) c (q + 1)) _ = _
    rw [s2_at (bH_1 h), hv]
    rfl)
theorem de164 {c : ByteArray} {p q : Nat} {w l : List UInt8} {x y : UInt8} {v : Int} (hw : bHas c p w) (k : Nat) (hl : w.drop k = 164 :: x :: y :: l) (hq : p + k = q) (hv : Reader.signed 16 (x.toNat * 256 + y.toNat) = v) : decode c q = .ok (.if_icmp .le v, 3) := by
  have h := bH_d hw k hq hl _ _ rfl
  exact de_gen 3 rfl h (by
    show Except.bind ((Reader.s2 : Decoder Int) c (q + 1)) _ = _
    rw [s2_at (bH_1 h), hv]
    rfl)
theorem de167 {c : ByteArray} {p q : Nat} {w l : List UInt8} {x y : UInt8} {v : Int} (hw : bHas c p w) (k : Nat) (hl : w.drop k = 167 :: x :: y :: l) (hq : p + k = q) (hv : Reader.signed 16 (x.toNat * 256 + y.toNat) = v) : decode c q = .ok (.goto v, 3) := by
  have h := bH_d hw k hq hl _ _ rfl
  exact de_gen 3 rfl h (by
    show Except.bind ((Reader.s2 : Decoder Int) c (q + 1)) _ = _
    rw [s2_at (bH_1 h), hv]
    rfl)
theorem de172 {c : ByteArray} {p q : Nat} {w l : List UInt8} (hw : bHas c p w) (k : Nat) (hl : w.drop k = 172 :: l) (hq : p + k = q) : decode c q = .ok (.ireturn, 1) := by
  have h := bH_d hw k hq hl _ _ rfl
  exact de_gen 1 rfl h rfl
theorem de173 {c : ByteArray} {p q : Nat} {w l : List UInt8} (hw : bHas c p w) (k : Nat) (hl : w.drop k = 173 :: l) (hq : p + k = q) : decode c q = .ok (.lreturn, 1) := by
  have h := bH_d hw k hq hl _ _ rfl
  exact de_gen 1 rfl h rfl
theorem de177 {c : ByteArray} {p q : Nat} {w l : List UInt8} (hw : bHas c p w) (k : Nat) (hl : w.drop k = 177 :: l) (hq : p + k = q) : decode c q = .ok (.return_, 1) := by
  have h := bH_d hw k hq hl _ _ rfl
  exact de_gen 1 rfl h rfl
theorem de178 {c : ByteArray} {p q : Nat} {w l : List UInt8} {x y : UInt8} {v : Nat} (hw : bHas c p w) (k : Nat) (hl : w.drop k = 178 :: x :: y :: l) (hq : p + k = q) (hv : x.toNat * 256 + y.toNat = v) : decode c q = .ok (.getstatic v, 3) := by
  have h := bH_d hw k hq hl _ _ rfl
  exact de_gen 3 rfl h (by
    show Except.bind ((Reader.u2 : Decoder Nat) c (q + 1)) _ = _
    rw [u2_at (bH_1 h), hv]
    rfl)
theorem de180 {c : ByteArray} {p q : Nat} {w l : List UInt8} {x y : UInt8} {v : Nat} (hw : bHas c p w) (k : Nat) (hl : w.drop k = 180 :: x :: y :: l) (hq : p + k = q) (hv : x.toNat * 256 + y.toNat = v) : decode c q = .ok (.getfield v, 3) := by
  have h := bH_d hw k hq hl _ _ rfl
  exact de_gen 3 rfl h (by
    show Except.bind ((Reader.u2 : Decoder Nat) c (q + 1)) _ = _
    rw [u2_at (bH_1 h), hv]
    rfl)
theorem de181 {c : ByteArray} {p q : Nat} {w l : List UInt8} {x y : UInt8} {v : Nat} (hw : bHas c p w) (k : Nat) (hl : w.drop k = 181 :: x :: y :: l) (hq : p + k = q) (hv : x.toNat * 256 + y.toNat = v) : decode c q = .ok (.putfield v, 3) := by
  have h := bH_d hw k hq hl _ _ rfl
  exact de_gen 3 rfl h (by
    show Except.bind ((Reader.u2 : Decoder Nat) c (q + 1)) _ = _
    rw [u2_at (bH_1 h), hv]
    rfl)
theorem de182 {c : ByteArray} {p q : Nat} {w l : List UInt8} {x y : UInt8} {v : Nat} (hw : bHas c p w) (k : Nat) (hl : w.drop k = 182 :: x :: y :: l) (hq : p + k = q) (hv : x.toNat * 256 + y.toNat = v) : decode c q = .ok (.invokevirtual v, 3) := by
  have h := bH_d hw k hq hl _ _ rfl
  exact de_gen 3 rfl h (by
    show Except.bind ((Reader.u2 : Decoder Nat) c (q + 1)) _ = _
    rw [u2_at (bH_1 h), hv]
    rfl)
theorem de183 {c : ByteArray} {p q : Nat} {w l : List UInt8} {x y : UInt8} {v : Nat} (hw : bHas c p w) (k : Nat) (hl : w.drop k = 183 :: x :: y :: l) (hq : p + k = q) (hv : x.toNat * 256 + y.toNat = v) : decode c q = .ok (.invokespecial v, 3) := by
  have h := bH_d hw k hq hl _ _ rfl
  exact de_gen 3 rfl h (by
    show Except.bind ((Reader.u2 : Decoder Nat) c (q + 1)) _ = _
    rw [u2_at (bH_1 h), hv]
    rfl)
theorem de184 {c : ByteArray} {p q : Nat} {w l : List UInt8} {x y : UInt8} {v : Nat} (hw : bHas c p w) (k : Nat) (hl : w.drop k = 184 :: x :: y :: l) (hq : p + k = q) (hv : x.toNat * 256 + y.toNat = v) : decode c q = .ok (.invokestatic v, 3) := by
  have h := bH_d hw k hq hl _ _ rfl
  exact de_gen 3 rfl h (by
    show Except.bind ((Reader.u2 : Decoder Nat) c (q + 1)) _ = _
    rw [u2_at (bH_1 h), hv]
    rfl)
theorem de187 {c : ByteArray} {p q : Nat} {w l : List UInt8} {x y : UInt8} {v : Nat} (hw : bHas c p w) (k : Nat) (hl : w.drop k = 187 :: x :: y :: l) (hq : p + k = q) (hv : x.toNat * 256 + y.toNat = v) : decode c q = .ok (.new v, 3) := by
  have h := bH_d hw k hq hl _ _ rfl
  exact de_gen 3 rfl h (by
    show Except.bind ((Reader.u2 : Decoder Nat) c (q + 1)) _ = _
    rw [u2_at (bH_1 h), hv]
    rfl)
theorem de189 {c : ByteArray} {p q : Nat} {w l : List UInt8} {x y : UInt8} {v : Nat} (hw : bHas c p w) (k : Nat) (hl : w.drop k = 189 :: x :: y :: l) (hq : p + k = q) (hv : x.toNat * 256 + y.toNat = v) : decode c q = .ok (.anewarray v, 3) := by
  have h := bH_d hw k hq hl _ _ rfl
  exact de_gen 3 rfl h (by
    show Except.bind ((Reader.u2 : Decoder Nat) c (q + 1)) _ = _
    rw [u2_at (bH_1 h), hv]
    rfl)
theorem de190 {c : ByteArray} {p q : Nat} {w l : List UInt8} (hw : bHas c p w) (k : Nat) (hl : w.drop k = 190 :: l) (hq : p + k = q) : decode c q = .ok (.arraylength, 1) := by
  have h := bH_d hw k hq hl _ _ rfl
  exact de_gen 1 rfl h rfl
theorem hX0_init_0 : bHas cX0_init 0 [42, 183, 0, 3, 42, 16, 28] := bH_c (n := 7) (by decide +kernel)
theorem dX0_init_0 : decode cX0_init 0 = .ok (.aload_n 0, 1) := de42 hX0_init_0 0 rfl rfl
theorem dX0_init_1 : decode cX0_init 1 = .ok (.invokespecial 3, 3) := de183 hX0_init_0 1 rfl rfl rfl
theorem dX0_init_4 : decode cX0_init 4 = .ok (.aload_n 0, 1) := de42 hX0_init_0 4 rfl rfl
theorem dX0_init_5 : decode cX0_init 5 = .ok (.bipush 28, 2) := de16 hX0_init_0 5 rfl rfl rfl
theorem dX0_init_7 : decode cX0_init 7 = .ok (.newarray .int, 2) := by decide +kernel
theorem hX0_init_9 : bHas cX0_init 9 [181, 0, 9, 42, 16, 28] := bH_c (n := 6) (by decide +kernel)
theorem dX0_init_9 : decode cX0_init 9 = .ok (.putfield 9, 3) := de181 hX0_init_9 0 rfl rfl rfl
theorem dX0_init_12 : decode cX0_init 12 = .ok (.aload_n 0, 1) := de42 hX0_init_9 3 rfl rfl
theorem dX0_init_13 : decode cX0_init 13 = .ok (.bipush 28, 2) := de16 hX0_init_9 4 rfl rfl rfl
theorem dX0_init_15 : decode cX0_init 15 = .ok (.newarray .int, 2) := by decide +kernel
theorem hX0_init_17 : bHas cX0_init 17 [181, 0, 15, 42, 16, 28] := bH_c (n := 6) (by decide +kernel)
theorem dX0_init_17 : decode cX0_init 17 = .ok (.putfield 15, 3) := de181 hX0_init_17 0 rfl rfl rfl
theorem dX0_init_20 : decode cX0_init 20 = .ok (.aload_n 0, 1) := de42 hX0_init_17 3 rfl rfl
theorem dX0_init_21 : decode cX0_init 21 = .ok (.bipush 28, 2) := de16 hX0_init_17 4 rfl rfl rfl
theorem dX0_init_23 : decode cX0_init 23 = .ok (.newarray .int, 2) := by decide +kernel
theorem hX0_init_25 : bHas cX0_init 25 [181, 0, 18, 42, 43, 181, 0, 21, 177] := bH_c (n := 9) (by decide +kernel)
theorem dX0_init_25 : decode cX0_init 25 = .ok (.putfield 18, 3) := de181 hX0_init_25 0 rfl rfl rfl
theorem dX0_init_28 : decode cX0_init 28 = .ok (.aload_n 0, 1) := de42 hX0_init_25 3 rfl rfl
theorem dX0_init_29 : decode cX0_init 29 = .ok (.aload_n 1, 1) := de43 hX0_init_25 4 rfl rfl
theorem dX0_init_30 : decode cX0_init 30 = .ok (.putfield 21, 3) := de181 hX0_init_25 5 rfl rfl rfl
theorem dX0_init_33 : decode cX0_init 33 = .ok (.return_, 1) := de177 hX0_init_25 8 rfl rfl
theorem hX0_find_0 : bHas cX0_find 0 [42, 27, 16, 28, 104, 182, 0, 25, 42, 180, 0, 29, 16, 8, 162, 0, 5, 3, 172, 42] := bH_c (n := 20) (by decide +kernel)
theorem dX0_find_0 : decode cX0_find 0 = .ok (.aload_n 0, 1) := de42 hX0_find_0 0 rfl rfl
theorem dX0_find_1 : decode cX0_find 1 = .ok (.iload_n 1, 1) := de27 hX0_find_0 1 rfl rfl
theorem dX0_find_2 : decode cX0_find 2 = .ok (.bipush 28, 2) := de16 hX0_find_0 2 rfl rfl rfl
theorem dX0_find_4 : decode cX0_find 4 = .ok (.imul, 1) := de104 hX0_find_0 4 rfl rfl
theorem dX0_find_5 : decode cX0_find 5 = .ok (.invokevirtual 25, 3) := de182 hX0_find_0 5 rfl rfl rfl
theorem dX0_find_8 : decode cX0_find 8 = .ok (.aload_n 0, 1) := de42 hX0_find_0 8 rfl rfl
theorem dX0_find_9 : decode cX0_find 9 = .ok (.getfield 29, 3) := de180 hX0_find_0 9 rfl rfl rfl
theorem dX0_find_12 : decode cX0_find 12 = .ok (.bipush 8, 2) := de16 hX0_find_0 12 rfl rfl rfl
theorem dX0_find_14 : decode cX0_find 14 = .ok (.if_icmp .ge 5, 3) := de162 hX0_find_0 14 rfl rfl (by decide +kernel)
theorem dX0_find_17 : decode cX0_find 17 = .ok (.iconst 0, 1) := de3 hX0_find_0 17 rfl rfl
theorem dX0_find_18 : decode cX0_find 18 = .ok (.ireturn, 1) := de172 hX0_find_0 18 rfl rfl
theorem dX0_find_19 : decode cX0_find 19 = .ok (.aload_n 0, 1) := de42 hX0_find_0 19 rfl rfl
theorem hX0_find_20 : bHas cX0_find 20 [20, 0, 33, 181, 0, 35, 3, 61, 4, 62, 29, 42, 180, 0, 29, 7, 100, 163, 0, 54] := bH_c (n := 20) (by decide +kernel)
theorem dX0_find_20 : decode cX0_find 20 = .ok (.ldc2_w 33, 3) := de20 hX0_find_20 0 rfl rfl rfl
theorem dX0_find_23 : decode cX0_find 23 = .ok (.putfield 35, 3) := de181 hX0_find_20 3 rfl rfl rfl
theorem dX0_find_26 : decode cX0_find 26 = .ok (.iconst 0, 1) := de3 hX0_find_20 6 rfl rfl
theorem dX0_find_27 : decode cX0_find 27 = .ok (.istore_n 2, 1) := de61 hX0_find_20 7 rfl rfl
theorem dX0_find_28 : decode cX0_find 28 = .ok (.iconst 1, 1) := de4 hX0_find_20 8 rfl rfl
theorem dX0_find_29 : decode cX0_find 29 = .ok (.istore_n 3, 1) := de62 hX0_find_20 9 rfl rfl
theorem dX0_find_30 : decode cX0_find 30 = .ok (.iload_n 3, 1) := de29 hX0_find_20 10 rfl rfl
theorem dX0_find_31 : decode cX0_find 31 = .ok (.aload_n 0, 1) := de42 hX0_find_20 11 rfl rfl
theorem dX0_find_32 : decode cX0_find 32 = .ok (.getfield 29, 3) := de180 hX0_find_20 12 rfl rfl rfl
theorem dX0_find_35 : decode cX0_find 35 = .ok (.iconst 4, 1) := de7 hX0_find_20 15 rfl rfl
theorem dX0_find_36 : decode cX0_find 36 = .ok (.isub, 1) := de100 hX0_find_20 16 rfl rfl
theorem dX0_find_37 : decode cX0_find 37 = .ok (.if_icmp .gt 54, 3) := de163 hX0_find_20 17 rfl rfl (by decide +kernel)
theorem hX0_find_40 : bHas cX0_find 40 [28, 42, 180, 0, 9, 29, 4, 100, 46, 96, 61, 29, 7, 161, 0, 32] := bH_c (n := 16) (by decide +kernel)
theorem dX0_find_40 : decode cX0_find 40 = .ok (.iload_n 2, 1) := de28 hX0_find_40 0 rfl rfl
theorem dX0_find_41 : decode cX0_find 41 = .ok (.aload_n 0, 1) := de42 hX0_find_40 1 rfl rfl
theorem dX0_find_42 : decode cX0_find 42 = .ok (.getfield 9, 3) := de180 hX0_find_40 2 rfl rfl rfl
theorem dX0_find_45 : decode cX0_find 45 = .ok (.iload_n 3, 1) := de29 hX0_find_40 5 rfl rfl
theorem dX0_find_46 : decode cX0_find 46 = .ok (.iconst 1, 1) := de4 hX0_find_40 6 rfl rfl
theorem dX0_find_47 : decode cX0_find 47 = .ok (.isub, 1) := de100 hX0_find_40 7 rfl rfl
theorem dX0_find_48 : decode cX0_find 48 = .ok (.iaload, 1) := de46 hX0_find_40 8 rfl rfl
theorem dX0_find_49 : decode cX0_find 49 = .ok (.iadd, 1) := de96 hX0_find_40 9 rfl rfl
theorem dX0_find_50 : decode cX0_find 50 = .ok (.istore_n 2, 1) := de61 hX0_find_40 10 rfl rfl
theorem dX0_find_51 : decode cX0_find 51 = .ok (.iload_n 3, 1) := de29 hX0_find_40 11 rfl rfl
theorem dX0_find_52 : decode cX0_find 52 = .ok (.iconst 4, 1) := de7 hX0_find_40 12 rfl rfl
theorem dX0_find_53 : decode cX0_find 53 = .ok (.if_icmp .lt 32, 3) := de161 hX0_find_40 13 rfl rfl (by decide +kernel)
theorem hX0_find_56 : bHas cX0_find 56 [42, 28, 29, 182, 0, 39, 42, 180, 0, 35, 148, 158, 0, 18, 42, 42, 28, 29] := bH_c (n := 18) (by decide +kernel)
theorem dX0_find_56 : decode cX0_find 56 = .ok (.aload_n 0, 1) := de42 hX0_find_56 0 rfl rfl
theorem dX0_find_57 : decode cX0_find 57 = .ok (.iload_n 2, 1) := de28 hX0_find_56 1 rfl rfl
theorem dX0_find_58 : decode cX0_find 58 = .ok (.iload_n 3, 1) := de29 hX0_find_56 2 rfl rfl
theorem dX0_find_59 : decode cX0_find 59 = .ok (.invokevirtual 39, 3) := de182 hX0_find_56 3 rfl rfl rfl
theorem dX0_find_62 : decode cX0_find 62 = .ok (.aload_n 0, 1) := de42 hX0_find_56 6 rfl rfl
theorem dX0_find_63 : decode cX0_find 63 = .ok (.getfield 35, 3) := de180 hX0_find_56 7 rfl rfl rfl
theorem dX0_find_66 : decode cX0_find 66 = .ok (.lcmp, 1) := de148 hX0_find_56 10 rfl rfl
theorem dX0_find_67 : decode cX0_find 67 = .ok (.ifCond .le 18, 3) := de158 hX0_find_56 11 rfl rfl (by decide +kernel)
theorem dX0_find_70 : decode cX0_find 70 = .ok (.aload_n 0, 1) := de42 hX0_find_56 14 rfl rfl
theorem dX0_find_71 : decode cX0_find 71 = .ok (.aload_n 0, 1) := de42 hX0_find_56 15 rfl rfl
theorem dX0_find_72 : decode cX0_find 72 = .ok (.iload_n 2, 1) := de28 hX0_find_56 16 rfl rfl
theorem dX0_find_73 : decode cX0_find 73 = .ok (.iload_n 3, 1) := de29 hX0_find_56 17 rfl rfl
theorem hX0_find_74 : bHas cX0_find 74 [182, 0, 39, 181, 0, 35, 42, 29, 181, 0, 43, 132, 3, 1, 167, 255, 198, 4, 172] := bH_c (n := 19) (by decide +kernel)
theorem dX0_find_74 : decode cX0_find 74 = .ok (.invokevirtual 39, 3) := de182 hX0_find_74 0 rfl rfl rfl
theorem dX0_find_77 : decode cX0_find 77 = .ok (.putfield 35, 3) := de181 hX0_find_74 3 rfl rfl rfl
theorem dX0_find_80 : decode cX0_find 80 = .ok (.aload_n 0, 1) := de42 hX0_find_74 6 rfl rfl
theorem dX0_find_81 : decode cX0_find 81 = .ok (.iload_n 3, 1) := de29 hX0_find_74 7 rfl rfl
theorem dX0_find_82 : decode cX0_find 82 = .ok (.putfield 43, 3) := de181 hX0_find_74 8 rfl rfl rfl
theorem dX0_find_85 : decode cX0_find 85 = .ok (.iinc 3 1, 3) := de132 hX0_find_74 11 rfl rfl rfl rfl
theorem dX0_find_88 : decode cX0_find 88 = .ok (.goto (-58), 3) := de167 hX0_find_74 14 rfl rfl (by decide +kernel)
theorem dX0_find_91 : decode cX0_find 91 = .ok (.iconst 1, 1) := de4 hX0_find_74 17 rfl rfl
theorem dX0_find_92 : decode cX0_find 92 = .ok (.ireturn, 1) := de172 hX0_find_74 18 rfl rfl
theorem hX0_firstDayBehind_0 : bHas cX0_firstDayBehind 0 [42, 180, 0, 15, 42, 180, 0, 43, 46, 172] := bH_c (n := 10) (by decide +kernel)
theorem dX0_firstDayBehind_0 : decode cX0_firstDayBehind 0 = .ok (.aload_n 0, 1) := de42 hX0_firstDayBehind_0 0 rfl rfl
theorem dX0_firstDayBehind_1 : decode cX0_firstDayBehind 1 = .ok (.getfield 15, 3) := de180 hX0_firstDayBehind_0 1 rfl rfl rfl
theorem dX0_firstDayBehind_4 : decode cX0_firstDayBehind 4 = .ok (.aload_n 0, 1) := de42 hX0_firstDayBehind_0 4 rfl rfl
theorem dX0_firstDayBehind_5 : decode cX0_firstDayBehind 5 = .ok (.getfield 43, 3) := de180 hX0_firstDayBehind_0 5 rfl rfl rfl
theorem dX0_firstDayBehind_8 : decode cX0_firstDayBehind 8 = .ok (.iaload, 1) := de46 hX0_firstDayBehind_0 8 rfl rfl
theorem dX0_firstDayBehind_9 : decode cX0_firstDayBehind 9 = .ok (.ireturn, 1) := de172 hX0_firstDayBehind_0 9 rfl rfl
theorem hX0_step_0 : bHas cX0_step 0 [3, 60, 3, 61, 28, 42, 180, 0, 43, 162, 0, 18, 27, 42, 180, 0, 9, 28] := bH_c (n := 18) (by decide +kernel)
theorem dX0_step_0 : decode cX0_step 0 = .ok (.iconst 0, 1) := de3 hX0_step_0 0 rfl rfl
theorem dX0_step_1 : decode cX0_step 1 = .ok (.istore_n 1, 1) := de60 hX0_step_0 1 rfl rfl
theorem dX0_step_2 : decode cX0_step 2 = .ok (.iconst 0, 1) := de3 hX0_step_0 2 rfl rfl
theorem dX0_step_3 : decode cX0_step 3 = .ok (.istore_n 2, 1) := de61 hX0_step_0 3 rfl rfl
theorem dX0_step_4 : decode cX0_step 4 = .ok (.iload_n 2, 1) := de28 hX0_step_0 4 rfl rfl
theorem dX0_step_5 : decode cX0_step 5 = .ok (.aload_n 0, 1) := de42 hX0_step_0 5 rfl rfl
theorem dX0_step_6 : decode cX0_step 6 = .ok (.getfield 43, 3) := de180 hX0_step_0 6 rfl rfl rfl
theorem dX0_step_9 : decode cX0_step 9 = .ok (.if_icmp .ge 18, 3) := de162 hX0_step_0 9 rfl rfl (by decide +kernel)
theorem dX0_step_12 : decode cX0_step 12 = .ok (.iload_n 1, 1) := de27 hX0_step_0 12 rfl rfl
theorem dX0_step_13 : decode cX0_step 13 = .ok (.aload_n 0, 1) := de42 hX0_step_0 13 rfl rfl
theorem dX0_step_14 : decode cX0_step 14 = .ok (.getfield 9, 3) := de180 hX0_step_0 14 rfl rfl rfl
theorem dX0_step_17 : decode cX0_step 17 = .ok (.iload_n 2, 1) := de28 hX0_step_0 17 rfl rfl
theorem hX0_step_18 : bHas cX0_step 18 [46, 96, 60, 132, 2, 1, 167, 255, 236, 42, 180, 0, 43, 42, 180, 0, 29, 42, 180, 0, 43, 100] := bH_c (n := 22) (by decide +kernel)
theorem dX0_step_18 : decode cX0_step 18 = .ok (.iaload, 1) := de46 hX0_step_18 0 rfl rfl
theorem dX0_step_19 : decode cX0_step 19 = .ok (.iadd, 1) := de96 hX0_step_18 1 rfl rfl
theorem dX0_step_20 : decode cX0_step 20 = .ok (.istore_n 1, 1) := de60 hX0_step_18 2 rfl rfl
theorem dX0_step_21 : decode cX0_step 21 = .ok (.iinc 2 1, 3) := de132 hX0_step_18 3 rfl rfl rfl rfl
theorem dX0_step_24 : decode cX0_step 24 = .ok (.goto (-20), 3) := de167 hX0_step_18 6 rfl rfl (by decide +kernel)
theorem dX0_step_27 : decode cX0_step 27 = .ok (.aload_n 0, 1) := de42 hX0_step_18 9 rfl rfl
theorem dX0_step_28 : decode cX0_step 28 = .ok (.getfield 43, 3) := de180 hX0_step_18 10 rfl rfl rfl
theorem dX0_step_31 : decode cX0_step 31 = .ok (.aload_n 0, 1) := de42 hX0_step_18 13 rfl rfl
theorem dX0_step_32 : decode cX0_step 32 = .ok (.getfield 29, 3) := de180 hX0_step_18 14 rfl rfl rfl
theorem dX0_step_35 : decode cX0_step 35 = .ok (.aload_n 0, 1) := de42 hX0_step_18 17 rfl rfl
theorem dX0_step_36 : decode cX0_step 36 = .ok (.getfield 43, 3) := de180 hX0_step_18 18 rfl rfl rfl
theorem dX0_step_39 : decode cX0_step 39 = .ok (.isub, 1) := de100 hX0_step_18 21 rfl rfl
theorem hX0_step_40 : bHas cX0_step 40 [104, 61, 28, 154, 0, 7, 3, 167, 0, 15, 42, 27, 42, 180, 0, 43, 182, 0, 46, 116] := bH_c (n := 20) (by decide +kernel)
theorem dX0_step_40 : decode cX0_step 40 = .ok (.imul, 1) := de104 hX0_step_40 0 rfl rfl
theorem dX0_step_41 : decode cX0_step 41 = .ok (.istore_n 2, 1) := de61 hX0_step_40 1 rfl rfl
theorem dX0_step_42 : decode cX0_step 42 = .ok (.iload_n 2, 1) := de28 hX0_step_40 2 rfl rfl
theorem dX0_step_43 : decode cX0_step 43 = .ok (.ifCond .ne 7, 3) := de154 hX0_step_40 3 rfl rfl (by decide +kernel)
theorem dX0_step_46 : decode cX0_step 46 = .ok (.iconst 0, 1) := de3 hX0_step_40 6 rfl rfl
theorem dX0_step_47 : decode cX0_step 47 = .ok (.goto 15, 3) := de167 hX0_step_40 7 rfl rfl (by decide +kernel)
theorem dX0_step_50 : decode cX0_step 50 = .ok (.aload_n 0, 1) := de42 hX0_step_40 10 rfl rfl
theorem dX0_step_51 : decode cX0_step 51 = .ok (.iload_n 1, 1) := de27 hX0_step_40 11 rfl rfl
theorem dX0_step_52 : decode cX0_step 52 = .ok (.aload_n 0, 1) := de42 hX0_step_40 12 rfl rfl
theorem dX0_step_53 : decode cX0_step 53 = .ok (.getfield 43, 3) := de180 hX0_step_40 13 rfl rfl rfl
theorem dX0_step_56 : decode cX0_step 56 = .ok (.invokevirtual 46, 3) := de182 hX0_step_40 16 rfl rfl rfl
theorem dX0_step_59 : decode cX0_step 59 = .ok (.ineg, 1) := de116 hX0_step_40 19 rfl rfl
theorem hX0_step_60 : bHas cX0_step 60 [28, 108, 172] := bH_c (n := 3) (by decide +kernel)
theorem dX0_step_60 : decode cX0_step 60 = .ok (.iload_n 2, 1) := de28 hX0_step_60 0 rfl rfl
theorem dX0_step_61 : decode cX0_step 61 = .ok (.idiv, 1) := de108 hX0_step_60 1 rfl rfl
theorem dX0_step_62 : decode cX0_step 62 = .ok (.ireturn, 1) := de172 hX0_step_60 2 rfl rfl
theorem hX0_shuffledAsGreat_0 : bHas cX0_shuffledAsGreat 0 [42, 180, 0, 9, 3, 42, 180, 0, 18, 3, 42, 180, 0, 29, 184, 0, 50, 42, 27, 181, 0, 56] := bH_c (n := 22) (by decide +kernel)
theorem dX0_shuffledAsGreat_0 : decode cX0_shuffledAsGreat 0 = .ok (.aload_n 0, 1) := de42 hX0_shuffledAsGreat_0 0 rfl rfl
theorem dX0_shuffledAsGreat_1 : decode cX0_shuffledAsGreat 1 = .ok (.getfield 9, 3) := de180 hX0_shuffledAsGreat_0 1 rfl rfl rfl
theorem dX0_shuffledAsGreat_4 : decode cX0_shuffledAsGreat 4 = .ok (.iconst 0, 1) := de3 hX0_shuffledAsGreat_0 4 rfl rfl
theorem dX0_shuffledAsGreat_5 : decode cX0_shuffledAsGreat 5 = .ok (.aload_n 0, 1) := de42 hX0_shuffledAsGreat_0 5 rfl rfl
theorem dX0_shuffledAsGreat_6 : decode cX0_shuffledAsGreat 6 = .ok (.getfield 18, 3) := de180 hX0_shuffledAsGreat_0 6 rfl rfl rfl
theorem dX0_shuffledAsGreat_9 : decode cX0_shuffledAsGreat 9 = .ok (.iconst 0, 1) := de3 hX0_shuffledAsGreat_0 9 rfl rfl
theorem dX0_shuffledAsGreat_10 : decode cX0_shuffledAsGreat 10 = .ok (.aload_n 0, 1) := de42 hX0_shuffledAsGreat_0 10 rfl rfl
theorem dX0_shuffledAsGreat_11 : decode cX0_shuffledAsGreat 11 = .ok (.getfield 29, 3) := de180 hX0_shuffledAsGreat_0 11 rfl rfl rfl
theorem dX0_shuffledAsGreat_14 : decode cX0_shuffledAsGreat 14 = .ok (.invokestatic 50, 3) := de184 hX0_shuffledAsGreat_0 14 rfl rfl rfl
theorem dX0_shuffledAsGreat_17 : decode cX0_shuffledAsGreat 17 = .ok (.aload_n 0, 1) := de42 hX0_shuffledAsGreat_0 17 rfl rfl
theorem dX0_shuffledAsGreat_18 : decode cX0_shuffledAsGreat 18 = .ok (.iload_n 1, 1) := de27 hX0_shuffledAsGreat_0 18 rfl rfl
theorem dX0_shuffledAsGreat_19 : decode cX0_shuffledAsGreat 19 = .ok (.putfield 56, 3) := de181 hX0_shuffledAsGreat_0 19 rfl rfl rfl
theorem hX0_shuffledAsGreat_22 : bHas cX0_shuffledAsGreat 22 [3, 61, 3, 62, 29, 16, 99, 162, 0, 23, 42, 182, 0, 59, 42, 182, 0, 62, 153, 0, 6] := bH_c (n := 21) (by decide +kernel)
theorem dX0_shuffledAsGreat_22 : decode cX0_shuffledAsGreat 22 = .ok (.iconst 0, 1) := de3 hX0_shuffledAsGreat_22 0 rfl rfl
theorem dX0_shuffledAsGreat_23 : decode cX0_shuffledAsGreat 23 = .ok (.istore_n 2, 1) := de61 hX0_shuffledAsGreat_22 1 rfl rfl
theorem dX0_shuffledAsGreat_24 : decode cX0_shuffledAsGreat 24 = .ok (.iconst 0, 1) := de3 hX0_shuffledAsGreat_22 2 rfl rfl
theorem dX0_shuffledAsGreat_25 : decode cX0_shuffledAsGreat 25 = .ok (.istore_n 3, 1) := de62 hX0_shuffledAsGreat_22 3 rfl rfl
theorem dX0_shuffledAsGreat_26 : decode cX0_shuffledAsGreat 26 = .ok (.iload_n 3, 1) := de29 hX0_shuffledAsGreat_22 4 rfl rfl
theorem dX0_shuffledAsGreat_27 : decode cX0_shuffledAsGreat 27 = .ok (.bipush 99, 2) := de16 hX0_shuffledAsGreat_22 5 rfl rfl rfl
theorem dX0_shuffledAsGreat_29 : decode cX0_shuffledAsGreat 29 = .ok (.if_icmp .ge 23, 3) := de162 hX0_shuffledAsGreat_22 7 rfl rfl (by decide +kernel)
theorem dX0_shuffledAsGreat_32 : decode cX0_shuffledAsGreat 32 = .ok (.aload_n 0, 1) := de42 hX0_shuffledAsGreat_22 10 rfl rfl
theorem dX0_shuffledAsGreat_33 : decode cX0_shuffledAsGreat 33 = .ok (.invokevirtual 59, 3) := de182 hX0_shuffledAsGreat_22 11 rfl rfl rfl
theorem dX0_shuffledAsGreat_36 : decode cX0_shuffledAsGreat 36 = .ok (.aload_n 0, 1) := de42 hX0_shuffledAsGreat_22 14 rfl rfl
theorem dX0_shuffledAsGreat_37 : decode cX0_shuffledAsGreat 37 = .ok (.invokevirtual 62, 3) := de182 hX0_shuffledAsGreat_22 15 rfl rfl rfl
theorem dX0_shuffledAsGreat_40 : decode cX0_shuffledAsGreat 40 = .ok (.ifCond .eq 6, 3) := de153 hX0_shuffledAsGreat_22 18 rfl rfl (by decide +kernel)
theorem hX0_shuffledAsGreat_43 : bHas cX0_shuffledAsGreat 43 [132, 2, 1, 132, 3, 1, 167, 255, 233, 28, 172] := bH_c (n := 11) (by decide +kernel)
theorem dX0_shuffledAsGreat_43 : decode cX0_shuffledAsGreat 43 = .ok (.iinc 2 1, 3) := de132 hX0_shuffledAsGreat_43 0 rfl rfl rfl rfl
theorem dX0_shuffledAsGreat_46 : decode cX0_shuffledAsGreat 46 = .ok (.iinc 3 1, 3) := de132 hX0_shuffledAsGreat_43 3 rfl rfl rfl rfl
theorem dX0_shuffledAsGreat_49 : decode cX0_shuffledAsGreat 49 = .ok (.goto (-23), 3) := de167 hX0_shuffledAsGreat_43 6 rfl rfl (by decide +kernel)
theorem dX0_shuffledAsGreat_52 : decode cX0_shuffledAsGreat 52 = .ok (.iload_n 2, 1) := de28 hX0_shuffledAsGreat_43 9 rfl rfl
theorem dX0_shuffledAsGreat_53 : decode cX0_shuffledAsGreat 53 = .ok (.ireturn, 1) := de172 hX0_shuffledAsGreat_43 10 rfl rfl
theorem hX0_gatherDifferences_0 : bHas cX0_gatherDifferences 0 [42, 3, 181, 0, 29, 42, 3, 181, 0, 66, 3, 61, 28, 16, 28, 162, 0, 96, 42] := bH_c (n := 19) (by decide +kernel)
theorem dX0_gatherDifferences_0 : decode cX0_gatherDifferences 0 = .ok (.aload_n 0, 1) := de42 hX0_gatherDifferences_0 0 rfl rfl
theorem dX0_gatherDifferences_1 : decode cX0_gatherDifferences 1 = .ok (.iconst 0, 1) := de3 hX0_gatherDifferences_0 1 rfl rfl
theorem dX0_gatherDifferences_2 : decode cX0_gatherDifferences 2 = .ok (.putfield 29, 3) := de181 hX0_gatherDifferences_0 2 rfl rfl rfl
theorem dX0_gatherDifferences_5 : decode cX0_gatherDifferences 5 = .ok (.aload_n 0, 1) := de42 hX0_gatherDifferences_0 5 rfl rfl
theorem dX0_gatherDifferences_6 : decode cX0_gatherDifferences 6 = .ok (.iconst 0, 1) := de3 hX0_gatherDifferences_0 6 rfl rfl
theorem dX0_gatherDifferences_7 : decode cX0_gatherDifferences 7 = .ok (.putfield 66, 3) := de181 hX0_gatherDifferences_0 7 rfl rfl rfl
theorem dX0_gatherDifferences_10 : decode cX0_gatherDifferences 10 = .ok (.iconst 0, 1) := de3 hX0_gatherDifferences_0 10 rfl rfl
theorem dX0_gatherDifferences_11 : decode cX0_gatherDifferences 11 = .ok (.istore_n 2, 1) := de61 hX0_gatherDifferences_0 11 rfl rfl
theorem dX0_gatherDifferences_12 : decode cX0_gatherDifferences 12 = .ok (.iload_n 2, 1) := de28 hX0_gatherDifferences_0 12 rfl rfl
theorem dX0_gatherDifferences_13 : decode cX0_gatherDifferences 13 = .ok (.bipush 28, 2) := de16 hX0_gatherDifferences_0 13 rfl rfl rfl
theorem dX0_gatherDifferences_15 : decode cX0_gatherDifferences 15 = .ok (.if_icmp .ge 96, 3) := de162 hX0_gatherDifferences_0 15 rfl rfl (by decide +kernel)
theorem dX0_gatherDifferences_18 : decode cX0_gatherDifferences 18 = .ok (.aload_n 0, 1) := de42 hX0_gatherDifferences_0 18 rfl rfl
theorem hX0_gatherDifferences_19 : bHas cX0_gatherDifferences 19 [180, 0, 21, 180, 0, 69, 27, 28, 96, 46, 62, 42, 180, 0, 21, 180, 0, 74, 27, 28] := bH_c (n := 20) (by decide +kernel)
theorem dX0_gatherDifferences_19 : decode cX0_gatherDifferences 19 = .ok (.getfield 21, 3) := de180 hX0_gatherDifferences_19 0 rfl rfl rfl
theorem dX0_gatherDifferences_22 : decode cX0_gatherDifferences 22 = .ok (.getfield 69, 3) := de180 hX0_gatherDifferences_19 3 rfl rfl rfl
theorem dX0_gatherDifferences_25 : decode cX0_gatherDifferences 25 = .ok (.iload_n 1, 1) := de27 hX0_gatherDifferences_19 6 rfl rfl
theorem dX0_gatherDifferences_26 : decode cX0_gatherDifferences 26 = .ok (.iload_n 2, 1) := de28 hX0_gatherDifferences_19 7 rfl rfl
theorem dX0_gatherDifferences_27 : decode cX0_gatherDifferences 27 = .ok (.iadd, 1) := de96 hX0_gatherDifferences_19 8 rfl rfl
theorem dX0_gatherDifferences_28 : decode cX0_gatherDifferences 28 = .ok (.iaload, 1) := de46 hX0_gatherDifferences_19 9 rfl rfl
theorem dX0_gatherDifferences_29 : decode cX0_gatherDifferences 29 = .ok (.istore_n 3, 1) := de62 hX0_gatherDifferences_19 10 rfl rfl
theorem dX0_gatherDifferences_30 : decode cX0_gatherDifferences 30 = .ok (.aload_n 0, 1) := de42 hX0_gatherDifferences_19 11 rfl rfl
theorem dX0_gatherDifferences_31 : decode cX0_gatherDifferences 31 = .ok (.getfield 21, 3) := de180 hX0_gatherDifferences_19 12 rfl rfl rfl
theorem dX0_gatherDifferences_34 : decode cX0_gatherDifferences 34 = .ok (.getfield 74, 3) := de180 hX0_gatherDifferences_19 15 rfl rfl rfl
theorem dX0_gatherDifferences_37 : decode cX0_gatherDifferences 37 = .ok (.iload_n 1, 1) := de27 hX0_gatherDifferences_19 18 rfl rfl
theorem dX0_gatherDifferences_38 : decode cX0_gatherDifferences 38 = .ok (.iload_n 2, 1) := de28 hX0_gatherDifferences_19 19 rfl rfl
theorem hX0_gatherDifferences_39 : bHas cX0_gatherDifferences 39 [96, 46, 54, 4, 29, 2, 159, 0, 60, 21, 4, 2, 159, 0, 54, 42, 180, 0, 9, 42] := bH_c (n := 20) (by decide +kernel)
theorem dX0_gatherDifferences_39 : decode cX0_gatherDifferences 39 = .ok (.iadd, 1) := de96 hX0_gatherDifferences_39 0 rfl rfl
theorem dX0_gatherDifferences_40 : decode cX0_gatherDifferences 40 = .ok (.iaload, 1) := de46 hX0_gatherDifferences_39 1 rfl rfl
theorem dX0_gatherDifferences_41 : decode cX0_gatherDifferences 41 = .ok (.istore 4, 2) := de54 hX0_gatherDifferences_39 2 rfl rfl rfl
theorem dX0_gatherDifferences_43 : decode cX0_gatherDifferences 43 = .ok (.iload_n 3, 1) := de29 hX0_gatherDifferences_39 4 rfl rfl
theorem dX0_gatherDifferences_44 : decode cX0_gatherDifferences 44 = .ok (.iconst (-1), 1) := de2 hX0_gatherDifferences_39 5 rfl rfl
theorem dX0_gatherDifferences_45 : decode cX0_gatherDifferences 45 = .ok (.if_icmp .eq 60, 3) := de159 hX0_gatherDifferences_39 6 rfl rfl (by decide +kernel)
theorem dX0_gatherDifferences_48 : decode cX0_gatherDifferences 48 = .ok (.iload 4, 2) := de21 hX0_gatherDifferences_39 9 rfl rfl rfl
theorem dX0_gatherDifferences_50 : decode cX0_gatherDifferences 50 = .ok (.iconst (-1), 1) := de2 hX0_gatherDifferences_39 11 rfl rfl
theorem dX0_gatherDifferences_51 : decode cX0_gatherDifferences 51 = .ok (.if_icmp .eq 54, 3) := de159 hX0_gatherDifferences_39 12 rfl rfl (by decide +kernel)
theorem dX0_gatherDifferences_54 : decode cX0_gatherDifferences 54 = .ok (.aload_n 0, 1) := de42 hX0_gatherDifferences_39 15 rfl rfl
theorem dX0_gatherDifferences_55 : decode cX0_gatherDifferences 55 = .ok (.getfield 9, 3) := de180 hX0_gatherDifferences_39 16 rfl rfl rfl
theorem dX0_gatherDifferences_58 : decode cX0_gatherDifferences 58 = .ok (.aload_n 0, 1) := de42 hX0_gatherDifferences_39 19 rfl rfl
theorem hX0_gatherDifferences_59 : bHas cX0_gatherDifferences 59 [180, 0, 29, 29, 21, 4, 100, 79, 42, 180, 0, 15, 42, 180, 0, 29, 28, 79, 42] := bH_c (n := 19) (by decide +kernel)
theorem dX0_gatherDifferences_59 : decode cX0_gatherDifferences 59 = .ok (.getfield 29, 3) := de180 hX0_gatherDifferences_59 0 rfl rfl rfl
theorem dX0_gatherDifferences_62 : decode cX0_gatherDifferences 62 = .ok (.iload_n 3, 1) := de29 hX0_gatherDifferences_59 3 rfl rfl
theorem dX0_gatherDifferences_63 : decode cX0_gatherDifferences 63 = .ok (.iload 4, 2) := de21 hX0_gatherDifferences_59 4 rfl rfl rfl
theorem dX0_gatherDifferences_65 : decode cX0_gatherDifferences 65 = .ok (.isub, 1) := de100 hX0_gatherDifferences_59 6 rfl rfl
theorem dX0_gatherDifferences_66 : decode cX0_gatherDifferences 66 = .ok (.iastore, 1) := de79 hX0_gatherDifferences_59 7 rfl rfl
theorem dX0_gatherDifferences_67 : decode cX0_gatherDifferences 67 = .ok (.aload_n 0, 1) := de42 hX0_gatherDifferences_59 8 rfl rfl
theorem dX0_gatherDifferences_68 : decode cX0_gatherDifferences 68 = .ok (.getfield 15, 3) := de180 hX0_gatherDifferences_59 9 rfl rfl rfl
theorem dX0_gatherDifferences_71 : decode cX0_gatherDifferences 71 = .ok (.aload_n 0, 1) := de42 hX0_gatherDifferences_59 12 rfl rfl
theorem dX0_gatherDifferences_72 : decode cX0_gatherDifferences 72 = .ok (.getfield 29, 3) := de180 hX0_gatherDifferences_59 13 rfl rfl rfl
theorem dX0_gatherDifferences_75 : decode cX0_gatherDifferences 75 = .ok (.iload_n 2, 1) := de28 hX0_gatherDifferences_59 16 rfl rfl
theorem dX0_gatherDifferences_76 : decode cX0_gatherDifferences 76 = .ok (.iastore, 1) := de79 hX0_gatherDifferences_59 17 rfl rfl
theorem dX0_gatherDifferences_77 : decode cX0_gatherDifferences 77 = .ok (.aload_n 0, 1) := de42 hX0_gatherDifferences_59 18 rfl rfl
theorem hX0_gatherDifferences_78 : bHas cX0_gatherDifferences 78 [89, 180, 0, 66, 42, 180, 0, 9, 42, 180, 0, 29, 46, 96, 181, 0, 66, 42, 89, 180, 0, 29] := bH_c (n := 22) (by decide +kernel)
theorem dX0_gatherDifferences_78 : decode cX0_gatherDifferences 78 = .ok (.dup, 1) := de89 hX0_gatherDifferences_78 0 rfl rfl
theorem dX0_gatherDifferences_79 : decode cX0_gatherDifferences 79 = .ok (.getfield 66, 3) := de180 hX0_gatherDifferences_78 1 rfl rfl rfl
theorem dX0_gatherDifferences_82 : decode cX0_gatherDifferences 82 = .ok (.aload_n 0, 1) := de42 hX0_gatherDifferences_78 4 rfl rfl
theorem dX0_gatherDifferences_83 : decode cX0_gatherDifferences 83 = .ok (.getfield 9, 3) := de180 hX0_gatherDifferences_78 5 rfl rfl rfl
theorem dX0_gatherDifferences_86 : decode cX0_gatherDifferences 86 = .ok (.aload_n 0, 1) := de42 hX0_gatherDifferences_78 8 rfl rfl
theorem dX0_gatherDifferences_87 : decode cX0_gatherDifferences 87 = .ok (.getfield 29, 3) := de180 hX0_gatherDifferences_78 9 rfl rfl rfl
theorem dX0_gatherDifferences_90 : decode cX0_gatherDifferences 90 = .ok (.iaload, 1) := de46 hX0_gatherDifferences_78 12 rfl rfl
theorem dX0_gatherDifferences_91 : decode cX0_gatherDifferences 91 = .ok (.iadd, 1) := de96 hX0_gatherDifferences_78 13 rfl rfl
theorem dX0_gatherDifferences_92 : decode cX0_gatherDifferences 92 = .ok (.putfield 66, 3) := de181 hX0_gatherDifferences_78 14 rfl rfl rfl
theorem dX0_gatherDifferences_95 : decode cX0_gatherDifferences 95 = .ok (.aload_n 0, 1) := de42 hX0_gatherDifferences_78 17 rfl rfl
theorem dX0_gatherDifferences_96 : decode cX0_gatherDifferences 96 = .ok (.dup, 1) := de89 hX0_gatherDifferences_78 18 rfl rfl
theorem dX0_gatherDifferences_97 : decode cX0_gatherDifferences 97 = .ok (.getfield 29, 3) := de180 hX0_gatherDifferences_78 19 rfl rfl rfl
theorem hX0_gatherDifferences_100 : bHas cX0_gatherDifferences 100 [4, 96, 181, 0, 29, 132, 2, 1, 167, 255, 160, 177] := bH_c (n := 12) (by decide +kernel)
theorem dX0_gatherDifferences_100 : decode cX0_gatherDifferences 100 = .ok (.iconst 1, 1) := de4 hX0_gatherDifferences_100 0 rfl rfl
theorem dX0_gatherDifferences_101 : decode cX0_gatherDifferences 101 = .ok (.iadd, 1) := de96 hX0_gatherDifferences_100 1 rfl rfl
theorem dX0_gatherDifferences_102 : decode cX0_gatherDifferences 102 = .ok (.putfield 29, 3) := de181 hX0_gatherDifferences_100 2 rfl rfl rfl
theorem dX0_gatherDifferences_105 : decode cX0_gatherDifferences 105 = .ok (.iinc 2 1, 3) := de132 hX0_gatherDifferences_100 5 rfl rfl rfl rfl
theorem dX0_gatherDifferences_108 : decode cX0_gatherDifferences 108 = .ok (.goto (-96), 3) := de167 hX0_gatherDifferences_100 8 rfl rfl (by decide +kernel)
theorem dX0_gatherDifferences_111 : decode cX0_gatherDifferences 111 = .ok (.return_, 1) := de177 hX0_gatherDifferences_100 11 rfl rfl
theorem hX0_mix_0 : bHas cX0_mix 0 [42, 180, 0, 29, 4, 100, 60, 27, 4, 161, 0, 61, 42, 42, 180, 0, 56, 16, 75] := bH_c (n := 19) (by decide +kernel)
theorem dX0_mix_0 : decode cX0_mix 0 = .ok (.aload_n 0, 1) := de42 hX0_mix_0 0 rfl rfl
theorem dX0_mix_1 : decode cX0_mix 1 = .ok (.getfield 29, 3) := de180 hX0_mix_0 1 rfl rfl rfl
theorem dX0_mix_4 : decode cX0_mix 4 = .ok (.iconst 1, 1) := de4 hX0_mix_0 4 rfl rfl
theorem dX0_mix_5 : decode cX0_mix 5 = .ok (.isub, 1) := de100 hX0_mix_0 5 rfl rfl
theorem dX0_mix_6 : decode cX0_mix 6 = .ok (.istore_n 1, 1) := de60 hX0_mix_0 6 rfl rfl
theorem dX0_mix_7 : decode cX0_mix 7 = .ok (.iload_n 1, 1) := de27 hX0_mix_0 7 rfl rfl
theorem dX0_mix_8 : decode cX0_mix 8 = .ok (.iconst 1, 1) := de4 hX0_mix_0 8 rfl rfl
theorem dX0_mix_9 : decode cX0_mix 9 = .ok (.if_icmp .lt 61, 3) := de161 hX0_mix_0 9 rfl rfl (by decide +kernel)
theorem dX0_mix_12 : decode cX0_mix 12 = .ok (.aload_n 0, 1) := de42 hX0_mix_0 12 rfl rfl
theorem dX0_mix_13 : decode cX0_mix 13 = .ok (.aload_n 0, 1) := de42 hX0_mix_0 13 rfl rfl
theorem dX0_mix_14 : decode cX0_mix 14 = .ok (.getfield 56, 3) := de180 hX0_mix_0 14 rfl rfl rfl
theorem dX0_mix_17 : decode cX0_mix 17 = .ok (.bipush 75, 2) := de16 hX0_mix_0 17 rfl rfl rfl
theorem hX0_mix_19 : bHas cX0_mix 19 [104, 16, 74, 96, 18, 77, 112, 181, 0, 56, 42, 180, 0, 56, 27, 4, 96, 112] := bH_c (n := 18) (by decide +kernel)
theorem dX0_mix_19 : decode cX0_mix 19 = .ok (.imul, 1) := de104 hX0_mix_19 0 rfl rfl
theorem dX0_mix_20 : decode cX0_mix 20 = .ok (.bipush 74, 2) := de16 hX0_mix_19 1 rfl rfl rfl
theorem dX0_mix_22 : decode cX0_mix 22 = .ok (.iadd, 1) := de96 hX0_mix_19 3 rfl rfl
theorem dX0_mix_23 : decode cX0_mix 23 = .ok (.ldc 77, 2) := de18 hX0_mix_19 4 rfl rfl rfl
theorem dX0_mix_25 : decode cX0_mix 25 = .ok (.irem, 1) := de112 hX0_mix_19 6 rfl rfl
theorem dX0_mix_26 : decode cX0_mix 26 = .ok (.putfield 56, 3) := de181 hX0_mix_19 7 rfl rfl rfl
theorem dX0_mix_29 : decode cX0_mix 29 = .ok (.aload_n 0, 1) := de42 hX0_mix_19 10 rfl rfl
theorem dX0_mix_30 : decode cX0_mix 30 = .ok (.getfield 56, 3) := de180 hX0_mix_19 11 rfl rfl rfl
theorem dX0_mix_33 : decode cX0_mix 33 = .ok (.iload_n 1, 1) := de27 hX0_mix_19 14 rfl rfl
theorem dX0_mix_34 : decode cX0_mix 34 = .ok (.iconst 1, 1) := de4 hX0_mix_19 15 rfl rfl
theorem dX0_mix_35 : decode cX0_mix 35 = .ok (.iadd, 1) := de96 hX0_mix_19 16 rfl rfl
theorem dX0_mix_36 : decode cX0_mix 36 = .ok (.irem, 1) := de112 hX0_mix_19 17 rfl rfl
theorem hX0_mix_37 : bHas cX0_mix 37 [61, 42, 180, 0, 18, 27, 46, 62, 42, 180, 0, 18, 27, 42, 180, 0, 18, 28] := bH_c (n := 18) (by decide +kernel)
theorem dX0_mix_37 : decode cX0_mix 37 = .ok (.istore_n 2, 1) := de61 hX0_mix_37 0 rfl rfl
theorem dX0_mix_38 : decode cX0_mix 38 = .ok (.aload_n 0, 1) := de42 hX0_mix_37 1 rfl rfl
theorem dX0_mix_39 : decode cX0_mix 39 = .ok (.getfield 18, 3) := de180 hX0_mix_37 2 rfl rfl rfl
theorem dX0_mix_42 : decode cX0_mix 42 = .ok (.iload_n 1, 1) := de27 hX0_mix_37 5 rfl rfl
theorem dX0_mix_43 : decode cX0_mix 43 = .ok (.iaload, 1) := de46 hX0_mix_37 6 rfl rfl
theorem dX0_mix_44 : decode cX0_mix 44 = .ok (.istore_n 3, 1) := de62 hX0_mix_37 7 rfl rfl
theorem dX0_mix_45 : decode cX0_mix 45 = .ok (.aload_n 0, 1) := de42 hX0_mix_37 8 rfl rfl
theorem dX0_mix_46 : decode cX0_mix 46 = .ok (.getfield 18, 3) := de180 hX0_mix_37 9 rfl rfl rfl
theorem dX0_mix_49 : decode cX0_mix 49 = .ok (.iload_n 1, 1) := de27 hX0_mix_37 12 rfl rfl
theorem dX0_mix_50 : decode cX0_mix 50 = .ok (.aload_n 0, 1) := de42 hX0_mix_37 13 rfl rfl
theorem dX0_mix_51 : decode cX0_mix 51 = .ok (.getfield 18, 3) := de180 hX0_mix_37 14 rfl rfl rfl
theorem dX0_mix_54 : decode cX0_mix 54 = .ok (.iload_n 2, 1) := de28 hX0_mix_37 17 rfl rfl
theorem hX0_mix_55 : bHas cX0_mix 55 [46, 79, 42, 180, 0, 18, 28, 29, 79, 132, 1, 255, 167, 255, 196, 177] := bH_c (n := 16) (by decide +kernel)
theorem dX0_mix_55 : decode cX0_mix 55 = .ok (.iaload, 1) := de46 hX0_mix_55 0 rfl rfl
theorem dX0_mix_56 : decode cX0_mix 56 = .ok (.iastore, 1) := de79 hX0_mix_55 1 rfl rfl
theorem dX0_mix_57 : decode cX0_mix 57 = .ok (.aload_n 0, 1) := de42 hX0_mix_55 2 rfl rfl
theorem dX0_mix_58 : decode cX0_mix 58 = .ok (.getfield 18, 3) := de180 hX0_mix_55 3 rfl rfl rfl
theorem dX0_mix_61 : decode cX0_mix 61 = .ok (.iload_n 2, 1) := de28 hX0_mix_55 6 rfl rfl
theorem dX0_mix_62 : decode cX0_mix 62 = .ok (.iload_n 3, 1) := de29 hX0_mix_55 7 rfl rfl
theorem dX0_mix_63 : decode cX0_mix 63 = .ok (.iastore, 1) := de79 hX0_mix_55 8 rfl rfl
theorem dX0_mix_64 : decode cX0_mix 64 = .ok (.iinc 1 (-1), 3) := de132 hX0_mix_55 9 rfl rfl rfl rfl
theorem dX0_mix_67 : decode cX0_mix 67 = .ok (.goto (-60), 3) := de167 hX0_mix_55 12 rfl rfl (by decide +kernel)
theorem dX0_mix_70 : decode cX0_mix 70 = .ok (.return_, 1) := de177 hX0_mix_55 15 rfl rfl
theorem hX0_isAsGreat_0 : bHas cX0_isAsGreat 0 [3, 60, 4, 61, 28, 42, 180, 0, 29, 7, 100, 163, 0, 41, 27, 42] := bH_c (n := 16) (by decide +kernel)
theorem dX0_isAsGreat_0 : decode cX0_isAsGreat 0 = .ok (.iconst 0, 1) := de3 hX0_isAsGreat_0 0 rfl rfl
theorem dX0_isAsGreat_1 : decode cX0_isAsGreat 1 = .ok (.istore_n 1, 1) := de60 hX0_isAsGreat_0 1 rfl rfl
theorem dX0_isAsGreat_2 : decode cX0_isAsGreat 2 = .ok (.iconst 1, 1) := de4 hX0_isAsGreat_0 2 rfl rfl
theorem dX0_isAsGreat_3 : decode cX0_isAsGreat 3 = .ok (.istore_n 2, 1) := de61 hX0_isAsGreat_0 3 rfl rfl
theorem dX0_isAsGreat_4 : decode cX0_isAsGreat 4 = .ok (.iload_n 2, 1) := de28 hX0_isAsGreat_0 4 rfl rfl
theorem dX0_isAsGreat_5 : decode cX0_isAsGreat 5 = .ok (.aload_n 0, 1) := de42 hX0_isAsGreat_0 5 rfl rfl
theorem dX0_isAsGreat_6 : decode cX0_isAsGreat 6 = .ok (.getfield 29, 3) := de180 hX0_isAsGreat_0 6 rfl rfl rfl
theorem dX0_isAsGreat_9 : decode cX0_isAsGreat 9 = .ok (.iconst 4, 1) := de7 hX0_isAsGreat_0 9 rfl rfl
theorem dX0_isAsGreat_10 : decode cX0_isAsGreat 10 = .ok (.isub, 1) := de100 hX0_isAsGreat_0 10 rfl rfl
theorem dX0_isAsGreat_11 : decode cX0_isAsGreat 11 = .ok (.if_icmp .gt 41, 3) := de163 hX0_isAsGreat_0 11 rfl rfl (by decide +kernel)
theorem dX0_isAsGreat_14 : decode cX0_isAsGreat 14 = .ok (.iload_n 1, 1) := de27 hX0_isAsGreat_0 14 rfl rfl
theorem dX0_isAsGreat_15 : decode cX0_isAsGreat 15 = .ok (.aload_n 0, 1) := de42 hX0_isAsGreat_0 15 rfl rfl
theorem hX0_isAsGreat_16 : bHas cX0_isAsGreat 16 [180, 0, 18, 28, 4, 100, 46, 96, 60, 28, 7, 161, 0, 19, 42, 27] := bH_c (n := 16) (by decide +kernel)
theorem dX0_isAsGreat_16 : decode cX0_isAsGreat 16 = .ok (.getfield 18, 3) := de180 hX0_isAsGreat_16 0 rfl rfl rfl
theorem dX0_isAsGreat_19 : decode cX0_isAsGreat 19 = .ok (.iload_n 2, 1) := de28 hX0_isAsGreat_16 3 rfl rfl
theorem dX0_isAsGreat_20 : decode cX0_isAsGreat 20 = .ok (.iconst 1, 1) := de4 hX0_isAsGreat_16 4 rfl rfl
theorem dX0_isAsGreat_21 : decode cX0_isAsGreat 21 = .ok (.isub, 1) := de100 hX0_isAsGreat_16 5 rfl rfl
theorem dX0_isAsGreat_22 : decode cX0_isAsGreat 22 = .ok (.iaload, 1) := de46 hX0_isAsGreat_16 6 rfl rfl
theorem dX0_isAsGreat_23 : decode cX0_isAsGreat 23 = .ok (.iadd, 1) := de96 hX0_isAsGreat_16 7 rfl rfl
theorem dX0_isAsGreat_24 : decode cX0_isAsGreat 24 = .ok (.istore_n 1, 1) := de60 hX0_isAsGreat_16 8 rfl rfl
theorem dX0_isAsGreat_25 : decode cX0_isAsGreat 25 = .ok (.iload_n 2, 1) := de28 hX0_isAsGreat_16 9 rfl rfl
theorem dX0_isAsGreat_26 : decode cX0_isAsGreat 26 = .ok (.iconst 4, 1) := de7 hX0_isAsGreat_16 10 rfl rfl
theorem dX0_isAsGreat_27 : decode cX0_isAsGreat 27 = .ok (.if_icmp .lt 19, 3) := de161 hX0_isAsGreat_16 11 rfl rfl (by decide +kernel)
theorem dX0_isAsGreat_30 : decode cX0_isAsGreat 30 = .ok (.aload_n 0, 1) := de42 hX0_isAsGreat_16 14 rfl rfl
theorem dX0_isAsGreat_31 : decode cX0_isAsGreat 31 = .ok (.iload_n 1, 1) := de27 hX0_isAsGreat_16 15 rfl rfl
theorem hX0_isAsGreat_32 : bHas cX0_isAsGreat 32 [28, 182, 0, 39, 42, 180, 0, 35, 148, 155, 0, 5, 4, 172, 132, 2, 1, 167, 255, 211, 3, 172] := bH_c (n := 22) (by decide +kernel)
theorem dX0_isAsGreat_32 : decode cX0_isAsGreat 32 = .ok (.iload_n 2, 1) := de28 hX0_isAsGreat_32 0 rfl rfl
theorem dX0_isAsGreat_33 : decode cX0_isAsGreat 33 = .ok (.invokevirtual 39, 3) := de182 hX0_isAsGreat_32 1 rfl rfl rfl
theorem dX0_isAsGreat_36 : decode cX0_isAsGreat 36 = .ok (.aload_n 0, 1) := de42 hX0_isAsGreat_32 4 rfl rfl
theorem dX0_isAsGreat_37 : decode cX0_isAsGreat 37 = .ok (.getfield 35, 3) := de180 hX0_isAsGreat_32 5 rfl rfl rfl
theorem dX0_isAsGreat_40 : decode cX0_isAsGreat 40 = .ok (.lcmp, 1) := de148 hX0_isAsGreat_32 8 rfl rfl
theorem dX0_isAsGreat_41 : decode cX0_isAsGreat 41 = .ok (.ifCond .lt 5, 3) := de155 hX0_isAsGreat_32 9 rfl rfl (by decide +kernel)
theorem dX0_isAsGreat_44 : decode cX0_isAsGreat 44 = .ok (.iconst 1, 1) := de4 hX0_isAsGreat_32 12 rfl rfl
theorem dX0_isAsGreat_45 : decode cX0_isAsGreat 45 = .ok (.ireturn, 1) := de172 hX0_isAsGreat_32 13 rfl rfl
theorem dX0_isAsGreat_46 : decode cX0_isAsGreat 46 = .ok (.iinc 2 1, 3) := de132 hX0_isAsGreat_32 14 rfl rfl rfl rfl
theorem dX0_isAsGreat_49 : decode cX0_isAsGreat 49 = .ok (.goto (-45), 3) := de167 hX0_isAsGreat_32 17 rfl rfl (by decide +kernel)
theorem dX0_isAsGreat_52 : decode cX0_isAsGreat 52 = .ok (.iconst 0, 1) := de3 hX0_isAsGreat_32 20 rfl rfl
theorem dX0_isAsGreat_53 : decode cX0_isAsGreat 53 = .ok (.ireturn, 1) := de172 hX0_isAsGreat_32 21 rfl rfl
theorem hX0_contrast_0 : bHas cX0_contrast 0 [42, 27, 28, 182, 0, 46, 133, 66, 28, 42, 180, 0, 29, 28, 100, 104] := bH_c (n := 16) (by decide +kernel)
theorem dX0_contrast_0 : decode cX0_contrast 0 = .ok (.aload_n 0, 1) := de42 hX0_contrast_0 0 rfl rfl
theorem dX0_contrast_1 : decode cX0_contrast 1 = .ok (.iload_n 1, 1) := de27 hX0_contrast_0 1 rfl rfl
theorem dX0_contrast_2 : decode cX0_contrast 2 = .ok (.iload_n 2, 1) := de28 hX0_contrast_0 2 rfl rfl
theorem dX0_contrast_3 : decode cX0_contrast 3 = .ok (.invokevirtual 46, 3) := de182 hX0_contrast_0 3 rfl rfl rfl
theorem dX0_contrast_6 : decode cX0_contrast 6 = .ok (.i2l, 1) := de133 hX0_contrast_0 6 rfl rfl
theorem dX0_contrast_7 : decode cX0_contrast 7 = .ok (.lstore_n 3, 1) := de66 hX0_contrast_0 7 rfl rfl
theorem dX0_contrast_8 : decode cX0_contrast 8 = .ok (.iload_n 2, 1) := de28 hX0_contrast_0 8 rfl rfl
theorem dX0_contrast_9 : decode cX0_contrast 9 = .ok (.aload_n 0, 1) := de42 hX0_contrast_0 9 rfl rfl
theorem dX0_contrast_10 : decode cX0_contrast 10 = .ok (.getfield 29, 3) := de180 hX0_contrast_0 10 rfl rfl rfl
theorem dX0_contrast_13 : decode cX0_contrast 13 = .ok (.iload_n 2, 1) := de28 hX0_contrast_0 13 rfl rfl
theorem dX0_contrast_14 : decode cX0_contrast 14 = .ok (.isub, 1) := de100 hX0_contrast_0 14 rfl rfl
theorem dX0_contrast_15 : decode cX0_contrast 15 = .ok (.imul, 1) := de104 hX0_contrast_0 15 rfl rfl
theorem hX0_contrast_16 : bHas cX0_contrast 16 [54, 5, 21, 5, 154, 0, 7, 9, 167, 0, 10, 33, 33, 105, 21, 5, 133, 109, 173] := bH_c (n := 19) (by decide +kernel)
theorem dX0_contrast_16 : decode cX0_contrast 16 = .ok (.istore 5, 2) := de54 hX0_contrast_16 0 rfl rfl rfl
theorem dX0_contrast_18 : decode cX0_contrast 18 = .ok (.iload 5, 2) := de21 hX0_contrast_16 2 rfl rfl rfl
theorem dX0_contrast_20 : decode cX0_contrast 20 = .ok (.ifCond .ne 7, 3) := de154 hX0_contrast_16 4 rfl rfl (by decide +kernel)
theorem dX0_contrast_23 : decode cX0_contrast 23 = .ok (.lconst 0, 1) := de9 hX0_contrast_16 7 rfl rfl
theorem dX0_contrast_24 : decode cX0_contrast 24 = .ok (.goto 10, 3) := de167 hX0_contrast_16 8 rfl rfl (by decide +kernel)
theorem dX0_contrast_27 : decode cX0_contrast 27 = .ok (.lload_n 3, 1) := de33 hX0_contrast_16 11 rfl rfl
theorem dX0_contrast_28 : decode cX0_contrast 28 = .ok (.lload_n 3, 1) := de33 hX0_contrast_16 12 rfl rfl
theorem dX0_contrast_29 : decode cX0_contrast 29 = .ok (.lmul, 1) := de105 hX0_contrast_16 13 rfl rfl
theorem dX0_contrast_30 : decode cX0_contrast 30 = .ok (.iload 5, 2) := de21 hX0_contrast_16 14 rfl rfl rfl
theorem dX0_contrast_32 : decode cX0_contrast 32 = .ok (.i2l, 1) := de133 hX0_contrast_16 16 rfl rfl
theorem dX0_contrast_33 : decode cX0_contrast 33 = .ok (.ldiv, 1) := de109 hX0_contrast_16 17 rfl rfl
theorem dX0_contrast_34 : decode cX0_contrast 34 = .ok (.lreturn, 1) := de173 hX0_contrast_16 18 rfl rfl
theorem hX0_apart_0 : bHas cX0_apart 0 [27, 42, 180, 0, 29, 28, 100, 104, 42, 180, 0, 66, 27, 100, 28, 104] := bH_c (n := 16) (by decide +kernel)
theorem dX0_apart_0 : decode cX0_apart 0 = .ok (.iload_n 1, 1) := de27 hX0_apart_0 0 rfl rfl
theorem dX0_apart_1 : decode cX0_apart 1 = .ok (.aload_n 0, 1) := de42 hX0_apart_0 1 rfl rfl
theorem dX0_apart_2 : decode cX0_apart 2 = .ok (.getfield 29, 3) := de180 hX0_apart_0 2 rfl rfl rfl
theorem dX0_apart_5 : decode cX0_apart 5 = .ok (.iload_n 2, 1) := de28 hX0_apart_0 5 rfl rfl
theorem dX0_apart_6 : decode cX0_apart 6 = .ok (.isub, 1) := de100 hX0_apart_0 6 rfl rfl
theorem dX0_apart_7 : decode cX0_apart 7 = .ok (.imul, 1) := de104 hX0_apart_0 7 rfl rfl
theorem dX0_apart_8 : decode cX0_apart 8 = .ok (.aload_n 0, 1) := de42 hX0_apart_0 8 rfl rfl
theorem dX0_apart_9 : decode cX0_apart 9 = .ok (.getfield 66, 3) := de180 hX0_apart_0 9 rfl rfl rfl
theorem dX0_apart_12 : decode cX0_apart 12 = .ok (.iload_n 1, 1) := de27 hX0_apart_0 12 rfl rfl
theorem dX0_apart_13 : decode cX0_apart 13 = .ok (.isub, 1) := de100 hX0_apart_0 13 rfl rfl
theorem dX0_apart_14 : decode cX0_apart 14 = .ok (.iload_n 2, 1) := de28 hX0_apart_0 14 rfl rfl
theorem dX0_apart_15 : decode cX0_apart 15 = .ok (.imul, 1) := de104 hX0_apart_0 15 rfl rfl
theorem hX0_apart_16 : bHas cX0_apart 16 [100, 172] := bH_c (n := 2) (by decide +kernel)
theorem dX0_apart_16 : decode cX0_apart 16 = .ok (.isub, 1) := de100 hX0_apart_16 0 rfl rfl
theorem dX0_apart_17 : decode cX0_apart 17 = .ok (.ireturn, 1) := de172 hX0_apart_16 1 rfl rfl
theorem hX1_init_0 : bHas cX1_init 0 [42, 183, 0, 3, 42, 16, 20] := bH_c (n := 7) (by decide +kernel)
theorem dX1_init_0 : decode cX1_init 0 = .ok (.aload_n 0, 1) := de42 hX1_init_0 0 rfl rfl
theorem dX1_init_1 : decode cX1_init 1 = .ok (.invokespecial 3, 3) := de183 hX1_init_0 1 rfl rfl rfl
theorem dX1_init_4 : decode cX1_init 4 = .ok (.aload_n 0, 1) := de42 hX1_init_0 4 rfl rfl
theorem dX1_init_5 : decode cX1_init 5 = .ok (.bipush 20, 2) := de16 hX1_init_0 5 rfl rfl rfl
theorem dX1_init_7 : decode cX1_init 7 = .ok (.newarray .int, 2) := by decide +kernel
theorem hX1_init_9 : bHas cX1_init 9 [181, 0, 9, 42, 16, 20] := bH_c (n := 6) (by decide +kernel)
theorem dX1_init_9 : decode cX1_init 9 = .ok (.putfield 9, 3) := de181 hX1_init_9 0 rfl rfl rfl
theorem dX1_init_12 : decode cX1_init 12 = .ok (.aload_n 0, 1) := de42 hX1_init_9 3 rfl rfl
theorem dX1_init_13 : decode cX1_init 13 = .ok (.bipush 20, 2) := de16 hX1_init_9 4 rfl rfl rfl
theorem dX1_init_15 : decode cX1_init 15 = .ok (.newarray .int, 2) := by decide +kernel
theorem hX1_init_17 : bHas cX1_init 17 [181, 0, 15, 42, 16, 20] := bH_c (n := 6) (by decide +kernel)
theorem dX1_init_17 : decode cX1_init 17 = .ok (.putfield 15, 3) := de181 hX1_init_17 0 rfl rfl rfl
theorem dX1_init_20 : decode cX1_init 20 = .ok (.aload_n 0, 1) := de42 hX1_init_17 3 rfl rfl
theorem dX1_init_21 : decode cX1_init 21 = .ok (.bipush 20, 2) := de16 hX1_init_17 4 rfl rfl rfl
theorem dX1_init_23 : decode cX1_init 23 = .ok (.newarray .int, 2) := by decide +kernel
theorem hX1_init_25 : bHas cX1_init 25 [181, 0, 18, 42, 17, 0, 168] := bH_c (n := 7) (by decide +kernel)
theorem dX1_init_25 : decode cX1_init 25 = .ok (.putfield 18, 3) := de181 hX1_init_25 0 rfl rfl rfl
theorem dX1_init_28 : decode cX1_init 28 = .ok (.aload_n 0, 1) := de42 hX1_init_25 3 rfl rfl
theorem dX1_init_29 : decode cX1_init 29 = .ok (.sipush 168, 3) := de17 hX1_init_25 4 rfl rfl (by decide +kernel)
theorem dX1_init_32 : decode cX1_init 32 = .ok (.newarray .int, 2) := by decide +kernel
theorem hX1_init_34 : bHas cX1_init 34 [181, 0, 21, 42, 180, 0, 21, 2, 184, 0, 24, 177] := bH_c (n := 12) (by decide +kernel)
theorem dX1_init_34 : decode cX1_init 34 = .ok (.putfield 21, 3) := de181 hX1_init_34 0 rfl rfl rfl
theorem dX1_init_37 : decode cX1_init 37 = .ok (.aload_n 0, 1) := de42 hX1_init_34 3 rfl rfl
theorem dX1_init_38 : decode cX1_init 38 = .ok (.getfield 21, 3) := de180 hX1_init_34 4 rfl rfl rfl
theorem dX1_init_41 : decode cX1_init 41 = .ok (.iconst (-1), 1) := de2 hX1_init_34 7 rfl rfl
theorem dX1_init_42 : decode cX1_init 42 = .ok (.invokestatic 24, 3) := de184 hX1_init_34 8 rfl rfl rfl
theorem dX1_init_45 : decode cX1_init 45 = .ok (.return_, 1) := de177 hX1_init_34 11 rfl rfl
theorem hX1_add_0 : bHas cX1_add 0 [42, 180, 0, 9, 42, 180, 0, 30, 27, 79, 42, 180, 0, 15, 42, 180, 0, 30, 28, 79] := bH_c (n := 20) (by decide +kernel)
theorem dX1_add_0 : decode cX1_add 0 = .ok (.aload_n 0, 1) := de42 hX1_add_0 0 rfl rfl
theorem dX1_add_1 : decode cX1_add 1 = .ok (.getfield 9, 3) := de180 hX1_add_0 1 rfl rfl rfl
theorem dX1_add_4 : decode cX1_add 4 = .ok (.aload_n 0, 1) := de42 hX1_add_0 4 rfl rfl
theorem dX1_add_5 : decode cX1_add 5 = .ok (.getfield 30, 3) := de180 hX1_add_0 5 rfl rfl rfl
theorem dX1_add_8 : decode cX1_add 8 = .ok (.iload_n 1, 1) := de27 hX1_add_0 8 rfl rfl
theorem dX1_add_9 : decode cX1_add 9 = .ok (.iastore, 1) := de79 hX1_add_0 9 rfl rfl
theorem dX1_add_10 : decode cX1_add 10 = .ok (.aload_n 0, 1) := de42 hX1_add_0 10 rfl rfl
theorem dX1_add_11 : decode cX1_add 11 = .ok (.getfield 15, 3) := de180 hX1_add_0 11 rfl rfl rfl
theorem dX1_add_14 : decode cX1_add 14 = .ok (.aload_n 0, 1) := de42 hX1_add_0 14 rfl rfl
theorem dX1_add_15 : decode cX1_add 15 = .ok (.getfield 30, 3) := de180 hX1_add_0 15 rfl rfl rfl
theorem dX1_add_18 : decode cX1_add 18 = .ok (.iload_n 2, 1) := de28 hX1_add_0 18 rfl rfl
theorem dX1_add_19 : decode cX1_add 19 = .ok (.iastore, 1) := de79 hX1_add_0 19 rfl rfl
theorem hX1_add_20 : bHas cX1_add 20 [42, 180, 0, 18, 42, 180, 0, 30, 42, 180, 0, 21, 27, 46, 79, 42, 180, 0, 21, 27] := bH_c (n := 20) (by decide +kernel)
theorem dX1_add_20 : decode cX1_add 20 = .ok (.aload_n 0, 1) := de42 hX1_add_20 0 rfl rfl
theorem dX1_add_21 : decode cX1_add 21 = .ok (.getfield 18, 3) := de180 hX1_add_20 1 rfl rfl rfl
theorem dX1_add_24 : decode cX1_add 24 = .ok (.aload_n 0, 1) := de42 hX1_add_20 4 rfl rfl
theorem dX1_add_25 : decode cX1_add 25 = .ok (.getfield 30, 3) := de180 hX1_add_20 5 rfl rfl rfl
theorem dX1_add_28 : decode cX1_add 28 = .ok (.aload_n 0, 1) := de42 hX1_add_20 8 rfl rfl
theorem dX1_add_29 : decode cX1_add 29 = .ok (.getfield 21, 3) := de180 hX1_add_20 9 rfl rfl rfl
theorem dX1_add_32 : decode cX1_add 32 = .ok (.iload_n 1, 1) := de27 hX1_add_20 12 rfl rfl
theorem dX1_add_33 : decode cX1_add 33 = .ok (.iaload, 1) := de46 hX1_add_20 13 rfl rfl
theorem dX1_add_34 : decode cX1_add 34 = .ok (.iastore, 1) := de79 hX1_add_20 14 rfl rfl
theorem dX1_add_35 : decode cX1_add 35 = .ok (.aload_n 0, 1) := de42 hX1_add_20 15 rfl rfl
theorem dX1_add_36 : decode cX1_add 36 = .ok (.getfield 21, 3) := de180 hX1_add_20 16 rfl rfl rfl
theorem dX1_add_39 : decode cX1_add 39 = .ok (.iload_n 1, 1) := de27 hX1_add_20 19 rfl rfl
theorem hX1_add_40 : bHas cX1_add 40 [42, 180, 0, 30, 79, 42, 89, 180, 0, 30, 4, 96, 181, 0, 30, 177] := bH_c (n := 16) (by decide +kernel)
theorem dX1_add_40 : decode cX1_add 40 = .ok (.aload_n 0, 1) := de42 hX1_add_40 0 rfl rfl
theorem dX1_add_41 : decode cX1_add 41 = .ok (.getfield 30, 3) := de180 hX1_add_40 1 rfl rfl rfl
theorem dX1_add_44 : decode cX1_add 44 = .ok (.iastore, 1) := de79 hX1_add_40 4 rfl rfl
theorem dX1_add_45 : decode cX1_add 45 = .ok (.aload_n 0, 1) := de42 hX1_add_40 5 rfl rfl
theorem dX1_add_46 : decode cX1_add 46 = .ok (.dup, 1) := de89 hX1_add_40 6 rfl rfl
theorem dX1_add_47 : decode cX1_add 47 = .ok (.getfield 30, 3) := de180 hX1_add_40 7 rfl rfl rfl
theorem dX1_add_50 : decode cX1_add 50 = .ok (.iconst 1, 1) := de4 hX1_add_40 10 rfl rfl
theorem dX1_add_51 : decode cX1_add 51 = .ok (.iadd, 1) := de96 hX1_add_40 11 rfl rfl
theorem dX1_add_52 : decode cX1_add 52 = .ok (.putfield 30, 3) := de181 hX1_add_40 12 rfl rfl rfl
theorem dX1_add_55 : decode cX1_add 55 = .ok (.return_, 1) := de177 hX1_add_40 15 rfl rfl
theorem hX1_takeBack_0 : bHas cX1_takeBack 0 [42, 89, 180, 0, 30, 4, 100, 181, 0, 30, 42, 180, 0, 21, 42, 180, 0, 9, 42, 180, 0, 30] := bH_c (n := 22) (by decide +kernel)
theorem dX1_takeBack_0 : decode cX1_takeBack 0 = .ok (.aload_n 0, 1) := de42 hX1_takeBack_0 0 rfl rfl
theorem dX1_takeBack_1 : decode cX1_takeBack 1 = .ok (.dup, 1) := de89 hX1_takeBack_0 1 rfl rfl
theorem dX1_takeBack_2 : decode cX1_takeBack 2 = .ok (.getfield 30, 3) := de180 hX1_takeBack_0 2 rfl rfl rfl
theorem dX1_takeBack_5 : decode cX1_takeBack 5 = .ok (.iconst 1, 1) := de4 hX1_takeBack_0 5 rfl rfl
theorem dX1_takeBack_6 : decode cX1_takeBack 6 = .ok (.isub, 1) := de100 hX1_takeBack_0 6 rfl rfl
theorem dX1_takeBack_7 : decode cX1_takeBack 7 = .ok (.putfield 30, 3) := de181 hX1_takeBack_0 7 rfl rfl rfl
theorem dX1_takeBack_10 : decode cX1_takeBack 10 = .ok (.aload_n 0, 1) := de42 hX1_takeBack_0 10 rfl rfl
theorem dX1_takeBack_11 : decode cX1_takeBack 11 = .ok (.getfield 21, 3) := de180 hX1_takeBack_0 11 rfl rfl rfl
theorem dX1_takeBack_14 : decode cX1_takeBack 14 = .ok (.aload_n 0, 1) := de42 hX1_takeBack_0 14 rfl rfl
theorem dX1_takeBack_15 : decode cX1_takeBack 15 = .ok (.getfield 9, 3) := de180 hX1_takeBack_0 15 rfl rfl rfl
theorem dX1_takeBack_18 : decode cX1_takeBack 18 = .ok (.aload_n 0, 1) := de42 hX1_takeBack_0 18 rfl rfl
theorem dX1_takeBack_19 : decode cX1_takeBack 19 = .ok (.getfield 30, 3) := de180 hX1_takeBack_0 19 rfl rfl rfl
theorem hX1_takeBack_22 : bHas cX1_takeBack 22 [46, 42, 180, 0, 18, 42, 180, 0, 30, 46, 79, 177] := bH_c (n := 12) (by decide +kernel)
theorem dX1_takeBack_22 : decode cX1_takeBack 22 = .ok (.iaload, 1) := de46 hX1_takeBack_22 0 rfl rfl
theorem dX1_takeBack_23 : decode cX1_takeBack 23 = .ok (.aload_n 0, 1) := de42 hX1_takeBack_22 1 rfl rfl
theorem dX1_takeBack_24 : decode cX1_takeBack 24 = .ok (.getfield 18, 3) := de180 hX1_takeBack_22 2 rfl rfl rfl
theorem dX1_takeBack_27 : decode cX1_takeBack 27 = .ok (.aload_n 0, 1) := de42 hX1_takeBack_22 5 rfl rfl
theorem dX1_takeBack_28 : decode cX1_takeBack 28 = .ok (.getfield 30, 3) := de180 hX1_takeBack_22 6 rfl rfl rfl
theorem dX1_takeBack_31 : decode cX1_takeBack 31 = .ok (.iaload, 1) := de46 hX1_takeBack_22 9 rfl rfl
theorem dX1_takeBack_32 : decode cX1_takeBack 32 = .ok (.iastore, 1) := de79 hX1_takeBack_22 10 rfl rfl
theorem dX1_takeBack_33 : decode cX1_takeBack 33 = .ok (.return_, 1) := de177 hX1_takeBack_22 11 rfl rfl
theorem hX1_copyFrom_0 : bHas cX1_copyFrom 0 [42, 43, 180, 0, 30, 181, 0, 30, 43, 180, 0, 9, 3, 42, 180, 0, 9, 3, 16, 20, 184, 0, 34] := bH_c (n := 23) (by decide +kernel)
theorem dX1_copyFrom_0 : decode cX1_copyFrom 0 = .ok (.aload_n 0, 1) := de42 hX1_copyFrom_0 0 rfl rfl
theorem dX1_copyFrom_1 : decode cX1_copyFrom 1 = .ok (.aload_n 1, 1) := de43 hX1_copyFrom_0 1 rfl rfl
theorem dX1_copyFrom_2 : decode cX1_copyFrom 2 = .ok (.getfield 30, 3) := de180 hX1_copyFrom_0 2 rfl rfl rfl
theorem dX1_copyFrom_5 : decode cX1_copyFrom 5 = .ok (.putfield 30, 3) := de181 hX1_copyFrom_0 5 rfl rfl rfl
theorem dX1_copyFrom_8 : decode cX1_copyFrom 8 = .ok (.aload_n 1, 1) := de43 hX1_copyFrom_0 8 rfl rfl
theorem dX1_copyFrom_9 : decode cX1_copyFrom 9 = .ok (.getfield 9, 3) := de180 hX1_copyFrom_0 9 rfl rfl rfl
theorem dX1_copyFrom_12 : decode cX1_copyFrom 12 = .ok (.iconst 0, 1) := de3 hX1_copyFrom_0 12 rfl rfl
theorem dX1_copyFrom_13 : decode cX1_copyFrom 13 = .ok (.aload_n 0, 1) := de42 hX1_copyFrom_0 13 rfl rfl
theorem dX1_copyFrom_14 : decode cX1_copyFrom 14 = .ok (.getfield 9, 3) := de180 hX1_copyFrom_0 14 rfl rfl rfl
theorem dX1_copyFrom_17 : decode cX1_copyFrom 17 = .ok (.iconst 0, 1) := de3 hX1_copyFrom_0 17 rfl rfl
theorem dX1_copyFrom_18 : decode cX1_copyFrom 18 = .ok (.bipush 20, 2) := de16 hX1_copyFrom_0 18 rfl rfl rfl
theorem dX1_copyFrom_20 : decode cX1_copyFrom 20 = .ok (.invokestatic 34, 3) := de184 hX1_copyFrom_0 20 rfl rfl rfl
theorem hX1_copyFrom_23 : bHas cX1_copyFrom 23 [43, 180, 0, 15, 3, 42, 180, 0, 15, 3, 16, 20, 184, 0, 34, 43, 180, 0, 18, 3, 42] := bH_c (n := 21) (by decide +kernel)
theorem dX1_copyFrom_23 : decode cX1_copyFrom 23 = .ok (.aload_n 1, 1) := de43 hX1_copyFrom_23 0 rfl rfl
theorem dX1_copyFrom_24 : decode cX1_copyFrom 24 = .ok (.getfield 15, 3) := de180 hX1_copyFrom_23 1 rfl rfl rfl
theorem dX1_copyFrom_27 : decode cX1_copyFrom 27 = .ok (.iconst 0, 1) := de3 hX1_copyFrom_23 4 rfl rfl
theorem dX1_copyFrom_28 : decode cX1_copyFrom 28 = .ok (.aload_n 0, 1) := de42 hX1_copyFrom_23 5 rfl rfl
theorem dX1_copyFrom_29 : decode cX1_copyFrom 29 = .ok (.getfield 15, 3) := de180 hX1_copyFrom_23 6 rfl rfl rfl
theorem dX1_copyFrom_32 : decode cX1_copyFrom 32 = .ok (.iconst 0, 1) := de3 hX1_copyFrom_23 9 rfl rfl
theorem dX1_copyFrom_33 : decode cX1_copyFrom 33 = .ok (.bipush 20, 2) := de16 hX1_copyFrom_23 10 rfl rfl rfl
theorem dX1_copyFrom_35 : decode cX1_copyFrom 35 = .ok (.invokestatic 34, 3) := de184 hX1_copyFrom_23 12 rfl rfl rfl
theorem dX1_copyFrom_38 : decode cX1_copyFrom 38 = .ok (.aload_n 1, 1) := de43 hX1_copyFrom_23 15 rfl rfl
theorem dX1_copyFrom_39 : decode cX1_copyFrom 39 = .ok (.getfield 18, 3) := de180 hX1_copyFrom_23 16 rfl rfl rfl
theorem dX1_copyFrom_42 : decode cX1_copyFrom 42 = .ok (.iconst 0, 1) := de3 hX1_copyFrom_23 19 rfl rfl
theorem dX1_copyFrom_43 : decode cX1_copyFrom 43 = .ok (.aload_n 0, 1) := de42 hX1_copyFrom_23 20 rfl rfl
theorem hX1_copyFrom_44 : bHas cX1_copyFrom 44 [180, 0, 18, 3, 16, 20, 184, 0, 34, 43, 180, 0, 21, 3, 42, 180, 0, 21, 3, 17, 0, 168, 184, 0, 34] := bH_c (n := 25) (by decide +kernel)
theorem dX1_copyFrom_44 : decode cX1_copyFrom 44 = .ok (.getfield 18, 3) := de180 hX1_copyFrom_44 0 rfl rfl rfl
theorem dX1_copyFrom_47 : decode cX1_copyFrom 47 = .ok (.iconst 0, 1) := de3 hX1_copyFrom_44 3 rfl rfl
theorem dX1_copyFrom_48 : decode cX1_copyFrom 48 = .ok (.bipush 20, 2) := de16 hX1_copyFrom_44 4 rfl rfl rfl
theorem dX1_copyFrom_50 : decode cX1_copyFrom 50 = .ok (.invokestatic 34, 3) := de184 hX1_copyFrom_44 6 rfl rfl rfl
theorem dX1_copyFrom_53 : decode cX1_copyFrom 53 = .ok (.aload_n 1, 1) := de43 hX1_copyFrom_44 9 rfl rfl
theorem dX1_copyFrom_54 : decode cX1_copyFrom 54 = .ok (.getfield 21, 3) := de180 hX1_copyFrom_44 10 rfl rfl rfl
theorem dX1_copyFrom_57 : decode cX1_copyFrom 57 = .ok (.iconst 0, 1) := de3 hX1_copyFrom_44 13 rfl rfl
theorem dX1_copyFrom_58 : decode cX1_copyFrom 58 = .ok (.aload_n 0, 1) := de42 hX1_copyFrom_44 14 rfl rfl
theorem dX1_copyFrom_59 : decode cX1_copyFrom 59 = .ok (.getfield 21, 3) := de180 hX1_copyFrom_44 15 rfl rfl rfl
theorem dX1_copyFrom_62 : decode cX1_copyFrom 62 = .ok (.iconst 0, 1) := de3 hX1_copyFrom_44 18 rfl rfl
theorem dX1_copyFrom_63 : decode cX1_copyFrom 63 = .ok (.sipush 168, 3) := de17 hX1_copyFrom_44 19 rfl rfl (by decide +kernel)
theorem dX1_copyFrom_66 : decode cX1_copyFrom 66 = .ok (.invokestatic 34, 3) := de184 hX1_copyFrom_44 22 rfl rfl rfl
theorem hX1_copyFrom_69 : bHas cX1_copyFrom 69 [177] := bH_c (n := 1) (by decide +kernel)
theorem dX1_copyFrom_69 : decode cX1_copyFrom 69 = .ok (.return_, 1) := de177 hX1_copyFrom_69 0 rfl rfl
theorem hX2_init_0 : bHas cX2_init 0 [42, 183, 0, 3, 42, 16, 6] := bH_c (n := 7) (by decide +kernel)
theorem dX2_init_0 : decode cX2_init 0 = .ok (.aload_n 0, 1) := de42 hX2_init_0 0 rfl rfl
theorem dX2_init_1 : decode cX2_init 1 = .ok (.invokespecial 3, 3) := de183 hX2_init_0 1 rfl rfl rfl
theorem dX2_init_4 : decode cX2_init 4 = .ok (.aload_n 0, 1) := de42 hX2_init_0 4 rfl rfl
theorem dX2_init_5 : decode cX2_init 5 = .ok (.bipush 6, 2) := de16 hX2_init_0 5 rfl rfl rfl
theorem dX2_init_7 : decode cX2_init 7 = .ok (.newarray .int, 2) := by decide +kernel
theorem hX2_init_9 : bHas cX2_init 9 [181, 0, 9, 42, 16, 6] := bH_c (n := 6) (by decide +kernel)
theorem dX2_init_9 : decode cX2_init 9 = .ok (.putfield 9, 3) := de181 hX2_init_9 0 rfl rfl rfl
theorem dX2_init_12 : decode cX2_init 12 = .ok (.aload_n 0, 1) := de42 hX2_init_9 3 rfl rfl
theorem dX2_init_13 : decode cX2_init 13 = .ok (.bipush 6, 2) := de16 hX2_init_9 4 rfl rfl rfl
theorem dX2_init_15 : decode cX2_init 15 = .ok (.newarray .int, 2) := by decide +kernel
theorem hX2_init_17 : bHas cX2_init 17 [181, 0, 15, 42, 16, 18] := bH_c (n := 6) (by decide +kernel)
theorem dX2_init_17 : decode cX2_init 17 = .ok (.putfield 15, 3) := de181 hX2_init_17 0 rfl rfl rfl
theorem dX2_init_20 : decode cX2_init 20 = .ok (.aload_n 0, 1) := de42 hX2_init_17 3 rfl rfl
theorem dX2_init_21 : decode cX2_init 21 = .ok (.bipush 18, 2) := de16 hX2_init_17 4 rfl rfl rfl
theorem dX2_init_23 : decode cX2_init 23 = .ok (.newarray .int, 2) := by decide +kernel
theorem hX2_init_25 : bHas cX2_init 25 [181, 0, 18, 42, 16, 28] := bH_c (n := 6) (by decide +kernel)
theorem dX2_init_25 : decode cX2_init 25 = .ok (.putfield 18, 3) := de181 hX2_init_25 0 rfl rfl rfl
theorem dX2_init_28 : decode cX2_init 28 = .ok (.aload_n 0, 1) := de42 hX2_init_25 3 rfl rfl
theorem dX2_init_29 : decode cX2_init 29 = .ok (.bipush 28, 2) := de16 hX2_init_25 4 rfl rfl rfl
theorem dX2_init_31 : decode cX2_init 31 = .ok (.newarray .int, 2) := by decide +kernel
theorem hX2_init_33 : bHas cX2_init 33 [181, 0, 21, 42, 17, 0, 168] := bH_c (n := 7) (by decide +kernel)
theorem dX2_init_33 : decode cX2_init 33 = .ok (.putfield 21, 3) := de181 hX2_init_33 0 rfl rfl rfl
theorem dX2_init_36 : decode cX2_init 36 = .ok (.aload_n 0, 1) := de42 hX2_init_33 3 rfl rfl
theorem dX2_init_37 : decode cX2_init 37 = .ok (.sipush 168, 3) := de17 hX2_init_33 4 rfl rfl (by decide +kernel)
theorem dX2_init_40 : decode cX2_init 40 = .ok (.newarray .int, 2) := by decide +kernel
theorem hX2_init_42 : bHas cX2_init 42 [181, 0, 24, 42, 17, 0, 168] := bH_c (n := 7) (by decide +kernel)
theorem dX2_init_42 : decode cX2_init 42 = .ok (.putfield 24, 3) := de181 hX2_init_42 0 rfl rfl rfl
theorem dX2_init_45 : decode cX2_init 45 = .ok (.aload_n 0, 1) := de42 hX2_init_42 3 rfl rfl
theorem dX2_init_46 : decode cX2_init 46 = .ok (.sipush 168, 3) := de17 hX2_init_42 4 rfl rfl (by decide +kernel)
theorem dX2_init_49 : decode cX2_init 49 = .ok (.newarray .int, 2) := by decide +kernel
theorem hX2_init_51 : bHas cX2_init 51 [181, 0, 27, 42, 17, 0, 168] := bH_c (n := 7) (by decide +kernel)
theorem dX2_init_51 : decode cX2_init 51 = .ok (.putfield 27, 3) := de181 hX2_init_51 0 rfl rfl rfl
theorem dX2_init_54 : decode cX2_init 54 = .ok (.aload_n 0, 1) := de42 hX2_init_51 3 rfl rfl
theorem dX2_init_55 : decode cX2_init 55 = .ok (.sipush 168, 3) := de17 hX2_init_51 4 rfl rfl (by decide +kernel)
theorem dX2_init_58 : decode cX2_init 58 = .ok (.newarray .int, 2) := by decide +kernel
theorem hX2_init_60 : bHas cX2_init 60 [181, 0, 30, 42, 17, 0, 168] := bH_c (n := 7) (by decide +kernel)
theorem dX2_init_60 : decode cX2_init 60 = .ok (.putfield 30, 3) := de181 hX2_init_60 0 rfl rfl rfl
theorem dX2_init_63 : decode cX2_init 63 = .ok (.aload_n 0, 1) := de42 hX2_init_60 3 rfl rfl
theorem dX2_init_64 : decode cX2_init 64 = .ok (.sipush 168, 3) := de17 hX2_init_60 4 rfl rfl (by decide +kernel)
theorem dX2_init_67 : decode cX2_init 67 = .ok (.newarray .int, 2) := by decide +kernel
theorem hX2_init_69 : bHas cX2_init 69 [181, 0, 33, 42, 7] := bH_c (n := 5) (by decide +kernel)
theorem dX2_init_69 : decode cX2_init 69 = .ok (.putfield 33, 3) := de181 hX2_init_69 0 rfl rfl rfl
theorem dX2_init_72 : decode cX2_init 72 = .ok (.aload_n 0, 1) := de42 hX2_init_69 3 rfl rfl
theorem dX2_init_73 : decode cX2_init 73 = .ok (.iconst 4, 1) := de7 hX2_init_69 4 rfl rfl
theorem dX2_init_74 : decode cX2_init 74 = .ok (.newarray .int, 2) := by decide +kernel
theorem hX2_init_76 : bHas cX2_init 76 [181, 0, 36, 42, 187, 0, 39, 89, 183, 0, 41, 181, 0, 42, 42, 187, 0, 46, 89, 183, 0, 48, 181, 0, 49, 42] := bH_c (n := 26) (by decide +kernel)
theorem dX2_init_76 : decode cX2_init 76 = .ok (.putfield 36, 3) := de181 hX2_init_76 0 rfl rfl rfl
theorem dX2_init_79 : decode cX2_init 79 = .ok (.aload_n 0, 1) := de42 hX2_init_76 3 rfl rfl
theorem dX2_init_80 : decode cX2_init 80 = .ok (.new 39, 3) := de187 hX2_init_76 4 rfl rfl rfl
theorem dX2_init_83 : decode cX2_init 83 = .ok (.dup, 1) := de89 hX2_init_76 7 rfl rfl
theorem dX2_init_84 : decode cX2_init 84 = .ok (.invokespecial 41, 3) := de183 hX2_init_76 8 rfl rfl rfl
theorem dX2_init_87 : decode cX2_init 87 = .ok (.putfield 42, 3) := de181 hX2_init_76 11 rfl rfl rfl
theorem dX2_init_90 : decode cX2_init 90 = .ok (.aload_n 0, 1) := de42 hX2_init_76 14 rfl rfl
theorem dX2_init_91 : decode cX2_init 91 = .ok (.new 46, 3) := de187 hX2_init_76 15 rfl rfl rfl
theorem dX2_init_94 : decode cX2_init 94 = .ok (.dup, 1) := de89 hX2_init_76 18 rfl rfl
theorem dX2_init_95 : decode cX2_init 95 = .ok (.invokespecial 48, 3) := de183 hX2_init_76 19 rfl rfl rfl
theorem dX2_init_98 : decode cX2_init 98 = .ok (.putfield 49, 3) := de181 hX2_init_76 22 rfl rfl rfl
theorem dX2_init_101 : decode cX2_init 101 = .ok (.aload_n 0, 1) := de42 hX2_init_76 25 rfl rfl
theorem hX2_init_102 : bHas cX2_init 102 [180, 0, 24, 2, 184, 0, 53, 178, 0, 59, 3, 42, 180, 0, 36, 3, 7, 184, 0, 62, 177] := bH_c (n := 21) (by decide +kernel)
theorem dX2_init_102 : decode cX2_init 102 = .ok (.getfield 24, 3) := de180 hX2_init_102 0 rfl rfl rfl
theorem dX2_init_105 : decode cX2_init 105 = .ok (.iconst (-1), 1) := de2 hX2_init_102 3 rfl rfl
theorem dX2_init_106 : decode cX2_init 106 = .ok (.invokestatic 53, 3) := de184 hX2_init_102 4 rfl rfl rfl
theorem dX2_init_109 : decode cX2_init 109 = .ok (.getstatic 59, 3) := de178 hX2_init_102 7 rfl rfl rfl
theorem dX2_init_112 : decode cX2_init 112 = .ok (.iconst 0, 1) := de3 hX2_init_102 10 rfl rfl
theorem dX2_init_113 : decode cX2_init 113 = .ok (.aload_n 0, 1) := de42 hX2_init_102 11 rfl rfl
theorem dX2_init_114 : decode cX2_init 114 = .ok (.getfield 36, 3) := de180 hX2_init_102 12 rfl rfl rfl
theorem dX2_init_117 : decode cX2_init 117 = .ok (.iconst 0, 1) := de3 hX2_init_102 15 rfl rfl
theorem dX2_init_118 : decode cX2_init 118 = .ok (.iconst 4, 1) := de7 hX2_init_102 16 rfl rfl
theorem dX2_init_119 : decode cX2_init 119 = .ok (.invokestatic 62, 3) := de184 hX2_init_102 17 rfl rfl rfl
theorem dX2_init_122 : decode cX2_init 122 = .ok (.return_, 1) := de177 hX2_init_102 20 rfl rfl
theorem hX2_addCan_0 : bHas cX2_addCan 0 [42, 180, 0, 9, 42, 180, 0, 68, 27, 79, 42, 180, 0, 15, 42, 180, 0, 68, 28, 79] := bH_c (n := 20) (by decide +kernel)
theorem dX2_addCan_0 : decode cX2_addCan 0 = .ok (.aload_n 0, 1) := de42 hX2_addCan_0 0 rfl rfl
theorem dX2_addCan_1 : decode cX2_addCan 1 = .ok (.getfield 9, 3) := de180 hX2_addCan_0 1 rfl rfl rfl
theorem dX2_addCan_4 : decode cX2_addCan 4 = .ok (.aload_n 0, 1) := de42 hX2_addCan_0 4 rfl rfl
theorem dX2_addCan_5 : decode cX2_addCan 5 = .ok (.getfield 68, 3) := de180 hX2_addCan_0 5 rfl rfl rfl
theorem dX2_addCan_8 : decode cX2_addCan 8 = .ok (.iload_n 1, 1) := de27 hX2_addCan_0 8 rfl rfl
theorem dX2_addCan_9 : decode cX2_addCan 9 = .ok (.iastore, 1) := de79 hX2_addCan_0 9 rfl rfl
theorem dX2_addCan_10 : decode cX2_addCan 10 = .ok (.aload_n 0, 1) := de42 hX2_addCan_0 10 rfl rfl
theorem dX2_addCan_11 : decode cX2_addCan 11 = .ok (.getfield 15, 3) := de180 hX2_addCan_0 11 rfl rfl rfl
theorem dX2_addCan_14 : decode cX2_addCan 14 = .ok (.aload_n 0, 1) := de42 hX2_addCan_0 14 rfl rfl
theorem dX2_addCan_15 : decode cX2_addCan 15 = .ok (.getfield 68, 3) := de180 hX2_addCan_0 15 rfl rfl rfl
theorem dX2_addCan_18 : decode cX2_addCan 18 = .ok (.iload_n 2, 1) := de28 hX2_addCan_0 18 rfl rfl
theorem dX2_addCan_19 : decode cX2_addCan 19 = .ok (.iastore, 1) := de79 hX2_addCan_0 19 rfl rfl
theorem hX2_addCan_20 : bHas cX2_addCan 20 [42, 89, 180, 0, 68, 4, 96, 181, 0, 68, 42, 180, 0, 68, 4, 100, 172] := bH_c (n := 17) (by decide +kernel)
theorem dX2_addCan_20 : decode cX2_addCan 20 = .ok (.aload_n 0, 1) := de42 hX2_addCan_20 0 rfl rfl
theorem dX2_addCan_21 : decode cX2_addCan 21 = .ok (.dup, 1) := de89 hX2_addCan_20 1 rfl rfl
theorem dX2_addCan_22 : decode cX2_addCan 22 = .ok (.getfield 68, 3) := de180 hX2_addCan_20 2 rfl rfl rfl
theorem dX2_addCan_25 : decode cX2_addCan 25 = .ok (.iconst 1, 1) := de4 hX2_addCan_20 5 rfl rfl
theorem dX2_addCan_26 : decode cX2_addCan 26 = .ok (.iadd, 1) := de96 hX2_addCan_20 6 rfl rfl
theorem dX2_addCan_27 : decode cX2_addCan 27 = .ok (.putfield 68, 3) := de181 hX2_addCan_20 7 rfl rfl rfl
theorem dX2_addCan_30 : decode cX2_addCan 30 = .ok (.aload_n 0, 1) := de42 hX2_addCan_20 10 rfl rfl
theorem dX2_addCan_31 : decode cX2_addCan 31 = .ok (.getfield 68, 3) := de180 hX2_addCan_20 11 rfl rfl rfl
theorem dX2_addCan_34 : decode cX2_addCan 34 = .ok (.iconst 1, 1) := de4 hX2_addCan_20 14 rfl rfl
theorem dX2_addCan_35 : decode cX2_addCan 35 = .ok (.isub, 1) := de100 hX2_addCan_20 15 rfl rfl
theorem dX2_addCan_36 : decode cX2_addCan 36 = .ok (.ireturn, 1) := de172 hX2_addCan_20 16 rfl rfl
theorem hX2_takeNotes_0 : bHas cX2_takeNotes 0 [27, 16, 28, 104, 62, 44, 180, 0, 72, 3, 42, 180, 0, 27, 29, 16, 28, 184, 0, 62] := bH_c (n := 20) (by decide +kernel)
theorem dX2_takeNotes_0 : decode cX2_takeNotes 0 = .ok (.iload_n 1, 1) := de27 hX2_takeNotes_0 0 rfl rfl
theorem dX2_takeNotes_1 : decode cX2_takeNotes 1 = .ok (.bipush 28, 2) := de16 hX2_takeNotes_0 1 rfl rfl rfl
theorem dX2_takeNotes_3 : decode cX2_takeNotes 3 = .ok (.imul, 1) := de104 hX2_takeNotes_0 3 rfl rfl
theorem dX2_takeNotes_4 : decode cX2_takeNotes 4 = .ok (.istore_n 3, 1) := de62 hX2_takeNotes_0 4 rfl rfl
theorem dX2_takeNotes_5 : decode cX2_takeNotes 5 = .ok (.aload_n 2, 1) := de44 hX2_takeNotes_0 5 rfl rfl
theorem dX2_takeNotes_6 : decode cX2_takeNotes 6 = .ok (.getfield 72, 3) := de180 hX2_takeNotes_0 6 rfl rfl rfl
theorem dX2_takeNotes_9 : decode cX2_takeNotes 9 = .ok (.iconst 0, 1) := de3 hX2_takeNotes_0 9 rfl rfl
theorem dX2_takeNotes_10 : decode cX2_takeNotes 10 = .ok (.aload_n 0, 1) := de42 hX2_takeNotes_0 10 rfl rfl
theorem dX2_takeNotes_11 : decode cX2_takeNotes 11 = .ok (.getfield 27, 3) := de180 hX2_takeNotes_0 11 rfl rfl rfl
theorem dX2_takeNotes_14 : decode cX2_takeNotes 14 = .ok (.iload_n 3, 1) := de29 hX2_takeNotes_0 14 rfl rfl
theorem dX2_takeNotes_15 : decode cX2_takeNotes 15 = .ok (.bipush 28, 2) := de16 hX2_takeNotes_0 15 rfl rfl rfl
theorem dX2_takeNotes_17 : decode cX2_takeNotes 17 = .ok (.invokestatic 62, 3) := de184 hX2_takeNotes_0 17 rfl rfl rfl
theorem hX2_takeNotes_20 : bHas cX2_takeNotes 20 [44, 180, 0, 75, 3, 42, 180, 0, 30, 29, 16, 28, 184, 0, 62, 44, 180, 0, 76, 3, 42] := bH_c (n := 21) (by decide +kernel)
theorem dX2_takeNotes_20 : decode cX2_takeNotes 20 = .ok (.aload_n 2, 1) := de44 hX2_takeNotes_20 0 rfl rfl
theorem dX2_takeNotes_21 : decode cX2_takeNotes 21 = .ok (.getfield 75, 3) := de180 hX2_takeNotes_20 1 rfl rfl rfl
theorem dX2_takeNotes_24 : decode cX2_takeNotes 24 = .ok (.iconst 0, 1) := de3 hX2_takeNotes_20 4 rfl rfl
theorem dX2_takeNotes_25 : decode cX2_takeNotes 25 = .ok (.aload_n 0, 1) := de42 hX2_takeNotes_20 5 rfl rfl
theorem dX2_takeNotes_26 : decode cX2_takeNotes 26 = .ok (.getfield 30, 3) := de180 hX2_takeNotes_20 6 rfl rfl rfl
theorem dX2_takeNotes_29 : decode cX2_takeNotes 29 = .ok (.iload_n 3, 1) := de29 hX2_takeNotes_20 9 rfl rfl
theorem dX2_takeNotes_30 : decode cX2_takeNotes 30 = .ok (.bipush 28, 2) := de16 hX2_takeNotes_20 10 rfl rfl rfl
theorem dX2_takeNotes_32 : decode cX2_takeNotes 32 = .ok (.invokestatic 62, 3) := de184 hX2_takeNotes_20 12 rfl rfl rfl
theorem dX2_takeNotes_35 : decode cX2_takeNotes 35 = .ok (.aload_n 2, 1) := de44 hX2_takeNotes_20 15 rfl rfl
theorem dX2_takeNotes_36 : decode cX2_takeNotes 36 = .ok (.getfield 76, 3) := de180 hX2_takeNotes_20 16 rfl rfl rfl
theorem dX2_takeNotes_39 : decode cX2_takeNotes 39 = .ok (.iconst 0, 1) := de3 hX2_takeNotes_20 19 rfl rfl
theorem dX2_takeNotes_40 : decode cX2_takeNotes 40 = .ok (.aload_n 0, 1) := de42 hX2_takeNotes_20 20 rfl rfl
theorem hX2_takeNotes_41 : bHas cX2_takeNotes 41 [180, 0, 33, 29, 16, 28, 184, 0, 62, 177] := bH_c (n := 10) (by decide +kernel)
theorem dX2_takeNotes_41 : decode cX2_takeNotes 41 = .ok (.getfield 33, 3) := de180 hX2_takeNotes_41 0 rfl rfl rfl
theorem dX2_takeNotes_44 : decode cX2_takeNotes 44 = .ok (.iload_n 3, 1) := de29 hX2_takeNotes_41 3 rfl rfl
theorem dX2_takeNotes_45 : decode cX2_takeNotes 45 = .ok (.bipush 28, 2) := de16 hX2_takeNotes_41 4 rfl rfl rfl
theorem dX2_takeNotes_47 : decode cX2_takeNotes 47 = .ok (.invokestatic 62, 3) := de184 hX2_takeNotes_41 6 rfl rfl rfl
theorem dX2_takeNotes_50 : decode cX2_takeNotes 50 = .ok (.return_, 1) := de177 hX2_takeNotes_41 9 rfl rfl
theorem hX2_counted_0 : bHas cX2_counted 0 [42, 180, 0, 42, 180, 0, 77, 27, 46, 61, 28, 2, 160, 0, 12, 42, 180, 0, 24, 27] := bH_c (n := 20) (by decide +kernel)
theorem dX2_counted_0 : decode cX2_counted 0 = .ok (.aload_n 0, 1) := de42 hX2_counted_0 0 rfl rfl
theorem dX2_counted_1 : decode cX2_counted 1 = .ok (.getfield 42, 3) := de180 hX2_counted_0 1 rfl rfl rfl
theorem dX2_counted_4 : decode cX2_counted 4 = .ok (.getfield 77, 3) := de180 hX2_counted_0 4 rfl rfl rfl
theorem dX2_counted_7 : decode cX2_counted 7 = .ok (.iload_n 1, 1) := de27 hX2_counted_0 7 rfl rfl
theorem dX2_counted_8 : decode cX2_counted 8 = .ok (.iaload, 1) := de46 hX2_counted_0 8 rfl rfl
theorem dX2_counted_9 : decode cX2_counted 9 = .ok (.istore_n 2, 1) := de61 hX2_counted_0 9 rfl rfl
theorem dX2_counted_10 : decode cX2_counted 10 = .ok (.iload_n 2, 1) := de28 hX2_counted_0 10 rfl rfl
theorem dX2_counted_11 : decode cX2_counted 11 = .ok (.iconst (-1), 1) := de2 hX2_counted_0 11 rfl rfl
theorem dX2_counted_12 : decode cX2_counted 12 = .ok (.if_icmp .ne 12, 3) := de160 hX2_counted_0 12 rfl rfl (by decide +kernel)
theorem dX2_counted_15 : decode cX2_counted 15 = .ok (.aload_n 0, 1) := de42 hX2_counted_0 15 rfl rfl
theorem dX2_counted_16 : decode cX2_counted 16 = .ok (.getfield 24, 3) := de180 hX2_counted_0 16 rfl rfl rfl
theorem dX2_counted_19 : decode cX2_counted 19 = .ok (.iload_n 1, 1) := de27 hX2_counted_0 19 rfl rfl
theorem hX2_counted_20 : bHas cX2_counted 20 [46, 167, 0, 12, 42, 180, 0, 42, 180, 0, 80, 28, 46, 172] := bH_c (n := 14) (by decide +kernel)
theorem dX2_counted_20 : decode cX2_counted 20 = .ok (.iaload, 1) := de46 hX2_counted_20 0 rfl rfl
theorem dX2_counted_21 : decode cX2_counted 21 = .ok (.goto 12, 3) := de167 hX2_counted_20 1 rfl rfl (by decide +kernel)
theorem dX2_counted_24 : decode cX2_counted 24 = .ok (.aload_n 0, 1) := de42 hX2_counted_20 4 rfl rfl
theorem dX2_counted_25 : decode cX2_counted 25 = .ok (.getfield 42, 3) := de180 hX2_counted_20 5 rfl rfl rfl
theorem dX2_counted_28 : decode cX2_counted 28 = .ok (.getfield 80, 3) := de180 hX2_counted_20 8 rfl rfl rfl
theorem dX2_counted_31 : decode cX2_counted 31 = .ok (.iload_n 2, 1) := de28 hX2_counted_20 11 rfl rfl
theorem dX2_counted_32 : decode cX2_counted 32 = .ok (.iaload, 1) := de46 hX2_counted_20 12 rfl rfl
theorem dX2_counted_33 : decode cX2_counted 33 = .ok (.ireturn, 1) := de172 hX2_counted_20 13 rfl rfl
theorem hX2_copyFrom_0 : bHas cX2_copyFrom 0 [42, 43, 180, 0, 68, 181, 0, 68, 43, 180, 0, 9, 3, 42, 180, 0, 9, 3, 16, 6, 184, 0, 62] := bH_c (n := 23) (by decide +kernel)
theorem dX2_copyFrom_0 : decode cX2_copyFrom 0 = .ok (.aload_n 0, 1) := de42 hX2_copyFrom_0 0 rfl rfl
theorem dX2_copyFrom_1 : decode cX2_copyFrom 1 = .ok (.aload_n 1, 1) := de43 hX2_copyFrom_0 1 rfl rfl
theorem dX2_copyFrom_2 : decode cX2_copyFrom 2 = .ok (.getfield 68, 3) := de180 hX2_copyFrom_0 2 rfl rfl rfl
theorem dX2_copyFrom_5 : decode cX2_copyFrom 5 = .ok (.putfield 68, 3) := de181 hX2_copyFrom_0 5 rfl rfl rfl
theorem dX2_copyFrom_8 : decode cX2_copyFrom 8 = .ok (.aload_n 1, 1) := de43 hX2_copyFrom_0 8 rfl rfl
theorem dX2_copyFrom_9 : decode cX2_copyFrom 9 = .ok (.getfield 9, 3) := de180 hX2_copyFrom_0 9 rfl rfl rfl
theorem dX2_copyFrom_12 : decode cX2_copyFrom 12 = .ok (.iconst 0, 1) := de3 hX2_copyFrom_0 12 rfl rfl
theorem dX2_copyFrom_13 : decode cX2_copyFrom 13 = .ok (.aload_n 0, 1) := de42 hX2_copyFrom_0 13 rfl rfl
theorem dX2_copyFrom_14 : decode cX2_copyFrom 14 = .ok (.getfield 9, 3) := de180 hX2_copyFrom_0 14 rfl rfl rfl
theorem dX2_copyFrom_17 : decode cX2_copyFrom 17 = .ok (.iconst 0, 1) := de3 hX2_copyFrom_0 17 rfl rfl
theorem dX2_copyFrom_18 : decode cX2_copyFrom 18 = .ok (.bipush 6, 2) := de16 hX2_copyFrom_0 18 rfl rfl rfl
theorem dX2_copyFrom_20 : decode cX2_copyFrom 20 = .ok (.invokestatic 62, 3) := de184 hX2_copyFrom_0 20 rfl rfl rfl
theorem hX2_copyFrom_23 : bHas cX2_copyFrom 23 [43, 180, 0, 15, 3, 42, 180, 0, 15, 3, 16, 6, 184, 0, 62, 43, 180, 0, 18, 3, 42] := bH_c (n := 21) (by decide +kernel)
theorem dX2_copyFrom_23 : decode cX2_copyFrom 23 = .ok (.aload_n 1, 1) := de43 hX2_copyFrom_23 0 rfl rfl
theorem dX2_copyFrom_24 : decode cX2_copyFrom 24 = .ok (.getfield 15, 3) := de180 hX2_copyFrom_23 1 rfl rfl rfl
theorem dX2_copyFrom_27 : decode cX2_copyFrom 27 = .ok (.iconst 0, 1) := de3 hX2_copyFrom_23 4 rfl rfl
theorem dX2_copyFrom_28 : decode cX2_copyFrom 28 = .ok (.aload_n 0, 1) := de42 hX2_copyFrom_23 5 rfl rfl
theorem dX2_copyFrom_29 : decode cX2_copyFrom 29 = .ok (.getfield 15, 3) := de180 hX2_copyFrom_23 6 rfl rfl rfl
theorem dX2_copyFrom_32 : decode cX2_copyFrom 32 = .ok (.iconst 0, 1) := de3 hX2_copyFrom_23 9 rfl rfl
theorem dX2_copyFrom_33 : decode cX2_copyFrom 33 = .ok (.bipush 6, 2) := de16 hX2_copyFrom_23 10 rfl rfl rfl
theorem dX2_copyFrom_35 : decode cX2_copyFrom 35 = .ok (.invokestatic 62, 3) := de184 hX2_copyFrom_23 12 rfl rfl rfl
theorem dX2_copyFrom_38 : decode cX2_copyFrom 38 = .ok (.aload_n 1, 1) := de43 hX2_copyFrom_23 15 rfl rfl
theorem dX2_copyFrom_39 : decode cX2_copyFrom 39 = .ok (.getfield 18, 3) := de180 hX2_copyFrom_23 16 rfl rfl rfl
theorem dX2_copyFrom_42 : decode cX2_copyFrom 42 = .ok (.iconst 0, 1) := de3 hX2_copyFrom_23 19 rfl rfl
theorem dX2_copyFrom_43 : decode cX2_copyFrom 43 = .ok (.aload_n 0, 1) := de42 hX2_copyFrom_23 20 rfl rfl
theorem hX2_copyFrom_44 : bHas cX2_copyFrom 44 [180, 0, 18, 3, 16, 18, 184, 0, 62, 43, 180, 0, 21, 3, 42, 180, 0, 21, 3, 16, 28, 184, 0, 62] := bH_c (n := 24) (by decide +kernel)
theorem dX2_copyFrom_44 : decode cX2_copyFrom 44 = .ok (.getfield 18, 3) := de180 hX2_copyFrom_44 0 rfl rfl rfl
theorem dX2_copyFrom_47 : decode cX2_copyFrom 47 = .ok (.iconst 0, 1) := de3 hX2_copyFrom_44 3 rfl rfl
theorem dX2_copyFrom_48 : decode cX2_copyFrom 48 = .ok (.bipush 18, 2) := de16 hX2_copyFrom_44 4 rfl rfl rfl
theorem dX2_copyFrom_50 : decode cX2_copyFrom 50 = .ok (.invokestatic 62, 3) := de184 hX2_copyFrom_44 6 rfl rfl rfl
theorem dX2_copyFrom_53 : decode cX2_copyFrom 53 = .ok (.aload_n 1, 1) := de43 hX2_copyFrom_44 9 rfl rfl
theorem dX2_copyFrom_54 : decode cX2_copyFrom 54 = .ok (.getfield 21, 3) := de180 hX2_copyFrom_44 10 rfl rfl rfl
theorem dX2_copyFrom_57 : decode cX2_copyFrom 57 = .ok (.iconst 0, 1) := de3 hX2_copyFrom_44 13 rfl rfl
theorem dX2_copyFrom_58 : decode cX2_copyFrom 58 = .ok (.aload_n 0, 1) := de42 hX2_copyFrom_44 14 rfl rfl
theorem dX2_copyFrom_59 : decode cX2_copyFrom 59 = .ok (.getfield 21, 3) := de180 hX2_copyFrom_44 15 rfl rfl rfl
theorem dX2_copyFrom_62 : decode cX2_copyFrom 62 = .ok (.iconst 0, 1) := de3 hX2_copyFrom_44 18 rfl rfl
theorem dX2_copyFrom_63 : decode cX2_copyFrom 63 = .ok (.bipush 28, 2) := de16 hX2_copyFrom_44 19 rfl rfl rfl
theorem dX2_copyFrom_65 : decode cX2_copyFrom 65 = .ok (.invokestatic 62, 3) := de184 hX2_copyFrom_44 21 rfl rfl rfl
theorem hX2_copyFrom_68 : bHas cX2_copyFrom 68 [43, 180, 0, 24, 3, 42, 180, 0, 24, 3, 17, 0, 168, 184, 0, 62, 43, 180, 0, 27, 3, 42] := bH_c (n := 22) (by decide +kernel)
theorem dX2_copyFrom_68 : decode cX2_copyFrom 68 = .ok (.aload_n 1, 1) := de43 hX2_copyFrom_68 0 rfl rfl
theorem dX2_copyFrom_69 : decode cX2_copyFrom 69 = .ok (.getfield 24, 3) := de180 hX2_copyFrom_68 1 rfl rfl rfl
theorem dX2_copyFrom_72 : decode cX2_copyFrom 72 = .ok (.iconst 0, 1) := de3 hX2_copyFrom_68 4 rfl rfl
theorem dX2_copyFrom_73 : decode cX2_copyFrom 73 = .ok (.aload_n 0, 1) := de42 hX2_copyFrom_68 5 rfl rfl
theorem dX2_copyFrom_74 : decode cX2_copyFrom 74 = .ok (.getfield 24, 3) := de180 hX2_copyFrom_68 6 rfl rfl rfl
theorem dX2_copyFrom_77 : decode cX2_copyFrom 77 = .ok (.iconst 0, 1) := de3 hX2_copyFrom_68 9 rfl rfl
theorem dX2_copyFrom_78 : decode cX2_copyFrom 78 = .ok (.sipush 168, 3) := de17 hX2_copyFrom_68 10 rfl rfl (by decide +kernel)
theorem dX2_copyFrom_81 : decode cX2_copyFrom 81 = .ok (.invokestatic 62, 3) := de184 hX2_copyFrom_68 13 rfl rfl rfl
theorem dX2_copyFrom_84 : decode cX2_copyFrom 84 = .ok (.aload_n 1, 1) := de43 hX2_copyFrom_68 16 rfl rfl
theorem dX2_copyFrom_85 : decode cX2_copyFrom 85 = .ok (.getfield 27, 3) := de180 hX2_copyFrom_68 17 rfl rfl rfl
theorem dX2_copyFrom_88 : decode cX2_copyFrom 88 = .ok (.iconst 0, 1) := de3 hX2_copyFrom_68 20 rfl rfl
theorem dX2_copyFrom_89 : decode cX2_copyFrom 89 = .ok (.aload_n 0, 1) := de42 hX2_copyFrom_68 21 rfl rfl
theorem hX2_copyFrom_90 : bHas cX2_copyFrom 90 [180, 0, 27, 3, 17, 0, 168, 184, 0, 62, 43, 180, 0, 30, 3, 42, 180, 0, 30, 3, 17, 0, 168, 184, 0, 62] := bH_c (n := 26) (by decide +kernel)
theorem dX2_copyFrom_90 : decode cX2_copyFrom 90 = .ok (.getfield 27, 3) := de180 hX2_copyFrom_90 0 rfl rfl rfl
theorem dX2_copyFrom_93 : decode cX2_copyFrom 93 = .ok (.iconst 0, 1) := de3 hX2_copyFrom_90 3 rfl rfl
theorem dX2_copyFrom_94 : decode cX2_copyFrom 94 = .ok (.sipush 168, 3) := de17 hX2_copyFrom_90 4 rfl rfl (by decide +kernel)
theorem dX2_copyFrom_97 : decode cX2_copyFrom 97 = .ok (.invokestatic 62, 3) := de184 hX2_copyFrom_90 7 rfl rfl rfl
theorem dX2_copyFrom_100 : decode cX2_copyFrom 100 = .ok (.aload_n 1, 1) := de43 hX2_copyFrom_90 10 rfl rfl
theorem dX2_copyFrom_101 : decode cX2_copyFrom 101 = .ok (.getfield 30, 3) := de180 hX2_copyFrom_90 11 rfl rfl rfl
theorem dX2_copyFrom_104 : decode cX2_copyFrom 104 = .ok (.iconst 0, 1) := de3 hX2_copyFrom_90 14 rfl rfl
theorem dX2_copyFrom_105 : decode cX2_copyFrom 105 = .ok (.aload_n 0, 1) := de42 hX2_copyFrom_90 15 rfl rfl
theorem dX2_copyFrom_106 : decode cX2_copyFrom 106 = .ok (.getfield 30, 3) := de180 hX2_copyFrom_90 16 rfl rfl rfl
theorem dX2_copyFrom_109 : decode cX2_copyFrom 109 = .ok (.iconst 0, 1) := de3 hX2_copyFrom_90 19 rfl rfl
theorem dX2_copyFrom_110 : decode cX2_copyFrom 110 = .ok (.sipush 168, 3) := de17 hX2_copyFrom_90 20 rfl rfl (by decide +kernel)
theorem dX2_copyFrom_113 : decode cX2_copyFrom 113 = .ok (.invokestatic 62, 3) := de184 hX2_copyFrom_90 23 rfl rfl rfl
theorem hX2_copyFrom_116 : bHas cX2_copyFrom 116 [43, 180, 0, 33, 3, 42, 180, 0, 33, 3, 17, 0, 168, 184, 0, 62, 43, 180, 0, 36, 3, 42] := bH_c (n := 22) (by decide +kernel)
theorem dX2_copyFrom_116 : decode cX2_copyFrom 116 = .ok (.aload_n 1, 1) := de43 hX2_copyFrom_116 0 rfl rfl
theorem dX2_copyFrom_117 : decode cX2_copyFrom 117 = .ok (.getfield 33, 3) := de180 hX2_copyFrom_116 1 rfl rfl rfl
theorem dX2_copyFrom_120 : decode cX2_copyFrom 120 = .ok (.iconst 0, 1) := de3 hX2_copyFrom_116 4 rfl rfl
theorem dX2_copyFrom_121 : decode cX2_copyFrom 121 = .ok (.aload_n 0, 1) := de42 hX2_copyFrom_116 5 rfl rfl
theorem dX2_copyFrom_122 : decode cX2_copyFrom 122 = .ok (.getfield 33, 3) := de180 hX2_copyFrom_116 6 rfl rfl rfl
theorem dX2_copyFrom_125 : decode cX2_copyFrom 125 = .ok (.iconst 0, 1) := de3 hX2_copyFrom_116 9 rfl rfl
theorem dX2_copyFrom_126 : decode cX2_copyFrom 126 = .ok (.sipush 168, 3) := de17 hX2_copyFrom_116 10 rfl rfl (by decide +kernel)
theorem dX2_copyFrom_129 : decode cX2_copyFrom 129 = .ok (.invokestatic 62, 3) := de184 hX2_copyFrom_116 13 rfl rfl rfl
theorem dX2_copyFrom_132 : decode cX2_copyFrom 132 = .ok (.aload_n 1, 1) := de43 hX2_copyFrom_116 16 rfl rfl
theorem dX2_copyFrom_133 : decode cX2_copyFrom 133 = .ok (.getfield 36, 3) := de180 hX2_copyFrom_116 17 rfl rfl rfl
theorem dX2_copyFrom_136 : decode cX2_copyFrom 136 = .ok (.iconst 0, 1) := de3 hX2_copyFrom_116 20 rfl rfl
theorem dX2_copyFrom_137 : decode cX2_copyFrom 137 = .ok (.aload_n 0, 1) := de42 hX2_copyFrom_116 21 rfl rfl
theorem hX2_copyFrom_138 : bHas cX2_copyFrom 138 [180, 0, 36, 3, 7, 184, 0, 62, 42, 180, 0, 42, 43, 180, 0, 42, 182, 0, 83, 42, 180, 0, 49, 43] := bH_c (n := 24) (by decide +kernel)
theorem dX2_copyFrom_138 : decode cX2_copyFrom 138 = .ok (.getfield 36, 3) := de180 hX2_copyFrom_138 0 rfl rfl rfl
theorem dX2_copyFrom_141 : decode cX2_copyFrom 141 = .ok (.iconst 0, 1) := de3 hX2_copyFrom_138 3 rfl rfl
theorem dX2_copyFrom_142 : decode cX2_copyFrom 142 = .ok (.iconst 4, 1) := de7 hX2_copyFrom_138 4 rfl rfl
theorem dX2_copyFrom_143 : decode cX2_copyFrom 143 = .ok (.invokestatic 62, 3) := de184 hX2_copyFrom_138 5 rfl rfl rfl
theorem dX2_copyFrom_146 : decode cX2_copyFrom 146 = .ok (.aload_n 0, 1) := de42 hX2_copyFrom_138 8 rfl rfl
theorem dX2_copyFrom_147 : decode cX2_copyFrom 147 = .ok (.getfield 42, 3) := de180 hX2_copyFrom_138 9 rfl rfl rfl
theorem dX2_copyFrom_150 : decode cX2_copyFrom 150 = .ok (.aload_n 1, 1) := de43 hX2_copyFrom_138 12 rfl rfl
theorem dX2_copyFrom_151 : decode cX2_copyFrom 151 = .ok (.getfield 42, 3) := de180 hX2_copyFrom_138 13 rfl rfl rfl
theorem dX2_copyFrom_154 : decode cX2_copyFrom 154 = .ok (.invokevirtual 83, 3) := de182 hX2_copyFrom_138 16 rfl rfl rfl
theorem dX2_copyFrom_157 : decode cX2_copyFrom 157 = .ok (.aload_n 0, 1) := de42 hX2_copyFrom_138 19 rfl rfl
theorem dX2_copyFrom_158 : decode cX2_copyFrom 158 = .ok (.getfield 49, 3) := de180 hX2_copyFrom_138 20 rfl rfl rfl
theorem dX2_copyFrom_161 : decode cX2_copyFrom 161 = .ok (.aload_n 1, 1) := de43 hX2_copyFrom_138 23 rfl rfl
theorem hX2_copyFrom_162 : bHas cX2_copyFrom 162 [180, 0, 49, 182, 0, 87, 177] := bH_c (n := 7) (by decide +kernel)
theorem dX2_copyFrom_162 : decode cX2_copyFrom 162 = .ok (.getfield 49, 3) := de180 hX2_copyFrom_162 0 rfl rfl rfl
theorem dX2_copyFrom_165 : decode cX2_copyFrom 165 = .ok (.invokevirtual 87, 3) := de182 hX2_copyFrom_162 3 rfl rfl rfl
theorem dX2_copyFrom_168 : decode cX2_copyFrom 168 = .ok (.return_, 1) := de177 hX2_copyFrom_162 6 rfl rfl
theorem hX3_init_0 : bHas cX3_init 0 [42, 183, 0, 3, 42, 16, 7] := bH_c (n := 7) (by decide +kernel)
theorem dX3_init_0 : decode cX3_init 0 = .ok (.aload_n 0, 1) := de42 hX3_init_0 0 rfl rfl
theorem dX3_init_1 : decode cX3_init 1 = .ok (.invokespecial 3, 3) := de183 hX3_init_0 1 rfl rfl rfl
theorem dX3_init_4 : decode cX3_init 4 = .ok (.aload_n 0, 1) := de42 hX3_init_0 4 rfl rfl
theorem dX3_init_5 : decode cX3_init 5 = .ok (.bipush 7, 2) := de16 hX3_init_0 5 rfl rfl rfl
theorem dX3_init_7 : decode cX3_init 7 = .ok (.newarray .int, 2) := by decide +kernel
theorem hX3_init_9 : bHas cX3_init 9 [181, 0, 9, 42, 43, 181, 0, 15, 177] := bH_c (n := 9) (by decide +kernel)
theorem dX3_init_9 : decode cX3_init 9 = .ok (.putfield 9, 3) := de181 hX3_init_9 0 rfl rfl rfl
theorem dX3_init_12 : decode cX3_init 12 = .ok (.aload_n 0, 1) := de42 hX3_init_9 3 rfl rfl
theorem dX3_init_13 : decode cX3_init 13 = .ok (.aload_n 1, 1) := de43 hX3_init_9 4 rfl rfl
theorem dX3_init_14 : decode cX3_init 14 = .ok (.putfield 15, 3) := de181 hX3_init_9 5 rfl rfl rfl
theorem dX3_init_17 : decode cX3_init 17 = .ok (.return_, 1) := de177 hX3_init_9 8 rfl rfl
theorem hX3_countFives_0 : bHas cX3_countFives 0 [42, 3, 181, 0, 19, 42, 3, 181, 0, 23, 3, 61, 28, 16, 28, 162, 0, 67, 42] := bH_c (n := 19) (by decide +kernel)
theorem dX3_countFives_0 : decode cX3_countFives 0 = .ok (.aload_n 0, 1) := de42 hX3_countFives_0 0 rfl rfl
theorem dX3_countFives_1 : decode cX3_countFives 1 = .ok (.iconst 0, 1) := de3 hX3_countFives_0 1 rfl rfl
theorem dX3_countFives_2 : decode cX3_countFives 2 = .ok (.putfield 19, 3) := de181 hX3_countFives_0 2 rfl rfl rfl
theorem dX3_countFives_5 : decode cX3_countFives 5 = .ok (.aload_n 0, 1) := de42 hX3_countFives_0 5 rfl rfl
theorem dX3_countFives_6 : decode cX3_countFives 6 = .ok (.iconst 0, 1) := de3 hX3_countFives_0 6 rfl rfl
theorem dX3_countFives_7 : decode cX3_countFives 7 = .ok (.putfield 23, 3) := de181 hX3_countFives_0 7 rfl rfl rfl
theorem dX3_countFives_10 : decode cX3_countFives 10 = .ok (.iconst 0, 1) := de3 hX3_countFives_0 10 rfl rfl
theorem dX3_countFives_11 : decode cX3_countFives 11 = .ok (.istore_n 2, 1) := de61 hX3_countFives_0 11 rfl rfl
theorem dX3_countFives_12 : decode cX3_countFives 12 = .ok (.iload_n 2, 1) := de28 hX3_countFives_0 12 rfl rfl
theorem dX3_countFives_13 : decode cX3_countFives 13 = .ok (.bipush 28, 2) := de16 hX3_countFives_0 13 rfl rfl rfl
theorem dX3_countFives_15 : decode cX3_countFives 15 = .ok (.if_icmp .ge 67, 3) := de162 hX3_countFives_0 15 rfl rfl (by decide +kernel)
theorem dX3_countFives_18 : decode cX3_countFives 18 = .ok (.aload_n 0, 1) := de42 hX3_countFives_0 18 rfl rfl
theorem hX3_countFives_19 : bHas cX3_countFives 19 [180, 0, 19, 16, 26, 162, 0, 58, 42, 180, 0, 15, 180, 0, 26, 27, 16, 28, 104, 28, 96, 46] := bH_c (n := 22) (by decide +kernel)
theorem dX3_countFives_19 : decode cX3_countFives 19 = .ok (.getfield 19, 3) := de180 hX3_countFives_19 0 rfl rfl rfl
theorem dX3_countFives_22 : decode cX3_countFives 22 = .ok (.bipush 26, 2) := de16 hX3_countFives_19 3 rfl rfl rfl
theorem dX3_countFives_24 : decode cX3_countFives 24 = .ok (.if_icmp .ge 58, 3) := de162 hX3_countFives_19 5 rfl rfl (by decide +kernel)
theorem dX3_countFives_27 : decode cX3_countFives 27 = .ok (.aload_n 0, 1) := de42 hX3_countFives_19 8 rfl rfl
theorem dX3_countFives_28 : decode cX3_countFives 28 = .ok (.getfield 15, 3) := de180 hX3_countFives_19 9 rfl rfl rfl
theorem dX3_countFives_31 : decode cX3_countFives 31 = .ok (.getfield 26, 3) := de180 hX3_countFives_19 12 rfl rfl rfl
theorem dX3_countFives_34 : decode cX3_countFives 34 = .ok (.iload_n 1, 1) := de27 hX3_countFives_19 15 rfl rfl
theorem dX3_countFives_35 : decode cX3_countFives 35 = .ok (.bipush 28, 2) := de16 hX3_countFives_19 16 rfl rfl rfl
theorem dX3_countFives_37 : decode cX3_countFives 37 = .ok (.imul, 1) := de104 hX3_countFives_19 18 rfl rfl
theorem dX3_countFives_38 : decode cX3_countFives 38 = .ok (.iload_n 2, 1) := de28 hX3_countFives_19 19 rfl rfl
theorem dX3_countFives_39 : decode cX3_countFives 39 = .ok (.iadd, 1) := de96 hX3_countFives_19 20 rfl rfl
theorem dX3_countFives_40 : decode cX3_countFives 40 = .ok (.iaload, 1) := de46 hX3_countFives_19 21 rfl rfl
theorem hX3_countFives_41 : bHas cX3_countFives 41 [62, 29, 158, 0, 33, 42, 89, 180, 0, 19, 4, 96, 181, 0, 19, 42, 89, 180, 0, 23] := bH_c (n := 20) (by decide +kernel)
theorem dX3_countFives_41 : decode cX3_countFives 41 = .ok (.istore_n 3, 1) := de62 hX3_countFives_41 0 rfl rfl
theorem dX3_countFives_42 : decode cX3_countFives 42 = .ok (.iload_n 3, 1) := de29 hX3_countFives_41 1 rfl rfl
theorem dX3_countFives_43 : decode cX3_countFives 43 = .ok (.ifCond .le 33, 3) := de158 hX3_countFives_41 2 rfl rfl (by decide +kernel)
theorem dX3_countFives_46 : decode cX3_countFives 46 = .ok (.aload_n 0, 1) := de42 hX3_countFives_41 5 rfl rfl
theorem dX3_countFives_47 : decode cX3_countFives 47 = .ok (.dup, 1) := de89 hX3_countFives_41 6 rfl rfl
theorem dX3_countFives_48 : decode cX3_countFives 48 = .ok (.getfield 19, 3) := de180 hX3_countFives_41 7 rfl rfl rfl
theorem dX3_countFives_51 : decode cX3_countFives 51 = .ok (.iconst 1, 1) := de4 hX3_countFives_41 10 rfl rfl
theorem dX3_countFives_52 : decode cX3_countFives 52 = .ok (.iadd, 1) := de96 hX3_countFives_41 11 rfl rfl
theorem dX3_countFives_53 : decode cX3_countFives 53 = .ok (.putfield 19, 3) := de181 hX3_countFives_41 12 rfl rfl rfl
theorem dX3_countFives_56 : decode cX3_countFives 56 = .ok (.aload_n 0, 1) := de42 hX3_countFives_41 15 rfl rfl
theorem dX3_countFives_57 : decode cX3_countFives 57 = .ok (.dup, 1) := de89 hX3_countFives_41 16 rfl rfl
theorem dX3_countFives_58 : decode cX3_countFives 58 = .ok (.getfield 23, 3) := de180 hX3_countFives_41 17 rfl rfl rfl
theorem hX3_countFives_61 : bHas cX3_countFives 61 [29, 8, 112, 154, 0, 7, 4, 167, 0, 4, 3, 96, 181, 0, 23, 132, 2, 1, 167, 255, 189, 177] := bH_c (n := 22) (by decide +kernel)
theorem dX3_countFives_61 : decode cX3_countFives 61 = .ok (.iload_n 3, 1) := de29 hX3_countFives_61 0 rfl rfl
theorem dX3_countFives_62 : decode cX3_countFives 62 = .ok (.iconst 5, 1) := de8 hX3_countFives_61 1 rfl rfl
theorem dX3_countFives_63 : decode cX3_countFives 63 = .ok (.irem, 1) := de112 hX3_countFives_61 2 rfl rfl
theorem dX3_countFives_64 : decode cX3_countFives 64 = .ok (.ifCond .ne 7, 3) := de154 hX3_countFives_61 3 rfl rfl (by decide +kernel)
theorem dX3_countFives_67 : decode cX3_countFives 67 = .ok (.iconst 1, 1) := de4 hX3_countFives_61 6 rfl rfl
theorem dX3_countFives_68 : decode cX3_countFives 68 = .ok (.goto 4, 3) := de167 hX3_countFives_61 7 rfl rfl (by decide +kernel)
theorem dX3_countFives_71 : decode cX3_countFives 71 = .ok (.iconst 0, 1) := de3 hX3_countFives_61 10 rfl rfl
theorem dX3_countFives_72 : decode cX3_countFives 72 = .ok (.iadd, 1) := de96 hX3_countFives_61 11 rfl rfl
theorem dX3_countFives_73 : decode cX3_countFives 73 = .ok (.putfield 23, 3) := de181 hX3_countFives_61 12 rfl rfl rfl
theorem dX3_countFives_76 : decode cX3_countFives 76 = .ok (.iinc 2 1, 3) := de132 hX3_countFives_61 15 rfl rfl rfl rfl
theorem dX3_countFives_79 : decode cX3_countFives 79 = .ok (.goto (-67), 3) := de167 hX3_countFives_61 18 rfl rfl (by decide +kernel)
theorem dX3_countFives_82 : decode cX3_countFives 82 = .ok (.return_, 1) := de177 hX3_countFives_61 21 rfl rfl
theorem hX3_weighFives_0 : bHas cX3_weighFives 0 [42, 9, 181, 0, 31, 42, 10, 181, 0, 35, 10, 64, 10, 66, 3, 54, 5] := bH_c (n := 17) (by decide +kernel)
theorem dX3_weighFives_0 : decode cX3_weighFives 0 = .ok (.aload_n 0, 1) := de42 hX3_weighFives_0 0 rfl rfl
theorem dX3_weighFives_1 : decode cX3_weighFives 1 = .ok (.lconst 0, 1) := de9 hX3_weighFives_0 1 rfl rfl
theorem dX3_weighFives_2 : decode cX3_weighFives 2 = .ok (.putfield 31, 3) := de181 hX3_weighFives_0 2 rfl rfl rfl
theorem dX3_weighFives_5 : decode cX3_weighFives 5 = .ok (.aload_n 0, 1) := de42 hX3_weighFives_0 5 rfl rfl
theorem dX3_weighFives_6 : decode cX3_weighFives 6 = .ok (.lconst 1, 1) := de10 hX3_weighFives_0 6 rfl rfl
theorem dX3_weighFives_7 : decode cX3_weighFives 7 = .ok (.putfield 35, 3) := de181 hX3_weighFives_0 7 rfl rfl rfl
theorem dX3_weighFives_10 : decode cX3_weighFives 10 = .ok (.lconst 1, 1) := de10 hX3_weighFives_0 10 rfl rfl
theorem dX3_weighFives_11 : decode cX3_weighFives 11 = .ok (.lstore_n 1, 1) := de64 hX3_weighFives_0 11 rfl rfl
theorem dX3_weighFives_12 : decode cX3_weighFives 12 = .ok (.lconst 1, 1) := de10 hX3_weighFives_0 12 rfl rfl
theorem dX3_weighFives_13 : decode cX3_weighFives 13 = .ok (.lstore_n 3, 1) := de66 hX3_weighFives_0 13 rfl rfl
theorem dX3_weighFives_14 : decode cX3_weighFives 14 = .ok (.iconst 0, 1) := de3 hX3_weighFives_0 14 rfl rfl
theorem dX3_weighFives_15 : decode cX3_weighFives 15 = .ok (.istore 5, 2) := de54 hX3_weighFives_0 15 rfl rfl rfl
theorem hX3_weighFives_17 : bHas cX3_weighFives 17 [21, 5, 42, 180, 0, 19, 42, 180, 0, 23, 100, 163, 0, 44, 42, 89, 180, 0, 31, 31, 33] := bH_c (n := 21) (by decide +kernel)
theorem dX3_weighFives_17 : decode cX3_weighFives 17 = .ok (.iload 5, 2) := de21 hX3_weighFives_17 0 rfl rfl rfl
theorem dX3_weighFives_19 : decode cX3_weighFives 19 = .ok (.aload_n 0, 1) := de42 hX3_weighFives_17 2 rfl rfl
theorem dX3_weighFives_20 : decode cX3_weighFives 20 = .ok (.getfield 19, 3) := de180 hX3_weighFives_17 3 rfl rfl rfl
theorem dX3_weighFives_23 : decode cX3_weighFives 23 = .ok (.aload_n 0, 1) := de42 hX3_weighFives_17 6 rfl rfl
theorem dX3_weighFives_24 : decode cX3_weighFives 24 = .ok (.getfield 23, 3) := de180 hX3_weighFives_17 7 rfl rfl rfl
theorem dX3_weighFives_27 : decode cX3_weighFives 27 = .ok (.isub, 1) := de100 hX3_weighFives_17 10 rfl rfl
theorem dX3_weighFives_28 : decode cX3_weighFives 28 = .ok (.if_icmp .gt 44, 3) := de163 hX3_weighFives_17 11 rfl rfl (by decide +kernel)
theorem dX3_weighFives_31 : decode cX3_weighFives 31 = .ok (.aload_n 0, 1) := de42 hX3_weighFives_17 14 rfl rfl
theorem dX3_weighFives_32 : decode cX3_weighFives 32 = .ok (.dup, 1) := de89 hX3_weighFives_17 15 rfl rfl
theorem dX3_weighFives_33 : decode cX3_weighFives 33 = .ok (.getfield 31, 3) := de180 hX3_weighFives_17 16 rfl rfl rfl
theorem dX3_weighFives_36 : decode cX3_weighFives 36 = .ok (.lload_n 1, 1) := de31 hX3_weighFives_17 19 rfl rfl
theorem dX3_weighFives_37 : decode cX3_weighFives 37 = .ok (.lload_n 3, 1) := de33 hX3_weighFives_17 20 rfl rfl
theorem hX3_weighFives_38 : bHas cX3_weighFives 38 [105, 97, 181, 0, 31, 31, 42, 180, 0, 19, 21, 5, 100, 133, 105, 21, 5, 4] := bH_c (n := 18) (by decide +kernel)
theorem dX3_weighFives_38 : decode cX3_weighFives 38 = .ok (.lmul, 1) := de105 hX3_weighFives_38 0 rfl rfl
theorem dX3_weighFives_39 : decode cX3_weighFives 39 = .ok (.ladd, 1) := de97 hX3_weighFives_38 1 rfl rfl
theorem dX3_weighFives_40 : decode cX3_weighFives 40 = .ok (.putfield 31, 3) := de181 hX3_weighFives_38 2 rfl rfl rfl
theorem dX3_weighFives_43 : decode cX3_weighFives 43 = .ok (.lload_n 1, 1) := de31 hX3_weighFives_38 5 rfl rfl
theorem dX3_weighFives_44 : decode cX3_weighFives 44 = .ok (.aload_n 0, 1) := de42 hX3_weighFives_38 6 rfl rfl
theorem dX3_weighFives_45 : decode cX3_weighFives 45 = .ok (.getfield 19, 3) := de180 hX3_weighFives_38 7 rfl rfl rfl
theorem dX3_weighFives_48 : decode cX3_weighFives 48 = .ok (.iload 5, 2) := de21 hX3_weighFives_38 10 rfl rfl rfl
theorem dX3_weighFives_50 : decode cX3_weighFives 50 = .ok (.isub, 1) := de100 hX3_weighFives_38 12 rfl rfl
theorem dX3_weighFives_51 : decode cX3_weighFives 51 = .ok (.i2l, 1) := de133 hX3_weighFives_38 13 rfl rfl
theorem dX3_weighFives_52 : decode cX3_weighFives 52 = .ok (.lmul, 1) := de105 hX3_weighFives_38 14 rfl rfl
theorem dX3_weighFives_53 : decode cX3_weighFives 53 = .ok (.iload 5, 2) := de21 hX3_weighFives_38 15 rfl rfl rfl
theorem dX3_weighFives_55 : decode cX3_weighFives 55 = .ok (.iconst 1, 1) := de4 hX3_weighFives_38 17 rfl rfl
theorem hX3_weighFives_56 : bHas cX3_weighFives 56 [96, 133, 109, 64, 33, 20, 0, 38, 105, 66, 132, 5, 1, 167, 255, 204, 3, 54, 5] := bH_c (n := 19) (by decide +kernel)
theorem dX3_weighFives_56 : decode cX3_weighFives 56 = .ok (.iadd, 1) := de96 hX3_weighFives_56 0 rfl rfl
theorem dX3_weighFives_57 : decode cX3_weighFives 57 = .ok (.i2l, 1) := de133 hX3_weighFives_56 1 rfl rfl
theorem dX3_weighFives_58 : decode cX3_weighFives 58 = .ok (.ldiv, 1) := de109 hX3_weighFives_56 2 rfl rfl
theorem dX3_weighFives_59 : decode cX3_weighFives 59 = .ok (.lstore_n 1, 1) := de64 hX3_weighFives_56 3 rfl rfl
theorem dX3_weighFives_60 : decode cX3_weighFives 60 = .ok (.lload_n 3, 1) := de33 hX3_weighFives_56 4 rfl rfl
theorem dX3_weighFives_61 : decode cX3_weighFives 61 = .ok (.ldc2_w 38, 3) := de20 hX3_weighFives_56 5 rfl rfl rfl
theorem dX3_weighFives_64 : decode cX3_weighFives 64 = .ok (.lmul, 1) := de105 hX3_weighFives_56 8 rfl rfl
theorem dX3_weighFives_65 : decode cX3_weighFives 65 = .ok (.lstore_n 3, 1) := de66 hX3_weighFives_56 9 rfl rfl
theorem dX3_weighFives_66 : decode cX3_weighFives 66 = .ok (.iinc 5 1, 3) := de132 hX3_weighFives_56 10 rfl rfl rfl rfl
theorem dX3_weighFives_69 : decode cX3_weighFives 69 = .ok (.goto (-52), 3) := de167 hX3_weighFives_56 13 rfl rfl (by decide +kernel)
theorem dX3_weighFives_72 : decode cX3_weighFives 72 = .ok (.iconst 0, 1) := de3 hX3_weighFives_56 16 rfl rfl
theorem dX3_weighFives_73 : decode cX3_weighFives 73 = .ok (.istore 5, 2) := de54 hX3_weighFives_56 17 rfl rfl rfl
theorem hX3_weighFives_75 : bHas cX3_weighFives 75 [21, 5, 42, 180, 0, 19, 162, 0, 21, 42, 42, 180, 0, 35, 20, 0, 40, 105, 181, 0, 35, 132, 5, 1, 167, 255, 232] := bH_c (n := 27) (by decide +kernel)
theorem dX3_weighFives_75 : decode cX3_weighFives 75 = .ok (.iload 5, 2) := de21 hX3_weighFives_75 0 rfl rfl rfl
theorem dX3_weighFives_77 : decode cX3_weighFives 77 = .ok (.aload_n 0, 1) := de42 hX3_weighFives_75 2 rfl rfl
theorem dX3_weighFives_78 : decode cX3_weighFives 78 = .ok (.getfield 19, 3) := de180 hX3_weighFives_75 3 rfl rfl rfl
theorem dX3_weighFives_81 : decode cX3_weighFives 81 = .ok (.if_icmp .ge 21, 3) := de162 hX3_weighFives_75 6 rfl rfl (by decide +kernel)
theorem dX3_weighFives_84 : decode cX3_weighFives 84 = .ok (.aload_n 0, 1) := de42 hX3_weighFives_75 9 rfl rfl
theorem dX3_weighFives_85 : decode cX3_weighFives 85 = .ok (.aload_n 0, 1) := de42 hX3_weighFives_75 10 rfl rfl
theorem dX3_weighFives_86 : decode cX3_weighFives 86 = .ok (.getfield 35, 3) := de180 hX3_weighFives_75 11 rfl rfl rfl
theorem dX3_weighFives_89 : decode cX3_weighFives 89 = .ok (.ldc2_w 40, 3) := de20 hX3_weighFives_75 14 rfl rfl rfl
theorem dX3_weighFives_92 : decode cX3_weighFives 92 = .ok (.lmul, 1) := de105 hX3_weighFives_75 17 rfl rfl
theorem dX3_weighFives_93 : decode cX3_weighFives 93 = .ok (.putfield 35, 3) := de181 hX3_weighFives_75 18 rfl rfl rfl
theorem dX3_weighFives_96 : decode cX3_weighFives 96 = .ok (.iinc 5 1, 3) := de132 hX3_weighFives_75 21 rfl rfl rfl rfl
theorem dX3_weighFives_99 : decode cX3_weighFives 99 = .ok (.goto (-24), 3) := de167 hX3_weighFives_75 24 rfl rfl (by decide +kernel)
theorem hX3_weighFives_102 : bHas cX3_weighFives 102 [3, 54, 5, 21, 5, 42, 180, 0, 19, 162, 0, 46, 42, 180, 0, 31, 20, 0, 40, 113, 9, 148] := bH_c (n := 22) (by decide +kernel)
theorem dX3_weighFives_102 : decode cX3_weighFives 102 = .ok (.iconst 0, 1) := de3 hX3_weighFives_102 0 rfl rfl
theorem dX3_weighFives_103 : decode cX3_weighFives 103 = .ok (.istore 5, 2) := de54 hX3_weighFives_102 1 rfl rfl rfl
theorem dX3_weighFives_105 : decode cX3_weighFives 105 = .ok (.iload 5, 2) := de21 hX3_weighFives_102 3 rfl rfl rfl
theorem dX3_weighFives_107 : decode cX3_weighFives 107 = .ok (.aload_n 0, 1) := de42 hX3_weighFives_102 5 rfl rfl
theorem dX3_weighFives_108 : decode cX3_weighFives 108 = .ok (.getfield 19, 3) := de180 hX3_weighFives_102 6 rfl rfl rfl
theorem dX3_weighFives_111 : decode cX3_weighFives 111 = .ok (.if_icmp .ge 46, 3) := de162 hX3_weighFives_102 9 rfl rfl (by decide +kernel)
theorem dX3_weighFives_114 : decode cX3_weighFives 114 = .ok (.aload_n 0, 1) := de42 hX3_weighFives_102 12 rfl rfl
theorem dX3_weighFives_115 : decode cX3_weighFives 115 = .ok (.getfield 31, 3) := de180 hX3_weighFives_102 13 rfl rfl rfl
theorem dX3_weighFives_118 : decode cX3_weighFives 118 = .ok (.ldc2_w 40, 3) := de20 hX3_weighFives_102 16 rfl rfl rfl
theorem dX3_weighFives_121 : decode cX3_weighFives 121 = .ok (.lrem, 1) := de113 hX3_weighFives_102 19 rfl rfl
theorem dX3_weighFives_122 : decode cX3_weighFives 122 = .ok (.lconst 0, 1) := de9 hX3_weighFives_102 20 rfl rfl
theorem dX3_weighFives_123 : decode cX3_weighFives 123 = .ok (.lcmp, 1) := de148 hX3_weighFives_102 21 rfl rfl
theorem hX3_weighFives_124 : bHas cX3_weighFives 124 [154, 0, 33, 42, 42, 180, 0, 31, 20, 0, 40, 109, 181, 0, 31, 42, 42, 180, 0, 35, 20, 0, 40, 109] := bH_c (n := 24) (by decide +kernel)
theorem dX3_weighFives_124 : decode cX3_weighFives 124 = .ok (.ifCond .ne 33, 3) := de154 hX3_weighFives_124 0 rfl rfl (by decide +kernel)
theorem dX3_weighFives_127 : decode cX3_weighFives 127 = .ok (.aload_n 0, 1) := de42 hX3_weighFives_124 3 rfl rfl
theorem dX3_weighFives_128 : decode cX3_weighFives 128 = .ok (.aload_n 0, 1) := de42 hX3_weighFives_124 4 rfl rfl
theorem dX3_weighFives_129 : decode cX3_weighFives 129 = .ok (.getfield 31, 3) := de180 hX3_weighFives_124 5 rfl rfl rfl
theorem dX3_weighFives_132 : decode cX3_weighFives 132 = .ok (.ldc2_w 40, 3) := de20 hX3_weighFives_124 8 rfl rfl rfl
theorem dX3_weighFives_135 : decode cX3_weighFives 135 = .ok (.ldiv, 1) := de109 hX3_weighFives_124 11 rfl rfl
theorem dX3_weighFives_136 : decode cX3_weighFives 136 = .ok (.putfield 31, 3) := de181 hX3_weighFives_124 12 rfl rfl rfl
theorem dX3_weighFives_139 : decode cX3_weighFives 139 = .ok (.aload_n 0, 1) := de42 hX3_weighFives_124 15 rfl rfl
theorem dX3_weighFives_140 : decode cX3_weighFives 140 = .ok (.aload_n 0, 1) := de42 hX3_weighFives_124 16 rfl rfl
theorem dX3_weighFives_141 : decode cX3_weighFives 141 = .ok (.getfield 35, 3) := de180 hX3_weighFives_124 17 rfl rfl rfl
theorem dX3_weighFives_144 : decode cX3_weighFives 144 = .ok (.ldc2_w 40, 3) := de20 hX3_weighFives_124 20 rfl rfl rfl
theorem dX3_weighFives_147 : decode cX3_weighFives 147 = .ok (.ldiv, 1) := de109 hX3_weighFives_124 23 rfl rfl
theorem hX3_weighFives_148 : bHas cX3_weighFives 148 [181, 0, 35, 132, 5, 1, 167, 255, 207, 177] := bH_c (n := 10) (by decide +kernel)
theorem dX3_weighFives_148 : decode cX3_weighFives 148 = .ok (.putfield 35, 3) := de181 hX3_weighFives_148 0 rfl rfl rfl
theorem dX3_weighFives_151 : decode cX3_weighFives 151 = .ok (.iinc 5 1, 3) := de132 hX3_weighFives_148 3 rfl rfl rfl rfl
theorem dX3_weighFives_154 : decode cX3_weighFives 154 = .ok (.goto (-49), 3) := de167 hX3_weighFives_148 6 rfl rfl (by decide +kernel)
theorem dX3_weighFives_157 : decode cX3_weighFives 157 = .ok (.return_, 1) := de177 hX3_weighFives_148 9 rfl rfl
theorem hX3_findForgotten_0 : bHas cX3_findForgotten 0 [42, 180, 0, 9, 3, 184, 0, 42, 3, 61, 28, 16, 28, 162, 0, 40, 42, 180, 0, 15, 180, 0, 26] := bH_c (n := 23) (by decide +kernel)
theorem dX3_findForgotten_0 : decode cX3_findForgotten 0 = .ok (.aload_n 0, 1) := de42 hX3_findForgotten_0 0 rfl rfl
theorem dX3_findForgotten_1 : decode cX3_findForgotten 1 = .ok (.getfield 9, 3) := de180 hX3_findForgotten_0 1 rfl rfl rfl
theorem dX3_findForgotten_4 : decode cX3_findForgotten 4 = .ok (.iconst 0, 1) := de3 hX3_findForgotten_0 4 rfl rfl
theorem dX3_findForgotten_5 : decode cX3_findForgotten 5 = .ok (.invokestatic 42, 3) := de184 hX3_findForgotten_0 5 rfl rfl rfl
theorem dX3_findForgotten_8 : decode cX3_findForgotten 8 = .ok (.iconst 0, 1) := de3 hX3_findForgotten_0 8 rfl rfl
theorem dX3_findForgotten_9 : decode cX3_findForgotten 9 = .ok (.istore_n 2, 1) := de61 hX3_findForgotten_0 9 rfl rfl
theorem dX3_findForgotten_10 : decode cX3_findForgotten 10 = .ok (.iload_n 2, 1) := de28 hX3_findForgotten_0 10 rfl rfl
theorem dX3_findForgotten_11 : decode cX3_findForgotten 11 = .ok (.bipush 28, 2) := de16 hX3_findForgotten_0 11 rfl rfl rfl
theorem dX3_findForgotten_13 : decode cX3_findForgotten 13 = .ok (.if_icmp .ge 40, 3) := de162 hX3_findForgotten_0 13 rfl rfl (by decide +kernel)
theorem dX3_findForgotten_16 : decode cX3_findForgotten 16 = .ok (.aload_n 0, 1) := de42 hX3_findForgotten_0 16 rfl rfl
theorem dX3_findForgotten_17 : decode cX3_findForgotten 17 = .ok (.getfield 15, 3) := de180 hX3_findForgotten_0 17 rfl rfl rfl
theorem dX3_findForgotten_20 : decode cX3_findForgotten 20 = .ok (.getfield 26, 3) := de180 hX3_findForgotten_0 20 rfl rfl rfl
theorem hX3_findForgotten_23 : bHas cX3_findForgotten 23 [27, 16, 28, 104, 28, 96, 46, 2, 160, 0, 16, 42, 180, 0, 9, 28, 16, 7] := bH_c (n := 18) (by decide +kernel)
theorem dX3_findForgotten_23 : decode cX3_findForgotten 23 = .ok (.iload_n 1, 1) := de27 hX3_findForgotten_23 0 rfl rfl
theorem dX3_findForgotten_24 : decode cX3_findForgotten 24 = .ok (.bipush 28, 2) := de16 hX3_findForgotten_23 1 rfl rfl rfl
theorem dX3_findForgotten_26 : decode cX3_findForgotten 26 = .ok (.imul, 1) := de104 hX3_findForgotten_23 3 rfl rfl
theorem dX3_findForgotten_27 : decode cX3_findForgotten 27 = .ok (.iload_n 2, 1) := de28 hX3_findForgotten_23 4 rfl rfl
theorem dX3_findForgotten_28 : decode cX3_findForgotten 28 = .ok (.iadd, 1) := de96 hX3_findForgotten_23 5 rfl rfl
theorem dX3_findForgotten_29 : decode cX3_findForgotten 29 = .ok (.iaload, 1) := de46 hX3_findForgotten_23 6 rfl rfl
theorem dX3_findForgotten_30 : decode cX3_findForgotten 30 = .ok (.iconst (-1), 1) := de2 hX3_findForgotten_23 7 rfl rfl
theorem dX3_findForgotten_31 : decode cX3_findForgotten 31 = .ok (.if_icmp .ne 16, 3) := de160 hX3_findForgotten_23 8 rfl rfl (by decide +kernel)
theorem dX3_findForgotten_34 : decode cX3_findForgotten 34 = .ok (.aload_n 0, 1) := de42 hX3_findForgotten_23 11 rfl rfl
theorem dX3_findForgotten_35 : decode cX3_findForgotten 35 = .ok (.getfield 9, 3) := de180 hX3_findForgotten_23 12 rfl rfl rfl
theorem dX3_findForgotten_38 : decode cX3_findForgotten 38 = .ok (.iload_n 2, 1) := de28 hX3_findForgotten_23 15 rfl rfl
theorem dX3_findForgotten_39 : decode cX3_findForgotten 39 = .ok (.bipush 7, 2) := de16 hX3_findForgotten_23 16 rfl rfl rfl
theorem hX3_findForgotten_41 : bHas cX3_findForgotten 41 [112, 92, 46, 4, 96, 79, 132, 2, 1, 167, 255, 216, 42, 3, 181, 0, 48, 4] := bH_c (n := 18) (by decide +kernel)
theorem dX3_findForgotten_41 : decode cX3_findForgotten 41 = .ok (.irem, 1) := de112 hX3_findForgotten_41 0 rfl rfl
theorem dX3_findForgotten_42 : decode cX3_findForgotten 42 = .ok (.dup2, 1) := de92 hX3_findForgotten_41 1 rfl rfl
theorem dX3_findForgotten_43 : decode cX3_findForgotten 43 = .ok (.iaload, 1) := de46 hX3_findForgotten_41 2 rfl rfl
theorem dX3_findForgotten_44 : decode cX3_findForgotten 44 = .ok (.iconst 1, 1) := de4 hX3_findForgotten_41 3 rfl rfl
theorem dX3_findForgotten_45 : decode cX3_findForgotten 45 = .ok (.iadd, 1) := de96 hX3_findForgotten_41 4 rfl rfl
theorem dX3_findForgotten_46 : decode cX3_findForgotten 46 = .ok (.iastore, 1) := de79 hX3_findForgotten_41 5 rfl rfl
theorem dX3_findForgotten_47 : decode cX3_findForgotten 47 = .ok (.iinc 2 1, 3) := de132 hX3_findForgotten_41 6 rfl rfl rfl rfl
theorem dX3_findForgotten_50 : decode cX3_findForgotten 50 = .ok (.goto (-40), 3) := de167 hX3_findForgotten_41 9 rfl rfl (by decide +kernel)
theorem dX3_findForgotten_53 : decode cX3_findForgotten 53 = .ok (.aload_n 0, 1) := de42 hX3_findForgotten_41 12 rfl rfl
theorem dX3_findForgotten_54 : decode cX3_findForgotten 54 = .ok (.iconst 0, 1) := de3 hX3_findForgotten_41 13 rfl rfl
theorem dX3_findForgotten_55 : decode cX3_findForgotten 55 = .ok (.putfield 48, 3) := de181 hX3_findForgotten_41 14 rfl rfl rfl
theorem dX3_findForgotten_58 : decode cX3_findForgotten 58 = .ok (.iconst 1, 1) := de4 hX3_findForgotten_41 17 rfl rfl
theorem hX3_findForgotten_59 : bHas cX3_findForgotten 59 [61, 28, 16, 7, 162, 0, 32, 42, 180, 0, 9, 28, 46, 42, 180, 0, 9, 42, 180, 0, 48] := bH_c (n := 21) (by decide +kernel)
theorem dX3_findForgotten_59 : decode cX3_findForgotten 59 = .ok (.istore_n 2, 1) := de61 hX3_findForgotten_59 0 rfl rfl
theorem dX3_findForgotten_60 : decode cX3_findForgotten 60 = .ok (.iload_n 2, 1) := de28 hX3_findForgotten_59 1 rfl rfl
theorem dX3_findForgotten_61 : decode cX3_findForgotten 61 = .ok (.bipush 7, 2) := de16 hX3_findForgotten_59 2 rfl rfl rfl
theorem dX3_findForgotten_63 : decode cX3_findForgotten 63 = .ok (.if_icmp .ge 32, 3) := de162 hX3_findForgotten_59 4 rfl rfl (by decide +kernel)
theorem dX3_findForgotten_66 : decode cX3_findForgotten 66 = .ok (.aload_n 0, 1) := de42 hX3_findForgotten_59 7 rfl rfl
theorem dX3_findForgotten_67 : decode cX3_findForgotten 67 = .ok (.getfield 9, 3) := de180 hX3_findForgotten_59 8 rfl rfl rfl
theorem dX3_findForgotten_70 : decode cX3_findForgotten 70 = .ok (.iload_n 2, 1) := de28 hX3_findForgotten_59 11 rfl rfl
theorem dX3_findForgotten_71 : decode cX3_findForgotten 71 = .ok (.iaload, 1) := de46 hX3_findForgotten_59 12 rfl rfl
theorem dX3_findForgotten_72 : decode cX3_findForgotten 72 = .ok (.aload_n 0, 1) := de42 hX3_findForgotten_59 13 rfl rfl
theorem dX3_findForgotten_73 : decode cX3_findForgotten 73 = .ok (.getfield 9, 3) := de180 hX3_findForgotten_59 14 rfl rfl rfl
theorem dX3_findForgotten_76 : decode cX3_findForgotten 76 = .ok (.aload_n 0, 1) := de42 hX3_findForgotten_59 17 rfl rfl
theorem dX3_findForgotten_77 : decode cX3_findForgotten 77 = .ok (.getfield 48, 3) := de180 hX3_findForgotten_59 18 rfl rfl rfl
theorem hX3_findForgotten_80 : bHas cX3_findForgotten 80 [46, 164, 0, 8, 42, 28, 181, 0, 48, 132, 2, 1, 167, 255, 224, 42, 42, 180, 0, 9, 42, 180, 0, 48] := bH_c (n := 24) (by decide +kernel)
theorem dX3_findForgotten_80 : decode cX3_findForgotten 80 = .ok (.iaload, 1) := de46 hX3_findForgotten_80 0 rfl rfl
theorem dX3_findForgotten_81 : decode cX3_findForgotten 81 = .ok (.if_icmp .le 8, 3) := de164 hX3_findForgotten_80 1 rfl rfl (by decide +kernel)
theorem dX3_findForgotten_84 : decode cX3_findForgotten 84 = .ok (.aload_n 0, 1) := de42 hX3_findForgotten_80 4 rfl rfl
theorem dX3_findForgotten_85 : decode cX3_findForgotten 85 = .ok (.iload_n 2, 1) := de28 hX3_findForgotten_80 5 rfl rfl
theorem dX3_findForgotten_86 : decode cX3_findForgotten 86 = .ok (.putfield 48, 3) := de181 hX3_findForgotten_80 6 rfl rfl rfl
theorem dX3_findForgotten_89 : decode cX3_findForgotten 89 = .ok (.iinc 2 1, 3) := de132 hX3_findForgotten_80 9 rfl rfl rfl rfl
theorem dX3_findForgotten_92 : decode cX3_findForgotten 92 = .ok (.goto (-32), 3) := de167 hX3_findForgotten_80 12 rfl rfl (by decide +kernel)
theorem dX3_findForgotten_95 : decode cX3_findForgotten 95 = .ok (.aload_n 0, 1) := de42 hX3_findForgotten_80 15 rfl rfl
theorem dX3_findForgotten_96 : decode cX3_findForgotten 96 = .ok (.aload_n 0, 1) := de42 hX3_findForgotten_80 16 rfl rfl
theorem dX3_findForgotten_97 : decode cX3_findForgotten 97 = .ok (.getfield 9, 3) := de180 hX3_findForgotten_80 17 rfl rfl rfl
theorem dX3_findForgotten_100 : decode cX3_findForgotten 100 = .ok (.aload_n 0, 1) := de42 hX3_findForgotten_80 20 rfl rfl
theorem dX3_findForgotten_101 : decode cX3_findForgotten 101 = .ok (.getfield 48, 3) := de180 hX3_findForgotten_80 21 rfl rfl rfl
theorem hX3_findForgotten_104 : bHas cX3_findForgotten 104 [46, 181, 0, 51, 177] := bH_c (n := 5) (by decide +kernel)
theorem dX3_findForgotten_104 : decode cX3_findForgotten 104 = .ok (.iaload, 1) := de46 hX3_findForgotten_104 0 rfl rfl
theorem dX3_findForgotten_105 : decode cX3_findForgotten 105 = .ok (.putfield 51, 3) := de181 hX3_findForgotten_104 1 rfl rfl rfl
theorem dX3_findForgotten_108 : decode cX3_findForgotten 108 = .ok (.return_, 1) := de177 hX3_findForgotten_104 4 rfl rfl
theorem hX4_init_0 : bHas cX4_init 0 [42, 183, 0, 3, 42, 16, 12] := bH_c (n := 7) (by decide +kernel)
theorem dX4_init_0 : decode cX4_init 0 = .ok (.aload_n 0, 1) := de42 hX4_init_0 0 rfl rfl
theorem dX4_init_1 : decode cX4_init 1 = .ok (.invokespecial 3, 3) := de183 hX4_init_0 1 rfl rfl rfl
theorem dX4_init_4 : decode cX4_init 4 = .ok (.aload_n 0, 1) := de42 hX4_init_0 4 rfl rfl
theorem dX4_init_5 : decode cX4_init 5 = .ok (.bipush 12, 2) := de16 hX4_init_0 5 rfl rfl rfl
theorem dX4_init_7 : decode cX4_init 7 = .ok (.newarray .int, 2) := by decide +kernel
theorem hX4_init_9 : bHas cX4_init 9 [181, 0, 9, 42, 16, 12] := bH_c (n := 6) (by decide +kernel)
theorem dX4_init_9 : decode cX4_init 9 = .ok (.putfield 9, 3) := de181 hX4_init_9 0 rfl rfl rfl
theorem dX4_init_12 : decode cX4_init 12 = .ok (.aload_n 0, 1) := de42 hX4_init_9 3 rfl rfl
theorem dX4_init_13 : decode cX4_init 13 = .ok (.bipush 12, 2) := de16 hX4_init_9 4 rfl rfl rfl
theorem dX4_init_15 : decode cX4_init 15 = .ok (.newarray .int, 2) := by decide +kernel
theorem hX4_init_17 : bHas cX4_init 17 [181, 0, 15, 42, 16, 12] := bH_c (n := 6) (by decide +kernel)
theorem dX4_init_17 : decode cX4_init 17 = .ok (.putfield 15, 3) := de181 hX4_init_17 0 rfl rfl rfl
theorem dX4_init_20 : decode cX4_init 20 = .ok (.aload_n 0, 1) := de42 hX4_init_17 3 rfl rfl
theorem dX4_init_21 : decode cX4_init 21 = .ok (.bipush 12, 2) := de16 hX4_init_17 4 rfl rfl rfl
theorem dX4_init_23 : decode cX4_init 23 = .ok (.newarray .int, 2) := by decide +kernel
theorem hX4_init_25 : bHas cX4_init 25 [181, 0, 18, 42, 16, 12] := bH_c (n := 6) (by decide +kernel)
theorem dX4_init_25 : decode cX4_init 25 = .ok (.putfield 18, 3) := de181 hX4_init_25 0 rfl rfl rfl
theorem dX4_init_28 : decode cX4_init 28 = .ok (.aload_n 0, 1) := de42 hX4_init_25 3 rfl rfl
theorem dX4_init_29 : decode cX4_init 29 = .ok (.bipush 12, 2) := de16 hX4_init_25 4 rfl rfl rfl
theorem dX4_init_31 : decode cX4_init 31 = .ok (.newarray .int, 2) := by decide +kernel
theorem hX4_init_33 : bHas cX4_init 33 [181, 0, 21, 42, 17, 1, 185] := bH_c (n := 7) (by decide +kernel)
theorem dX4_init_33 : decode cX4_init 33 = .ok (.putfield 21, 3) := de181 hX4_init_33 0 rfl rfl rfl
theorem dX4_init_36 : decode cX4_init 36 = .ok (.aload_n 0, 1) := de42 hX4_init_33 3 rfl rfl
theorem dX4_init_37 : decode cX4_init 37 = .ok (.sipush 441, 3) := de17 hX4_init_33 4 rfl rfl (by decide +kernel)
theorem dX4_init_40 : decode cX4_init 40 = .ok (.newarray .int, 2) := by decide +kernel
theorem hX4_init_42 : bHas cX4_init 42 [181, 0, 24, 42, 17, 1, 185] := bH_c (n := 7) (by decide +kernel)
theorem dX4_init_42 : decode cX4_init 42 = .ok (.putfield 24, 3) := de181 hX4_init_42 0 rfl rfl rfl
theorem dX4_init_45 : decode cX4_init 45 = .ok (.aload_n 0, 1) := de42 hX4_init_42 3 rfl rfl
theorem dX4_init_46 : decode cX4_init 46 = .ok (.sipush 441, 3) := de17 hX4_init_42 4 rfl rfl (by decide +kernel)
theorem dX4_init_49 : decode cX4_init 49 = .ok (.newarray .int, 2) := by decide +kernel
theorem hX4_init_51 : bHas cX4_init 51 [181, 0, 27, 42, 17, 1, 185] := bH_c (n := 7) (by decide +kernel)
theorem dX4_init_51 : decode cX4_init 51 = .ok (.putfield 27, 3) := de181 hX4_init_51 0 rfl rfl rfl
theorem dX4_init_54 : decode cX4_init 54 = .ok (.aload_n 0, 1) := de42 hX4_init_51 3 rfl rfl
theorem dX4_init_55 : decode cX4_init 55 = .ok (.sipush 441, 3) := de17 hX4_init_51 4 rfl rfl (by decide +kernel)
theorem dX4_init_58 : decode cX4_init 58 = .ok (.newarray .int, 2) := by decide +kernel
theorem hX4_init_60 : bHas cX4_init 60 [181, 0, 30, 42, 43, 181, 0, 33, 42, 43, 180, 0, 37, 181, 0, 43, 177] := bH_c (n := 17) (by decide +kernel)
theorem dX4_init_60 : decode cX4_init 60 = .ok (.putfield 30, 3) := de181 hX4_init_60 0 rfl rfl rfl
theorem dX4_init_63 : decode cX4_init 63 = .ok (.aload_n 0, 1) := de42 hX4_init_60 3 rfl rfl
theorem dX4_init_64 : decode cX4_init 64 = .ok (.aload_n 1, 1) := de43 hX4_init_60 4 rfl rfl
theorem dX4_init_65 : decode cX4_init 65 = .ok (.putfield 33, 3) := de181 hX4_init_60 5 rfl rfl rfl
theorem dX4_init_68 : decode cX4_init 68 = .ok (.aload_n 0, 1) := de42 hX4_init_60 8 rfl rfl
theorem dX4_init_69 : decode cX4_init 69 = .ok (.aload_n 1, 1) := de43 hX4_init_60 9 rfl rfl
theorem dX4_init_70 : decode cX4_init 70 = .ok (.getfield 37, 3) := de180 hX4_init_60 10 rfl rfl rfl
theorem dX4_init_73 : decode cX4_init 73 = .ok (.putfield 43, 3) := de181 hX4_init_60 13 rfl rfl rfl
theorem dX4_init_76 : decode cX4_init 76 = .ok (.return_, 1) := de177 hX4_init_60 16 rfl rfl
theorem hX4_gather_0 : bHas cX4_gather 0 [42, 3, 181, 0, 44, 3, 61, 28, 42, 180, 0, 43, 180, 0, 48, 162, 0, 53, 42, 180, 0, 33] := bH_c (n := 22) (by decide +kernel)
theorem dX4_gather_0 : decode cX4_gather 0 = .ok (.aload_n 0, 1) := de42 hX4_gather_0 0 rfl rfl
theorem dX4_gather_1 : decode cX4_gather 1 = .ok (.iconst 0, 1) := de3 hX4_gather_0 1 rfl rfl
theorem dX4_gather_2 : decode cX4_gather 2 = .ok (.putfield 44, 3) := de181 hX4_gather_0 2 rfl rfl rfl
theorem dX4_gather_5 : decode cX4_gather 5 = .ok (.iconst 0, 1) := de3 hX4_gather_0 5 rfl rfl
theorem dX4_gather_6 : decode cX4_gather 6 = .ok (.istore_n 2, 1) := de61 hX4_gather_0 6 rfl rfl
theorem dX4_gather_7 : decode cX4_gather 7 = .ok (.iload_n 2, 1) := de28 hX4_gather_0 7 rfl rfl
theorem dX4_gather_8 : decode cX4_gather 8 = .ok (.aload_n 0, 1) := de42 hX4_gather_0 8 rfl rfl
theorem dX4_gather_9 : decode cX4_gather 9 = .ok (.getfield 43, 3) := de180 hX4_gather_0 9 rfl rfl rfl
theorem dX4_gather_12 : decode cX4_gather 12 = .ok (.getfield 48, 3) := de180 hX4_gather_0 12 rfl rfl rfl
theorem dX4_gather_15 : decode cX4_gather 15 = .ok (.if_icmp .ge 53, 3) := de162 hX4_gather_0 15 rfl rfl (by decide +kernel)
theorem dX4_gather_18 : decode cX4_gather 18 = .ok (.aload_n 0, 1) := de42 hX4_gather_0 18 rfl rfl
theorem dX4_gather_19 : decode cX4_gather 19 = .ok (.getfield 33, 3) := de180 hX4_gather_0 19 rfl rfl rfl
theorem hX4_gather_22 : bHas cX4_gather 22 [180, 0, 53, 28, 16, 28, 104, 27, 96, 46, 62, 29, 2, 159, 0, 27, 42] := bH_c (n := 17) (by decide +kernel)
theorem dX4_gather_22 : decode cX4_gather 22 = .ok (.getfield 53, 3) := de180 hX4_gather_22 0 rfl rfl rfl
theorem dX4_gather_25 : decode cX4_gather 25 = .ok (.iload_n 2, 1) := de28 hX4_gather_22 3 rfl rfl
theorem dX4_gather_26 : decode cX4_gather 26 = .ok (.bipush 28, 2) := de16 hX4_gather_22 4 rfl rfl rfl
theorem dX4_gather_28 : decode cX4_gather 28 = .ok (.imul, 1) := de104 hX4_gather_22 6 rfl rfl
theorem dX4_gather_29 : decode cX4_gather 29 = .ok (.iload_n 1, 1) := de27 hX4_gather_22 7 rfl rfl
theorem dX4_gather_30 : decode cX4_gather 30 = .ok (.iadd, 1) := de96 hX4_gather_22 8 rfl rfl
theorem dX4_gather_31 : decode cX4_gather 31 = .ok (.iaload, 1) := de46 hX4_gather_22 9 rfl rfl
theorem dX4_gather_32 : decode cX4_gather 32 = .ok (.istore_n 3, 1) := de62 hX4_gather_22 10 rfl rfl
theorem dX4_gather_33 : decode cX4_gather 33 = .ok (.iload_n 3, 1) := de29 hX4_gather_22 11 rfl rfl
theorem dX4_gather_34 : decode cX4_gather 34 = .ok (.iconst (-1), 1) := de2 hX4_gather_22 12 rfl rfl
theorem dX4_gather_35 : decode cX4_gather 35 = .ok (.if_icmp .eq 27, 3) := de159 hX4_gather_22 13 rfl rfl (by decide +kernel)
theorem dX4_gather_38 : decode cX4_gather 38 = .ok (.aload_n 0, 1) := de42 hX4_gather_22 16 rfl rfl
theorem hX4_gather_39 : bHas cX4_gather 39 [42, 180, 0, 43, 180, 0, 56, 28, 46, 42, 180, 0, 43, 180, 0, 59, 28, 46, 29, 29] := bH_c (n := 20) (by decide +kernel)
theorem dX4_gather_39 : decode cX4_gather 39 = .ok (.aload_n 0, 1) := de42 hX4_gather_39 0 rfl rfl
theorem dX4_gather_40 : decode cX4_gather 40 = .ok (.getfield 43, 3) := de180 hX4_gather_39 1 rfl rfl rfl
theorem dX4_gather_43 : decode cX4_gather 43 = .ok (.getfield 56, 3) := de180 hX4_gather_39 4 rfl rfl rfl
theorem dX4_gather_46 : decode cX4_gather 46 = .ok (.iload_n 2, 1) := de28 hX4_gather_39 7 rfl rfl
theorem dX4_gather_47 : decode cX4_gather 47 = .ok (.iaload, 1) := de46 hX4_gather_39 8 rfl rfl
theorem dX4_gather_48 : decode cX4_gather 48 = .ok (.aload_n 0, 1) := de42 hX4_gather_39 9 rfl rfl
theorem dX4_gather_49 : decode cX4_gather 49 = .ok (.getfield 43, 3) := de180 hX4_gather_39 10 rfl rfl rfl
theorem dX4_gather_52 : decode cX4_gather 52 = .ok (.getfield 59, 3) := de180 hX4_gather_39 13 rfl rfl rfl
theorem dX4_gather_55 : decode cX4_gather 55 = .ok (.iload_n 2, 1) := de28 hX4_gather_39 16 rfl rfl
theorem dX4_gather_56 : decode cX4_gather 56 = .ok (.iaload, 1) := de46 hX4_gather_39 17 rfl rfl
theorem dX4_gather_57 : decode cX4_gather 57 = .ok (.iload_n 3, 1) := de29 hX4_gather_39 18 rfl rfl
theorem dX4_gather_58 : decode cX4_gather 58 = .ok (.iload_n 3, 1) := de29 hX4_gather_39 19 rfl rfl
theorem hX4_gather_59 : bHas cX4_gather 59 [182, 0, 62, 132, 2, 1, 167, 255, 198, 42, 180, 0, 43, 180, 0, 66, 77, 3, 62, 29, 44, 180, 0, 70] := bH_c (n := 24) (by decide +kernel)
theorem dX4_gather_59 : decode cX4_gather 59 = .ok (.invokevirtual 62, 3) := de182 hX4_gather_59 0 rfl rfl rfl
theorem dX4_gather_62 : decode cX4_gather 62 = .ok (.iinc 2 1, 3) := de132 hX4_gather_59 3 rfl rfl rfl rfl
theorem dX4_gather_65 : decode cX4_gather 65 = .ok (.goto (-58), 3) := de167 hX4_gather_59 6 rfl rfl (by decide +kernel)
theorem dX4_gather_68 : decode cX4_gather 68 = .ok (.aload_n 0, 1) := de42 hX4_gather_59 9 rfl rfl
theorem dX4_gather_69 : decode cX4_gather 69 = .ok (.getfield 43, 3) := de180 hX4_gather_59 10 rfl rfl rfl
theorem dX4_gather_72 : decode cX4_gather 72 = .ok (.getfield 66, 3) := de180 hX4_gather_59 13 rfl rfl rfl
theorem dX4_gather_75 : decode cX4_gather 75 = .ok (.astore_n 2, 1) := de77 hX4_gather_59 16 rfl rfl
theorem dX4_gather_76 : decode cX4_gather 76 = .ok (.iconst 0, 1) := de3 hX4_gather_59 17 rfl rfl
theorem dX4_gather_77 : decode cX4_gather 77 = .ok (.istore_n 3, 1) := de62 hX4_gather_59 18 rfl rfl
theorem dX4_gather_78 : decode cX4_gather 78 = .ok (.iload_n 3, 1) := de29 hX4_gather_59 19 rfl rfl
theorem dX4_gather_79 : decode cX4_gather 79 = .ok (.aload_n 2, 1) := de44 hX4_gather_59 20 rfl rfl
theorem dX4_gather_80 : decode cX4_gather 80 = .ok (.getfield 70, 3) := de180 hX4_gather_59 21 rfl rfl rfl
theorem hX4_gather_83 : bHas cX4_gather 83 [162, 0, 47, 44, 180, 0, 75, 29, 46, 27, 160, 0, 31, 42, 44, 180, 0, 78, 29, 46] := bH_c (n := 20) (by decide +kernel)
theorem dX4_gather_83 : decode cX4_gather 83 = .ok (.if_icmp .ge 47, 3) := de162 hX4_gather_83 0 rfl rfl (by decide +kernel)
theorem dX4_gather_86 : decode cX4_gather 86 = .ok (.aload_n 2, 1) := de44 hX4_gather_83 3 rfl rfl
theorem dX4_gather_87 : decode cX4_gather 87 = .ok (.getfield 75, 3) := de180 hX4_gather_83 4 rfl rfl rfl
theorem dX4_gather_90 : decode cX4_gather 90 = .ok (.iload_n 3, 1) := de29 hX4_gather_83 7 rfl rfl
theorem dX4_gather_91 : decode cX4_gather 91 = .ok (.iaload, 1) := de46 hX4_gather_83 8 rfl rfl
theorem dX4_gather_92 : decode cX4_gather 92 = .ok (.iload_n 1, 1) := de27 hX4_gather_83 9 rfl rfl
theorem dX4_gather_93 : decode cX4_gather 93 = .ok (.if_icmp .ne 31, 3) := de160 hX4_gather_83 10 rfl rfl (by decide +kernel)
theorem dX4_gather_96 : decode cX4_gather 96 = .ok (.aload_n 0, 1) := de42 hX4_gather_83 13 rfl rfl
theorem dX4_gather_97 : decode cX4_gather 97 = .ok (.aload_n 2, 1) := de44 hX4_gather_83 14 rfl rfl
theorem dX4_gather_98 : decode cX4_gather 98 = .ok (.getfield 78, 3) := de180 hX4_gather_83 15 rfl rfl rfl
theorem dX4_gather_101 : decode cX4_gather 101 = .ok (.iload_n 3, 1) := de29 hX4_gather_83 18 rfl rfl
theorem dX4_gather_102 : decode cX4_gather 102 = .ok (.iaload, 1) := de46 hX4_gather_83 19 rfl rfl
theorem hX4_gather_103 : bHas cX4_gather 103 [44, 180, 0, 79, 29, 46, 44, 180, 0, 80, 29, 46, 44, 180, 0, 83, 29, 46] := bH_c (n := 18) (by decide +kernel)
theorem dX4_gather_103 : decode cX4_gather 103 = .ok (.aload_n 2, 1) := de44 hX4_gather_103 0 rfl rfl
theorem dX4_gather_104 : decode cX4_gather 104 = .ok (.getfield 79, 3) := de180 hX4_gather_103 1 rfl rfl rfl
theorem dX4_gather_107 : decode cX4_gather 107 = .ok (.iload_n 3, 1) := de29 hX4_gather_103 4 rfl rfl
theorem dX4_gather_108 : decode cX4_gather 108 = .ok (.iaload, 1) := de46 hX4_gather_103 5 rfl rfl
theorem dX4_gather_109 : decode cX4_gather 109 = .ok (.aload_n 2, 1) := de44 hX4_gather_103 6 rfl rfl
theorem dX4_gather_110 : decode cX4_gather 110 = .ok (.getfield 80, 3) := de180 hX4_gather_103 7 rfl rfl rfl
theorem dX4_gather_113 : decode cX4_gather 113 = .ok (.iload_n 3, 1) := de29 hX4_gather_103 10 rfl rfl
theorem dX4_gather_114 : decode cX4_gather 114 = .ok (.iaload, 1) := de46 hX4_gather_103 11 rfl rfl
theorem dX4_gather_115 : decode cX4_gather 115 = .ok (.aload_n 2, 1) := de44 hX4_gather_103 12 rfl rfl
theorem dX4_gather_116 : decode cX4_gather 116 = .ok (.getfield 83, 3) := de180 hX4_gather_103 13 rfl rfl rfl
theorem dX4_gather_119 : decode cX4_gather 119 = .ok (.iload_n 3, 1) := de29 hX4_gather_103 16 rfl rfl
theorem dX4_gather_120 : decode cX4_gather 120 = .ok (.iaload, 1) := de46 hX4_gather_103 17 rfl rfl
theorem hX4_gather_121 : bHas cX4_gather 121 [182, 0, 62, 132, 3, 1, 167, 255, 207, 177] := bH_c (n := 10) (by decide +kernel)
theorem dX4_gather_121 : decode cX4_gather 121 = .ok (.invokevirtual 62, 3) := de182 hX4_gather_121 0 rfl rfl rfl
theorem dX4_gather_124 : decode cX4_gather 124 = .ok (.iinc 3 1, 3) := de132 hX4_gather_121 3 rfl rfl rfl rfl
theorem dX4_gather_127 : decode cX4_gather 127 = .ok (.goto (-49), 3) := de167 hX4_gather_121 6 rfl rfl (by decide +kernel)
theorem dX4_gather_130 : decode cX4_gather 130 = .ok (.return_, 1) := de177 hX4_gather_121 9 rfl rfl
theorem hX4_addAnchor_0 : bHas cX4_addAnchor 0 [42, 180, 0, 9, 42, 180, 0, 44, 27, 79, 42, 180, 0, 15, 42, 180, 0, 44, 28, 79] := bH_c (n := 20) (by decide +kernel)
theorem dX4_addAnchor_0 : decode cX4_addAnchor 0 = .ok (.aload_n 0, 1) := de42 hX4_addAnchor_0 0 rfl rfl
theorem dX4_addAnchor_1 : decode cX4_addAnchor 1 = .ok (.getfield 9, 3) := de180 hX4_addAnchor_0 1 rfl rfl rfl
theorem dX4_addAnchor_4 : decode cX4_addAnchor 4 = .ok (.aload_n 0, 1) := de42 hX4_addAnchor_0 4 rfl rfl
theorem dX4_addAnchor_5 : decode cX4_addAnchor 5 = .ok (.getfield 44, 3) := de180 hX4_addAnchor_0 5 rfl rfl rfl
theorem dX4_addAnchor_8 : decode cX4_addAnchor 8 = .ok (.iload_n 1, 1) := de27 hX4_addAnchor_0 8 rfl rfl
theorem dX4_addAnchor_9 : decode cX4_addAnchor 9 = .ok (.iastore, 1) := de79 hX4_addAnchor_0 9 rfl rfl
theorem dX4_addAnchor_10 : decode cX4_addAnchor 10 = .ok (.aload_n 0, 1) := de42 hX4_addAnchor_0 10 rfl rfl
theorem dX4_addAnchor_11 : decode cX4_addAnchor 11 = .ok (.getfield 15, 3) := de180 hX4_addAnchor_0 11 rfl rfl rfl
theorem dX4_addAnchor_14 : decode cX4_addAnchor 14 = .ok (.aload_n 0, 1) := de42 hX4_addAnchor_0 14 rfl rfl
theorem dX4_addAnchor_15 : decode cX4_addAnchor 15 = .ok (.getfield 44, 3) := de180 hX4_addAnchor_0 15 rfl rfl rfl
theorem dX4_addAnchor_18 : decode cX4_addAnchor 18 = .ok (.iload_n 2, 1) := de28 hX4_addAnchor_0 18 rfl rfl
theorem dX4_addAnchor_19 : decode cX4_addAnchor 19 = .ok (.iastore, 1) := de79 hX4_addAnchor_0 19 rfl rfl
theorem hX4_addAnchor_20 : bHas cX4_addAnchor 20 [42, 180, 0, 18, 42, 180, 0, 44, 29, 79, 42, 180, 0, 21, 42, 180, 0, 44, 21, 4, 79] := bH_c (n := 21) (by decide +kernel)
theorem dX4_addAnchor_20 : decode cX4_addAnchor 20 = .ok (.aload_n 0, 1) := de42 hX4_addAnchor_20 0 rfl rfl
theorem dX4_addAnchor_21 : decode cX4_addAnchor 21 = .ok (.getfield 18, 3) := de180 hX4_addAnchor_20 1 rfl rfl rfl
theorem dX4_addAnchor_24 : decode cX4_addAnchor 24 = .ok (.aload_n 0, 1) := de42 hX4_addAnchor_20 4 rfl rfl
theorem dX4_addAnchor_25 : decode cX4_addAnchor 25 = .ok (.getfield 44, 3) := de180 hX4_addAnchor_20 5 rfl rfl rfl
theorem dX4_addAnchor_28 : decode cX4_addAnchor 28 = .ok (.iload_n 3, 1) := de29 hX4_addAnchor_20 8 rfl rfl
theorem dX4_addAnchor_29 : decode cX4_addAnchor 29 = .ok (.iastore, 1) := de79 hX4_addAnchor_20 9 rfl rfl
theorem dX4_addAnchor_30 : decode cX4_addAnchor 30 = .ok (.aload_n 0, 1) := de42 hX4_addAnchor_20 10 rfl rfl
theorem dX4_addAnchor_31 : decode cX4_addAnchor 31 = .ok (.getfield 21, 3) := de180 hX4_addAnchor_20 11 rfl rfl rfl
theorem dX4_addAnchor_34 : decode cX4_addAnchor 34 = .ok (.aload_n 0, 1) := de42 hX4_addAnchor_20 14 rfl rfl
theorem dX4_addAnchor_35 : decode cX4_addAnchor 35 = .ok (.getfield 44, 3) := de180 hX4_addAnchor_20 15 rfl rfl rfl
theorem dX4_addAnchor_38 : decode cX4_addAnchor 38 = .ok (.iload 4, 2) := de21 hX4_addAnchor_20 18 rfl rfl rfl
theorem dX4_addAnchor_40 : decode cX4_addAnchor 40 = .ok (.iastore, 1) := de79 hX4_addAnchor_20 20 rfl rfl
theorem hX4_addAnchor_41 : bHas cX4_addAnchor 41 [42, 89, 180, 0, 44, 4, 96, 181, 0, 44, 177] := bH_c (n := 11) (by decide +kernel)
theorem dX4_addAnchor_41 : decode cX4_addAnchor 41 = .ok (.aload_n 0, 1) := de42 hX4_addAnchor_41 0 rfl rfl
theorem dX4_addAnchor_42 : decode cX4_addAnchor 42 = .ok (.dup, 1) := de89 hX4_addAnchor_41 1 rfl rfl
theorem dX4_addAnchor_43 : decode cX4_addAnchor 43 = .ok (.getfield 44, 3) := de180 hX4_addAnchor_41 2 rfl rfl rfl
theorem dX4_addAnchor_46 : decode cX4_addAnchor 46 = .ok (.iconst 1, 1) := de4 hX4_addAnchor_41 5 rfl rfl
theorem dX4_addAnchor_47 : decode cX4_addAnchor 47 = .ok (.iadd, 1) := de96 hX4_addAnchor_41 6 rfl rfl
theorem dX4_addAnchor_48 : decode cX4_addAnchor 48 = .ok (.putfield 44, 3) := de181 hX4_addAnchor_41 7 rfl rfl rfl
theorem dX4_addAnchor_51 : decode cX4_addAnchor 51 = .ok (.return_, 1) := de177 hX4_addAnchor_41 10 rfl rfl
theorem hX4_boundsAt_0 : bHas cX4_boundsAt 0 [42, 3, 181, 0, 86, 42, 17, 39, 15, 181, 0, 88, 3, 62, 29, 42, 180, 0, 44, 162, 0, 78] := bH_c (n := 22) (by decide +kernel)
theorem dX4_boundsAt_0 : decode cX4_boundsAt 0 = .ok (.aload_n 0, 1) := de42 hX4_boundsAt_0 0 rfl rfl
theorem dX4_boundsAt_1 : decode cX4_boundsAt 1 = .ok (.iconst 0, 1) := de3 hX4_boundsAt_0 1 rfl rfl
theorem dX4_boundsAt_2 : decode cX4_boundsAt 2 = .ok (.putfield 86, 3) := de181 hX4_boundsAt_0 2 rfl rfl rfl
theorem dX4_boundsAt_5 : decode cX4_boundsAt 5 = .ok (.aload_n 0, 1) := de42 hX4_boundsAt_0 5 rfl rfl
theorem dX4_boundsAt_6 : decode cX4_boundsAt 6 = .ok (.sipush 9999, 3) := de17 hX4_boundsAt_0 6 rfl rfl (by decide +kernel)
theorem dX4_boundsAt_9 : decode cX4_boundsAt 9 = .ok (.putfield 88, 3) := de181 hX4_boundsAt_0 9 rfl rfl rfl
theorem dX4_boundsAt_12 : decode cX4_boundsAt 12 = .ok (.iconst 0, 1) := de3 hX4_boundsAt_0 12 rfl rfl
theorem dX4_boundsAt_13 : decode cX4_boundsAt 13 = .ok (.istore_n 3, 1) := de62 hX4_boundsAt_0 13 rfl rfl
theorem dX4_boundsAt_14 : decode cX4_boundsAt 14 = .ok (.iload_n 3, 1) := de29 hX4_boundsAt_0 14 rfl rfl
theorem dX4_boundsAt_15 : decode cX4_boundsAt 15 = .ok (.aload_n 0, 1) := de42 hX4_boundsAt_0 15 rfl rfl
theorem dX4_boundsAt_16 : decode cX4_boundsAt 16 = .ok (.getfield 44, 3) := de180 hX4_boundsAt_0 16 rfl rfl rfl
theorem dX4_boundsAt_19 : decode cX4_boundsAt 19 = .ok (.if_icmp .ge 78, 3) := de162 hX4_boundsAt_0 19 rfl rfl (by decide +kernel)
theorem hX4_boundsAt_22 : bHas cX4_boundsAt 22 [42, 180, 0, 43, 180, 0, 90, 5, 46, 27, 28, 42, 180, 0, 9, 29, 46, 42] := bH_c (n := 18) (by decide +kernel)
theorem dX4_boundsAt_22 : decode cX4_boundsAt 22 = .ok (.aload_n 0, 1) := de42 hX4_boundsAt_22 0 rfl rfl
theorem dX4_boundsAt_23 : decode cX4_boundsAt 23 = .ok (.getfield 43, 3) := de180 hX4_boundsAt_22 1 rfl rfl rfl
theorem dX4_boundsAt_26 : decode cX4_boundsAt 26 = .ok (.getfield 90, 3) := de180 hX4_boundsAt_22 4 rfl rfl rfl
theorem dX4_boundsAt_29 : decode cX4_boundsAt 29 = .ok (.iconst 2, 1) := de5 hX4_boundsAt_22 7 rfl rfl
theorem dX4_boundsAt_30 : decode cX4_boundsAt 30 = .ok (.iaload, 1) := de46 hX4_boundsAt_22 8 rfl rfl
theorem dX4_boundsAt_31 : decode cX4_boundsAt 31 = .ok (.iload_n 1, 1) := de27 hX4_boundsAt_22 9 rfl rfl
theorem dX4_boundsAt_32 : decode cX4_boundsAt 32 = .ok (.iload_n 2, 1) := de28 hX4_boundsAt_22 10 rfl rfl
theorem dX4_boundsAt_33 : decode cX4_boundsAt 33 = .ok (.aload_n 0, 1) := de42 hX4_boundsAt_22 11 rfl rfl
theorem dX4_boundsAt_34 : decode cX4_boundsAt 34 = .ok (.getfield 9, 3) := de180 hX4_boundsAt_22 12 rfl rfl rfl
theorem dX4_boundsAt_37 : decode cX4_boundsAt 37 = .ok (.iload_n 3, 1) := de29 hX4_boundsAt_22 15 rfl rfl
theorem dX4_boundsAt_38 : decode cX4_boundsAt 38 = .ok (.iaload, 1) := de46 hX4_boundsAt_22 16 rfl rfl
theorem dX4_boundsAt_39 : decode cX4_boundsAt 39 = .ok (.aload_n 0, 1) := de42 hX4_boundsAt_22 17 rfl rfl
theorem hX4_boundsAt_40 : bHas cX4_boundsAt 40 [180, 0, 15, 29, 46, 184, 0, 93, 104, 54, 4, 42, 42, 180, 0, 86, 42, 180, 0, 18, 29] := bH_c (n := 21) (by decide +kernel)
theorem dX4_boundsAt_40 : decode cX4_boundsAt 40 = .ok (.getfield 15, 3) := de180 hX4_boundsAt_40 0 rfl rfl rfl
theorem dX4_boundsAt_43 : decode cX4_boundsAt 43 = .ok (.iload_n 3, 1) := de29 hX4_boundsAt_40 3 rfl rfl
theorem dX4_boundsAt_44 : decode cX4_boundsAt 44 = .ok (.iaload, 1) := de46 hX4_boundsAt_40 4 rfl rfl
theorem dX4_boundsAt_45 : decode cX4_boundsAt 45 = .ok (.invokestatic 93, 3) := de184 hX4_boundsAt_40 5 rfl rfl rfl
theorem dX4_boundsAt_48 : decode cX4_boundsAt 48 = .ok (.imul, 1) := de104 hX4_boundsAt_40 8 rfl rfl
theorem dX4_boundsAt_49 : decode cX4_boundsAt 49 = .ok (.istore 4, 2) := de54 hX4_boundsAt_40 9 rfl rfl rfl
theorem dX4_boundsAt_51 : decode cX4_boundsAt 51 = .ok (.aload_n 0, 1) := de42 hX4_boundsAt_40 11 rfl rfl
theorem dX4_boundsAt_52 : decode cX4_boundsAt 52 = .ok (.aload_n 0, 1) := de42 hX4_boundsAt_40 12 rfl rfl
theorem dX4_boundsAt_53 : decode cX4_boundsAt 53 = .ok (.getfield 86, 3) := de180 hX4_boundsAt_40 13 rfl rfl rfl
theorem dX4_boundsAt_56 : decode cX4_boundsAt 56 = .ok (.aload_n 0, 1) := de42 hX4_boundsAt_40 16 rfl rfl
theorem dX4_boundsAt_57 : decode cX4_boundsAt 57 = .ok (.getfield 18, 3) := de180 hX4_boundsAt_40 17 rfl rfl rfl
theorem dX4_boundsAt_60 : decode cX4_boundsAt 60 = .ok (.iload_n 3, 1) := de29 hX4_boundsAt_40 20 rfl rfl
theorem hX4_boundsAt_61 : bHas cX4_boundsAt 61 [46, 21, 4, 100, 184, 0, 97, 181, 0, 86, 42, 42, 180, 0, 88, 42, 180, 0, 21, 29, 46] := bH_c (n := 21) (by decide +kernel)
theorem dX4_boundsAt_61 : decode cX4_boundsAt 61 = .ok (.iaload, 1) := de46 hX4_boundsAt_61 0 rfl rfl
theorem dX4_boundsAt_62 : decode cX4_boundsAt 62 = .ok (.iload 4, 2) := de21 hX4_boundsAt_61 1 rfl rfl rfl
theorem dX4_boundsAt_64 : decode cX4_boundsAt 64 = .ok (.isub, 1) := de100 hX4_boundsAt_61 3 rfl rfl
theorem dX4_boundsAt_65 : decode cX4_boundsAt 65 = .ok (.invokestatic 97, 3) := de184 hX4_boundsAt_61 4 rfl rfl rfl
theorem dX4_boundsAt_68 : decode cX4_boundsAt 68 = .ok (.putfield 86, 3) := de181 hX4_boundsAt_61 7 rfl rfl rfl
theorem dX4_boundsAt_71 : decode cX4_boundsAt 71 = .ok (.aload_n 0, 1) := de42 hX4_boundsAt_61 10 rfl rfl
theorem dX4_boundsAt_72 : decode cX4_boundsAt 72 = .ok (.aload_n 0, 1) := de42 hX4_boundsAt_61 11 rfl rfl
theorem dX4_boundsAt_73 : decode cX4_boundsAt 73 = .ok (.getfield 88, 3) := de180 hX4_boundsAt_61 12 rfl rfl rfl
theorem dX4_boundsAt_76 : decode cX4_boundsAt 76 = .ok (.aload_n 0, 1) := de42 hX4_boundsAt_61 15 rfl rfl
theorem dX4_boundsAt_77 : decode cX4_boundsAt 77 = .ok (.getfield 21, 3) := de180 hX4_boundsAt_61 16 rfl rfl rfl
theorem dX4_boundsAt_80 : decode cX4_boundsAt 80 = .ok (.iload_n 3, 1) := de29 hX4_boundsAt_61 19 rfl rfl
theorem dX4_boundsAt_81 : decode cX4_boundsAt 81 = .ok (.iaload, 1) := de46 hX4_boundsAt_61 20 rfl rfl
theorem hX4_boundsAt_82 : bHas cX4_boundsAt 82 [21, 4, 96, 184, 0, 103, 181, 0, 88, 132, 3, 1, 167, 255, 176, 42, 180, 0, 86, 42, 180, 0, 88, 163, 0, 7, 4] := bH_c (n := 27) (by decide +kernel)
theorem dX4_boundsAt_82 : decode cX4_boundsAt 82 = .ok (.iload 4, 2) := de21 hX4_boundsAt_82 0 rfl rfl rfl
theorem dX4_boundsAt_84 : decode cX4_boundsAt 84 = .ok (.iadd, 1) := de96 hX4_boundsAt_82 2 rfl rfl
theorem dX4_boundsAt_85 : decode cX4_boundsAt 85 = .ok (.invokestatic 103, 3) := de184 hX4_boundsAt_82 3 rfl rfl rfl
theorem dX4_boundsAt_88 : decode cX4_boundsAt 88 = .ok (.putfield 88, 3) := de181 hX4_boundsAt_82 6 rfl rfl rfl
theorem dX4_boundsAt_91 : decode cX4_boundsAt 91 = .ok (.iinc 3 1, 3) := de132 hX4_boundsAt_82 9 rfl rfl rfl rfl
theorem dX4_boundsAt_94 : decode cX4_boundsAt 94 = .ok (.goto (-80), 3) := de167 hX4_boundsAt_82 12 rfl rfl (by decide +kernel)
theorem dX4_boundsAt_97 : decode cX4_boundsAt 97 = .ok (.aload_n 0, 1) := de42 hX4_boundsAt_82 15 rfl rfl
theorem dX4_boundsAt_98 : decode cX4_boundsAt 98 = .ok (.getfield 86, 3) := de180 hX4_boundsAt_82 16 rfl rfl rfl
theorem dX4_boundsAt_101 : decode cX4_boundsAt 101 = .ok (.aload_n 0, 1) := de42 hX4_boundsAt_82 19 rfl rfl
theorem dX4_boundsAt_102 : decode cX4_boundsAt 102 = .ok (.getfield 88, 3) := de180 hX4_boundsAt_82 20 rfl rfl rfl
theorem dX4_boundsAt_105 : decode cX4_boundsAt 105 = .ok (.if_icmp .gt 7, 3) := de163 hX4_boundsAt_82 23 rfl rfl (by decide +kernel)
theorem dX4_boundsAt_108 : decode cX4_boundsAt 108 = .ok (.iconst 1, 1) := de4 hX4_boundsAt_82 26 rfl rfl
theorem hX4_boundsAt_109 : bHas cX4_boundsAt 109 [167, 0, 4, 3, 172] := bH_c (n := 5) (by decide +kernel)
theorem dX4_boundsAt_109 : decode cX4_boundsAt 109 = .ok (.goto 4, 3) := de167 hX4_boundsAt_109 0 rfl rfl (by decide +kernel)
theorem dX4_boundsAt_112 : decode cX4_boundsAt 112 = .ok (.iconst 0, 1) := de3 hX4_boundsAt_109 3 rfl rfl
theorem dX4_boundsAt_113 : decode cX4_boundsAt 113 = .ok (.ireturn, 1) := de172 hX4_boundsAt_109 4 rfl rfl
theorem hX4_sum_0 : bHas cX4_sum 0 [42, 3, 181, 0, 106, 42, 3, 181, 0, 109, 27, 54, 5, 21, 5, 28, 163, 0, 64, 29] := bH_c (n := 20) (by decide +kernel)
theorem dX4_sum_0 : decode cX4_sum 0 = .ok (.aload_n 0, 1) := de42 hX4_sum_0 0 rfl rfl
theorem dX4_sum_1 : decode cX4_sum 1 = .ok (.iconst 0, 1) := de3 hX4_sum_0 1 rfl rfl
theorem dX4_sum_2 : decode cX4_sum 2 = .ok (.putfield 106, 3) := de181 hX4_sum_0 2 rfl rfl rfl
theorem dX4_sum_5 : decode cX4_sum 5 = .ok (.aload_n 0, 1) := de42 hX4_sum_0 5 rfl rfl
theorem dX4_sum_6 : decode cX4_sum 6 = .ok (.iconst 0, 1) := de3 hX4_sum_0 6 rfl rfl
theorem dX4_sum_7 : decode cX4_sum 7 = .ok (.putfield 109, 3) := de181 hX4_sum_0 7 rfl rfl rfl
theorem dX4_sum_10 : decode cX4_sum 10 = .ok (.iload_n 1, 1) := de27 hX4_sum_0 10 rfl rfl
theorem dX4_sum_11 : decode cX4_sum 11 = .ok (.istore 5, 2) := de54 hX4_sum_0 11 rfl rfl rfl
theorem dX4_sum_13 : decode cX4_sum 13 = .ok (.iload 5, 2) := de21 hX4_sum_0 13 rfl rfl rfl
theorem dX4_sum_15 : decode cX4_sum 15 = .ok (.iload_n 2, 1) := de28 hX4_sum_0 15 rfl rfl
theorem dX4_sum_16 : decode cX4_sum 16 = .ok (.if_icmp .gt 64, 3) := de163 hX4_sum_0 16 rfl rfl (by decide +kernel)
theorem dX4_sum_19 : decode cX4_sum 19 = .ok (.iload_n 3, 1) := de29 hX4_sum_0 19 rfl rfl
theorem hX4_sum_20 : bHas cX4_sum 20 [54, 6, 21, 6, 21, 4, 163, 0, 48, 42, 21, 5, 21, 6, 182, 0, 112, 154, 0, 5, 3, 172, 42] := bH_c (n := 23) (by decide +kernel)
theorem dX4_sum_20 : decode cX4_sum 20 = .ok (.istore 6, 2) := de54 hX4_sum_20 0 rfl rfl rfl
theorem dX4_sum_22 : decode cX4_sum 22 = .ok (.iload 6, 2) := de21 hX4_sum_20 2 rfl rfl rfl
theorem dX4_sum_24 : decode cX4_sum 24 = .ok (.iload 4, 2) := de21 hX4_sum_20 4 rfl rfl rfl
theorem dX4_sum_26 : decode cX4_sum 26 = .ok (.if_icmp .gt 48, 3) := de163 hX4_sum_20 6 rfl rfl (by decide +kernel)
theorem dX4_sum_29 : decode cX4_sum 29 = .ok (.aload_n 0, 1) := de42 hX4_sum_20 9 rfl rfl
theorem dX4_sum_30 : decode cX4_sum 30 = .ok (.iload 5, 2) := de21 hX4_sum_20 10 rfl rfl rfl
theorem dX4_sum_32 : decode cX4_sum 32 = .ok (.iload 6, 2) := de21 hX4_sum_20 12 rfl rfl rfl
theorem dX4_sum_34 : decode cX4_sum 34 = .ok (.invokevirtual 112, 3) := de182 hX4_sum_20 14 rfl rfl rfl
theorem dX4_sum_37 : decode cX4_sum 37 = .ok (.ifCond .ne 5, 3) := de154 hX4_sum_20 17 rfl rfl (by decide +kernel)
theorem dX4_sum_40 : decode cX4_sum 40 = .ok (.iconst 0, 1) := de3 hX4_sum_20 20 rfl rfl
theorem dX4_sum_41 : decode cX4_sum 41 = .ok (.ireturn, 1) := de172 hX4_sum_20 21 rfl rfl
theorem dX4_sum_42 : decode cX4_sum 42 = .ok (.aload_n 0, 1) := de42 hX4_sum_20 22 rfl rfl
theorem hX4_sum_43 : bHas cX4_sum 43 [89, 180, 0, 106, 42, 180, 0, 86, 96, 181, 0, 106, 42, 89, 180, 0, 109, 42, 180, 0, 88, 96] := bH_c (n := 22) (by decide +kernel)
theorem dX4_sum_43 : decode cX4_sum 43 = .ok (.dup, 1) := de89 hX4_sum_43 0 rfl rfl
theorem dX4_sum_44 : decode cX4_sum 44 = .ok (.getfield 106, 3) := de180 hX4_sum_43 1 rfl rfl rfl
theorem dX4_sum_47 : decode cX4_sum 47 = .ok (.aload_n 0, 1) := de42 hX4_sum_43 4 rfl rfl
theorem dX4_sum_48 : decode cX4_sum 48 = .ok (.getfield 86, 3) := de180 hX4_sum_43 5 rfl rfl rfl
theorem dX4_sum_51 : decode cX4_sum 51 = .ok (.iadd, 1) := de96 hX4_sum_43 8 rfl rfl
theorem dX4_sum_52 : decode cX4_sum 52 = .ok (.putfield 106, 3) := de181 hX4_sum_43 9 rfl rfl rfl
theorem dX4_sum_55 : decode cX4_sum 55 = .ok (.aload_n 0, 1) := de42 hX4_sum_43 12 rfl rfl
theorem dX4_sum_56 : decode cX4_sum 56 = .ok (.dup, 1) := de89 hX4_sum_43 13 rfl rfl
theorem dX4_sum_57 : decode cX4_sum 57 = .ok (.getfield 109, 3) := de180 hX4_sum_43 14 rfl rfl rfl
theorem dX4_sum_60 : decode cX4_sum 60 = .ok (.aload_n 0, 1) := de42 hX4_sum_43 17 rfl rfl
theorem dX4_sum_61 : decode cX4_sum 61 = .ok (.getfield 88, 3) := de180 hX4_sum_43 18 rfl rfl rfl
theorem dX4_sum_64 : decode cX4_sum 64 = .ok (.iadd, 1) := de96 hX4_sum_43 21 rfl rfl
theorem hX4_sum_65 : bHas cX4_sum 65 [181, 0, 109, 132, 6, 1, 167, 255, 207, 132, 5, 1, 167, 255, 192, 4, 172] := bH_c (n := 17) (by decide +kernel)
theorem dX4_sum_65 : decode cX4_sum 65 = .ok (.putfield 109, 3) := de181 hX4_sum_65 0 rfl rfl rfl
theorem dX4_sum_68 : decode cX4_sum 68 = .ok (.iinc 6 1, 3) := de132 hX4_sum_65 3 rfl rfl rfl rfl
theorem dX4_sum_71 : decode cX4_sum 71 = .ok (.goto (-49), 3) := de167 hX4_sum_65 6 rfl rfl (by decide +kernel)
theorem dX4_sum_74 : decode cX4_sum 74 = .ok (.iinc 5 1, 3) := de132 hX4_sum_65 9 rfl rfl rfl rfl
theorem dX4_sum_77 : decode cX4_sum 77 = .ok (.goto (-64), 3) := de167 hX4_sum_65 12 rfl rfl (by decide +kernel)
theorem dX4_sum_80 : decode cX4_sum 80 = .ok (.iconst 1, 1) := de4 hX4_sum_65 15 rfl rfl
theorem dX4_sum_81 : decode cX4_sum 81 = .ok (.ireturn, 1) := de172 hX4_sum_65 16 rfl rfl
theorem hX4_beyond_0 : bHas cX4_beyond 0 [42, 180, 0, 106, 16, 100, 27, 100, 104, 16, 100, 108, 62, 28, 42, 180, 0, 109] := bH_c (n := 18) (by decide +kernel)
theorem dX4_beyond_0 : decode cX4_beyond 0 = .ok (.aload_n 0, 1) := de42 hX4_beyond_0 0 rfl rfl
theorem dX4_beyond_1 : decode cX4_beyond 1 = .ok (.getfield 106, 3) := de180 hX4_beyond_0 1 rfl rfl rfl
theorem dX4_beyond_4 : decode cX4_beyond 4 = .ok (.bipush 100, 2) := de16 hX4_beyond_0 4 rfl rfl rfl
theorem dX4_beyond_6 : decode cX4_beyond 6 = .ok (.iload_n 1, 1) := de27 hX4_beyond_0 6 rfl rfl
theorem dX4_beyond_7 : decode cX4_beyond 7 = .ok (.isub, 1) := de100 hX4_beyond_0 7 rfl rfl
theorem dX4_beyond_8 : decode cX4_beyond 8 = .ok (.imul, 1) := de104 hX4_beyond_0 8 rfl rfl
theorem dX4_beyond_9 : decode cX4_beyond 9 = .ok (.bipush 100, 2) := de16 hX4_beyond_0 9 rfl rfl rfl
theorem dX4_beyond_11 : decode cX4_beyond 11 = .ok (.idiv, 1) := de108 hX4_beyond_0 11 rfl rfl
theorem dX4_beyond_12 : decode cX4_beyond 12 = .ok (.istore_n 3, 1) := de62 hX4_beyond_0 12 rfl rfl
theorem dX4_beyond_13 : decode cX4_beyond 13 = .ok (.iload_n 2, 1) := de28 hX4_beyond_0 13 rfl rfl
theorem dX4_beyond_14 : decode cX4_beyond 14 = .ok (.aload_n 0, 1) := de42 hX4_beyond_0 14 rfl rfl
theorem dX4_beyond_15 : decode cX4_beyond 15 = .ok (.getfield 109, 3) := de180 hX4_beyond_0 15 rfl rfl rfl
theorem hX4_beyond_18 : bHas cX4_beyond 18 [164, 0, 10, 28, 42, 180, 0, 109, 100, 172, 28, 29, 162, 0, 9, 28, 29, 100] := bH_c (n := 18) (by decide +kernel)
theorem dX4_beyond_18 : decode cX4_beyond 18 = .ok (.if_icmp .le 10, 3) := de164 hX4_beyond_18 0 rfl rfl (by decide +kernel)
theorem dX4_beyond_21 : decode cX4_beyond 21 = .ok (.iload_n 2, 1) := de28 hX4_beyond_18 3 rfl rfl
theorem dX4_beyond_22 : decode cX4_beyond 22 = .ok (.aload_n 0, 1) := de42 hX4_beyond_18 4 rfl rfl
theorem dX4_beyond_23 : decode cX4_beyond 23 = .ok (.getfield 109, 3) := de180 hX4_beyond_18 5 rfl rfl rfl
theorem dX4_beyond_26 : decode cX4_beyond 26 = .ok (.isub, 1) := de100 hX4_beyond_18 8 rfl rfl
theorem dX4_beyond_27 : decode cX4_beyond 27 = .ok (.ireturn, 1) := de172 hX4_beyond_18 9 rfl rfl
theorem dX4_beyond_28 : decode cX4_beyond 28 = .ok (.iload_n 2, 1) := de28 hX4_beyond_18 10 rfl rfl
theorem dX4_beyond_29 : decode cX4_beyond 29 = .ok (.iload_n 3, 1) := de29 hX4_beyond_18 11 rfl rfl
theorem dX4_beyond_30 : decode cX4_beyond 30 = .ok (.if_icmp .ge 9, 3) := de162 hX4_beyond_18 12 rfl rfl (by decide +kernel)
theorem dX4_beyond_33 : decode cX4_beyond 33 = .ok (.iload_n 2, 1) := de28 hX4_beyond_18 15 rfl rfl
theorem dX4_beyond_34 : decode cX4_beyond 34 = .ok (.iload_n 3, 1) := de29 hX4_beyond_18 16 rfl rfl
theorem dX4_beyond_35 : decode cX4_beyond 35 = .ok (.isub, 1) := de100 hX4_beyond_18 17 rfl rfl
theorem hX4_beyond_36 : bHas cX4_beyond 36 [167, 0, 4, 3, 172] := bH_c (n := 5) (by decide +kernel)
theorem dX4_beyond_36 : decode cX4_beyond 36 = .ok (.goto 4, 3) := de167 hX4_beyond_36 0 rfl rfl (by decide +kernel)
theorem dX4_beyond_39 : decode cX4_beyond 39 = .ok (.iconst 0, 1) := de3 hX4_beyond_36 3 rfl rfl
theorem dX4_beyond_40 : decode cX4_beyond 40 = .ok (.ireturn, 1) := de172 hX4_beyond_36 4 rfl rfl
theorem hX4_gatherNearest_0 : bHas cX4_gatherNearest 0 [42, 3, 181, 0, 116, 27, 54, 5, 21, 5, 28, 163, 0, 74, 29, 54, 6, 21, 6, 21, 4] := bH_c (n := 21) (by decide +kernel)
theorem dX4_gatherNearest_0 : decode cX4_gatherNearest 0 = .ok (.aload_n 0, 1) := de42 hX4_gatherNearest_0 0 rfl rfl
theorem dX4_gatherNearest_1 : decode cX4_gatherNearest 1 = .ok (.iconst 0, 1) := de3 hX4_gatherNearest_0 1 rfl rfl
theorem dX4_gatherNearest_2 : decode cX4_gatherNearest 2 = .ok (.putfield 116, 3) := de181 hX4_gatherNearest_0 2 rfl rfl rfl
theorem dX4_gatherNearest_5 : decode cX4_gatherNearest 5 = .ok (.iload_n 1, 1) := de27 hX4_gatherNearest_0 5 rfl rfl
theorem dX4_gatherNearest_6 : decode cX4_gatherNearest 6 = .ok (.istore 5, 2) := de54 hX4_gatherNearest_0 6 rfl rfl rfl
theorem dX4_gatherNearest_8 : decode cX4_gatherNearest 8 = .ok (.iload 5, 2) := de21 hX4_gatherNearest_0 8 rfl rfl rfl
theorem dX4_gatherNearest_10 : decode cX4_gatherNearest 10 = .ok (.iload_n 2, 1) := de28 hX4_gatherNearest_0 10 rfl rfl
theorem dX4_gatherNearest_11 : decode cX4_gatherNearest 11 = .ok (.if_icmp .gt 74, 3) := de163 hX4_gatherNearest_0 11 rfl rfl (by decide +kernel)
theorem dX4_gatherNearest_14 : decode cX4_gatherNearest 14 = .ok (.iload_n 3, 1) := de29 hX4_gatherNearest_0 14 rfl rfl
theorem dX4_gatherNearest_15 : decode cX4_gatherNearest 15 = .ok (.istore 6, 2) := de54 hX4_gatherNearest_0 15 rfl rfl rfl
theorem dX4_gatherNearest_17 : decode cX4_gatherNearest 17 = .ok (.iload 6, 2) := de21 hX4_gatherNearest_0 17 rfl rfl rfl
theorem dX4_gatherNearest_19 : decode cX4_gatherNearest 19 = .ok (.iload 4, 2) := de21 hX4_gatherNearest_0 19 rfl rfl rfl
theorem hX4_gatherNearest_21 : bHas cX4_gatherNearest 21 [163, 0, 58, 42, 180, 0, 24, 42, 180, 0, 116, 21, 5, 79, 42, 180, 0, 27, 42, 180, 0, 116, 21, 6] := bH_c (n := 24) (by decide +kernel)
theorem dX4_gatherNearest_21 : decode cX4_gatherNearest 21 = .ok (.if_icmp .gt 58, 3) := de163 hX4_gatherNearest_21 0 rfl rfl (by decide +kernel)
theorem dX4_gatherNearest_24 : decode cX4_gatherNearest 24 = .ok (.aload_n 0, 1) := de42 hX4_gatherNearest_21 3 rfl rfl
theorem dX4_gatherNearest_25 : decode cX4_gatherNearest 25 = .ok (.getfield 24, 3) := de180 hX4_gatherNearest_21 4 rfl rfl rfl
theorem dX4_gatherNearest_28 : decode cX4_gatherNearest 28 = .ok (.aload_n 0, 1) := de42 hX4_gatherNearest_21 7 rfl rfl
theorem dX4_gatherNearest_29 : decode cX4_gatherNearest 29 = .ok (.getfield 116, 3) := de180 hX4_gatherNearest_21 8 rfl rfl rfl
theorem dX4_gatherNearest_32 : decode cX4_gatherNearest 32 = .ok (.iload 5, 2) := de21 hX4_gatherNearest_21 11 rfl rfl rfl
theorem dX4_gatherNearest_34 : decode cX4_gatherNearest 34 = .ok (.iastore, 1) := de79 hX4_gatherNearest_21 13 rfl rfl
theorem dX4_gatherNearest_35 : decode cX4_gatherNearest 35 = .ok (.aload_n 0, 1) := de42 hX4_gatherNearest_21 14 rfl rfl
theorem dX4_gatherNearest_36 : decode cX4_gatherNearest 36 = .ok (.getfield 27, 3) := de180 hX4_gatherNearest_21 15 rfl rfl rfl
theorem dX4_gatherNearest_39 : decode cX4_gatherNearest 39 = .ok (.aload_n 0, 1) := de42 hX4_gatherNearest_21 18 rfl rfl
theorem dX4_gatherNearest_40 : decode cX4_gatherNearest 40 = .ok (.getfield 116, 3) := de180 hX4_gatherNearest_21 19 rfl rfl rfl
theorem dX4_gatherNearest_43 : decode cX4_gatherNearest 43 = .ok (.iload 6, 2) := de21 hX4_gatherNearest_21 22 rfl rfl rfl
theorem hX4_gatherNearest_45 : bHas cX4_gatherNearest 45 [79, 42, 180, 0, 30, 42, 180, 0, 116, 42, 21, 5, 21, 6, 182, 0, 119, 79, 42, 89] := bH_c (n := 20) (by decide +kernel)
theorem dX4_gatherNearest_45 : decode cX4_gatherNearest 45 = .ok (.iastore, 1) := de79 hX4_gatherNearest_45 0 rfl rfl
theorem dX4_gatherNearest_46 : decode cX4_gatherNearest 46 = .ok (.aload_n 0, 1) := de42 hX4_gatherNearest_45 1 rfl rfl
theorem dX4_gatherNearest_47 : decode cX4_gatherNearest 47 = .ok (.getfield 30, 3) := de180 hX4_gatherNearest_45 2 rfl rfl rfl
theorem dX4_gatherNearest_50 : decode cX4_gatherNearest 50 = .ok (.aload_n 0, 1) := de42 hX4_gatherNearest_45 5 rfl rfl
theorem dX4_gatherNearest_51 : decode cX4_gatherNearest 51 = .ok (.getfield 116, 3) := de180 hX4_gatherNearest_45 6 rfl rfl rfl
theorem dX4_gatherNearest_54 : decode cX4_gatherNearest 54 = .ok (.aload_n 0, 1) := de42 hX4_gatherNearest_45 9 rfl rfl
theorem dX4_gatherNearest_55 : decode cX4_gatherNearest 55 = .ok (.iload 5, 2) := de21 hX4_gatherNearest_45 10 rfl rfl rfl
theorem dX4_gatherNearest_57 : decode cX4_gatherNearest 57 = .ok (.iload 6, 2) := de21 hX4_gatherNearest_45 12 rfl rfl rfl
theorem dX4_gatherNearest_59 : decode cX4_gatherNearest 59 = .ok (.invokevirtual 119, 3) := de182 hX4_gatherNearest_45 14 rfl rfl rfl
theorem dX4_gatherNearest_62 : decode cX4_gatherNearest 62 = .ok (.iastore, 1) := de79 hX4_gatherNearest_45 17 rfl rfl
theorem dX4_gatherNearest_63 : decode cX4_gatherNearest 63 = .ok (.aload_n 0, 1) := de42 hX4_gatherNearest_45 18 rfl rfl
theorem dX4_gatherNearest_64 : decode cX4_gatherNearest 64 = .ok (.dup, 1) := de89 hX4_gatherNearest_45 19 rfl rfl
theorem hX4_gatherNearest_65 : bHas cX4_gatherNearest 65 [180, 0, 116, 4, 96, 181, 0, 116, 132, 6, 1, 167, 255, 197, 132, 5, 1, 167, 255, 182, 177] := bH_c (n := 21) (by decide +kernel)
theorem dX4_gatherNearest_65 : decode cX4_gatherNearest 65 = .ok (.getfield 116, 3) := de180 hX4_gatherNearest_65 0 rfl rfl rfl
theorem dX4_gatherNearest_68 : decode cX4_gatherNearest 68 = .ok (.iconst 1, 1) := de4 hX4_gatherNearest_65 3 rfl rfl
theorem dX4_gatherNearest_69 : decode cX4_gatherNearest 69 = .ok (.iadd, 1) := de96 hX4_gatherNearest_65 4 rfl rfl
theorem dX4_gatherNearest_70 : decode cX4_gatherNearest 70 = .ok (.putfield 116, 3) := de181 hX4_gatherNearest_65 5 rfl rfl rfl
theorem dX4_gatherNearest_73 : decode cX4_gatherNearest 73 = .ok (.iinc 6 1, 3) := de132 hX4_gatherNearest_65 8 rfl rfl rfl rfl
theorem dX4_gatherNearest_76 : decode cX4_gatherNearest 76 = .ok (.goto (-59), 3) := de167 hX4_gatherNearest_65 11 rfl rfl (by decide +kernel)
theorem dX4_gatherNearest_79 : decode cX4_gatherNearest 79 = .ok (.iinc 5 1, 3) := de132 hX4_gatherNearest_65 14 rfl rfl rfl rfl
theorem dX4_gatherNearest_82 : decode cX4_gatherNearest 82 = .ok (.goto (-74), 3) := de167 hX4_gatherNearest_65 17 rfl rfl (by decide +kernel)
theorem dX4_gatherNearest_85 : decode cX4_gatherNearest 85 = .ok (.return_, 1) := de177 hX4_gatherNearest_65 20 rfl rfl
theorem hX4_nearestCan_0 : bHas cX4_nearestCan 0 [16, 42, 62, 3, 54, 4, 21, 4, 42, 180, 0, 43, 180, 0, 48, 162, 0, 39, 29, 27, 28] := bH_c (n := 21) (by decide +kernel)
theorem dX4_nearestCan_0 : decode cX4_nearestCan 0 = .ok (.bipush 42, 2) := de16 hX4_nearestCan_0 0 rfl rfl rfl
theorem dX4_nearestCan_2 : decode cX4_nearestCan 2 = .ok (.istore_n 3, 1) := de62 hX4_nearestCan_0 2 rfl rfl
theorem dX4_nearestCan_3 : decode cX4_nearestCan 3 = .ok (.iconst 0, 1) := de3 hX4_nearestCan_0 3 rfl rfl
theorem dX4_nearestCan_4 : decode cX4_nearestCan 4 = .ok (.istore 4, 2) := de54 hX4_nearestCan_0 4 rfl rfl rfl
theorem dX4_nearestCan_6 : decode cX4_nearestCan 6 = .ok (.iload 4, 2) := de21 hX4_nearestCan_0 6 rfl rfl rfl
theorem dX4_nearestCan_8 : decode cX4_nearestCan 8 = .ok (.aload_n 0, 1) := de42 hX4_nearestCan_0 8 rfl rfl
theorem dX4_nearestCan_9 : decode cX4_nearestCan 9 = .ok (.getfield 43, 3) := de180 hX4_nearestCan_0 9 rfl rfl rfl
theorem dX4_nearestCan_12 : decode cX4_nearestCan 12 = .ok (.getfield 48, 3) := de180 hX4_nearestCan_0 12 rfl rfl rfl
theorem dX4_nearestCan_15 : decode cX4_nearestCan 15 = .ok (.if_icmp .ge 39, 3) := de162 hX4_nearestCan_0 15 rfl rfl (by decide +kernel)
theorem dX4_nearestCan_18 : decode cX4_nearestCan 18 = .ok (.iload_n 3, 1) := de29 hX4_nearestCan_0 18 rfl rfl
theorem dX4_nearestCan_19 : decode cX4_nearestCan 19 = .ok (.iload_n 1, 1) := de27 hX4_nearestCan_0 19 rfl rfl
theorem dX4_nearestCan_20 : decode cX4_nearestCan 20 = .ok (.iload_n 2, 1) := de28 hX4_nearestCan_0 20 rfl rfl
theorem hX4_nearestCan_21 : bHas cX4_nearestCan 21 [42, 180, 0, 43, 180, 0, 56, 21, 4, 46, 42, 180, 0, 43, 180, 0, 59, 21, 4, 46, 184, 0, 93, 184, 0, 103] := bH_c (n := 26) (by decide +kernel)
theorem dX4_nearestCan_21 : decode cX4_nearestCan 21 = .ok (.aload_n 0, 1) := de42 hX4_nearestCan_21 0 rfl rfl
theorem dX4_nearestCan_22 : decode cX4_nearestCan 22 = .ok (.getfield 43, 3) := de180 hX4_nearestCan_21 1 rfl rfl rfl
theorem dX4_nearestCan_25 : decode cX4_nearestCan 25 = .ok (.getfield 56, 3) := de180 hX4_nearestCan_21 4 rfl rfl rfl
theorem dX4_nearestCan_28 : decode cX4_nearestCan 28 = .ok (.iload 4, 2) := de21 hX4_nearestCan_21 7 rfl rfl rfl
theorem dX4_nearestCan_30 : decode cX4_nearestCan 30 = .ok (.iaload, 1) := de46 hX4_nearestCan_21 9 rfl rfl
theorem dX4_nearestCan_31 : decode cX4_nearestCan 31 = .ok (.aload_n 0, 1) := de42 hX4_nearestCan_21 10 rfl rfl
theorem dX4_nearestCan_32 : decode cX4_nearestCan 32 = .ok (.getfield 43, 3) := de180 hX4_nearestCan_21 11 rfl rfl rfl
theorem dX4_nearestCan_35 : decode cX4_nearestCan 35 = .ok (.getfield 59, 3) := de180 hX4_nearestCan_21 14 rfl rfl rfl
theorem dX4_nearestCan_38 : decode cX4_nearestCan 38 = .ok (.iload 4, 2) := de21 hX4_nearestCan_21 17 rfl rfl rfl
theorem dX4_nearestCan_40 : decode cX4_nearestCan 40 = .ok (.iaload, 1) := de46 hX4_nearestCan_21 19 rfl rfl
theorem dX4_nearestCan_41 : decode cX4_nearestCan 41 = .ok (.invokestatic 93, 3) := de184 hX4_nearestCan_21 20 rfl rfl rfl
theorem dX4_nearestCan_44 : decode cX4_nearestCan 44 = .ok (.invokestatic 103, 3) := de184 hX4_nearestCan_21 23 rfl rfl rfl
theorem hX4_nearestCan_47 : bHas cX4_nearestCan 47 [62, 132, 4, 1, 167, 255, 211, 29, 172] := bH_c (n := 9) (by decide +kernel)
theorem dX4_nearestCan_47 : decode cX4_nearestCan 47 = .ok (.istore_n 3, 1) := de62 hX4_nearestCan_47 0 rfl rfl
theorem dX4_nearestCan_48 : decode cX4_nearestCan 48 = .ok (.iinc 4 1, 3) := de132 hX4_nearestCan_47 1 rfl rfl rfl rfl
theorem dX4_nearestCan_51 : decode cX4_nearestCan 51 = .ok (.goto (-45), 3) := de167 hX4_nearestCan_47 4 rfl rfl (by decide +kernel)
theorem dX4_nearestCan_54 : decode cX4_nearestCan 54 = .ok (.iload_n 3, 1) := de29 hX4_nearestCan_47 7 rfl rfl
theorem dX4_nearestCan_55 : decode cX4_nearestCan 55 = .ok (.ireturn, 1) := de172 hX4_nearestCan_47 8 rfl rfl
theorem hX4_bestNew_0 : bHas cX4_bestNew 0 [3, 60, 17, 72, 90, 61, 3, 62, 29, 16, 21, 162, 0, 52, 3, 54, 4, 21, 4] := bH_c (n := 19) (by decide +kernel)
theorem dX4_bestNew_0 : decode cX4_bestNew 0 = .ok (.iconst 0, 1) := de3 hX4_bestNew_0 0 rfl rfl
theorem dX4_bestNew_1 : decode cX4_bestNew 1 = .ok (.istore_n 1, 1) := de60 hX4_bestNew_0 1 rfl rfl
theorem dX4_bestNew_2 : decode cX4_bestNew 2 = .ok (.sipush 18522, 3) := de17 hX4_bestNew_0 2 rfl rfl (by decide +kernel)
theorem dX4_bestNew_5 : decode cX4_bestNew 5 = .ok (.istore_n 2, 1) := de61 hX4_bestNew_0 5 rfl rfl
theorem dX4_bestNew_6 : decode cX4_bestNew 6 = .ok (.iconst 0, 1) := de3 hX4_bestNew_0 6 rfl rfl
theorem dX4_bestNew_7 : decode cX4_bestNew 7 = .ok (.istore_n 3, 1) := de62 hX4_bestNew_0 7 rfl rfl
theorem dX4_bestNew_8 : decode cX4_bestNew 8 = .ok (.iload_n 3, 1) := de29 hX4_bestNew_0 8 rfl rfl
theorem dX4_bestNew_9 : decode cX4_bestNew 9 = .ok (.bipush 21, 2) := de16 hX4_bestNew_0 9 rfl rfl rfl
theorem dX4_bestNew_11 : decode cX4_bestNew 11 = .ok (.if_icmp .ge 52, 3) := de162 hX4_bestNew_0 11 rfl rfl (by decide +kernel)
theorem dX4_bestNew_14 : decode cX4_bestNew 14 = .ok (.iconst 0, 1) := de3 hX4_bestNew_0 14 rfl rfl
theorem dX4_bestNew_15 : decode cX4_bestNew 15 = .ok (.istore 4, 2) := de54 hX4_bestNew_0 15 rfl rfl rfl
theorem dX4_bestNew_17 : decode cX4_bestNew 17 = .ok (.iload 4, 2) := de21 hX4_bestNew_0 17 rfl rfl rfl
theorem hX4_bestNew_19 : bHas cX4_bestNew 19 [16, 21, 162, 0, 36, 42, 29, 21, 4, 28, 182, 0, 122, 54, 5, 21, 5, 28, 162, 0, 14, 21, 5] := bH_c (n := 23) (by decide +kernel)
theorem dX4_bestNew_19 : decode cX4_bestNew 19 = .ok (.bipush 21, 2) := de16 hX4_bestNew_19 0 rfl rfl rfl
theorem dX4_bestNew_21 : decode cX4_bestNew 21 = .ok (.if_icmp .ge 36, 3) := de162 hX4_bestNew_19 2 rfl rfl (by decide +kernel)
theorem dX4_bestNew_24 : decode cX4_bestNew 24 = .ok (.aload_n 0, 1) := de42 hX4_bestNew_19 5 rfl rfl
theorem dX4_bestNew_25 : decode cX4_bestNew 25 = .ok (.iload_n 3, 1) := de29 hX4_bestNew_19 6 rfl rfl
theorem dX4_bestNew_26 : decode cX4_bestNew 26 = .ok (.iload 4, 2) := de21 hX4_bestNew_19 7 rfl rfl rfl
theorem dX4_bestNew_28 : decode cX4_bestNew 28 = .ok (.iload_n 2, 1) := de28 hX4_bestNew_19 9 rfl rfl
theorem dX4_bestNew_29 : decode cX4_bestNew 29 = .ok (.invokevirtual 122, 3) := de182 hX4_bestNew_19 10 rfl rfl rfl
theorem dX4_bestNew_32 : decode cX4_bestNew 32 = .ok (.istore 5, 2) := de54 hX4_bestNew_19 13 rfl rfl rfl
theorem dX4_bestNew_34 : decode cX4_bestNew 34 = .ok (.iload 5, 2) := de21 hX4_bestNew_19 15 rfl rfl rfl
theorem dX4_bestNew_36 : decode cX4_bestNew 36 = .ok (.iload_n 2, 1) := de28 hX4_bestNew_19 17 rfl rfl
theorem dX4_bestNew_37 : decode cX4_bestNew 37 = .ok (.if_icmp .ge 14, 3) := de162 hX4_bestNew_19 18 rfl rfl (by decide +kernel)
theorem dX4_bestNew_40 : decode cX4_bestNew 40 = .ok (.iload 5, 2) := de21 hX4_bestNew_19 21 rfl rfl rfl
theorem hX4_bestNew_42 : bHas cX4_bestNew 42 [61, 16, 100, 29, 104, 21, 4, 96, 60, 132, 4, 1, 167, 255, 219, 132, 3, 1, 167, 255, 204, 27] := bH_c (n := 22) (by decide +kernel)
theorem dX4_bestNew_42 : decode cX4_bestNew 42 = .ok (.istore_n 2, 1) := de61 hX4_bestNew_42 0 rfl rfl
theorem dX4_bestNew_43 : decode cX4_bestNew 43 = .ok (.bipush 100, 2) := de16 hX4_bestNew_42 1 rfl rfl rfl
theorem dX4_bestNew_45 : decode cX4_bestNew 45 = .ok (.iload_n 3, 1) := de29 hX4_bestNew_42 3 rfl rfl
theorem dX4_bestNew_46 : decode cX4_bestNew 46 = .ok (.imul, 1) := de104 hX4_bestNew_42 4 rfl rfl
theorem dX4_bestNew_47 : decode cX4_bestNew 47 = .ok (.iload 4, 2) := de21 hX4_bestNew_42 5 rfl rfl rfl
theorem dX4_bestNew_49 : decode cX4_bestNew 49 = .ok (.iadd, 1) := de96 hX4_bestNew_42 7 rfl rfl
theorem dX4_bestNew_50 : decode cX4_bestNew 50 = .ok (.istore_n 1, 1) := de60 hX4_bestNew_42 8 rfl rfl
theorem dX4_bestNew_51 : decode cX4_bestNew 51 = .ok (.iinc 4 1, 3) := de132 hX4_bestNew_42 9 rfl rfl rfl rfl
theorem dX4_bestNew_54 : decode cX4_bestNew 54 = .ok (.goto (-37), 3) := de167 hX4_bestNew_42 12 rfl rfl (by decide +kernel)
theorem dX4_bestNew_57 : decode cX4_bestNew 57 = .ok (.iinc 3 1, 3) := de132 hX4_bestNew_42 15 rfl rfl rfl rfl
theorem dX4_bestNew_60 : decode cX4_bestNew 60 = .ok (.goto (-52), 3) := de167 hX4_bestNew_42 18 rfl rfl (by decide +kernel)
theorem dX4_bestNew_63 : decode cX4_bestNew 63 = .ok (.iload_n 1, 1) := de27 hX4_bestNew_42 21 rfl rfl
theorem hX4_bestNew_64 : bHas cX4_bestNew 64 [172] := bH_c (n := 1) (by decide +kernel)
theorem dX4_bestNew_64 : decode cX4_bestNew 64 = .ok (.ireturn, 1) := de172 hX4_bestNew_64 0 rfl rfl
theorem hX4_farness_0 : bHas cX4_farness 0 [3, 54, 4, 3, 54, 5, 21, 5, 42, 180, 0, 116, 162, 0, 49, 21, 4, 29, 162, 0, 43, 21, 4] := bH_c (n := 23) (by decide +kernel)
theorem dX4_farness_0 : decode cX4_farness 0 = .ok (.iconst 0, 1) := de3 hX4_farness_0 0 rfl rfl
theorem dX4_farness_1 : decode cX4_farness 1 = .ok (.istore 4, 2) := de54 hX4_farness_0 1 rfl rfl rfl
theorem dX4_farness_3 : decode cX4_farness 3 = .ok (.iconst 0, 1) := de3 hX4_farness_0 3 rfl rfl
theorem dX4_farness_4 : decode cX4_farness 4 = .ok (.istore 5, 2) := de54 hX4_farness_0 4 rfl rfl rfl
theorem dX4_farness_6 : decode cX4_farness 6 = .ok (.iload 5, 2) := de21 hX4_farness_0 6 rfl rfl rfl
theorem dX4_farness_8 : decode cX4_farness 8 = .ok (.aload_n 0, 1) := de42 hX4_farness_0 8 rfl rfl
theorem dX4_farness_9 : decode cX4_farness 9 = .ok (.getfield 116, 3) := de180 hX4_farness_0 9 rfl rfl rfl
theorem dX4_farness_12 : decode cX4_farness 12 = .ok (.if_icmp .ge 49, 3) := de162 hX4_farness_0 12 rfl rfl (by decide +kernel)
theorem dX4_farness_15 : decode cX4_farness 15 = .ok (.iload 4, 2) := de21 hX4_farness_0 15 rfl rfl rfl
theorem dX4_farness_17 : decode cX4_farness 17 = .ok (.iload_n 3, 1) := de29 hX4_farness_0 17 rfl rfl
theorem dX4_farness_18 : decode cX4_farness 18 = .ok (.if_icmp .ge 43, 3) := de162 hX4_farness_0 18 rfl rfl (by decide +kernel)
theorem dX4_farness_21 : decode cX4_farness 21 = .ok (.iload 4, 2) := de21 hX4_farness_0 21 rfl rfl rfl
theorem hX4_farness_23 : bHas cX4_farness 23 [42, 180, 0, 30, 21, 5, 46, 27, 28, 42, 180, 0, 24, 21, 5, 46, 42, 180, 0, 27] := bH_c (n := 20) (by decide +kernel)
theorem dX4_farness_23 : decode cX4_farness 23 = .ok (.aload_n 0, 1) := de42 hX4_farness_23 0 rfl rfl
theorem dX4_farness_24 : decode cX4_farness 24 = .ok (.getfield 30, 3) := de180 hX4_farness_23 1 rfl rfl rfl
theorem dX4_farness_27 : decode cX4_farness 27 = .ok (.iload 5, 2) := de21 hX4_farness_23 4 rfl rfl rfl
theorem dX4_farness_29 : decode cX4_farness 29 = .ok (.iaload, 1) := de46 hX4_farness_23 6 rfl rfl
theorem dX4_farness_30 : decode cX4_farness 30 = .ok (.iload_n 1, 1) := de27 hX4_farness_23 7 rfl rfl
theorem dX4_farness_31 : decode cX4_farness 31 = .ok (.iload_n 2, 1) := de28 hX4_farness_23 8 rfl rfl
theorem dX4_farness_32 : decode cX4_farness 32 = .ok (.aload_n 0, 1) := de42 hX4_farness_23 9 rfl rfl
theorem dX4_farness_33 : decode cX4_farness 33 = .ok (.getfield 24, 3) := de180 hX4_farness_23 10 rfl rfl rfl
theorem dX4_farness_36 : decode cX4_farness 36 = .ok (.iload 5, 2) := de21 hX4_farness_23 13 rfl rfl rfl
theorem dX4_farness_38 : decode cX4_farness 38 = .ok (.iaload, 1) := de46 hX4_farness_23 15 rfl rfl
theorem dX4_farness_39 : decode cX4_farness 39 = .ok (.aload_n 0, 1) := de42 hX4_farness_23 16 rfl rfl
theorem dX4_farness_40 : decode cX4_farness 40 = .ok (.getfield 27, 3) := de180 hX4_farness_23 17 rfl rfl rfl
theorem hX4_farness_43 : bHas cX4_farness 43 [21, 5, 46, 184, 0, 93, 184, 0, 103, 96, 54, 4, 132, 5, 1, 167, 255, 204, 21, 4, 172] := bH_c (n := 21) (by decide +kernel)
theorem dX4_farness_43 : decode cX4_farness 43 = .ok (.iload 5, 2) := de21 hX4_farness_43 0 rfl rfl rfl
theorem dX4_farness_45 : decode cX4_farness 45 = .ok (.iaload, 1) := de46 hX4_farness_43 2 rfl rfl
theorem dX4_farness_46 : decode cX4_farness 46 = .ok (.invokestatic 93, 3) := de184 hX4_farness_43 3 rfl rfl rfl
theorem dX4_farness_49 : decode cX4_farness 49 = .ok (.invokestatic 103, 3) := de184 hX4_farness_43 6 rfl rfl rfl
theorem dX4_farness_52 : decode cX4_farness 52 = .ok (.iadd, 1) := de96 hX4_farness_43 9 rfl rfl
theorem dX4_farness_53 : decode cX4_farness 53 = .ok (.istore 4, 2) := de54 hX4_farness_43 10 rfl rfl rfl
theorem dX4_farness_55 : decode cX4_farness 55 = .ok (.iinc 5 1, 3) := de132 hX4_farness_43 12 rfl rfl rfl rfl
theorem dX4_farness_58 : decode cX4_farness 58 = .ok (.goto (-52), 3) := de167 hX4_farness_43 15 rfl rfl (by decide +kernel)
theorem dX4_farness_61 : decode cX4_farness 61 = .ok (.iload 4, 2) := de21 hX4_farness_43 18 rfl rfl rfl
theorem dX4_farness_63 : decode cX4_farness 63 = .ok (.ireturn, 1) := de172 hX4_farness_43 20 rfl rfl
theorem hX5_init_0 : bHas cX5_init 0 [42, 183, 0, 3, 42, 16, 40] := bH_c (n := 7) (by decide +kernel)
theorem dX5_init_0 : decode cX5_init 0 = .ok (.aload_n 0, 1) := de42 hX5_init_0 0 rfl rfl
theorem dX5_init_1 : decode cX5_init 1 = .ok (.invokespecial 3, 3) := de183 hX5_init_0 1 rfl rfl rfl
theorem dX5_init_4 : decode cX5_init 4 = .ok (.aload_n 0, 1) := de42 hX5_init_0 4 rfl rfl
theorem dX5_init_5 : decode cX5_init 5 = .ok (.bipush 40, 2) := de16 hX5_init_0 5 rfl rfl rfl
theorem dX5_init_7 : decode cX5_init 7 = .ok (.newarray .int, 2) := by decide +kernel
theorem hX5_init_9 : bHas cX5_init 9 [181, 0, 9, 42, 16, 28] := bH_c (n := 6) (by decide +kernel)
theorem dX5_init_9 : decode cX5_init 9 = .ok (.putfield 9, 3) := de181 hX5_init_9 0 rfl rfl rfl
theorem dX5_init_12 : decode cX5_init 12 = .ok (.aload_n 0, 1) := de42 hX5_init_9 3 rfl rfl
theorem dX5_init_13 : decode cX5_init 13 = .ok (.bipush 28, 2) := de16 hX5_init_9 4 rfl rfl rfl
theorem dX5_init_15 : decode cX5_init 15 = .ok (.newarray .int, 2) := by decide +kernel
theorem hX5_init_17 : bHas cX5_init 17 [181, 0, 15, 42, 16, 28] := bH_c (n := 6) (by decide +kernel)
theorem dX5_init_17 : decode cX5_init 17 = .ok (.putfield 15, 3) := de181 hX5_init_17 0 rfl rfl rfl
theorem dX5_init_20 : decode cX5_init 20 = .ok (.aload_n 0, 1) := de42 hX5_init_17 3 rfl rfl
theorem dX5_init_21 : decode cX5_init 21 = .ok (.bipush 28, 2) := de16 hX5_init_17 4 rfl rfl rfl
theorem dX5_init_23 : decode cX5_init 23 = .ok (.newarray .int, 2) := by decide +kernel
theorem hX5_init_25 : bHas cX5_init 25 [181, 0, 18, 42, 16, 28] := bH_c (n := 6) (by decide +kernel)
theorem dX5_init_25 : decode cX5_init 25 = .ok (.putfield 18, 3) := de181 hX5_init_25 0 rfl rfl rfl
theorem dX5_init_28 : decode cX5_init 28 = .ok (.aload_n 0, 1) := de42 hX5_init_25 3 rfl rfl
theorem dX5_init_29 : decode cX5_init 29 = .ok (.bipush 28, 2) := de16 hX5_init_25 4 rfl rfl rfl
theorem dX5_init_31 : decode cX5_init 31 = .ok (.newarray .int, 2) := by decide +kernel
theorem hX5_init_33 : bHas cX5_init 33 [181, 0, 21, 177] := bH_c (n := 4) (by decide +kernel)
theorem dX5_init_33 : decode cX5_init 33 = .ok (.putfield 21, 3) := de181 hX5_init_33 0 rfl rfl rfl
theorem dX5_init_36 : decode cX5_init 36 = .ok (.return_, 1) := de177 hX5_init_33 3 rfl rfl
theorem hX5_add_0 : bHas cX5_add 0 [42, 180, 0, 9, 42, 180, 0, 24, 27, 79, 42, 89, 180, 0, 24, 4, 96, 181, 0, 24] := bH_c (n := 20) (by decide +kernel)
theorem dX5_add_0 : decode cX5_add 0 = .ok (.aload_n 0, 1) := de42 hX5_add_0 0 rfl rfl
theorem dX5_add_1 : decode cX5_add 1 = .ok (.getfield 9, 3) := de180 hX5_add_0 1 rfl rfl rfl
theorem dX5_add_4 : decode cX5_add 4 = .ok (.aload_n 0, 1) := de42 hX5_add_0 4 rfl rfl
theorem dX5_add_5 : decode cX5_add 5 = .ok (.getfield 24, 3) := de180 hX5_add_0 5 rfl rfl rfl
theorem dX5_add_8 : decode cX5_add 8 = .ok (.iload_n 1, 1) := de27 hX5_add_0 8 rfl rfl
theorem dX5_add_9 : decode cX5_add 9 = .ok (.iastore, 1) := de79 hX5_add_0 9 rfl rfl
theorem dX5_add_10 : decode cX5_add 10 = .ok (.aload_n 0, 1) := de42 hX5_add_0 10 rfl rfl
theorem dX5_add_11 : decode cX5_add 11 = .ok (.dup, 1) := de89 hX5_add_0 11 rfl rfl
theorem dX5_add_12 : decode cX5_add 12 = .ok (.getfield 24, 3) := de180 hX5_add_0 12 rfl rfl rfl
theorem dX5_add_15 : decode cX5_add 15 = .ok (.iconst 1, 1) := de4 hX5_add_0 15 rfl rfl
theorem dX5_add_16 : decode cX5_add 16 = .ok (.iadd, 1) := de96 hX5_add_0 16 rfl rfl
theorem dX5_add_17 : decode cX5_add 17 = .ok (.putfield 24, 3) := de181 hX5_add_0 17 rfl rfl rfl
theorem hX5_add_20 : bHas cX5_add 20 [42, 180, 0, 24, 172] := bH_c (n := 5) (by decide +kernel)
theorem dX5_add_20 : decode cX5_add 20 = .ok (.aload_n 0, 1) := de42 hX5_add_20 0 rfl rfl
theorem dX5_add_21 : decode cX5_add 21 = .ok (.getfield 24, 3) := de180 hX5_add_20 1 rfl rfl rfl
theorem dX5_add_24 : decode cX5_add 24 = .ok (.ireturn, 1) := de172 hX5_add_20 4 rfl rfl
theorem hX5_faultPlace_0 : bHas cX5_faultPlace 0 [3, 60, 3, 61, 28, 42, 180, 0, 24, 162, 0, 28, 27, 42, 180, 0, 9, 28] := bH_c (n := 18) (by decide +kernel)
theorem dX5_faultPlace_0 : decode cX5_faultPlace 0 = .ok (.iconst 0, 1) := de3 hX5_faultPlace_0 0 rfl rfl
theorem dX5_faultPlace_1 : decode cX5_faultPlace 1 = .ok (.istore_n 1, 1) := de60 hX5_faultPlace_0 1 rfl rfl
theorem dX5_faultPlace_2 : decode cX5_faultPlace 2 = .ok (.iconst 0, 1) := de3 hX5_faultPlace_0 2 rfl rfl
theorem dX5_faultPlace_3 : decode cX5_faultPlace 3 = .ok (.istore_n 2, 1) := de61 hX5_faultPlace_0 3 rfl rfl
theorem dX5_faultPlace_4 : decode cX5_faultPlace 4 = .ok (.iload_n 2, 1) := de28 hX5_faultPlace_0 4 rfl rfl
theorem dX5_faultPlace_5 : decode cX5_faultPlace 5 = .ok (.aload_n 0, 1) := de42 hX5_faultPlace_0 5 rfl rfl
theorem dX5_faultPlace_6 : decode cX5_faultPlace 6 = .ok (.getfield 24, 3) := de180 hX5_faultPlace_0 6 rfl rfl rfl
theorem dX5_faultPlace_9 : decode cX5_faultPlace 9 = .ok (.if_icmp .ge 28, 3) := de162 hX5_faultPlace_0 9 rfl rfl (by decide +kernel)
theorem dX5_faultPlace_12 : decode cX5_faultPlace 12 = .ok (.iload_n 1, 1) := de27 hX5_faultPlace_0 12 rfl rfl
theorem dX5_faultPlace_13 : decode cX5_faultPlace 13 = .ok (.aload_n 0, 1) := de42 hX5_faultPlace_0 13 rfl rfl
theorem dX5_faultPlace_14 : decode cX5_faultPlace 14 = .ok (.getfield 9, 3) := de180 hX5_faultPlace_0 14 rfl rfl rfl
theorem dX5_faultPlace_17 : decode cX5_faultPlace 17 = .ok (.iload_n 2, 1) := de28 hX5_faultPlace_0 17 rfl rfl
theorem hX5_faultPlace_18 : bHas cX5_faultPlace 18 [46, 184, 0, 28, 60, 27, 16, 7, 160, 0, 5, 28, 172, 132, 2, 1, 167, 255, 226, 27, 153, 0, 17] := bH_c (n := 23) (by decide +kernel)
theorem dX5_faultPlace_18 : decode cX5_faultPlace 18 = .ok (.iaload, 1) := de46 hX5_faultPlace_18 0 rfl rfl
theorem dX5_faultPlace_19 : decode cX5_faultPlace 19 = .ok (.invokestatic 28, 3) := de184 hX5_faultPlace_18 1 rfl rfl rfl
theorem dX5_faultPlace_22 : decode cX5_faultPlace 22 = .ok (.istore_n 1, 1) := de60 hX5_faultPlace_18 4 rfl rfl
theorem dX5_faultPlace_23 : decode cX5_faultPlace 23 = .ok (.iload_n 1, 1) := de27 hX5_faultPlace_18 5 rfl rfl
theorem dX5_faultPlace_24 : decode cX5_faultPlace 24 = .ok (.bipush 7, 2) := de16 hX5_faultPlace_18 6 rfl rfl rfl
theorem dX5_faultPlace_26 : decode cX5_faultPlace 26 = .ok (.if_icmp .ne 5, 3) := de160 hX5_faultPlace_18 8 rfl rfl (by decide +kernel)
theorem dX5_faultPlace_29 : decode cX5_faultPlace 29 = .ok (.iload_n 2, 1) := de28 hX5_faultPlace_18 11 rfl rfl
theorem dX5_faultPlace_30 : decode cX5_faultPlace 30 = .ok (.ireturn, 1) := de172 hX5_faultPlace_18 12 rfl rfl
theorem dX5_faultPlace_31 : decode cX5_faultPlace 31 = .ok (.iinc 2 1, 3) := de132 hX5_faultPlace_18 13 rfl rfl rfl rfl
theorem dX5_faultPlace_34 : decode cX5_faultPlace 34 = .ok (.goto (-30), 3) := de167 hX5_faultPlace_18 16 rfl rfl (by decide +kernel)
theorem dX5_faultPlace_37 : decode cX5_faultPlace 37 = .ok (.iload_n 1, 1) := de27 hX5_faultPlace_18 19 rfl rfl
theorem dX5_faultPlace_38 : decode cX5_faultPlace 38 = .ok (.ifCond .eq 17, 3) := de153 hX5_faultPlace_18 20 rfl rfl (by decide +kernel)
theorem hX5_faultPlace_41 : bHas cX5_faultPlace 41 [27, 4, 159, 0, 12, 27, 7, 159, 0, 7, 4, 167, 0, 4, 3, 61, 28, 153, 0, 7] := bH_c (n := 20) (by decide +kernel)
theorem dX5_faultPlace_41 : decode cX5_faultPlace 41 = .ok (.iload_n 1, 1) := de27 hX5_faultPlace_41 0 rfl rfl
theorem dX5_faultPlace_42 : decode cX5_faultPlace 42 = .ok (.iconst 1, 1) := de4 hX5_faultPlace_41 1 rfl rfl
theorem dX5_faultPlace_43 : decode cX5_faultPlace 43 = .ok (.if_icmp .eq 12, 3) := de159 hX5_faultPlace_41 2 rfl rfl (by decide +kernel)
theorem dX5_faultPlace_46 : decode cX5_faultPlace 46 = .ok (.iload_n 1, 1) := de27 hX5_faultPlace_41 5 rfl rfl
theorem dX5_faultPlace_47 : decode cX5_faultPlace 47 = .ok (.iconst 4, 1) := de7 hX5_faultPlace_41 6 rfl rfl
theorem dX5_faultPlace_48 : decode cX5_faultPlace 48 = .ok (.if_icmp .eq 7, 3) := de159 hX5_faultPlace_41 7 rfl rfl (by decide +kernel)
theorem dX5_faultPlace_51 : decode cX5_faultPlace 51 = .ok (.iconst 1, 1) := de4 hX5_faultPlace_41 10 rfl rfl
theorem dX5_faultPlace_52 : decode cX5_faultPlace 52 = .ok (.goto 4, 3) := de167 hX5_faultPlace_41 11 rfl rfl (by decide +kernel)
theorem dX5_faultPlace_55 : decode cX5_faultPlace 55 = .ok (.iconst 0, 1) := de3 hX5_faultPlace_41 14 rfl rfl
theorem dX5_faultPlace_56 : decode cX5_faultPlace 56 = .ok (.istore_n 2, 1) := de61 hX5_faultPlace_41 15 rfl rfl
theorem dX5_faultPlace_57 : decode cX5_faultPlace 57 = .ok (.iload_n 2, 1) := de28 hX5_faultPlace_41 16 rfl rfl
theorem dX5_faultPlace_58 : decode cX5_faultPlace 58 = .ok (.ifCond .eq 7, 3) := de153 hX5_faultPlace_41 17 rfl rfl (by decide +kernel)
theorem hX5_faultPlace_61 : bHas cX5_faultPlace 61 [2, 167, 0, 7, 42, 180, 0, 24, 172] := bH_c (n := 9) (by decide +kernel)
theorem dX5_faultPlace_61 : decode cX5_faultPlace 61 = .ok (.iconst (-1), 1) := de2 hX5_faultPlace_61 0 rfl rfl
theorem dX5_faultPlace_62 : decode cX5_faultPlace 62 = .ok (.goto 7, 3) := de167 hX5_faultPlace_61 1 rfl rfl (by decide +kernel)
theorem dX5_faultPlace_65 : decode cX5_faultPlace 65 = .ok (.aload_n 0, 1) := de42 hX5_faultPlace_61 4 rfl rfl
theorem dX5_faultPlace_66 : decode cX5_faultPlace 66 = .ok (.getfield 24, 3) := de180 hX5_faultPlace_61 5 rfl rfl rfl
theorem dX5_faultPlace_69 : decode cX5_faultPlace 69 = .ok (.ireturn, 1) := de172 hX5_faultPlace_61 8 rfl rfl
theorem hX5_next_0 : bHas cX5_next 0 [27, 184, 0, 32, 61, 26] := bH_c (n := 6) (by decide +kernel)
theorem dX5_next_0 : decode cX5_next 0 = .ok (.iload_n 1, 1) := de27 hX5_next_0 0 rfl rfl
theorem dX5_next_1 : decode cX5_next 1 = .ok (.invokestatic 32, 3) := de184 hX5_next_0 1 rfl rfl rfl
theorem dX5_next_4 : decode cX5_next 4 = .ok (.istore_n 2, 1) := de61 hX5_next_0 4 rfl rfl
theorem dX5_next_5 : decode cX5_next 5 = .ok (.iload_n 0, 1) := de26 hX5_next_0 5 rfl rfl
theorem dX5_next_6 : decode cX5_next 6 = .ok (.tableswitch 137 0 5 #[38, 63, 74, 97, 112, 123], 38) := by decide +kernel
theorem hX5_next_44 : bHas cX5_next 44 [27, 16, 120, 159, 0, 15, 27, 16, 108, 159, 0, 9, 27, 16, 115, 160, 0, 7, 4, 167, 0, 5, 16, 7] := bH_c (n := 24) (by decide +kernel)
theorem dX5_next_44 : decode cX5_next 44 = .ok (.iload_n 1, 1) := de27 hX5_next_44 0 rfl rfl
theorem dX5_next_45 : decode cX5_next 45 = .ok (.bipush 120, 2) := de16 hX5_next_44 1 rfl rfl rfl
theorem dX5_next_47 : decode cX5_next 47 = .ok (.if_icmp .eq 15, 3) := de159 hX5_next_44 3 rfl rfl (by decide +kernel)
theorem dX5_next_50 : decode cX5_next 50 = .ok (.iload_n 1, 1) := de27 hX5_next_44 6 rfl rfl
theorem dX5_next_51 : decode cX5_next 51 = .ok (.bipush 108, 2) := de16 hX5_next_44 7 rfl rfl rfl
theorem dX5_next_53 : decode cX5_next 53 = .ok (.if_icmp .eq 9, 3) := de159 hX5_next_44 9 rfl rfl (by decide +kernel)
theorem dX5_next_56 : decode cX5_next 56 = .ok (.iload_n 1, 1) := de27 hX5_next_44 12 rfl rfl
theorem dX5_next_57 : decode cX5_next 57 = .ok (.bipush 115, 2) := de16 hX5_next_44 13 rfl rfl rfl
theorem dX5_next_59 : decode cX5_next 59 = .ok (.if_icmp .ne 7, 3) := de160 hX5_next_44 15 rfl rfl (by decide +kernel)
theorem dX5_next_62 : decode cX5_next 62 = .ok (.iconst 1, 1) := de4 hX5_next_44 18 rfl rfl
theorem dX5_next_63 : decode cX5_next 63 = .ok (.goto 5, 3) := de167 hX5_next_44 19 rfl rfl (by decide +kernel)
theorem dX5_next_66 : decode cX5_next 66 = .ok (.bipush 7, 2) := de16 hX5_next_44 22 rfl rfl rfl
theorem hX5_next_68 : bHas cX5_next 68 [172, 28, 153, 0, 7, 5, 167, 0, 5, 16, 7, 172, 28, 153, 0, 7, 6, 167, 0, 17, 27] := bH_c (n := 21) (by decide +kernel)
theorem dX5_next_68 : decode cX5_next 68 = .ok (.ireturn, 1) := de172 hX5_next_68 0 rfl rfl
theorem dX5_next_69 : decode cX5_next 69 = .ok (.iload_n 2, 1) := de28 hX5_next_68 1 rfl rfl
theorem dX5_next_70 : decode cX5_next 70 = .ok (.ifCond .eq 7, 3) := de153 hX5_next_68 2 rfl rfl (by decide +kernel)
theorem dX5_next_73 : decode cX5_next 73 = .ok (.iconst 2, 1) := de5 hX5_next_68 5 rfl rfl
theorem dX5_next_74 : decode cX5_next 74 = .ok (.goto 5, 3) := de167 hX5_next_68 6 rfl rfl (by decide +kernel)
theorem dX5_next_77 : decode cX5_next 77 = .ok (.bipush 7, 2) := de16 hX5_next_68 9 rfl rfl rfl
theorem dX5_next_79 : decode cX5_next 79 = .ok (.ireturn, 1) := de172 hX5_next_68 11 rfl rfl
theorem dX5_next_80 : decode cX5_next 80 = .ok (.iload_n 2, 1) := de28 hX5_next_68 12 rfl rfl
theorem dX5_next_81 : decode cX5_next 81 = .ok (.ifCond .eq 7, 3) := de153 hX5_next_68 13 rfl rfl (by decide +kernel)
theorem dX5_next_84 : decode cX5_next 84 = .ok (.iconst 3, 1) := de6 hX5_next_68 16 rfl rfl
theorem dX5_next_85 : decode cX5_next 85 = .ok (.goto 17, 3) := de167 hX5_next_68 17 rfl rfl (by decide +kernel)
theorem dX5_next_88 : decode cX5_next 88 = .ok (.iload_n 1, 1) := de27 hX5_next_68 20 rfl rfl
theorem hX5_next_89 : bHas cX5_next 89 [16, 45, 160, 0, 7, 7, 167, 0, 7, 27, 184, 0, 36, 172, 27, 16, 45, 160, 0, 7, 7, 167, 0, 7] := bH_c (n := 24) (by decide +kernel)
theorem dX5_next_89 : decode cX5_next 89 = .ok (.bipush 45, 2) := de16 hX5_next_89 0 rfl rfl rfl
theorem dX5_next_91 : decode cX5_next 91 = .ok (.if_icmp .ne 7, 3) := de160 hX5_next_89 2 rfl rfl (by decide +kernel)
theorem dX5_next_94 : decode cX5_next 94 = .ok (.iconst 4, 1) := de7 hX5_next_89 5 rfl rfl
theorem dX5_next_95 : decode cX5_next 95 = .ok (.goto 7, 3) := de167 hX5_next_89 6 rfl rfl (by decide +kernel)
theorem dX5_next_98 : decode cX5_next 98 = .ok (.iload_n 1, 1) := de27 hX5_next_89 9 rfl rfl
theorem dX5_next_99 : decode cX5_next 99 = .ok (.invokestatic 36, 3) := de184 hX5_next_89 10 rfl rfl rfl
theorem dX5_next_102 : decode cX5_next 102 = .ok (.ireturn, 1) := de172 hX5_next_89 13 rfl rfl
theorem dX5_next_103 : decode cX5_next 103 = .ok (.iload_n 1, 1) := de27 hX5_next_89 14 rfl rfl
theorem dX5_next_104 : decode cX5_next 104 = .ok (.bipush 45, 2) := de16 hX5_next_89 15 rfl rfl rfl
theorem dX5_next_106 : decode cX5_next 106 = .ok (.if_icmp .ne 7, 3) := de160 hX5_next_89 17 rfl rfl (by decide +kernel)
theorem dX5_next_109 : decode cX5_next 109 = .ok (.iconst 4, 1) := de7 hX5_next_89 20 rfl rfl
theorem dX5_next_110 : decode cX5_next 110 = .ok (.goto 7, 3) := de167 hX5_next_89 21 rfl rfl (by decide +kernel)
theorem hX5_next_113 : bHas cX5_next 113 [27, 184, 0, 36, 172, 28, 153, 0, 7, 8, 167, 0, 5, 16, 7, 172, 28, 153, 0, 8, 16, 6] := bH_c (n := 22) (by decide +kernel)
theorem dX5_next_113 : decode cX5_next 113 = .ok (.iload_n 1, 1) := de27 hX5_next_113 0 rfl rfl
theorem dX5_next_114 : decode cX5_next 114 = .ok (.invokestatic 36, 3) := de184 hX5_next_113 1 rfl rfl rfl
theorem dX5_next_117 : decode cX5_next 117 = .ok (.ireturn, 1) := de172 hX5_next_113 4 rfl rfl
theorem dX5_next_118 : decode cX5_next 118 = .ok (.iload_n 2, 1) := de28 hX5_next_113 5 rfl rfl
theorem dX5_next_119 : decode cX5_next 119 = .ok (.ifCond .eq 7, 3) := de153 hX5_next_113 6 rfl rfl (by decide +kernel)
theorem dX5_next_122 : decode cX5_next 122 = .ok (.iconst 5, 1) := de8 hX5_next_113 9 rfl rfl
theorem dX5_next_123 : decode cX5_next 123 = .ok (.goto 5, 3) := de167 hX5_next_113 10 rfl rfl (by decide +kernel)
theorem dX5_next_126 : decode cX5_next 126 = .ok (.bipush 7, 2) := de16 hX5_next_113 13 rfl rfl rfl
theorem dX5_next_128 : decode cX5_next 128 = .ok (.ireturn, 1) := de172 hX5_next_113 15 rfl rfl
theorem dX5_next_129 : decode cX5_next 129 = .ok (.iload_n 2, 1) := de28 hX5_next_113 16 rfl rfl
theorem dX5_next_130 : decode cX5_next 130 = .ok (.ifCond .eq 8, 3) := de153 hX5_next_113 17 rfl rfl (by decide +kernel)
theorem dX5_next_133 : decode cX5_next 133 = .ok (.bipush 6, 2) := de16 hX5_next_113 20 rfl rfl rfl
theorem hX5_next_135 : bHas cX5_next 135 [167, 0, 7, 27, 184, 0, 36, 172, 27, 184, 0, 36, 172] := bH_c (n := 13) (by decide +kernel)
theorem dX5_next_135 : decode cX5_next 135 = .ok (.goto 7, 3) := de167 hX5_next_135 0 rfl rfl (by decide +kernel)
theorem dX5_next_138 : decode cX5_next 138 = .ok (.iload_n 1, 1) := de27 hX5_next_135 3 rfl rfl
theorem dX5_next_139 : decode cX5_next 139 = .ok (.invokestatic 36, 3) := de184 hX5_next_135 4 rfl rfl rfl
theorem dX5_next_142 : decode cX5_next 142 = .ok (.ireturn, 1) := de172 hX5_next_135 7 rfl rfl
theorem dX5_next_143 : decode cX5_next 143 = .ok (.iload_n 1, 1) := de27 hX5_next_135 8 rfl rfl
theorem dX5_next_144 : decode cX5_next 144 = .ok (.invokestatic 36, 3) := de184 hX5_next_135 9 rfl rfl rfl
theorem dX5_next_147 : decode cX5_next 147 = .ok (.ireturn, 1) := de172 hX5_next_135 12 rfl rfl
theorem hX5_behind_0 : bHas cX5_behind 0 [26, 16, 59, 160, 0, 7, 3, 167, 0, 5, 16, 7, 172] := bH_c (n := 13) (by decide +kernel)
theorem dX5_behind_0 : decode cX5_behind 0 = .ok (.iload_n 0, 1) := de26 hX5_behind_0 0 rfl rfl
theorem dX5_behind_1 : decode cX5_behind 1 = .ok (.bipush 59, 2) := de16 hX5_behind_0 1 rfl rfl rfl
theorem dX5_behind_3 : decode cX5_behind 3 = .ok (.if_icmp .ne 7, 3) := de160 hX5_behind_0 3 rfl rfl (by decide +kernel)
theorem dX5_behind_6 : decode cX5_behind 6 = .ok (.iconst 0, 1) := de3 hX5_behind_0 6 rfl rfl
theorem dX5_behind_7 : decode cX5_behind 7 = .ok (.goto 5, 3) := de167 hX5_behind_0 7 rfl rfl (by decide +kernel)
theorem dX5_behind_10 : decode cX5_behind 10 = .ok (.bipush 7, 2) := de16 hX5_behind_0 10 rfl rfl rfl
theorem dX5_behind_12 : decode cX5_behind 12 = .ok (.ireturn, 1) := de172 hX5_behind_0 12 rfl rfl
theorem hX5_isDigit_0 : bHas cX5_isDigit 0 [26, 16, 48, 161, 0, 13, 26, 16, 57, 163, 0, 7, 4, 167, 0, 4, 3, 172] := bH_c (n := 18) (by decide +kernel)
theorem dX5_isDigit_0 : decode cX5_isDigit 0 = .ok (.iload_n 0, 1) := de26 hX5_isDigit_0 0 rfl rfl
theorem dX5_isDigit_1 : decode cX5_isDigit 1 = .ok (.bipush 48, 2) := de16 hX5_isDigit_0 1 rfl rfl rfl
theorem dX5_isDigit_3 : decode cX5_isDigit 3 = .ok (.if_icmp .lt 13, 3) := de161 hX5_isDigit_0 3 rfl rfl (by decide +kernel)
theorem dX5_isDigit_6 : decode cX5_isDigit 6 = .ok (.iload_n 0, 1) := de26 hX5_isDigit_0 6 rfl rfl
theorem dX5_isDigit_7 : decode cX5_isDigit 7 = .ok (.bipush 57, 2) := de16 hX5_isDigit_0 7 rfl rfl rfl
theorem dX5_isDigit_9 : decode cX5_isDigit 9 = .ok (.if_icmp .gt 7, 3) := de163 hX5_isDigit_0 9 rfl rfl (by decide +kernel)
theorem dX5_isDigit_12 : decode cX5_isDigit 12 = .ok (.iconst 1, 1) := de4 hX5_isDigit_0 12 rfl rfl
theorem dX5_isDigit_13 : decode cX5_isDigit 13 = .ok (.goto 4, 3) := de167 hX5_isDigit_0 13 rfl rfl (by decide +kernel)
theorem dX5_isDigit_16 : decode cX5_isDigit 16 = .ok (.iconst 0, 1) := de3 hX5_isDigit_0 16 rfl rfl
theorem dX5_isDigit_17 : decode cX5_isDigit 17 = .ok (.ireturn, 1) := de172 hX5_isDigit_0 17 rfl rfl
theorem hX5_readItems_0 : bHas cX5_readItems 0 [42, 180, 0, 15, 3, 184, 0, 40, 42, 3, 181, 0, 46, 3, 60, 3, 61, 2] := bH_c (n := 18) (by decide +kernel)
theorem dX5_readItems_0 : decode cX5_readItems 0 = .ok (.aload_n 0, 1) := de42 hX5_readItems_0 0 rfl rfl
theorem dX5_readItems_1 : decode cX5_readItems 1 = .ok (.getfield 15, 3) := de180 hX5_readItems_0 1 rfl rfl rfl
theorem dX5_readItems_4 : decode cX5_readItems 4 = .ok (.iconst 0, 1) := de3 hX5_readItems_0 4 rfl rfl
theorem dX5_readItems_5 : decode cX5_readItems 5 = .ok (.invokestatic 40, 3) := de184 hX5_readItems_0 5 rfl rfl rfl
theorem dX5_readItems_8 : decode cX5_readItems 8 = .ok (.aload_n 0, 1) := de42 hX5_readItems_0 8 rfl rfl
theorem dX5_readItems_9 : decode cX5_readItems 9 = .ok (.iconst 0, 1) := de3 hX5_readItems_0 9 rfl rfl
theorem dX5_readItems_10 : decode cX5_readItems 10 = .ok (.putfield 46, 3) := de181 hX5_readItems_0 10 rfl rfl rfl
theorem dX5_readItems_13 : decode cX5_readItems 13 = .ok (.iconst 0, 1) := de3 hX5_readItems_0 13 rfl rfl
theorem dX5_readItems_14 : decode cX5_readItems 14 = .ok (.istore_n 1, 1) := de60 hX5_readItems_0 14 rfl rfl
theorem dX5_readItems_15 : decode cX5_readItems 15 = .ok (.iconst 0, 1) := de3 hX5_readItems_0 15 rfl rfl
theorem dX5_readItems_16 : decode cX5_readItems 16 = .ok (.istore_n 2, 1) := de61 hX5_readItems_0 16 rfl rfl
theorem dX5_readItems_17 : decode cX5_readItems 17 = .ok (.iconst (-1), 1) := de2 hX5_readItems_0 17 rfl rfl
theorem hX5_readItems_18 : bHas cX5_readItems 18 [62, 3, 54, 4, 21, 4, 42, 180, 0, 24, 162, 0, 97, 42, 180, 0, 9, 21, 4, 46, 54, 5] := bH_c (n := 22) (by decide +kernel)
theorem dX5_readItems_18 : decode cX5_readItems 18 = .ok (.istore_n 3, 1) := de62 hX5_readItems_18 0 rfl rfl
theorem dX5_readItems_19 : decode cX5_readItems 19 = .ok (.iconst 0, 1) := de3 hX5_readItems_18 1 rfl rfl
theorem dX5_readItems_20 : decode cX5_readItems 20 = .ok (.istore 4, 2) := de54 hX5_readItems_18 2 rfl rfl rfl
theorem dX5_readItems_22 : decode cX5_readItems 22 = .ok (.iload 4, 2) := de21 hX5_readItems_18 4 rfl rfl rfl
theorem dX5_readItems_24 : decode cX5_readItems 24 = .ok (.aload_n 0, 1) := de42 hX5_readItems_18 6 rfl rfl
theorem dX5_readItems_25 : decode cX5_readItems 25 = .ok (.getfield 24, 3) := de180 hX5_readItems_18 7 rfl rfl rfl
theorem dX5_readItems_28 : decode cX5_readItems 28 = .ok (.if_icmp .ge 97, 3) := de162 hX5_readItems_18 10 rfl rfl (by decide +kernel)
theorem dX5_readItems_31 : decode cX5_readItems 31 = .ok (.aload_n 0, 1) := de42 hX5_readItems_18 13 rfl rfl
theorem dX5_readItems_32 : decode cX5_readItems 32 = .ok (.getfield 9, 3) := de180 hX5_readItems_18 14 rfl rfl rfl
theorem dX5_readItems_35 : decode cX5_readItems 35 = .ok (.iload 4, 2) := de21 hX5_readItems_18 17 rfl rfl rfl
theorem dX5_readItems_37 : decode cX5_readItems 37 = .ok (.iaload, 1) := de46 hX5_readItems_18 19 rfl rfl
theorem dX5_readItems_38 : decode cX5_readItems 38 = .ok (.istore 5, 2) := de54 hX5_readItems_18 20 rfl rfl rfl
theorem hX5_readItems_40 : bHas cX5_readItems 40 [21, 5, 16, 59, 160, 0, 15, 42, 27, 28, 29, 182, 0, 49, 154, 0, 65, 3, 172, 21, 5] := bH_c (n := 21) (by decide +kernel)
theorem dX5_readItems_40 : decode cX5_readItems 40 = .ok (.iload 5, 2) := de21 hX5_readItems_40 0 rfl rfl rfl
theorem dX5_readItems_42 : decode cX5_readItems 42 = .ok (.bipush 59, 2) := de16 hX5_readItems_40 2 rfl rfl rfl
theorem dX5_readItems_44 : decode cX5_readItems 44 = .ok (.if_icmp .ne 15, 3) := de160 hX5_readItems_40 4 rfl rfl (by decide +kernel)
theorem dX5_readItems_47 : decode cX5_readItems 47 = .ok (.aload_n 0, 1) := de42 hX5_readItems_40 7 rfl rfl
theorem dX5_readItems_48 : decode cX5_readItems 48 = .ok (.iload_n 1, 1) := de27 hX5_readItems_40 8 rfl rfl
theorem dX5_readItems_49 : decode cX5_readItems 49 = .ok (.iload_n 2, 1) := de28 hX5_readItems_40 9 rfl rfl
theorem dX5_readItems_50 : decode cX5_readItems 50 = .ok (.iload_n 3, 1) := de29 hX5_readItems_40 10 rfl rfl
theorem dX5_readItems_51 : decode cX5_readItems 51 = .ok (.invokevirtual 49, 3) := de182 hX5_readItems_40 11 rfl rfl rfl
theorem dX5_readItems_54 : decode cX5_readItems 54 = .ok (.ifCond .ne 65, 3) := de154 hX5_readItems_40 14 rfl rfl (by decide +kernel)
theorem dX5_readItems_57 : decode cX5_readItems 57 = .ok (.iconst 0, 1) := de3 hX5_readItems_40 17 rfl rfl
theorem dX5_readItems_58 : decode cX5_readItems 58 = .ok (.ireturn, 1) := de172 hX5_readItems_40 18 rfl rfl
theorem dX5_readItems_59 : decode cX5_readItems 59 = .ok (.iload 5, 2) := de21 hX5_readItems_40 19 rfl rfl rfl
theorem hX5_readItems_61 : bHas cX5_readItems 61 [16, 45, 160, 0, 8, 3, 62, 167, 0, 51, 21, 5, 184, 0, 32, 154, 0, 13, 21, 5, 60, 3, 61] := bH_c (n := 23) (by decide +kernel)
theorem dX5_readItems_61 : decode cX5_readItems 61 = .ok (.bipush 45, 2) := de16 hX5_readItems_61 0 rfl rfl rfl
theorem dX5_readItems_63 : decode cX5_readItems 63 = .ok (.if_icmp .ne 8, 3) := de160 hX5_readItems_61 2 rfl rfl (by decide +kernel)
theorem dX5_readItems_66 : decode cX5_readItems 66 = .ok (.iconst 0, 1) := de3 hX5_readItems_61 5 rfl rfl
theorem dX5_readItems_67 : decode cX5_readItems 67 = .ok (.istore_n 3, 1) := de62 hX5_readItems_61 6 rfl rfl
theorem dX5_readItems_68 : decode cX5_readItems 68 = .ok (.goto 51, 3) := de167 hX5_readItems_61 7 rfl rfl (by decide +kernel)
theorem dX5_readItems_71 : decode cX5_readItems 71 = .ok (.iload 5, 2) := de21 hX5_readItems_61 10 rfl rfl rfl
theorem dX5_readItems_73 : decode cX5_readItems 73 = .ok (.invokestatic 32, 3) := de184 hX5_readItems_61 12 rfl rfl rfl
theorem dX5_readItems_76 : decode cX5_readItems 76 = .ok (.ifCond .ne 13, 3) := de154 hX5_readItems_61 15 rfl rfl (by decide +kernel)
theorem dX5_readItems_79 : decode cX5_readItems 79 = .ok (.iload 5, 2) := de21 hX5_readItems_61 18 rfl rfl rfl
theorem dX5_readItems_81 : decode cX5_readItems 81 = .ok (.istore_n 1, 1) := de60 hX5_readItems_61 20 rfl rfl
theorem dX5_readItems_82 : decode cX5_readItems 82 = .ok (.iconst 0, 1) := de3 hX5_readItems_61 21 rfl rfl
theorem dX5_readItems_83 : decode cX5_readItems 83 = .ok (.istore_n 2, 1) := de61 hX5_readItems_61 22 rfl rfl
theorem hX5_readItems_84 : bHas cX5_readItems 84 [2, 62, 167, 0, 33, 29, 2, 160, 0, 17, 28, 16, 10, 104, 21, 5, 96, 16, 48] := bH_c (n := 19) (by decide +kernel)
theorem dX5_readItems_84 : decode cX5_readItems 84 = .ok (.iconst (-1), 1) := de2 hX5_readItems_84 0 rfl rfl
theorem dX5_readItems_85 : decode cX5_readItems 85 = .ok (.istore_n 3, 1) := de62 hX5_readItems_84 1 rfl rfl
theorem dX5_readItems_86 : decode cX5_readItems 86 = .ok (.goto 33, 3) := de167 hX5_readItems_84 2 rfl rfl (by decide +kernel)
theorem dX5_readItems_89 : decode cX5_readItems 89 = .ok (.iload_n 3, 1) := de29 hX5_readItems_84 5 rfl rfl
theorem dX5_readItems_90 : decode cX5_readItems 90 = .ok (.iconst (-1), 1) := de2 hX5_readItems_84 6 rfl rfl
theorem dX5_readItems_91 : decode cX5_readItems 91 = .ok (.if_icmp .ne 17, 3) := de160 hX5_readItems_84 7 rfl rfl (by decide +kernel)
theorem dX5_readItems_94 : decode cX5_readItems 94 = .ok (.iload_n 2, 1) := de28 hX5_readItems_84 10 rfl rfl
theorem dX5_readItems_95 : decode cX5_readItems 95 = .ok (.bipush 10, 2) := de16 hX5_readItems_84 11 rfl rfl rfl
theorem dX5_readItems_97 : decode cX5_readItems 97 = .ok (.imul, 1) := de104 hX5_readItems_84 13 rfl rfl
theorem dX5_readItems_98 : decode cX5_readItems 98 = .ok (.iload 5, 2) := de21 hX5_readItems_84 14 rfl rfl rfl
theorem dX5_readItems_100 : decode cX5_readItems 100 = .ok (.iadd, 1) := de96 hX5_readItems_84 16 rfl rfl
theorem dX5_readItems_101 : decode cX5_readItems 101 = .ok (.bipush 48, 2) := de16 hX5_readItems_84 17 rfl rfl rfl
theorem hX5_readItems_103 : bHas cX5_readItems 103 [100, 61, 167, 0, 14, 29, 16, 10, 104, 21, 5, 96, 16, 48, 100, 62, 132, 4, 1] := bH_c (n := 19) (by decide +kernel)
theorem dX5_readItems_103 : decode cX5_readItems 103 = .ok (.isub, 1) := de100 hX5_readItems_103 0 rfl rfl
theorem dX5_readItems_104 : decode cX5_readItems 104 = .ok (.istore_n 2, 1) := de61 hX5_readItems_103 1 rfl rfl
theorem dX5_readItems_105 : decode cX5_readItems 105 = .ok (.goto 14, 3) := de167 hX5_readItems_103 2 rfl rfl (by decide +kernel)
theorem dX5_readItems_108 : decode cX5_readItems 108 = .ok (.iload_n 3, 1) := de29 hX5_readItems_103 5 rfl rfl
theorem dX5_readItems_109 : decode cX5_readItems 109 = .ok (.bipush 10, 2) := de16 hX5_readItems_103 6 rfl rfl rfl
theorem dX5_readItems_111 : decode cX5_readItems 111 = .ok (.imul, 1) := de104 hX5_readItems_103 8 rfl rfl
theorem dX5_readItems_112 : decode cX5_readItems 112 = .ok (.iload 5, 2) := de21 hX5_readItems_103 9 rfl rfl rfl
theorem dX5_readItems_114 : decode cX5_readItems 114 = .ok (.iadd, 1) := de96 hX5_readItems_103 11 rfl rfl
theorem dX5_readItems_115 : decode cX5_readItems 115 = .ok (.bipush 48, 2) := de16 hX5_readItems_103 12 rfl rfl rfl
theorem dX5_readItems_117 : decode cX5_readItems 117 = .ok (.isub, 1) := de100 hX5_readItems_103 14 rfl rfl
theorem dX5_readItems_118 : decode cX5_readItems 118 = .ok (.istore_n 3, 1) := de62 hX5_readItems_103 15 rfl rfl
theorem dX5_readItems_119 : decode cX5_readItems 119 = .ok (.iinc 4 1, 3) := de132 hX5_readItems_103 16 rfl rfl rfl rfl
theorem hX5_readItems_122 : bHas cX5_readItems 122 [167, 255, 156, 42, 180, 0, 24, 153, 0, 13, 42, 27, 28, 29, 182, 0, 49, 153, 0, 7, 4, 167, 0, 4] := bH_c (n := 24) (by decide +kernel)
theorem dX5_readItems_122 : decode cX5_readItems 122 = .ok (.goto (-100), 3) := de167 hX5_readItems_122 0 rfl rfl (by decide +kernel)
theorem dX5_readItems_125 : decode cX5_readItems 125 = .ok (.aload_n 0, 1) := de42 hX5_readItems_122 3 rfl rfl
theorem dX5_readItems_126 : decode cX5_readItems 126 = .ok (.getfield 24, 3) := de180 hX5_readItems_122 4 rfl rfl rfl
theorem dX5_readItems_129 : decode cX5_readItems 129 = .ok (.ifCond .eq 13, 3) := de153 hX5_readItems_122 7 rfl rfl (by decide +kernel)
theorem dX5_readItems_132 : decode cX5_readItems 132 = .ok (.aload_n 0, 1) := de42 hX5_readItems_122 10 rfl rfl
theorem dX5_readItems_133 : decode cX5_readItems 133 = .ok (.iload_n 1, 1) := de27 hX5_readItems_122 11 rfl rfl
theorem dX5_readItems_134 : decode cX5_readItems 134 = .ok (.iload_n 2, 1) := de28 hX5_readItems_122 12 rfl rfl
theorem dX5_readItems_135 : decode cX5_readItems 135 = .ok (.iload_n 3, 1) := de29 hX5_readItems_122 13 rfl rfl
theorem dX5_readItems_136 : decode cX5_readItems 136 = .ok (.invokevirtual 49, 3) := de182 hX5_readItems_122 14 rfl rfl rfl
theorem dX5_readItems_139 : decode cX5_readItems 139 = .ok (.ifCond .eq 7, 3) := de153 hX5_readItems_122 17 rfl rfl (by decide +kernel)
theorem dX5_readItems_142 : decode cX5_readItems 142 = .ok (.iconst 1, 1) := de4 hX5_readItems_122 20 rfl rfl
theorem dX5_readItems_143 : decode cX5_readItems 143 = .ok (.goto 4, 3) := de167 hX5_readItems_122 21 rfl rfl (by decide +kernel)
theorem hX5_readItems_146 : bHas cX5_readItems 146 [3, 172] := bH_c (n := 2) (by decide +kernel)
theorem dX5_readItems_146 : decode cX5_readItems 146 = .ok (.iconst 0, 1) := de3 hX5_readItems_146 0 rfl rfl
theorem dX5_readItems_147 : decode cX5_readItems 147 = .ok (.ireturn, 1) := de172 hX5_readItems_146 1 rfl rfl
theorem hX5_takeItem_0 : bHas cX5_takeItem 0 [29, 2, 160, 0, 7, 4, 167, 0, 4, 3, 54, 4, 21, 4, 154, 0, 10, 29, 28, 163, 0, 5] := bH_c (n := 22) (by decide +kernel)
theorem dX5_takeItem_0 : decode cX5_takeItem 0 = .ok (.iload_n 3, 1) := de29 hX5_takeItem_0 0 rfl rfl
theorem dX5_takeItem_1 : decode cX5_takeItem 1 = .ok (.iconst (-1), 1) := de2 hX5_takeItem_0 1 rfl rfl
theorem dX5_takeItem_2 : decode cX5_takeItem 2 = .ok (.if_icmp .ne 7, 3) := de160 hX5_takeItem_0 2 rfl rfl (by decide +kernel)
theorem dX5_takeItem_5 : decode cX5_takeItem 5 = .ok (.iconst 1, 1) := de4 hX5_takeItem_0 5 rfl rfl
theorem dX5_takeItem_6 : decode cX5_takeItem 6 = .ok (.goto 4, 3) := de167 hX5_takeItem_0 6 rfl rfl (by decide +kernel)
theorem dX5_takeItem_9 : decode cX5_takeItem 9 = .ok (.iconst 0, 1) := de3 hX5_takeItem_0 9 rfl rfl
theorem dX5_takeItem_10 : decode cX5_takeItem 10 = .ok (.istore 4, 2) := de54 hX5_takeItem_0 10 rfl rfl rfl
theorem dX5_takeItem_12 : decode cX5_takeItem 12 = .ok (.iload 4, 2) := de21 hX5_takeItem_0 12 rfl rfl rfl
theorem dX5_takeItem_14 : decode cX5_takeItem 14 = .ok (.ifCond .ne 10, 3) := de154 hX5_takeItem_0 14 rfl rfl (by decide +kernel)
theorem dX5_takeItem_17 : decode cX5_takeItem 17 = .ok (.iload_n 3, 1) := de29 hX5_takeItem_0 17 rfl rfl
theorem dX5_takeItem_18 : decode cX5_takeItem 18 = .ok (.iload_n 2, 1) := de28 hX5_takeItem_0 18 rfl rfl
theorem dX5_takeItem_19 : decode cX5_takeItem 19 = .ok (.if_icmp .gt 5, 3) := de163 hX5_takeItem_0 19 rfl rfl (by decide +kernel)
theorem hX5_takeItem_22 : bHas cX5_takeItem 22 [3, 172, 21, 4, 153, 0, 7, 28, 167, 0, 4, 29, 54, 5, 21, 4, 153, 0, 15, 27, 16, 115] := bH_c (n := 22) (by decide +kernel)
theorem dX5_takeItem_22 : decode cX5_takeItem 22 = .ok (.iconst 0, 1) := de3 hX5_takeItem_22 0 rfl rfl
theorem dX5_takeItem_23 : decode cX5_takeItem 23 = .ok (.ireturn, 1) := de172 hX5_takeItem_22 1 rfl rfl
theorem dX5_takeItem_24 : decode cX5_takeItem 24 = .ok (.iload 4, 2) := de21 hX5_takeItem_22 2 rfl rfl rfl
theorem dX5_takeItem_26 : decode cX5_takeItem 26 = .ok (.ifCond .eq 7, 3) := de153 hX5_takeItem_22 4 rfl rfl (by decide +kernel)
theorem dX5_takeItem_29 : decode cX5_takeItem 29 = .ok (.iload_n 2, 1) := de28 hX5_takeItem_22 7 rfl rfl
theorem dX5_takeItem_30 : decode cX5_takeItem 30 = .ok (.goto 4, 3) := de167 hX5_takeItem_22 8 rfl rfl (by decide +kernel)
theorem dX5_takeItem_33 : decode cX5_takeItem 33 = .ok (.iload_n 3, 1) := de29 hX5_takeItem_22 11 rfl rfl
theorem dX5_takeItem_34 : decode cX5_takeItem 34 = .ok (.istore 5, 2) := de54 hX5_takeItem_22 12 rfl rfl rfl
theorem dX5_takeItem_36 : decode cX5_takeItem 36 = .ok (.iload 4, 2) := de21 hX5_takeItem_22 14 rfl rfl rfl
theorem dX5_takeItem_38 : decode cX5_takeItem 38 = .ok (.ifCond .eq 15, 3) := de153 hX5_takeItem_22 16 rfl rfl (by decide +kernel)
theorem dX5_takeItem_41 : decode cX5_takeItem 41 = .ok (.iload_n 1, 1) := de27 hX5_takeItem_22 19 rfl rfl
theorem dX5_takeItem_42 : decode cX5_takeItem 42 = .ok (.bipush 115, 2) := de16 hX5_takeItem_22 20 rfl rfl rfl
theorem hX5_takeItem_44 : bHas cX5_takeItem 44 [160, 0, 9, 28, 4, 100, 167, 0, 4, 28, 54, 6, 21, 6, 155, 0, 21, 21, 5, 16, 28, 162, 0, 14] := bH_c (n := 24) (by decide +kernel)
theorem dX5_takeItem_44 : decode cX5_takeItem 44 = .ok (.if_icmp .ne 9, 3) := de160 hX5_takeItem_44 0 rfl rfl (by decide +kernel)
theorem dX5_takeItem_47 : decode cX5_takeItem 47 = .ok (.iload_n 2, 1) := de28 hX5_takeItem_44 3 rfl rfl
theorem dX5_takeItem_48 : decode cX5_takeItem 48 = .ok (.iconst 1, 1) := de4 hX5_takeItem_44 4 rfl rfl
theorem dX5_takeItem_49 : decode cX5_takeItem 49 = .ok (.isub, 1) := de100 hX5_takeItem_44 5 rfl rfl
theorem dX5_takeItem_50 : decode cX5_takeItem 50 = .ok (.goto 4, 3) := de167 hX5_takeItem_44 6 rfl rfl (by decide +kernel)
theorem dX5_takeItem_53 : decode cX5_takeItem 53 = .ok (.iload_n 2, 1) := de28 hX5_takeItem_44 9 rfl rfl
theorem dX5_takeItem_54 : decode cX5_takeItem 54 = .ok (.istore 6, 2) := de54 hX5_takeItem_44 10 rfl rfl rfl
theorem dX5_takeItem_56 : decode cX5_takeItem 56 = .ok (.iload 6, 2) := de21 hX5_takeItem_44 12 rfl rfl rfl
theorem dX5_takeItem_58 : decode cX5_takeItem 58 = .ok (.ifCond .lt 21, 3) := de155 hX5_takeItem_44 14 rfl rfl (by decide +kernel)
theorem dX5_takeItem_61 : decode cX5_takeItem 61 = .ok (.iload 5, 2) := de21 hX5_takeItem_44 17 rfl rfl rfl
theorem dX5_takeItem_63 : decode cX5_takeItem 63 = .ok (.bipush 28, 2) := de16 hX5_takeItem_44 19 rfl rfl rfl
theorem dX5_takeItem_65 : decode cX5_takeItem 65 = .ok (.if_icmp .ge 14, 3) := de162 hX5_takeItem_44 21 rfl rfl (by decide +kernel)
theorem hX5_takeItem_68 : bHas cX5_takeItem 68 [27, 16, 108, 160, 0, 10, 21, 6, 154, 0, 5, 3, 172, 27, 16, 120, 160, 0, 7, 4, 167, 0, 14] := bH_c (n := 23) (by decide +kernel)
theorem dX5_takeItem_68 : decode cX5_takeItem 68 = .ok (.iload_n 1, 1) := de27 hX5_takeItem_68 0 rfl rfl
theorem dX5_takeItem_69 : decode cX5_takeItem 69 = .ok (.bipush 108, 2) := de16 hX5_takeItem_68 1 rfl rfl rfl
theorem dX5_takeItem_71 : decode cX5_takeItem 71 = .ok (.if_icmp .ne 10, 3) := de160 hX5_takeItem_68 3 rfl rfl (by decide +kernel)
theorem dX5_takeItem_74 : decode cX5_takeItem 74 = .ok (.iload 6, 2) := de21 hX5_takeItem_68 6 rfl rfl rfl
theorem dX5_takeItem_76 : decode cX5_takeItem 76 = .ok (.ifCond .ne 5, 3) := de154 hX5_takeItem_68 8 rfl rfl (by decide +kernel)
theorem dX5_takeItem_79 : decode cX5_takeItem 79 = .ok (.iconst 0, 1) := de3 hX5_takeItem_68 11 rfl rfl
theorem dX5_takeItem_80 : decode cX5_takeItem 80 = .ok (.ireturn, 1) := de172 hX5_takeItem_68 12 rfl rfl
theorem dX5_takeItem_81 : decode cX5_takeItem 81 = .ok (.iload_n 1, 1) := de27 hX5_takeItem_68 13 rfl rfl
theorem dX5_takeItem_82 : decode cX5_takeItem 82 = .ok (.bipush 120, 2) := de16 hX5_takeItem_68 14 rfl rfl rfl
theorem dX5_takeItem_84 : decode cX5_takeItem 84 = .ok (.if_icmp .ne 7, 3) := de160 hX5_takeItem_68 16 rfl rfl (by decide +kernel)
theorem dX5_takeItem_87 : decode cX5_takeItem 87 = .ok (.iconst 1, 1) := de4 hX5_takeItem_68 19 rfl rfl
theorem dX5_takeItem_88 : decode cX5_takeItem 88 = .ok (.goto 14, 3) := de167 hX5_takeItem_68 20 rfl rfl (by decide +kernel)
theorem hX5_takeItem_91 : bHas cX5_takeItem 91 [27, 16, 108, 160, 0, 7, 5, 167, 0, 4, 6, 54, 7, 21, 6, 54, 8, 21, 8, 21, 5, 163, 0, 48] := bH_c (n := 24) (by decide +kernel)
theorem dX5_takeItem_91 : decode cX5_takeItem 91 = .ok (.iload_n 1, 1) := de27 hX5_takeItem_91 0 rfl rfl
theorem dX5_takeItem_92 : decode cX5_takeItem 92 = .ok (.bipush 108, 2) := de16 hX5_takeItem_91 1 rfl rfl rfl
theorem dX5_takeItem_94 : decode cX5_takeItem 94 = .ok (.if_icmp .ne 7, 3) := de160 hX5_takeItem_91 3 rfl rfl (by decide +kernel)
theorem dX5_takeItem_97 : decode cX5_takeItem 97 = .ok (.iconst 2, 1) := de5 hX5_takeItem_91 6 rfl rfl
theorem dX5_takeItem_98 : decode cX5_takeItem 98 = .ok (.goto 4, 3) := de167 hX5_takeItem_91 7 rfl rfl (by decide +kernel)
theorem dX5_takeItem_101 : decode cX5_takeItem 101 = .ok (.iconst 3, 1) := de6 hX5_takeItem_91 10 rfl rfl
theorem dX5_takeItem_102 : decode cX5_takeItem 102 = .ok (.istore 7, 2) := de54 hX5_takeItem_91 11 rfl rfl rfl
theorem dX5_takeItem_104 : decode cX5_takeItem 104 = .ok (.iload 6, 2) := de21 hX5_takeItem_91 13 rfl rfl rfl
theorem dX5_takeItem_106 : decode cX5_takeItem 106 = .ok (.istore 8, 2) := de54 hX5_takeItem_91 15 rfl rfl rfl
theorem dX5_takeItem_108 : decode cX5_takeItem 108 = .ok (.iload 8, 2) := de21 hX5_takeItem_91 17 rfl rfl rfl
theorem dX5_takeItem_110 : decode cX5_takeItem 110 = .ok (.iload 5, 2) := de21 hX5_takeItem_91 19 rfl rfl rfl
theorem dX5_takeItem_112 : decode cX5_takeItem 112 = .ok (.if_icmp .gt 48, 3) := de163 hX5_takeItem_91 21 rfl rfl (by decide +kernel)
theorem hX5_takeItem_115 : bHas cX5_takeItem 115 [42, 180, 0, 15, 21, 8, 46, 153, 0, 5, 3, 172, 42, 180, 0, 15, 21, 8, 21, 7, 79] := bH_c (n := 21) (by decide +kernel)
theorem dX5_takeItem_115 : decode cX5_takeItem 115 = .ok (.aload_n 0, 1) := de42 hX5_takeItem_115 0 rfl rfl
theorem dX5_takeItem_116 : decode cX5_takeItem 116 = .ok (.getfield 15, 3) := de180 hX5_takeItem_115 1 rfl rfl rfl
theorem dX5_takeItem_119 : decode cX5_takeItem 119 = .ok (.iload 8, 2) := de21 hX5_takeItem_115 4 rfl rfl rfl
theorem dX5_takeItem_121 : decode cX5_takeItem 121 = .ok (.iaload, 1) := de46 hX5_takeItem_115 6 rfl rfl
theorem dX5_takeItem_122 : decode cX5_takeItem 122 = .ok (.ifCond .eq 5, 3) := de153 hX5_takeItem_115 7 rfl rfl (by decide +kernel)
theorem dX5_takeItem_125 : decode cX5_takeItem 125 = .ok (.iconst 0, 1) := de3 hX5_takeItem_115 10 rfl rfl
theorem dX5_takeItem_126 : decode cX5_takeItem 126 = .ok (.ireturn, 1) := de172 hX5_takeItem_115 11 rfl rfl
theorem dX5_takeItem_127 : decode cX5_takeItem 127 = .ok (.aload_n 0, 1) := de42 hX5_takeItem_115 12 rfl rfl
theorem dX5_takeItem_128 : decode cX5_takeItem 128 = .ok (.getfield 15, 3) := de180 hX5_takeItem_115 13 rfl rfl rfl
theorem dX5_takeItem_131 : decode cX5_takeItem 131 = .ok (.iload 8, 2) := de21 hX5_takeItem_115 16 rfl rfl rfl
theorem dX5_takeItem_133 : decode cX5_takeItem 133 = .ok (.iload 7, 2) := de21 hX5_takeItem_115 18 rfl rfl rfl
theorem dX5_takeItem_135 : decode cX5_takeItem 135 = .ok (.iastore, 1) := de79 hX5_takeItem_115 20 rfl rfl
theorem hX5_takeItem_136 : bHas cX5_takeItem 136 [42, 180, 0, 18, 21, 8, 21, 6, 79, 42, 180, 0, 21, 21, 8, 21, 5, 79, 132, 8, 1, 167, 255, 207] := bH_c (n := 24) (by decide +kernel)
theorem dX5_takeItem_136 : decode cX5_takeItem 136 = .ok (.aload_n 0, 1) := de42 hX5_takeItem_136 0 rfl rfl
theorem dX5_takeItem_137 : decode cX5_takeItem 137 = .ok (.getfield 18, 3) := de180 hX5_takeItem_136 1 rfl rfl rfl
theorem dX5_takeItem_140 : decode cX5_takeItem 140 = .ok (.iload 8, 2) := de21 hX5_takeItem_136 4 rfl rfl rfl
theorem dX5_takeItem_142 : decode cX5_takeItem 142 = .ok (.iload 6, 2) := de21 hX5_takeItem_136 6 rfl rfl rfl
theorem dX5_takeItem_144 : decode cX5_takeItem 144 = .ok (.iastore, 1) := de79 hX5_takeItem_136 8 rfl rfl
theorem dX5_takeItem_145 : decode cX5_takeItem 145 = .ok (.aload_n 0, 1) := de42 hX5_takeItem_136 9 rfl rfl
theorem dX5_takeItem_146 : decode cX5_takeItem 146 = .ok (.getfield 21, 3) := de180 hX5_takeItem_136 10 rfl rfl rfl
theorem dX5_takeItem_149 : decode cX5_takeItem 149 = .ok (.iload 8, 2) := de21 hX5_takeItem_136 13 rfl rfl rfl
theorem dX5_takeItem_151 : decode cX5_takeItem 151 = .ok (.iload 5, 2) := de21 hX5_takeItem_136 15 rfl rfl rfl
theorem dX5_takeItem_153 : decode cX5_takeItem 153 = .ok (.iastore, 1) := de79 hX5_takeItem_136 17 rfl rfl
theorem dX5_takeItem_154 : decode cX5_takeItem 154 = .ok (.iinc 8 1, 3) := de132 hX5_takeItem_136 18 rfl rfl rfl rfl
theorem dX5_takeItem_157 : decode cX5_takeItem 157 = .ok (.goto (-49), 3) := de167 hX5_takeItem_136 21 rfl rfl (by decide +kernel)
theorem hX5_takeItem_160 : bHas cX5_takeItem 160 [42, 89, 180, 0, 46, 4, 96, 181, 0, 46, 4, 172] := bH_c (n := 12) (by decide +kernel)
theorem dX5_takeItem_160 : decode cX5_takeItem 160 = .ok (.aload_n 0, 1) := de42 hX5_takeItem_160 0 rfl rfl
theorem dX5_takeItem_161 : decode cX5_takeItem 161 = .ok (.dup, 1) := de89 hX5_takeItem_160 1 rfl rfl
theorem dX5_takeItem_162 : decode cX5_takeItem 162 = .ok (.getfield 46, 3) := de180 hX5_takeItem_160 2 rfl rfl rfl
theorem dX5_takeItem_165 : decode cX5_takeItem 165 = .ok (.iconst 1, 1) := de4 hX5_takeItem_160 5 rfl rfl
theorem dX5_takeItem_166 : decode cX5_takeItem 166 = .ok (.iadd, 1) := de96 hX5_takeItem_160 6 rfl rfl
theorem dX5_takeItem_167 : decode cX5_takeItem 167 = .ok (.putfield 46, 3) := de181 hX5_takeItem_160 7 rfl rfl rfl
theorem dX5_takeItem_170 : decode cX5_takeItem 170 = .ok (.iconst 1, 1) := de4 hX5_takeItem_160 10 rfl rfl
theorem dX5_takeItem_171 : decode cX5_takeItem 171 = .ok (.ireturn, 1) := de172 hX5_takeItem_160 11 rfl rfl
theorem hX6_init_0 : bHas cX6_init 0 [42, 183, 0, 3, 42, 16, 6] := bH_c (n := 7) (by decide +kernel)
theorem dX6_init_0 : decode cX6_init 0 = .ok (.aload_n 0, 1) := de42 hX6_init_0 0 rfl rfl
theorem dX6_init_1 : decode cX6_init 1 = .ok (.invokespecial 3, 3) := de183 hX6_init_0 1 rfl rfl rfl
theorem dX6_init_4 : decode cX6_init 4 = .ok (.aload_n 0, 1) := de42 hX6_init_0 4 rfl rfl
theorem dX6_init_5 : decode cX6_init 5 = .ok (.bipush 6, 2) := de16 hX6_init_0 5 rfl rfl rfl
theorem dX6_init_7 : decode cX6_init 7 = .ok (.newarray .int, 2) := by decide +kernel
theorem hX6_init_9 : bHas cX6_init 9 [181, 0, 9, 42, 16, 6] := bH_c (n := 6) (by decide +kernel)
theorem dX6_init_9 : decode cX6_init 9 = .ok (.putfield 9, 3) := de181 hX6_init_9 0 rfl rfl rfl
theorem dX6_init_12 : decode cX6_init 12 = .ok (.aload_n 0, 1) := de42 hX6_init_9 3 rfl rfl
theorem dX6_init_13 : decode cX6_init 13 = .ok (.bipush 6, 2) := de16 hX6_init_9 4 rfl rfl rfl
theorem dX6_init_15 : decode cX6_init 15 = .ok (.newarray .int, 2) := by decide +kernel
theorem hX6_init_17 : bHas cX6_init 17 [181, 0, 15, 42, 16, 6] := bH_c (n := 6) (by decide +kernel)
theorem dX6_init_17 : decode cX6_init 17 = .ok (.putfield 15, 3) := de181 hX6_init_17 0 rfl rfl rfl
theorem dX6_init_20 : decode cX6_init 20 = .ok (.aload_n 0, 1) := de42 hX6_init_17 3 rfl rfl
theorem dX6_init_21 : decode cX6_init 21 = .ok (.bipush 6, 2) := de16 hX6_init_17 4 rfl rfl rfl
theorem dX6_init_23 : decode cX6_init 23 = .ok (.newarray .int, 2) := by decide +kernel
theorem hX6_init_25 : bHas cX6_init 25 [181, 0, 18, 42, 16, 6] := bH_c (n := 6) (by decide +kernel)
theorem dX6_init_25 : decode cX6_init 25 = .ok (.putfield 18, 3) := de181 hX6_init_25 0 rfl rfl rfl
theorem dX6_init_28 : decode cX6_init 28 = .ok (.aload_n 0, 1) := de42 hX6_init_25 3 rfl rfl
theorem dX6_init_29 : decode cX6_init 29 = .ok (.bipush 6, 2) := de16 hX6_init_25 4 rfl rfl rfl
theorem dX6_init_31 : decode cX6_init 31 = .ok (.newarray .int, 2) := by decide +kernel
theorem hX6_init_33 : bHas cX6_init 33 [181, 0, 21, 42, 16, 6] := bH_c (n := 6) (by decide +kernel)
theorem dX6_init_33 : decode cX6_init 33 = .ok (.putfield 21, 3) := de181 hX6_init_33 0 rfl rfl rfl
theorem dX6_init_36 : decode cX6_init 36 = .ok (.aload_n 0, 1) := de42 hX6_init_33 3 rfl rfl
theorem dX6_init_37 : decode cX6_init 37 = .ok (.bipush 6, 2) := de16 hX6_init_33 4 rfl rfl rfl
theorem dX6_init_39 : decode cX6_init 39 = .ok (.newarray .int, 2) := by decide +kernel
theorem hX6_init_41 : bHas cX6_init 41 [181, 0, 24, 177] := bH_c (n := 4) (by decide +kernel)
theorem dX6_init_41 : decode cX6_init 41 = .ok (.putfield 24, 3) := de181 hX6_init_41 0 rfl rfl rfl
theorem dX6_init_44 : decode cX6_init 44 = .ok (.return_, 1) := de177 hX6_init_41 3 rfl rfl
theorem hX6_add_0 : bHas cX6_add 0 [42, 180, 0, 9, 42, 180, 0, 27, 27, 79, 42, 180, 0, 15, 42, 180, 0, 27, 28, 79] := bH_c (n := 20) (by decide +kernel)
theorem dX6_add_0 : decode cX6_add 0 = .ok (.aload_n 0, 1) := de42 hX6_add_0 0 rfl rfl
theorem dX6_add_1 : decode cX6_add 1 = .ok (.getfield 9, 3) := de180 hX6_add_0 1 rfl rfl rfl
theorem dX6_add_4 : decode cX6_add 4 = .ok (.aload_n 0, 1) := de42 hX6_add_0 4 rfl rfl
theorem dX6_add_5 : decode cX6_add 5 = .ok (.getfield 27, 3) := de180 hX6_add_0 5 rfl rfl rfl
theorem dX6_add_8 : decode cX6_add 8 = .ok (.iload_n 1, 1) := de27 hX6_add_0 8 rfl rfl
theorem dX6_add_9 : decode cX6_add 9 = .ok (.iastore, 1) := de79 hX6_add_0 9 rfl rfl
theorem dX6_add_10 : decode cX6_add 10 = .ok (.aload_n 0, 1) := de42 hX6_add_0 10 rfl rfl
theorem dX6_add_11 : decode cX6_add 11 = .ok (.getfield 15, 3) := de180 hX6_add_0 11 rfl rfl rfl
theorem dX6_add_14 : decode cX6_add 14 = .ok (.aload_n 0, 1) := de42 hX6_add_0 14 rfl rfl
theorem dX6_add_15 : decode cX6_add 15 = .ok (.getfield 27, 3) := de180 hX6_add_0 15 rfl rfl rfl
theorem dX6_add_18 : decode cX6_add 18 = .ok (.iload_n 2, 1) := de28 hX6_add_0 18 rfl rfl
theorem dX6_add_19 : decode cX6_add 19 = .ok (.iastore, 1) := de79 hX6_add_0 19 rfl rfl
theorem hX6_add_20 : bHas cX6_add 20 [42, 180, 0, 18, 42, 180, 0, 27, 29, 79, 42, 180, 0, 21, 42, 180, 0, 27, 21, 4, 79] := bH_c (n := 21) (by decide +kernel)
theorem dX6_add_20 : decode cX6_add 20 = .ok (.aload_n 0, 1) := de42 hX6_add_20 0 rfl rfl
theorem dX6_add_21 : decode cX6_add 21 = .ok (.getfield 18, 3) := de180 hX6_add_20 1 rfl rfl rfl
theorem dX6_add_24 : decode cX6_add 24 = .ok (.aload_n 0, 1) := de42 hX6_add_20 4 rfl rfl
theorem dX6_add_25 : decode cX6_add 25 = .ok (.getfield 27, 3) := de180 hX6_add_20 5 rfl rfl rfl
theorem dX6_add_28 : decode cX6_add 28 = .ok (.iload_n 3, 1) := de29 hX6_add_20 8 rfl rfl
theorem dX6_add_29 : decode cX6_add 29 = .ok (.iastore, 1) := de79 hX6_add_20 9 rfl rfl
theorem dX6_add_30 : decode cX6_add 30 = .ok (.aload_n 0, 1) := de42 hX6_add_20 10 rfl rfl
theorem dX6_add_31 : decode cX6_add 31 = .ok (.getfield 21, 3) := de180 hX6_add_20 11 rfl rfl rfl
theorem dX6_add_34 : decode cX6_add 34 = .ok (.aload_n 0, 1) := de42 hX6_add_20 14 rfl rfl
theorem dX6_add_35 : decode cX6_add 35 = .ok (.getfield 27, 3) := de180 hX6_add_20 15 rfl rfl rfl
theorem dX6_add_38 : decode cX6_add 38 = .ok (.iload 4, 2) := de21 hX6_add_20 18 rfl rfl rfl
theorem dX6_add_40 : decode cX6_add 40 = .ok (.iastore, 1) := de79 hX6_add_20 20 rfl rfl
theorem hX6_add_41 : bHas cX6_add 41 [42, 180, 0, 24, 42, 180, 0, 27, 21, 5, 79, 42, 89, 180, 0, 27, 4, 96, 181, 0, 27] := bH_c (n := 21) (by decide +kernel)
theorem dX6_add_41 : decode cX6_add 41 = .ok (.aload_n 0, 1) := de42 hX6_add_41 0 rfl rfl
theorem dX6_add_42 : decode cX6_add 42 = .ok (.getfield 24, 3) := de180 hX6_add_41 1 rfl rfl rfl
theorem dX6_add_45 : decode cX6_add 45 = .ok (.aload_n 0, 1) := de42 hX6_add_41 4 rfl rfl
theorem dX6_add_46 : decode cX6_add 46 = .ok (.getfield 27, 3) := de180 hX6_add_41 5 rfl rfl rfl
theorem dX6_add_49 : decode cX6_add 49 = .ok (.iload 5, 2) := de21 hX6_add_41 8 rfl rfl rfl
theorem dX6_add_51 : decode cX6_add 51 = .ok (.iastore, 1) := de79 hX6_add_41 10 rfl rfl
theorem dX6_add_52 : decode cX6_add 52 = .ok (.aload_n 0, 1) := de42 hX6_add_41 11 rfl rfl
theorem dX6_add_53 : decode cX6_add 53 = .ok (.dup, 1) := de89 hX6_add_41 12 rfl rfl
theorem dX6_add_54 : decode cX6_add 54 = .ok (.getfield 27, 3) := de180 hX6_add_41 13 rfl rfl rfl
theorem dX6_add_57 : decode cX6_add 57 = .ok (.iconst 1, 1) := de4 hX6_add_41 16 rfl rfl
theorem dX6_add_58 : decode cX6_add 58 = .ok (.iadd, 1) := de96 hX6_add_41 17 rfl rfl
theorem dX6_add_59 : decode cX6_add 59 = .ok (.putfield 27, 3) := de181 hX6_add_41 18 rfl rfl rfl
theorem hX6_add_62 : bHas cX6_add 62 [42, 180, 0, 27, 4, 100, 172] := bH_c (n := 7) (by decide +kernel)
theorem dX6_add_62 : decode cX6_add 62 = .ok (.aload_n 0, 1) := de42 hX6_add_62 0 rfl rfl
theorem dX6_add_63 : decode cX6_add 63 = .ok (.getfield 27, 3) := de180 hX6_add_62 1 rfl rfl rfl
theorem dX6_add_66 : decode cX6_add 66 = .ok (.iconst 1, 1) := de4 hX6_add_62 4 rfl rfl
theorem dX6_add_67 : decode cX6_add 67 = .ok (.isub, 1) := de100 hX6_add_62 5 rfl rfl
theorem dX6_add_68 : decode cX6_add 68 = .ok (.ireturn, 1) := de172 hX6_add_62 6 rfl rfl
theorem hX6_copyFrom_0 : bHas cX6_copyFrom 0 [42, 43, 180, 0, 27, 181, 0, 27, 43, 180, 0, 9, 3, 42, 180, 0, 9, 3, 16, 6, 184, 0, 31] := bH_c (n := 23) (by decide +kernel)
theorem dX6_copyFrom_0 : decode cX6_copyFrom 0 = .ok (.aload_n 0, 1) := de42 hX6_copyFrom_0 0 rfl rfl
theorem dX6_copyFrom_1 : decode cX6_copyFrom 1 = .ok (.aload_n 1, 1) := de43 hX6_copyFrom_0 1 rfl rfl
theorem dX6_copyFrom_2 : decode cX6_copyFrom 2 = .ok (.getfield 27, 3) := de180 hX6_copyFrom_0 2 rfl rfl rfl
theorem dX6_copyFrom_5 : decode cX6_copyFrom 5 = .ok (.putfield 27, 3) := de181 hX6_copyFrom_0 5 rfl rfl rfl
theorem dX6_copyFrom_8 : decode cX6_copyFrom 8 = .ok (.aload_n 1, 1) := de43 hX6_copyFrom_0 8 rfl rfl
theorem dX6_copyFrom_9 : decode cX6_copyFrom 9 = .ok (.getfield 9, 3) := de180 hX6_copyFrom_0 9 rfl rfl rfl
theorem dX6_copyFrom_12 : decode cX6_copyFrom 12 = .ok (.iconst 0, 1) := de3 hX6_copyFrom_0 12 rfl rfl
theorem dX6_copyFrom_13 : decode cX6_copyFrom 13 = .ok (.aload_n 0, 1) := de42 hX6_copyFrom_0 13 rfl rfl
theorem dX6_copyFrom_14 : decode cX6_copyFrom 14 = .ok (.getfield 9, 3) := de180 hX6_copyFrom_0 14 rfl rfl rfl
theorem dX6_copyFrom_17 : decode cX6_copyFrom 17 = .ok (.iconst 0, 1) := de3 hX6_copyFrom_0 17 rfl rfl
theorem dX6_copyFrom_18 : decode cX6_copyFrom 18 = .ok (.bipush 6, 2) := de16 hX6_copyFrom_0 18 rfl rfl rfl
theorem dX6_copyFrom_20 : decode cX6_copyFrom 20 = .ok (.invokestatic 31, 3) := de184 hX6_copyFrom_0 20 rfl rfl rfl
theorem hX6_copyFrom_23 : bHas cX6_copyFrom 23 [43, 180, 0, 15, 3, 42, 180, 0, 15, 3, 16, 6, 184, 0, 31, 43, 180, 0, 18, 3, 42] := bH_c (n := 21) (by decide +kernel)
theorem dX6_copyFrom_23 : decode cX6_copyFrom 23 = .ok (.aload_n 1, 1) := de43 hX6_copyFrom_23 0 rfl rfl
theorem dX6_copyFrom_24 : decode cX6_copyFrom 24 = .ok (.getfield 15, 3) := de180 hX6_copyFrom_23 1 rfl rfl rfl
theorem dX6_copyFrom_27 : decode cX6_copyFrom 27 = .ok (.iconst 0, 1) := de3 hX6_copyFrom_23 4 rfl rfl
theorem dX6_copyFrom_28 : decode cX6_copyFrom 28 = .ok (.aload_n 0, 1) := de42 hX6_copyFrom_23 5 rfl rfl
theorem dX6_copyFrom_29 : decode cX6_copyFrom 29 = .ok (.getfield 15, 3) := de180 hX6_copyFrom_23 6 rfl rfl rfl
theorem dX6_copyFrom_32 : decode cX6_copyFrom 32 = .ok (.iconst 0, 1) := de3 hX6_copyFrom_23 9 rfl rfl
theorem dX6_copyFrom_33 : decode cX6_copyFrom 33 = .ok (.bipush 6, 2) := de16 hX6_copyFrom_23 10 rfl rfl rfl
theorem dX6_copyFrom_35 : decode cX6_copyFrom 35 = .ok (.invokestatic 31, 3) := de184 hX6_copyFrom_23 12 rfl rfl rfl
theorem dX6_copyFrom_38 : decode cX6_copyFrom 38 = .ok (.aload_n 1, 1) := de43 hX6_copyFrom_23 15 rfl rfl
theorem dX6_copyFrom_39 : decode cX6_copyFrom 39 = .ok (.getfield 18, 3) := de180 hX6_copyFrom_23 16 rfl rfl rfl
theorem dX6_copyFrom_42 : decode cX6_copyFrom 42 = .ok (.iconst 0, 1) := de3 hX6_copyFrom_23 19 rfl rfl
theorem dX6_copyFrom_43 : decode cX6_copyFrom 43 = .ok (.aload_n 0, 1) := de42 hX6_copyFrom_23 20 rfl rfl
theorem hX6_copyFrom_44 : bHas cX6_copyFrom 44 [180, 0, 18, 3, 16, 6, 184, 0, 31, 43, 180, 0, 21, 3, 42, 180, 0, 21, 3, 16, 6, 184, 0, 31] := bH_c (n := 24) (by decide +kernel)
theorem dX6_copyFrom_44 : decode cX6_copyFrom 44 = .ok (.getfield 18, 3) := de180 hX6_copyFrom_44 0 rfl rfl rfl
theorem dX6_copyFrom_47 : decode cX6_copyFrom 47 = .ok (.iconst 0, 1) := de3 hX6_copyFrom_44 3 rfl rfl
theorem dX6_copyFrom_48 : decode cX6_copyFrom 48 = .ok (.bipush 6, 2) := de16 hX6_copyFrom_44 4 rfl rfl rfl
theorem dX6_copyFrom_50 : decode cX6_copyFrom 50 = .ok (.invokestatic 31, 3) := de184 hX6_copyFrom_44 6 rfl rfl rfl
theorem dX6_copyFrom_53 : decode cX6_copyFrom 53 = .ok (.aload_n 1, 1) := de43 hX6_copyFrom_44 9 rfl rfl
theorem dX6_copyFrom_54 : decode cX6_copyFrom 54 = .ok (.getfield 21, 3) := de180 hX6_copyFrom_44 10 rfl rfl rfl
theorem dX6_copyFrom_57 : decode cX6_copyFrom 57 = .ok (.iconst 0, 1) := de3 hX6_copyFrom_44 13 rfl rfl
theorem dX6_copyFrom_58 : decode cX6_copyFrom 58 = .ok (.aload_n 0, 1) := de42 hX6_copyFrom_44 14 rfl rfl
theorem dX6_copyFrom_59 : decode cX6_copyFrom 59 = .ok (.getfield 21, 3) := de180 hX6_copyFrom_44 15 rfl rfl rfl
theorem dX6_copyFrom_62 : decode cX6_copyFrom 62 = .ok (.iconst 0, 1) := de3 hX6_copyFrom_44 18 rfl rfl
theorem dX6_copyFrom_63 : decode cX6_copyFrom 63 = .ok (.bipush 6, 2) := de16 hX6_copyFrom_44 19 rfl rfl rfl
theorem dX6_copyFrom_65 : decode cX6_copyFrom 65 = .ok (.invokestatic 31, 3) := de184 hX6_copyFrom_44 21 rfl rfl rfl
theorem hX6_copyFrom_68 : bHas cX6_copyFrom 68 [43, 180, 0, 24, 3, 42, 180, 0, 24, 3, 16, 6, 184, 0, 31, 177] := bH_c (n := 16) (by decide +kernel)
theorem dX6_copyFrom_68 : decode cX6_copyFrom 68 = .ok (.aload_n 1, 1) := de43 hX6_copyFrom_68 0 rfl rfl
theorem dX6_copyFrom_69 : decode cX6_copyFrom 69 = .ok (.getfield 24, 3) := de180 hX6_copyFrom_68 1 rfl rfl rfl
theorem dX6_copyFrom_72 : decode cX6_copyFrom 72 = .ok (.iconst 0, 1) := de3 hX6_copyFrom_68 4 rfl rfl
theorem dX6_copyFrom_73 : decode cX6_copyFrom 73 = .ok (.aload_n 0, 1) := de42 hX6_copyFrom_68 5 rfl rfl
theorem dX6_copyFrom_74 : decode cX6_copyFrom 74 = .ok (.getfield 24, 3) := de180 hX6_copyFrom_68 6 rfl rfl rfl
theorem dX6_copyFrom_77 : decode cX6_copyFrom 77 = .ok (.iconst 0, 1) := de3 hX6_copyFrom_68 9 rfl rfl
theorem dX6_copyFrom_78 : decode cX6_copyFrom 78 = .ok (.bipush 6, 2) := de16 hX6_copyFrom_68 10 rfl rfl rfl
theorem dX6_copyFrom_80 : decode cX6_copyFrom 80 = .ok (.invokestatic 31, 3) := de184 hX6_copyFrom_68 12 rfl rfl rfl
theorem dX6_copyFrom_83 : decode cX6_copyFrom 83 = .ok (.return_, 1) := de177 hX6_copyFrom_68 15 rfl rfl
theorem hX7_init_0 : bHas cX7_init 0 [42, 183, 0, 3, 42, 17, 0, 168] := bH_c (n := 8) (by decide +kernel)
theorem dX7_init_0 : decode cX7_init 0 = .ok (.aload_n 0, 1) := de42 hX7_init_0 0 rfl rfl
theorem dX7_init_1 : decode cX7_init 1 = .ok (.invokespecial 3, 3) := de183 hX7_init_0 1 rfl rfl rfl
theorem dX7_init_4 : decode cX7_init 4 = .ok (.aload_n 0, 1) := de42 hX7_init_0 4 rfl rfl
theorem dX7_init_5 : decode cX7_init 5 = .ok (.sipush 168, 3) := de17 hX7_init_0 5 rfl rfl (by decide +kernel)
theorem dX7_init_8 : decode cX7_init 8 = .ok (.newarray .int, 2) := by decide +kernel
theorem hX7_init_10 : bHas cX7_init 10 [181, 0, 9, 42, 17, 0, 168] := bH_c (n := 7) (by decide +kernel)
theorem dX7_init_10 : decode cX7_init 10 = .ok (.putfield 9, 3) := de181 hX7_init_10 0 rfl rfl rfl
theorem dX7_init_13 : decode cX7_init 13 = .ok (.aload_n 0, 1) := de42 hX7_init_10 3 rfl rfl
theorem dX7_init_14 : decode cX7_init 14 = .ok (.sipush 168, 3) := de17 hX7_init_10 4 rfl rfl (by decide +kernel)
theorem dX7_init_17 : decode cX7_init 17 = .ok (.newarray .int, 2) := by decide +kernel
theorem hX7_init_19 : bHas cX7_init 19 [181, 0, 15, 42, 17, 0, 168] := bH_c (n := 7) (by decide +kernel)
theorem dX7_init_19 : decode cX7_init 19 = .ok (.putfield 15, 3) := de181 hX7_init_19 0 rfl rfl rfl
theorem dX7_init_22 : decode cX7_init 22 = .ok (.aload_n 0, 1) := de42 hX7_init_19 3 rfl rfl
theorem dX7_init_23 : decode cX7_init 23 = .ok (.sipush 168, 3) := de17 hX7_init_19 4 rfl rfl (by decide +kernel)
theorem dX7_init_26 : decode cX7_init 26 = .ok (.newarray .int, 2) := by decide +kernel
theorem hX7_init_28 : bHas cX7_init 28 [181, 0, 18, 42, 17, 0, 168] := bH_c (n := 7) (by decide +kernel)
theorem dX7_init_28 : decode cX7_init 28 = .ok (.putfield 18, 3) := de181 hX7_init_28 0 rfl rfl rfl
theorem dX7_init_31 : decode cX7_init 31 = .ok (.aload_n 0, 1) := de42 hX7_init_28 3 rfl rfl
theorem dX7_init_32 : decode cX7_init 32 = .ok (.sipush 168, 3) := de17 hX7_init_28 4 rfl rfl (by decide +kernel)
theorem dX7_init_35 : decode cX7_init 35 = .ok (.newarray .int, 2) := by decide +kernel
theorem hX7_init_37 : bHas cX7_init 37 [181, 0, 21, 42, 4, 181, 0, 24, 42, 43, 181, 0, 28, 177] := bH_c (n := 14) (by decide +kernel)
theorem dX7_init_37 : decode cX7_init 37 = .ok (.putfield 21, 3) := de181 hX7_init_37 0 rfl rfl rfl
theorem dX7_init_40 : decode cX7_init 40 = .ok (.aload_n 0, 1) := de42 hX7_init_37 3 rfl rfl
theorem dX7_init_41 : decode cX7_init 41 = .ok (.iconst 1, 1) := de4 hX7_init_37 4 rfl rfl
theorem dX7_init_42 : decode cX7_init 42 = .ok (.putfield 24, 3) := de181 hX7_init_37 5 rfl rfl rfl
theorem dX7_init_45 : decode cX7_init 45 = .ok (.aload_n 0, 1) := de42 hX7_init_37 8 rfl rfl
theorem dX7_init_46 : decode cX7_init 46 = .ok (.aload_n 1, 1) := de43 hX7_init_37 9 rfl rfl
theorem dX7_init_47 : decode cX7_init 47 = .ok (.putfield 28, 3) := de181 hX7_init_37 10 rfl rfl rfl
theorem dX7_init_50 : decode cX7_init 50 = .ok (.return_, 1) := de177 hX7_init_37 13 rfl rfl
theorem hX7_refresh_0 : bHas cX7_refresh 0 [42, 180, 0, 24, 154, 0, 4, 177, 3, 60, 27, 42, 180, 0, 28, 180, 0, 32, 162, 0, 29, 3] := bH_c (n := 22) (by decide +kernel)
theorem dX7_refresh_0 : decode cX7_refresh 0 = .ok (.aload_n 0, 1) := de42 hX7_refresh_0 0 rfl rfl
theorem dX7_refresh_1 : decode cX7_refresh 1 = .ok (.getfield 24, 3) := de180 hX7_refresh_0 1 rfl rfl rfl
theorem dX7_refresh_4 : decode cX7_refresh 4 = .ok (.ifCond .ne 4, 3) := de154 hX7_refresh_0 4 rfl rfl (by decide +kernel)
theorem dX7_refresh_7 : decode cX7_refresh 7 = .ok (.return_, 1) := de177 hX7_refresh_0 7 rfl rfl
theorem dX7_refresh_8 : decode cX7_refresh 8 = .ok (.iconst 0, 1) := de3 hX7_refresh_0 8 rfl rfl
theorem dX7_refresh_9 : decode cX7_refresh 9 = .ok (.istore_n 1, 1) := de60 hX7_refresh_0 9 rfl rfl
theorem dX7_refresh_10 : decode cX7_refresh 10 = .ok (.iload_n 1, 1) := de27 hX7_refresh_0 10 rfl rfl
theorem dX7_refresh_11 : decode cX7_refresh 11 = .ok (.aload_n 0, 1) := de42 hX7_refresh_0 11 rfl rfl
theorem dX7_refresh_12 : decode cX7_refresh 12 = .ok (.getfield 28, 3) := de180 hX7_refresh_0 12 rfl rfl rfl
theorem dX7_refresh_15 : decode cX7_refresh 15 = .ok (.getfield 32, 3) := de180 hX7_refresh_0 15 rfl rfl rfl
theorem dX7_refresh_18 : decode cX7_refresh 18 = .ok (.if_icmp .ge 29, 3) := de162 hX7_refresh_0 18 rfl rfl (by decide +kernel)
theorem dX7_refresh_21 : decode cX7_refresh 21 = .ok (.iconst 0, 1) := de3 hX7_refresh_0 21 rfl rfl
theorem hX7_refresh_22 : bHas cX7_refresh 22 [61, 28, 16, 28, 162, 0, 15, 42, 27, 28, 182, 0, 38, 132, 2, 1, 167, 255, 241, 132, 1, 1, 167, 255, 222] := bH_c (n := 25) (by decide +kernel)
theorem dX7_refresh_22 : decode cX7_refresh 22 = .ok (.istore_n 2, 1) := de61 hX7_refresh_22 0 rfl rfl
theorem dX7_refresh_23 : decode cX7_refresh 23 = .ok (.iload_n 2, 1) := de28 hX7_refresh_22 1 rfl rfl
theorem dX7_refresh_24 : decode cX7_refresh 24 = .ok (.bipush 28, 2) := de16 hX7_refresh_22 2 rfl rfl rfl
theorem dX7_refresh_26 : decode cX7_refresh 26 = .ok (.if_icmp .ge 15, 3) := de162 hX7_refresh_22 4 rfl rfl (by decide +kernel)
theorem dX7_refresh_29 : decode cX7_refresh 29 = .ok (.aload_n 0, 1) := de42 hX7_refresh_22 7 rfl rfl
theorem dX7_refresh_30 : decode cX7_refresh 30 = .ok (.iload_n 1, 1) := de27 hX7_refresh_22 8 rfl rfl
theorem dX7_refresh_31 : decode cX7_refresh 31 = .ok (.iload_n 2, 1) := de28 hX7_refresh_22 9 rfl rfl
theorem dX7_refresh_32 : decode cX7_refresh 32 = .ok (.invokevirtual 38, 3) := de182 hX7_refresh_22 10 rfl rfl rfl
theorem dX7_refresh_35 : decode cX7_refresh 35 = .ok (.iinc 2 1, 3) := de132 hX7_refresh_22 13 rfl rfl rfl rfl
theorem dX7_refresh_38 : decode cX7_refresh 38 = .ok (.goto (-15), 3) := de167 hX7_refresh_22 16 rfl rfl (by decide +kernel)
theorem dX7_refresh_41 : decode cX7_refresh 41 = .ok (.iinc 1 1, 3) := de132 hX7_refresh_22 19 rfl rfl rfl rfl
theorem dX7_refresh_44 : decode cX7_refresh 44 = .ok (.goto (-34), 3) := de167 hX7_refresh_22 22 rfl rfl (by decide +kernel)
theorem hX7_refresh_47 : bHas cX7_refresh 47 [3, 60, 27, 42, 180, 0, 28, 180, 0, 32, 162, 0, 14, 42, 27, 182, 0, 42, 132, 1, 1, 167, 255, 237] := bH_c (n := 24) (by decide +kernel)
theorem dX7_refresh_47 : decode cX7_refresh 47 = .ok (.iconst 0, 1) := de3 hX7_refresh_47 0 rfl rfl
theorem dX7_refresh_48 : decode cX7_refresh 48 = .ok (.istore_n 1, 1) := de60 hX7_refresh_47 1 rfl rfl
theorem dX7_refresh_49 : decode cX7_refresh 49 = .ok (.iload_n 1, 1) := de27 hX7_refresh_47 2 rfl rfl
theorem dX7_refresh_50 : decode cX7_refresh 50 = .ok (.aload_n 0, 1) := de42 hX7_refresh_47 3 rfl rfl
theorem dX7_refresh_51 : decode cX7_refresh 51 = .ok (.getfield 28, 3) := de180 hX7_refresh_47 4 rfl rfl rfl
theorem dX7_refresh_54 : decode cX7_refresh 54 = .ok (.getfield 32, 3) := de180 hX7_refresh_47 7 rfl rfl rfl
theorem dX7_refresh_57 : decode cX7_refresh 57 = .ok (.if_icmp .ge 14, 3) := de162 hX7_refresh_47 10 rfl rfl (by decide +kernel)
theorem dX7_refresh_60 : decode cX7_refresh 60 = .ok (.aload_n 0, 1) := de42 hX7_refresh_47 13 rfl rfl
theorem dX7_refresh_61 : decode cX7_refresh 61 = .ok (.iload_n 1, 1) := de27 hX7_refresh_47 14 rfl rfl
theorem dX7_refresh_62 : decode cX7_refresh 62 = .ok (.invokevirtual 42, 3) := de182 hX7_refresh_47 15 rfl rfl rfl
theorem dX7_refresh_65 : decode cX7_refresh 65 = .ok (.iinc 1 1, 3) := de132 hX7_refresh_47 18 rfl rfl rfl rfl
theorem dX7_refresh_68 : decode cX7_refresh 68 = .ok (.goto (-19), 3) := de167 hX7_refresh_47 21 rfl rfl (by decide +kernel)
theorem hX7_refresh_71 : bHas cX7_refresh 71 [3, 60, 27, 42, 180, 0, 28, 180, 0, 32, 162, 0, 14, 42, 27, 182, 0, 46, 132, 1, 1, 167, 255, 237] := bH_c (n := 24) (by decide +kernel)
theorem dX7_refresh_71 : decode cX7_refresh 71 = .ok (.iconst 0, 1) := de3 hX7_refresh_71 0 rfl rfl
theorem dX7_refresh_72 : decode cX7_refresh 72 = .ok (.istore_n 1, 1) := de60 hX7_refresh_71 1 rfl rfl
theorem dX7_refresh_73 : decode cX7_refresh 73 = .ok (.iload_n 1, 1) := de27 hX7_refresh_71 2 rfl rfl
theorem dX7_refresh_74 : decode cX7_refresh 74 = .ok (.aload_n 0, 1) := de42 hX7_refresh_71 3 rfl rfl
theorem dX7_refresh_75 : decode cX7_refresh 75 = .ok (.getfield 28, 3) := de180 hX7_refresh_71 4 rfl rfl rfl
theorem dX7_refresh_78 : decode cX7_refresh 78 = .ok (.getfield 32, 3) := de180 hX7_refresh_71 7 rfl rfl rfl
theorem dX7_refresh_81 : decode cX7_refresh 81 = .ok (.if_icmp .ge 14, 3) := de162 hX7_refresh_71 10 rfl rfl (by decide +kernel)
theorem dX7_refresh_84 : decode cX7_refresh 84 = .ok (.aload_n 0, 1) := de42 hX7_refresh_71 13 rfl rfl
theorem dX7_refresh_85 : decode cX7_refresh 85 = .ok (.iload_n 1, 1) := de27 hX7_refresh_71 14 rfl rfl
theorem dX7_refresh_86 : decode cX7_refresh 86 = .ok (.invokevirtual 46, 3) := de182 hX7_refresh_71 15 rfl rfl rfl
theorem dX7_refresh_89 : decode cX7_refresh 89 = .ok (.iinc 1 1, 3) := de132 hX7_refresh_71 18 rfl rfl rfl rfl
theorem dX7_refresh_92 : decode cX7_refresh 92 = .ok (.goto (-19), 3) := de167 hX7_refresh_71 21 rfl rfl (by decide +kernel)
theorem hX7_refresh_95 : bHas cX7_refresh 95 [42, 3, 181, 0, 24, 177] := bH_c (n := 6) (by decide +kernel)
theorem dX7_refresh_95 : decode cX7_refresh 95 = .ok (.aload_n 0, 1) := de42 hX7_refresh_95 0 rfl rfl
theorem dX7_refresh_96 : decode cX7_refresh 96 = .ok (.iconst 0, 1) := de3 hX7_refresh_95 1 rfl rfl
theorem dX7_refresh_97 : decode cX7_refresh 97 = .ok (.putfield 24, 3) := de181 hX7_refresh_95 2 rfl rfl rfl
theorem dX7_refresh_100 : decode cX7_refresh 100 = .ok (.return_, 1) := de177 hX7_refresh_95 5 rfl rfl
theorem hX7_lookUp_0 : bHas cX7_lookUp 0 [28] := bH_c (n := 1) (by decide +kernel)
theorem dX7_lookUp_0 : decode cX7_lookUp 0 = .ok (.iload_n 2, 1) := de28 hX7_lookUp_0 0 rfl rfl
theorem dX7_lookUp_1 : decode cX7_lookUp 1 = .ok (.tableswitch 75 0 4 #[35, 45, 54, 61, 68], 35) := by decide +kernel
theorem hX7_lookUp_36 : bHas cX7_lookUp 36 [42, 180, 0, 28, 180, 0, 49, 27, 46, 172, 42, 180, 0, 28, 27, 182, 0, 52, 172, 42] := bH_c (n := 20) (by decide +kernel)
theorem dX7_lookUp_36 : decode cX7_lookUp 36 = .ok (.aload_n 0, 1) := de42 hX7_lookUp_36 0 rfl rfl
theorem dX7_lookUp_37 : decode cX7_lookUp 37 = .ok (.getfield 28, 3) := de180 hX7_lookUp_36 1 rfl rfl rfl
theorem dX7_lookUp_40 : decode cX7_lookUp 40 = .ok (.getfield 49, 3) := de180 hX7_lookUp_36 4 rfl rfl rfl
theorem dX7_lookUp_43 : decode cX7_lookUp 43 = .ok (.iload_n 1, 1) := de27 hX7_lookUp_36 7 rfl rfl
theorem dX7_lookUp_44 : decode cX7_lookUp 44 = .ok (.iaload, 1) := de46 hX7_lookUp_36 8 rfl rfl
theorem dX7_lookUp_45 : decode cX7_lookUp 45 = .ok (.ireturn, 1) := de172 hX7_lookUp_36 9 rfl rfl
theorem dX7_lookUp_46 : decode cX7_lookUp 46 = .ok (.aload_n 0, 1) := de42 hX7_lookUp_36 10 rfl rfl
theorem dX7_lookUp_47 : decode cX7_lookUp 47 = .ok (.getfield 28, 3) := de180 hX7_lookUp_36 11 rfl rfl rfl
theorem dX7_lookUp_50 : decode cX7_lookUp 50 = .ok (.iload_n 1, 1) := de27 hX7_lookUp_36 14 rfl rfl
theorem dX7_lookUp_51 : decode cX7_lookUp 51 = .ok (.invokevirtual 52, 3) := de182 hX7_lookUp_36 15 rfl rfl rfl
theorem dX7_lookUp_54 : decode cX7_lookUp 54 = .ok (.ireturn, 1) := de172 hX7_lookUp_36 18 rfl rfl
theorem dX7_lookUp_55 : decode cX7_lookUp 55 = .ok (.aload_n 0, 1) := de42 hX7_lookUp_36 19 rfl rfl
theorem hX7_lookUp_56 : bHas cX7_lookUp 56 [180, 0, 9, 27, 46, 172, 42, 180, 0, 15, 27, 46, 172, 42, 180, 0, 18, 27] := bH_c (n := 18) (by decide +kernel)
theorem dX7_lookUp_56 : decode cX7_lookUp 56 = .ok (.getfield 9, 3) := de180 hX7_lookUp_56 0 rfl rfl rfl
theorem dX7_lookUp_59 : decode cX7_lookUp 59 = .ok (.iload_n 1, 1) := de27 hX7_lookUp_56 3 rfl rfl
theorem dX7_lookUp_60 : decode cX7_lookUp 60 = .ok (.iaload, 1) := de46 hX7_lookUp_56 4 rfl rfl
theorem dX7_lookUp_61 : decode cX7_lookUp 61 = .ok (.ireturn, 1) := de172 hX7_lookUp_56 5 rfl rfl
theorem dX7_lookUp_62 : decode cX7_lookUp 62 = .ok (.aload_n 0, 1) := de42 hX7_lookUp_56 6 rfl rfl
theorem dX7_lookUp_63 : decode cX7_lookUp 63 = .ok (.getfield 15, 3) := de180 hX7_lookUp_56 7 rfl rfl rfl
theorem dX7_lookUp_66 : decode cX7_lookUp 66 = .ok (.iload_n 1, 1) := de27 hX7_lookUp_56 10 rfl rfl
theorem dX7_lookUp_67 : decode cX7_lookUp 67 = .ok (.iaload, 1) := de46 hX7_lookUp_56 11 rfl rfl
theorem dX7_lookUp_68 : decode cX7_lookUp 68 = .ok (.ireturn, 1) := de172 hX7_lookUp_56 12 rfl rfl
theorem dX7_lookUp_69 : decode cX7_lookUp 69 = .ok (.aload_n 0, 1) := de42 hX7_lookUp_56 13 rfl rfl
theorem dX7_lookUp_70 : decode cX7_lookUp 70 = .ok (.getfield 18, 3) := de180 hX7_lookUp_56 14 rfl rfl rfl
theorem dX7_lookUp_73 : decode cX7_lookUp 73 = .ok (.iload_n 1, 1) := de27 hX7_lookUp_56 17 rfl rfl
theorem hX7_lookUp_74 : bHas cX7_lookUp 74 [46, 172, 42, 180, 0, 21, 27, 46, 172] := bH_c (n := 9) (by decide +kernel)
theorem dX7_lookUp_74 : decode cX7_lookUp 74 = .ok (.iaload, 1) := de46 hX7_lookUp_74 0 rfl rfl
theorem dX7_lookUp_75 : decode cX7_lookUp 75 = .ok (.ireturn, 1) := de172 hX7_lookUp_74 1 rfl rfl
theorem dX7_lookUp_76 : decode cX7_lookUp 76 = .ok (.aload_n 0, 1) := de42 hX7_lookUp_74 2 rfl rfl
theorem dX7_lookUp_77 : decode cX7_lookUp 77 = .ok (.getfield 21, 3) := de180 hX7_lookUp_74 3 rfl rfl rfl
theorem dX7_lookUp_80 : decode cX7_lookUp 80 = .ok (.iload_n 1, 1) := de27 hX7_lookUp_74 6 rfl rfl
theorem dX7_lookUp_81 : decode cX7_lookUp 81 = .ok (.iaload, 1) := de46 hX7_lookUp_74 7 rfl rfl
theorem dX7_lookUp_82 : decode cX7_lookUp 82 = .ok (.ireturn, 1) := de172 hX7_lookUp_74 8 rfl rfl
theorem hX7_readDay_0 : bHas cX7_readDay 0 [27, 16, 28, 104, 28, 96, 62, 42, 180, 0, 28, 180, 0, 56, 29, 46, 54, 4] := bH_c (n := 18) (by decide +kernel)
theorem dX7_readDay_0 : decode cX7_readDay 0 = .ok (.iload_n 1, 1) := de27 hX7_readDay_0 0 rfl rfl
theorem dX7_readDay_1 : decode cX7_readDay 1 = .ok (.bipush 28, 2) := de16 hX7_readDay_0 1 rfl rfl rfl
theorem dX7_readDay_3 : decode cX7_readDay 3 = .ok (.imul, 1) := de104 hX7_readDay_0 3 rfl rfl
theorem dX7_readDay_4 : decode cX7_readDay 4 = .ok (.iload_n 2, 1) := de28 hX7_readDay_0 4 rfl rfl
theorem dX7_readDay_5 : decode cX7_readDay 5 = .ok (.iadd, 1) := de96 hX7_readDay_0 5 rfl rfl
theorem dX7_readDay_6 : decode cX7_readDay 6 = .ok (.istore_n 3, 1) := de62 hX7_readDay_0 6 rfl rfl
theorem dX7_readDay_7 : decode cX7_readDay 7 = .ok (.aload_n 0, 1) := de42 hX7_readDay_0 7 rfl rfl
theorem dX7_readDay_8 : decode cX7_readDay 8 = .ok (.getfield 28, 3) := de180 hX7_readDay_0 8 rfl rfl rfl
theorem dX7_readDay_11 : decode cX7_readDay 11 = .ok (.getfield 56, 3) := de180 hX7_readDay_0 11 rfl rfl rfl
theorem dX7_readDay_14 : decode cX7_readDay 14 = .ok (.iload_n 3, 1) := de29 hX7_readDay_0 14 rfl rfl
theorem dX7_readDay_15 : decode cX7_readDay 15 = .ok (.iaload, 1) := de46 hX7_readDay_0 15 rfl rfl
theorem dX7_readDay_16 : decode cX7_readDay 16 = .ok (.istore 4, 2) := de54 hX7_readDay_0 16 rfl rfl rfl
theorem hX7_readDay_18 : bHas cX7_readDay 18 [21, 4, 4, 159, 0, 22, 21, 4, 6, 160, 0, 22, 42, 180, 0, 28, 180, 0, 59, 29, 46, 28] := bH_c (n := 22) (by decide +kernel)
theorem dX7_readDay_18 : decode cX7_readDay 18 = .ok (.iload 4, 2) := de21 hX7_readDay_18 0 rfl rfl rfl
theorem dX7_readDay_20 : decode cX7_readDay 20 = .ok (.iconst 1, 1) := de4 hX7_readDay_18 2 rfl rfl
theorem dX7_readDay_21 : decode cX7_readDay 21 = .ok (.if_icmp .eq 22, 3) := de159 hX7_readDay_18 3 rfl rfl (by decide +kernel)
theorem dX7_readDay_24 : decode cX7_readDay 24 = .ok (.iload 4, 2) := de21 hX7_readDay_18 6 rfl rfl rfl
theorem dX7_readDay_26 : decode cX7_readDay 26 = .ok (.iconst 3, 1) := de6 hX7_readDay_18 8 rfl rfl
theorem dX7_readDay_27 : decode cX7_readDay 27 = .ok (.if_icmp .ne 22, 3) := de160 hX7_readDay_18 9 rfl rfl (by decide +kernel)
theorem dX7_readDay_30 : decode cX7_readDay 30 = .ok (.aload_n 0, 1) := de42 hX7_readDay_18 12 rfl rfl
theorem dX7_readDay_31 : decode cX7_readDay 31 = .ok (.getfield 28, 3) := de180 hX7_readDay_18 13 rfl rfl rfl
theorem dX7_readDay_34 : decode cX7_readDay 34 = .ok (.getfield 59, 3) := de180 hX7_readDay_18 16 rfl rfl rfl
theorem dX7_readDay_37 : decode cX7_readDay 37 = .ok (.iload_n 3, 1) := de29 hX7_readDay_18 19 rfl rfl
theorem dX7_readDay_38 : decode cX7_readDay 38 = .ok (.iaload, 1) := de46 hX7_readDay_18 20 rfl rfl
theorem dX7_readDay_39 : decode cX7_readDay 39 = .ok (.iload_n 2, 1) := de28 hX7_readDay_18 21 rfl rfl
theorem hX7_readDay_40 : bHas cX7_readDay 40 [159, 0, 9, 2, 54, 5, 167, 0, 61, 28, 4, 96, 16, 28, 162, 0, 33, 42, 180, 0, 28, 180, 0, 56] := bH_c (n := 24) (by decide +kernel)
theorem dX7_readDay_40 : decode cX7_readDay 40 = .ok (.if_icmp .eq 9, 3) := de159 hX7_readDay_40 0 rfl rfl (by decide +kernel)
theorem dX7_readDay_43 : decode cX7_readDay 43 = .ok (.iconst (-1), 1) := de2 hX7_readDay_40 3 rfl rfl
theorem dX7_readDay_44 : decode cX7_readDay 44 = .ok (.istore 5, 2) := de54 hX7_readDay_40 4 rfl rfl rfl
theorem dX7_readDay_46 : decode cX7_readDay 46 = .ok (.goto 61, 3) := de167 hX7_readDay_40 6 rfl rfl (by decide +kernel)
theorem dX7_readDay_49 : decode cX7_readDay 49 = .ok (.iload_n 2, 1) := de28 hX7_readDay_40 9 rfl rfl
theorem dX7_readDay_50 : decode cX7_readDay 50 = .ok (.iconst 1, 1) := de4 hX7_readDay_40 10 rfl rfl
theorem dX7_readDay_51 : decode cX7_readDay 51 = .ok (.iadd, 1) := de96 hX7_readDay_40 11 rfl rfl
theorem dX7_readDay_52 : decode cX7_readDay 52 = .ok (.bipush 28, 2) := de16 hX7_readDay_40 12 rfl rfl rfl
theorem dX7_readDay_54 : decode cX7_readDay 54 = .ok (.if_icmp .ge 33, 3) := de162 hX7_readDay_40 14 rfl rfl (by decide +kernel)
theorem dX7_readDay_57 : decode cX7_readDay 57 = .ok (.aload_n 0, 1) := de42 hX7_readDay_40 17 rfl rfl
theorem dX7_readDay_58 : decode cX7_readDay 58 = .ok (.getfield 28, 3) := de180 hX7_readDay_40 18 rfl rfl rfl
theorem dX7_readDay_61 : decode cX7_readDay 61 = .ok (.getfield 56, 3) := de180 hX7_readDay_40 21 rfl rfl rfl
theorem hX7_readDay_64 : bHas cX7_readDay 64 [29, 4, 96, 46, 5, 160, 0, 18, 42, 180, 0, 28, 29, 4, 96, 182, 0, 52] := bH_c (n := 18) (by decide +kernel)
theorem dX7_readDay_64 : decode cX7_readDay 64 = .ok (.iload_n 3, 1) := de29 hX7_readDay_64 0 rfl rfl
theorem dX7_readDay_65 : decode cX7_readDay 65 = .ok (.iconst 1, 1) := de4 hX7_readDay_64 1 rfl rfl
theorem dX7_readDay_66 : decode cX7_readDay 66 = .ok (.iadd, 1) := de96 hX7_readDay_64 2 rfl rfl
theorem dX7_readDay_67 : decode cX7_readDay 67 = .ok (.iaload, 1) := de46 hX7_readDay_64 3 rfl rfl
theorem dX7_readDay_68 : decode cX7_readDay 68 = .ok (.iconst 2, 1) := de5 hX7_readDay_64 4 rfl rfl
theorem dX7_readDay_69 : decode cX7_readDay 69 = .ok (.if_icmp .ne 18, 3) := de160 hX7_readDay_64 5 rfl rfl (by decide +kernel)
theorem dX7_readDay_72 : decode cX7_readDay 72 = .ok (.aload_n 0, 1) := de42 hX7_readDay_64 8 rfl rfl
theorem dX7_readDay_73 : decode cX7_readDay 73 = .ok (.getfield 28, 3) := de180 hX7_readDay_64 9 rfl rfl rfl
theorem dX7_readDay_76 : decode cX7_readDay 76 = .ok (.iload_n 3, 1) := de29 hX7_readDay_64 12 rfl rfl
theorem dX7_readDay_77 : decode cX7_readDay 77 = .ok (.iconst 1, 1) := de4 hX7_readDay_64 13 rfl rfl
theorem dX7_readDay_78 : decode cX7_readDay 78 = .ok (.iadd, 1) := de96 hX7_readDay_64 14 rfl rfl
theorem dX7_readDay_79 : decode cX7_readDay 79 = .ok (.invokevirtual 52, 3) := de182 hX7_readDay_64 15 rfl rfl rfl
theorem hX7_readDay_82 : bHas cX7_readDay 82 [54, 5, 167, 0, 23, 21, 4, 5, 160, 0, 7, 2, 167, 0, 11, 42, 180, 0, 28, 29, 182, 0, 52, 54, 5] := bH_c (n := 25) (by decide +kernel)
theorem dX7_readDay_82 : decode cX7_readDay 82 = .ok (.istore 5, 2) := de54 hX7_readDay_82 0 rfl rfl rfl
theorem dX7_readDay_84 : decode cX7_readDay 84 = .ok (.goto 23, 3) := de167 hX7_readDay_82 2 rfl rfl (by decide +kernel)
theorem dX7_readDay_87 : decode cX7_readDay 87 = .ok (.iload 4, 2) := de21 hX7_readDay_82 5 rfl rfl rfl
theorem dX7_readDay_89 : decode cX7_readDay 89 = .ok (.iconst 2, 1) := de5 hX7_readDay_82 7 rfl rfl
theorem dX7_readDay_90 : decode cX7_readDay 90 = .ok (.if_icmp .ne 7, 3) := de160 hX7_readDay_82 8 rfl rfl (by decide +kernel)
theorem dX7_readDay_93 : decode cX7_readDay 93 = .ok (.iconst (-1), 1) := de2 hX7_readDay_82 11 rfl rfl
theorem dX7_readDay_94 : decode cX7_readDay 94 = .ok (.goto 11, 3) := de167 hX7_readDay_82 12 rfl rfl (by decide +kernel)
theorem dX7_readDay_97 : decode cX7_readDay 97 = .ok (.aload_n 0, 1) := de42 hX7_readDay_82 15 rfl rfl
theorem dX7_readDay_98 : decode cX7_readDay 98 = .ok (.getfield 28, 3) := de180 hX7_readDay_82 16 rfl rfl rfl
theorem dX7_readDay_101 : decode cX7_readDay 101 = .ok (.iload_n 3, 1) := de29 hX7_readDay_82 19 rfl rfl
theorem dX7_readDay_102 : decode cX7_readDay 102 = .ok (.invokevirtual 52, 3) := de182 hX7_readDay_82 20 rfl rfl rfl
theorem dX7_readDay_105 : decode cX7_readDay 105 = .ok (.istore 5, 2) := de54 hX7_readDay_82 23 rfl rfl rfl
theorem hX7_readDay_107 : bHas cX7_readDay 107 [42, 180, 0, 9, 29, 21, 5, 79, 42, 180, 0, 15, 29, 21, 5, 2, 159, 0, 9, 21, 4] := bH_c (n := 21) (by decide +kernel)
theorem dX7_readDay_107 : decode cX7_readDay 107 = .ok (.aload_n 0, 1) := de42 hX7_readDay_107 0 rfl rfl
theorem dX7_readDay_108 : decode cX7_readDay 108 = .ok (.getfield 9, 3) := de180 hX7_readDay_107 1 rfl rfl rfl
theorem dX7_readDay_111 : decode cX7_readDay 111 = .ok (.iload_n 3, 1) := de29 hX7_readDay_107 4 rfl rfl
theorem dX7_readDay_112 : decode cX7_readDay 112 = .ok (.iload 5, 2) := de21 hX7_readDay_107 5 rfl rfl rfl
theorem dX7_readDay_114 : decode cX7_readDay 114 = .ok (.iastore, 1) := de79 hX7_readDay_107 7 rfl rfl
theorem dX7_readDay_115 : decode cX7_readDay 115 = .ok (.aload_n 0, 1) := de42 hX7_readDay_107 8 rfl rfl
theorem dX7_readDay_116 : decode cX7_readDay 116 = .ok (.getfield 15, 3) := de180 hX7_readDay_107 9 rfl rfl rfl
theorem dX7_readDay_119 : decode cX7_readDay 119 = .ok (.iload_n 3, 1) := de29 hX7_readDay_107 12 rfl rfl
theorem dX7_readDay_120 : decode cX7_readDay 120 = .ok (.iload 5, 2) := de21 hX7_readDay_107 13 rfl rfl rfl
theorem dX7_readDay_122 : decode cX7_readDay 122 = .ok (.iconst (-1), 1) := de2 hX7_readDay_107 15 rfl rfl
theorem dX7_readDay_123 : decode cX7_readDay 123 = .ok (.if_icmp .eq 9, 3) := de159 hX7_readDay_107 16 rfl rfl (by decide +kernel)
theorem dX7_readDay_126 : decode cX7_readDay 126 = .ok (.iload 4, 2) := de21 hX7_readDay_107 19 rfl rfl rfl
theorem hX7_readDay_128 : bHas cX7_readDay 128 [6, 160, 0, 7, 2, 167, 0, 11, 42, 27, 28, 21, 5, 182, 0, 62, 79, 177] := bH_c (n := 18) (by decide +kernel)
theorem dX7_readDay_128 : decode cX7_readDay 128 = .ok (.iconst 3, 1) := de6 hX7_readDay_128 0 rfl rfl
theorem dX7_readDay_129 : decode cX7_readDay 129 = .ok (.if_icmp .ne 7, 3) := de160 hX7_readDay_128 1 rfl rfl (by decide +kernel)
theorem dX7_readDay_132 : decode cX7_readDay 132 = .ok (.iconst (-1), 1) := de2 hX7_readDay_128 4 rfl rfl
theorem dX7_readDay_133 : decode cX7_readDay 133 = .ok (.goto 11, 3) := de167 hX7_readDay_128 5 rfl rfl (by decide +kernel)
theorem dX7_readDay_136 : decode cX7_readDay 136 = .ok (.aload_n 0, 1) := de42 hX7_readDay_128 8 rfl rfl
theorem dX7_readDay_137 : decode cX7_readDay 137 = .ok (.iload_n 1, 1) := de27 hX7_readDay_128 9 rfl rfl
theorem dX7_readDay_138 : decode cX7_readDay 138 = .ok (.iload_n 2, 1) := de28 hX7_readDay_128 10 rfl rfl
theorem dX7_readDay_139 : decode cX7_readDay 139 = .ok (.iload 5, 2) := de21 hX7_readDay_128 11 rfl rfl rfl
theorem dX7_readDay_141 : decode cX7_readDay 141 = .ok (.invokevirtual 62, 3) := de182 hX7_readDay_128 13 rfl rfl rfl
theorem dX7_readDay_144 : decode cX7_readDay 144 = .ok (.iastore, 1) := de79 hX7_readDay_128 16 rfl rfl
theorem dX7_readDay_145 : decode cX7_readDay 145 = .ok (.return_, 1) := de177 hX7_readDay_128 17 rfl rfl
theorem hX7_fallen_0 : bHas cX7_fallen 0 [16, 10, 42, 180, 0, 28, 180, 0, 66, 27, 6, 104, 42, 180, 0, 28, 180, 0, 69, 28, 46] := bH_c (n := 21) (by decide +kernel)
theorem dX7_fallen_0 : decode cX7_fallen 0 = .ok (.bipush 10, 2) := de16 hX7_fallen_0 0 rfl rfl rfl
theorem dX7_fallen_2 : decode cX7_fallen 2 = .ok (.aload_n 0, 1) := de42 hX7_fallen_0 2 rfl rfl
theorem dX7_fallen_3 : decode cX7_fallen 3 = .ok (.getfield 28, 3) := de180 hX7_fallen_0 3 rfl rfl rfl
theorem dX7_fallen_6 : decode cX7_fallen 6 = .ok (.getfield 66, 3) := de180 hX7_fallen_0 6 rfl rfl rfl
theorem dX7_fallen_9 : decode cX7_fallen 9 = .ok (.iload_n 1, 1) := de27 hX7_fallen_0 9 rfl rfl
theorem dX7_fallen_10 : decode cX7_fallen 10 = .ok (.iconst 3, 1) := de6 hX7_fallen_0 10 rfl rfl
theorem dX7_fallen_11 : decode cX7_fallen 11 = .ok (.imul, 1) := de104 hX7_fallen_0 11 rfl rfl
theorem dX7_fallen_12 : decode cX7_fallen 12 = .ok (.aload_n 0, 1) := de42 hX7_fallen_0 12 rfl rfl
theorem dX7_fallen_13 : decode cX7_fallen 13 = .ok (.getfield 28, 3) := de180 hX7_fallen_0 13 rfl rfl rfl
theorem dX7_fallen_16 : decode cX7_fallen 16 = .ok (.getfield 69, 3) := de180 hX7_fallen_0 16 rfl rfl rfl
theorem dX7_fallen_19 : decode cX7_fallen 19 = .ok (.iload_n 2, 1) := de28 hX7_fallen_0 19 rfl rfl
theorem dX7_fallen_20 : decode cX7_fallen 20 = .ok (.iaload, 1) := de46 hX7_fallen_0 20 rfl rfl
theorem hX7_fallen_21 : bHas cX7_fallen 21 [96, 46, 100, 54, 4, 21, 4, 154, 0, 7, 2, 167, 0, 10, 29, 16, 10, 104, 21, 4] := bH_c (n := 20) (by decide +kernel)
theorem dX7_fallen_21 : decode cX7_fallen 21 = .ok (.iadd, 1) := de96 hX7_fallen_21 0 rfl rfl
theorem dX7_fallen_22 : decode cX7_fallen 22 = .ok (.iaload, 1) := de46 hX7_fallen_21 1 rfl rfl
theorem dX7_fallen_23 : decode cX7_fallen 23 = .ok (.isub, 1) := de100 hX7_fallen_21 2 rfl rfl
theorem dX7_fallen_24 : decode cX7_fallen 24 = .ok (.istore 4, 2) := de54 hX7_fallen_21 3 rfl rfl rfl
theorem dX7_fallen_26 : decode cX7_fallen 26 = .ok (.iload 4, 2) := de21 hX7_fallen_21 5 rfl rfl rfl
theorem dX7_fallen_28 : decode cX7_fallen 28 = .ok (.ifCond .ne 7, 3) := de154 hX7_fallen_21 7 rfl rfl (by decide +kernel)
theorem dX7_fallen_31 : decode cX7_fallen 31 = .ok (.iconst (-1), 1) := de2 hX7_fallen_21 10 rfl rfl
theorem dX7_fallen_32 : decode cX7_fallen 32 = .ok (.goto 10, 3) := de167 hX7_fallen_21 11 rfl rfl (by decide +kernel)
theorem dX7_fallen_35 : decode cX7_fallen 35 = .ok (.iload_n 3, 1) := de29 hX7_fallen_21 14 rfl rfl
theorem dX7_fallen_36 : decode cX7_fallen 36 = .ok (.bipush 10, 2) := de16 hX7_fallen_21 15 rfl rfl rfl
theorem dX7_fallen_38 : decode cX7_fallen 38 = .ok (.imul, 1) := de104 hX7_fallen_21 17 rfl rfl
theorem dX7_fallen_39 : decode cX7_fallen 39 = .ok (.iload 4, 2) := de21 hX7_fallen_21 18 rfl rfl rfl
theorem hX7_fallen_41 : bHas cX7_fallen 41 [108, 172] := bH_c (n := 2) (by decide +kernel)
theorem dX7_fallen_41 : decode cX7_fallen 41 = .ok (.idiv, 1) := de108 hX7_fallen_41 0 rfl rfl
theorem dX7_fallen_42 : decode cX7_fallen 42 = .ok (.ireturn, 1) := de172 hX7_fallen_41 1 rfl rfl
theorem hX7_expectDays_0 : bHas cX7_expectDays 0 [27, 16, 28, 104, 61, 3, 62, 29, 16, 28, 162, 0, 98, 3, 54, 4, 3] := bH_c (n := 17) (by decide +kernel)
theorem dX7_expectDays_0 : decode cX7_expectDays 0 = .ok (.iload_n 1, 1) := de27 hX7_expectDays_0 0 rfl rfl
theorem dX7_expectDays_1 : decode cX7_expectDays 1 = .ok (.bipush 28, 2) := de16 hX7_expectDays_0 1 rfl rfl rfl
theorem dX7_expectDays_3 : decode cX7_expectDays 3 = .ok (.imul, 1) := de104 hX7_expectDays_0 3 rfl rfl
theorem dX7_expectDays_4 : decode cX7_expectDays 4 = .ok (.istore_n 2, 1) := de61 hX7_expectDays_0 4 rfl rfl
theorem dX7_expectDays_5 : decode cX7_expectDays 5 = .ok (.iconst 0, 1) := de3 hX7_expectDays_0 5 rfl rfl
theorem dX7_expectDays_6 : decode cX7_expectDays 6 = .ok (.istore_n 3, 1) := de62 hX7_expectDays_0 6 rfl rfl
theorem dX7_expectDays_7 : decode cX7_expectDays 7 = .ok (.iload_n 3, 1) := de29 hX7_expectDays_0 7 rfl rfl
theorem dX7_expectDays_8 : decode cX7_expectDays 8 = .ok (.bipush 28, 2) := de16 hX7_expectDays_0 8 rfl rfl rfl
theorem dX7_expectDays_10 : decode cX7_expectDays 10 = .ok (.if_icmp .ge 98, 3) := de162 hX7_expectDays_0 10 rfl rfl (by decide +kernel)
theorem dX7_expectDays_13 : decode cX7_expectDays 13 = .ok (.iconst 0, 1) := de3 hX7_expectDays_0 13 rfl rfl
theorem dX7_expectDays_14 : decode cX7_expectDays 14 = .ok (.istore 4, 2) := de54 hX7_expectDays_0 14 rfl rfl rfl
theorem dX7_expectDays_16 : decode cX7_expectDays 16 = .ok (.iconst 0, 1) := de3 hX7_expectDays_0 16 rfl rfl
theorem hX7_expectDays_17 : bHas cX7_expectDays 17 [54, 5, 3, 54, 6, 21, 6, 42, 180, 0, 28, 180, 0, 32, 162, 0, 49, 42, 180, 0, 15, 21, 6, 16, 28] := bH_c (n := 25) (by decide +kernel)
theorem dX7_expectDays_17 : decode cX7_expectDays 17 = .ok (.istore 5, 2) := de54 hX7_expectDays_17 0 rfl rfl rfl
theorem dX7_expectDays_19 : decode cX7_expectDays 19 = .ok (.iconst 0, 1) := de3 hX7_expectDays_17 2 rfl rfl
theorem dX7_expectDays_20 : decode cX7_expectDays 20 = .ok (.istore 6, 2) := de54 hX7_expectDays_17 3 rfl rfl rfl
theorem dX7_expectDays_22 : decode cX7_expectDays 22 = .ok (.iload 6, 2) := de21 hX7_expectDays_17 5 rfl rfl rfl
theorem dX7_expectDays_24 : decode cX7_expectDays 24 = .ok (.aload_n 0, 1) := de42 hX7_expectDays_17 7 rfl rfl
theorem dX7_expectDays_25 : decode cX7_expectDays 25 = .ok (.getfield 28, 3) := de180 hX7_expectDays_17 8 rfl rfl rfl
theorem dX7_expectDays_28 : decode cX7_expectDays 28 = .ok (.getfield 32, 3) := de180 hX7_expectDays_17 11 rfl rfl rfl
theorem dX7_expectDays_31 : decode cX7_expectDays 31 = .ok (.if_icmp .ge 49, 3) := de162 hX7_expectDays_17 14 rfl rfl (by decide +kernel)
theorem dX7_expectDays_34 : decode cX7_expectDays 34 = .ok (.aload_n 0, 1) := de42 hX7_expectDays_17 17 rfl rfl
theorem dX7_expectDays_35 : decode cX7_expectDays 35 = .ok (.getfield 15, 3) := de180 hX7_expectDays_17 18 rfl rfl rfl
theorem dX7_expectDays_38 : decode cX7_expectDays 38 = .ok (.iload 6, 2) := de21 hX7_expectDays_17 21 rfl rfl rfl
theorem dX7_expectDays_40 : decode cX7_expectDays 40 = .ok (.bipush 28, 2) := de16 hX7_expectDays_17 23 rfl rfl rfl
theorem hX7_expectDays_42 : bHas cX7_expectDays 42 [104, 29, 96, 46, 54, 7, 21, 7, 2, 159, 0, 23, 42, 27, 21, 6, 182, 0, 72] := bH_c (n := 19) (by decide +kernel)
theorem dX7_expectDays_42 : decode cX7_expectDays 42 = .ok (.imul, 1) := de104 hX7_expectDays_42 0 rfl rfl
theorem dX7_expectDays_43 : decode cX7_expectDays 43 = .ok (.iload_n 3, 1) := de29 hX7_expectDays_42 1 rfl rfl
theorem dX7_expectDays_44 : decode cX7_expectDays 44 = .ok (.iadd, 1) := de96 hX7_expectDays_42 2 rfl rfl
theorem dX7_expectDays_45 : decode cX7_expectDays 45 = .ok (.iaload, 1) := de46 hX7_expectDays_42 3 rfl rfl
theorem dX7_expectDays_46 : decode cX7_expectDays 46 = .ok (.istore 7, 2) := de54 hX7_expectDays_42 4 rfl rfl rfl
theorem dX7_expectDays_48 : decode cX7_expectDays 48 = .ok (.iload 7, 2) := de21 hX7_expectDays_42 6 rfl rfl rfl
theorem dX7_expectDays_50 : decode cX7_expectDays 50 = .ok (.iconst (-1), 1) := de2 hX7_expectDays_42 8 rfl rfl
theorem dX7_expectDays_51 : decode cX7_expectDays 51 = .ok (.if_icmp .eq 23, 3) := de159 hX7_expectDays_42 9 rfl rfl (by decide +kernel)
theorem dX7_expectDays_54 : decode cX7_expectDays 54 = .ok (.aload_n 0, 1) := de42 hX7_expectDays_42 12 rfl rfl
theorem dX7_expectDays_55 : decode cX7_expectDays 55 = .ok (.iload_n 1, 1) := de27 hX7_expectDays_42 13 rfl rfl
theorem dX7_expectDays_56 : decode cX7_expectDays 56 = .ok (.iload 6, 2) := de21 hX7_expectDays_42 14 rfl rfl rfl
theorem dX7_expectDays_58 : decode cX7_expectDays 58 = .ok (.invokevirtual 72, 3) := de182 hX7_expectDays_42 16 rfl rfl rfl
theorem hX7_expectDays_61 : bHas cX7_expectDays 61 [153, 0, 13, 21, 4, 21, 7, 96, 54, 4, 132, 5, 1, 132, 6, 1, 167, 255, 201, 42, 180, 0, 18, 28, 29] := bH_c (n := 25) (by decide +kernel)
theorem dX7_expectDays_61 : decode cX7_expectDays 61 = .ok (.ifCond .eq 13, 3) := de153 hX7_expectDays_61 0 rfl rfl (by decide +kernel)
theorem dX7_expectDays_64 : decode cX7_expectDays 64 = .ok (.iload 4, 2) := de21 hX7_expectDays_61 3 rfl rfl rfl
theorem dX7_expectDays_66 : decode cX7_expectDays 66 = .ok (.iload 7, 2) := de21 hX7_expectDays_61 5 rfl rfl rfl
theorem dX7_expectDays_68 : decode cX7_expectDays 68 = .ok (.iadd, 1) := de96 hX7_expectDays_61 7 rfl rfl
theorem dX7_expectDays_69 : decode cX7_expectDays 69 = .ok (.istore 4, 2) := de54 hX7_expectDays_61 8 rfl rfl rfl
theorem dX7_expectDays_71 : decode cX7_expectDays 71 = .ok (.iinc 5 1, 3) := de132 hX7_expectDays_61 10 rfl rfl rfl rfl
theorem dX7_expectDays_74 : decode cX7_expectDays 74 = .ok (.iinc 6 1, 3) := de132 hX7_expectDays_61 13 rfl rfl rfl rfl
theorem dX7_expectDays_77 : decode cX7_expectDays 77 = .ok (.goto (-55), 3) := de167 hX7_expectDays_61 16 rfl rfl (by decide +kernel)
theorem dX7_expectDays_80 : decode cX7_expectDays 80 = .ok (.aload_n 0, 1) := de42 hX7_expectDays_61 19 rfl rfl
theorem dX7_expectDays_81 : decode cX7_expectDays 81 = .ok (.getfield 18, 3) := de180 hX7_expectDays_61 20 rfl rfl rfl
theorem dX7_expectDays_84 : decode cX7_expectDays 84 = .ok (.iload_n 2, 1) := de28 hX7_expectDays_61 23 rfl rfl
theorem dX7_expectDays_85 : decode cX7_expectDays 85 = .ok (.iload_n 3, 1) := de29 hX7_expectDays_61 24 rfl rfl
theorem hX7_expectDays_86 : bHas cX7_expectDays 86 [96, 21, 5, 154, 0, 7, 2, 167, 0, 8, 21, 4, 21, 5, 108, 79, 132, 3, 1, 167, 255, 158, 177] := bH_c (n := 23) (by decide +kernel)
theorem dX7_expectDays_86 : decode cX7_expectDays 86 = .ok (.iadd, 1) := de96 hX7_expectDays_86 0 rfl rfl
theorem dX7_expectDays_87 : decode cX7_expectDays 87 = .ok (.iload 5, 2) := de21 hX7_expectDays_86 1 rfl rfl rfl
theorem dX7_expectDays_89 : decode cX7_expectDays 89 = .ok (.ifCond .ne 7, 3) := de154 hX7_expectDays_86 3 rfl rfl (by decide +kernel)
theorem dX7_expectDays_92 : decode cX7_expectDays 92 = .ok (.iconst (-1), 1) := de2 hX7_expectDays_86 6 rfl rfl
theorem dX7_expectDays_93 : decode cX7_expectDays 93 = .ok (.goto 8, 3) := de167 hX7_expectDays_86 7 rfl rfl (by decide +kernel)
theorem dX7_expectDays_96 : decode cX7_expectDays 96 = .ok (.iload 4, 2) := de21 hX7_expectDays_86 10 rfl rfl rfl
theorem dX7_expectDays_98 : decode cX7_expectDays 98 = .ok (.iload 5, 2) := de21 hX7_expectDays_86 12 rfl rfl rfl
theorem dX7_expectDays_100 : decode cX7_expectDays 100 = .ok (.idiv, 1) := de108 hX7_expectDays_86 14 rfl rfl
theorem dX7_expectDays_101 : decode cX7_expectDays 101 = .ok (.iastore, 1) := de79 hX7_expectDays_86 15 rfl rfl
theorem dX7_expectDays_102 : decode cX7_expectDays 102 = .ok (.iinc 3 1, 3) := de132 hX7_expectDays_86 16 rfl rfl rfl rfl
theorem dX7_expectDays_105 : decode cX7_expectDays 105 = .ok (.goto (-98), 3) := de167 hX7_expectDays_86 19 rfl rfl (by decide +kernel)
theorem dX7_expectDays_108 : decode cX7_expectDays 108 = .ok (.return_, 1) := de177 hX7_expectDays_86 22 rfl rfl
theorem hX7_isNeighbour_0 : bHas cX7_isNeighbour 0 [27, 28, 159, 0, 58, 42, 180, 0, 28, 180, 0, 76, 27, 46, 42, 180, 0, 28, 180, 0, 79, 27] := bH_c (n := 22) (by decide +kernel)
theorem dX7_isNeighbour_0 : decode cX7_isNeighbour 0 = .ok (.iload_n 1, 1) := de27 hX7_isNeighbour_0 0 rfl rfl
theorem dX7_isNeighbour_1 : decode cX7_isNeighbour 1 = .ok (.iload_n 2, 1) := de28 hX7_isNeighbour_0 1 rfl rfl
theorem dX7_isNeighbour_2 : decode cX7_isNeighbour 2 = .ok (.if_icmp .eq 58, 3) := de159 hX7_isNeighbour_0 2 rfl rfl (by decide +kernel)
theorem dX7_isNeighbour_5 : decode cX7_isNeighbour 5 = .ok (.aload_n 0, 1) := de42 hX7_isNeighbour_0 5 rfl rfl
theorem dX7_isNeighbour_6 : decode cX7_isNeighbour 6 = .ok (.getfield 28, 3) := de180 hX7_isNeighbour_0 6 rfl rfl rfl
theorem dX7_isNeighbour_9 : decode cX7_isNeighbour 9 = .ok (.getfield 76, 3) := de180 hX7_isNeighbour_0 9 rfl rfl rfl
theorem dX7_isNeighbour_12 : decode cX7_isNeighbour 12 = .ok (.iload_n 1, 1) := de27 hX7_isNeighbour_0 12 rfl rfl
theorem dX7_isNeighbour_13 : decode cX7_isNeighbour 13 = .ok (.iaload, 1) := de46 hX7_isNeighbour_0 13 rfl rfl
theorem dX7_isNeighbour_14 : decode cX7_isNeighbour 14 = .ok (.aload_n 0, 1) := de42 hX7_isNeighbour_0 14 rfl rfl
theorem dX7_isNeighbour_15 : decode cX7_isNeighbour 15 = .ok (.getfield 28, 3) := de180 hX7_isNeighbour_0 15 rfl rfl rfl
theorem dX7_isNeighbour_18 : decode cX7_isNeighbour 18 = .ok (.getfield 79, 3) := de180 hX7_isNeighbour_0 18 rfl rfl rfl
theorem dX7_isNeighbour_21 : decode cX7_isNeighbour 21 = .ok (.iload_n 1, 1) := de27 hX7_isNeighbour_0 21 rfl rfl
theorem hX7_isNeighbour_22 : bHas cX7_isNeighbour 22 [46, 42, 180, 0, 28, 180, 0, 76, 28, 46, 42, 180, 0, 28, 180, 0, 79, 28, 46, 184, 0, 82] := bH_c (n := 22) (by decide +kernel)
theorem dX7_isNeighbour_22 : decode cX7_isNeighbour 22 = .ok (.iaload, 1) := de46 hX7_isNeighbour_22 0 rfl rfl
theorem dX7_isNeighbour_23 : decode cX7_isNeighbour 23 = .ok (.aload_n 0, 1) := de42 hX7_isNeighbour_22 1 rfl rfl
theorem dX7_isNeighbour_24 : decode cX7_isNeighbour 24 = .ok (.getfield 28, 3) := de180 hX7_isNeighbour_22 2 rfl rfl rfl
theorem dX7_isNeighbour_27 : decode cX7_isNeighbour 27 = .ok (.getfield 76, 3) := de180 hX7_isNeighbour_22 5 rfl rfl rfl
theorem dX7_isNeighbour_30 : decode cX7_isNeighbour 30 = .ok (.iload_n 2, 1) := de28 hX7_isNeighbour_22 8 rfl rfl
theorem dX7_isNeighbour_31 : decode cX7_isNeighbour 31 = .ok (.iaload, 1) := de46 hX7_isNeighbour_22 9 rfl rfl
theorem dX7_isNeighbour_32 : decode cX7_isNeighbour 32 = .ok (.aload_n 0, 1) := de42 hX7_isNeighbour_22 10 rfl rfl
theorem dX7_isNeighbour_33 : decode cX7_isNeighbour 33 = .ok (.getfield 28, 3) := de180 hX7_isNeighbour_22 11 rfl rfl rfl
theorem dX7_isNeighbour_36 : decode cX7_isNeighbour 36 = .ok (.getfield 79, 3) := de180 hX7_isNeighbour_22 14 rfl rfl rfl
theorem dX7_isNeighbour_39 : decode cX7_isNeighbour 39 = .ok (.iload_n 2, 1) := de28 hX7_isNeighbour_22 17 rfl rfl
theorem dX7_isNeighbour_40 : decode cX7_isNeighbour 40 = .ok (.iaload, 1) := de46 hX7_isNeighbour_22 18 rfl rfl
theorem dX7_isNeighbour_41 : decode cX7_isNeighbour 41 = .ok (.invokestatic 82, 3) := de184 hX7_isNeighbour_22 19 rfl rfl rfl
theorem hX7_isNeighbour_44 : bHas cX7_isNeighbour 44 [42, 180, 0, 28, 180, 0, 86, 3, 46, 163, 0, 7, 4, 167, 0, 4, 3, 172] := bH_c (n := 18) (by decide +kernel)
theorem dX7_isNeighbour_44 : decode cX7_isNeighbour 44 = .ok (.aload_n 0, 1) := de42 hX7_isNeighbour_44 0 rfl rfl
theorem dX7_isNeighbour_45 : decode cX7_isNeighbour 45 = .ok (.getfield 28, 3) := de180 hX7_isNeighbour_44 1 rfl rfl rfl
theorem dX7_isNeighbour_48 : decode cX7_isNeighbour 48 = .ok (.getfield 86, 3) := de180 hX7_isNeighbour_44 4 rfl rfl rfl
theorem dX7_isNeighbour_51 : decode cX7_isNeighbour 51 = .ok (.iconst 0, 1) := de3 hX7_isNeighbour_44 7 rfl rfl
theorem dX7_isNeighbour_52 : decode cX7_isNeighbour 52 = .ok (.iaload, 1) := de46 hX7_isNeighbour_44 8 rfl rfl
theorem dX7_isNeighbour_53 : decode cX7_isNeighbour 53 = .ok (.if_icmp .gt 7, 3) := de163 hX7_isNeighbour_44 9 rfl rfl (by decide +kernel)
theorem dX7_isNeighbour_56 : decode cX7_isNeighbour 56 = .ok (.iconst 1, 1) := de4 hX7_isNeighbour_44 12 rfl rfl
theorem dX7_isNeighbour_57 : decode cX7_isNeighbour 57 = .ok (.goto 4, 3) := de167 hX7_isNeighbour_44 13 rfl rfl (by decide +kernel)
theorem dX7_isNeighbour_60 : decode cX7_isNeighbour 60 = .ok (.iconst 0, 1) := de3 hX7_isNeighbour_44 16 rfl rfl
theorem dX7_isNeighbour_61 : decode cX7_isNeighbour 61 = .ok (.ireturn, 1) := de172 hX7_isNeighbour_44 17 rfl rfl
theorem hX7_valueDays_0 : bHas cX7_valueDays 0 [27, 16, 28, 104, 61, 3, 62, 29, 16, 28, 162, 0, 109, 28, 29, 96] := bH_c (n := 16) (by decide +kernel)
theorem dX7_valueDays_0 : decode cX7_valueDays 0 = .ok (.iload_n 1, 1) := de27 hX7_valueDays_0 0 rfl rfl
theorem dX7_valueDays_1 : decode cX7_valueDays 1 = .ok (.bipush 28, 2) := de16 hX7_valueDays_0 1 rfl rfl rfl
theorem dX7_valueDays_3 : decode cX7_valueDays 3 = .ok (.imul, 1) := de104 hX7_valueDays_0 3 rfl rfl
theorem dX7_valueDays_4 : decode cX7_valueDays 4 = .ok (.istore_n 2, 1) := de61 hX7_valueDays_0 4 rfl rfl
theorem dX7_valueDays_5 : decode cX7_valueDays 5 = .ok (.iconst 0, 1) := de3 hX7_valueDays_0 5 rfl rfl
theorem dX7_valueDays_6 : decode cX7_valueDays 6 = .ok (.istore_n 3, 1) := de62 hX7_valueDays_0 6 rfl rfl
theorem dX7_valueDays_7 : decode cX7_valueDays 7 = .ok (.iload_n 3, 1) := de29 hX7_valueDays_0 7 rfl rfl
theorem dX7_valueDays_8 : decode cX7_valueDays 8 = .ok (.bipush 28, 2) := de16 hX7_valueDays_0 8 rfl rfl rfl
theorem dX7_valueDays_10 : decode cX7_valueDays 10 = .ok (.if_icmp .ge 109, 3) := de162 hX7_valueDays_0 10 rfl rfl (by decide +kernel)
theorem dX7_valueDays_13 : decode cX7_valueDays 13 = .ok (.iload_n 2, 1) := de28 hX7_valueDays_0 13 rfl rfl
theorem dX7_valueDays_14 : decode cX7_valueDays 14 = .ok (.iload_n 3, 1) := de29 hX7_valueDays_0 14 rfl rfl
theorem dX7_valueDays_15 : decode cX7_valueDays 15 = .ok (.iadd, 1) := de96 hX7_valueDays_0 15 rfl rfl
theorem hX7_valueDays_16 : bHas cX7_valueDays 16 [54, 4, 42, 180, 0, 21, 21, 4, 42, 180, 0, 15, 21, 4, 46, 79, 42, 180, 0, 28, 180, 0, 56] := bH_c (n := 23) (by decide +kernel)
theorem dX7_valueDays_16 : decode cX7_valueDays 16 = .ok (.istore 4, 2) := de54 hX7_valueDays_16 0 rfl rfl rfl
theorem dX7_valueDays_18 : decode cX7_valueDays 18 = .ok (.aload_n 0, 1) := de42 hX7_valueDays_16 2 rfl rfl
theorem dX7_valueDays_19 : decode cX7_valueDays 19 = .ok (.getfield 21, 3) := de180 hX7_valueDays_16 3 rfl rfl rfl
theorem dX7_valueDays_22 : decode cX7_valueDays 22 = .ok (.iload 4, 2) := de21 hX7_valueDays_16 6 rfl rfl rfl
theorem dX7_valueDays_24 : decode cX7_valueDays 24 = .ok (.aload_n 0, 1) := de42 hX7_valueDays_16 8 rfl rfl
theorem dX7_valueDays_25 : decode cX7_valueDays 25 = .ok (.getfield 15, 3) := de180 hX7_valueDays_16 9 rfl rfl rfl
theorem dX7_valueDays_28 : decode cX7_valueDays 28 = .ok (.iload 4, 2) := de21 hX7_valueDays_16 12 rfl rfl rfl
theorem dX7_valueDays_30 : decode cX7_valueDays 30 = .ok (.iaload, 1) := de46 hX7_valueDays_16 14 rfl rfl
theorem dX7_valueDays_31 : decode cX7_valueDays 31 = .ok (.iastore, 1) := de79 hX7_valueDays_16 15 rfl rfl
theorem dX7_valueDays_32 : decode cX7_valueDays 32 = .ok (.aload_n 0, 1) := de42 hX7_valueDays_16 16 rfl rfl
theorem dX7_valueDays_33 : decode cX7_valueDays 33 = .ok (.getfield 28, 3) := de180 hX7_valueDays_16 17 rfl rfl rfl
theorem dX7_valueDays_36 : decode cX7_valueDays 36 = .ok (.getfield 56, 3) := de180 hX7_valueDays_16 20 rfl rfl rfl
theorem hX7_valueDays_39 : bHas cX7_valueDays 39 [21, 4, 46, 6, 160, 0, 70, 42, 180, 0, 28, 180, 0, 59, 21, 4, 46, 29, 160, 0, 56, 42] := bH_c (n := 22) (by decide +kernel)
theorem dX7_valueDays_39 : decode cX7_valueDays 39 = .ok (.iload 4, 2) := de21 hX7_valueDays_39 0 rfl rfl rfl
theorem dX7_valueDays_41 : decode cX7_valueDays 41 = .ok (.iaload, 1) := de46 hX7_valueDays_39 2 rfl rfl
theorem dX7_valueDays_42 : decode cX7_valueDays 42 = .ok (.iconst 3, 1) := de6 hX7_valueDays_39 3 rfl rfl
theorem dX7_valueDays_43 : decode cX7_valueDays 43 = .ok (.if_icmp .ne 70, 3) := de160 hX7_valueDays_39 4 rfl rfl (by decide +kernel)
theorem dX7_valueDays_46 : decode cX7_valueDays 46 = .ok (.aload_n 0, 1) := de42 hX7_valueDays_39 7 rfl rfl
theorem dX7_valueDays_47 : decode cX7_valueDays 47 = .ok (.getfield 28, 3) := de180 hX7_valueDays_39 8 rfl rfl rfl
theorem dX7_valueDays_50 : decode cX7_valueDays 50 = .ok (.getfield 59, 3) := de180 hX7_valueDays_39 11 rfl rfl rfl
theorem dX7_valueDays_53 : decode cX7_valueDays 53 = .ok (.iload 4, 2) := de21 hX7_valueDays_39 14 rfl rfl rfl
theorem dX7_valueDays_55 : decode cX7_valueDays 55 = .ok (.iaload, 1) := de46 hX7_valueDays_39 16 rfl rfl
theorem dX7_valueDays_56 : decode cX7_valueDays 56 = .ok (.iload_n 3, 1) := de29 hX7_valueDays_39 17 rfl rfl
theorem dX7_valueDays_57 : decode cX7_valueDays 57 = .ok (.if_icmp .ne 56, 3) := de160 hX7_valueDays_39 18 rfl rfl (by decide +kernel)
theorem dX7_valueDays_60 : decode cX7_valueDays 60 = .ok (.aload_n 0, 1) := de42 hX7_valueDays_39 21 rfl rfl
theorem hX7_valueDays_61 : bHas cX7_valueDays 61 [180, 0, 9, 21, 4, 46, 2, 159, 0, 45, 42, 27, 29, 42, 180, 0, 9, 21, 4, 46] := bH_c (n := 20) (by decide +kernel)
theorem dX7_valueDays_61 : decode cX7_valueDays 61 = .ok (.getfield 9, 3) := de180 hX7_valueDays_61 0 rfl rfl rfl
theorem dX7_valueDays_64 : decode cX7_valueDays 64 = .ok (.iload 4, 2) := de21 hX7_valueDays_61 3 rfl rfl rfl
theorem dX7_valueDays_66 : decode cX7_valueDays 66 = .ok (.iaload, 1) := de46 hX7_valueDays_61 5 rfl rfl
theorem dX7_valueDays_67 : decode cX7_valueDays 67 = .ok (.iconst (-1), 1) := de2 hX7_valueDays_61 6 rfl rfl
theorem dX7_valueDays_68 : decode cX7_valueDays 68 = .ok (.if_icmp .eq 45, 3) := de159 hX7_valueDays_61 7 rfl rfl (by decide +kernel)
theorem dX7_valueDays_71 : decode cX7_valueDays 71 = .ok (.aload_n 0, 1) := de42 hX7_valueDays_61 10 rfl rfl
theorem dX7_valueDays_72 : decode cX7_valueDays 72 = .ok (.iload_n 1, 1) := de27 hX7_valueDays_61 11 rfl rfl
theorem dX7_valueDays_73 : decode cX7_valueDays 73 = .ok (.iload_n 3, 1) := de29 hX7_valueDays_61 12 rfl rfl
theorem dX7_valueDays_74 : decode cX7_valueDays 74 = .ok (.aload_n 0, 1) := de42 hX7_valueDays_61 13 rfl rfl
theorem dX7_valueDays_75 : decode cX7_valueDays 75 = .ok (.getfield 9, 3) := de180 hX7_valueDays_61 14 rfl rfl rfl
theorem dX7_valueDays_78 : decode cX7_valueDays 78 = .ok (.iload 4, 2) := de21 hX7_valueDays_61 17 rfl rfl rfl
theorem dX7_valueDays_80 : decode cX7_valueDays 80 = .ok (.iaload, 1) := de46 hX7_valueDays_61 19 rfl rfl
theorem hX7_valueDays_81 : bHas cX7_valueDays 81 [182, 0, 62, 54, 5, 42, 180, 0, 21, 28, 42, 180, 0, 28, 180, 0, 89, 21, 4, 46, 96, 21, 4] := bH_c (n := 23) (by decide +kernel)
theorem dX7_valueDays_81 : decode cX7_valueDays 81 = .ok (.invokevirtual 62, 3) := de182 hX7_valueDays_81 0 rfl rfl rfl
theorem dX7_valueDays_84 : decode cX7_valueDays 84 = .ok (.istore 5, 2) := de54 hX7_valueDays_81 3 rfl rfl rfl
theorem dX7_valueDays_86 : decode cX7_valueDays 86 = .ok (.aload_n 0, 1) := de42 hX7_valueDays_81 5 rfl rfl
theorem dX7_valueDays_87 : decode cX7_valueDays 87 = .ok (.getfield 21, 3) := de180 hX7_valueDays_81 6 rfl rfl rfl
theorem dX7_valueDays_90 : decode cX7_valueDays 90 = .ok (.iload_n 2, 1) := de28 hX7_valueDays_81 9 rfl rfl
theorem dX7_valueDays_91 : decode cX7_valueDays 91 = .ok (.aload_n 0, 1) := de42 hX7_valueDays_81 10 rfl rfl
theorem dX7_valueDays_92 : decode cX7_valueDays 92 = .ok (.getfield 28, 3) := de180 hX7_valueDays_81 11 rfl rfl rfl
theorem dX7_valueDays_95 : decode cX7_valueDays 95 = .ok (.getfield 89, 3) := de180 hX7_valueDays_81 14 rfl rfl rfl
theorem dX7_valueDays_98 : decode cX7_valueDays 98 = .ok (.iload 4, 2) := de21 hX7_valueDays_81 17 rfl rfl rfl
theorem dX7_valueDays_100 : decode cX7_valueDays 100 = .ok (.iaload, 1) := de46 hX7_valueDays_81 19 rfl rfl
theorem dX7_valueDays_101 : decode cX7_valueDays 101 = .ok (.iadd, 1) := de96 hX7_valueDays_81 20 rfl rfl
theorem dX7_valueDays_102 : decode cX7_valueDays 102 = .ok (.iload 4, 2) := de21 hX7_valueDays_81 21 rfl rfl rfl
theorem hX7_valueDays_104 : bHas cX7_valueDays 104 [21, 5, 42, 180, 0, 18, 184, 0, 92, 132, 3, 1, 167, 255, 147, 177] := bH_c (n := 16) (by decide +kernel)
theorem dX7_valueDays_104 : decode cX7_valueDays 104 = .ok (.iload 5, 2) := de21 hX7_valueDays_104 0 rfl rfl rfl
theorem dX7_valueDays_106 : decode cX7_valueDays 106 = .ok (.aload_n 0, 1) := de42 hX7_valueDays_104 2 rfl rfl
theorem dX7_valueDays_107 : decode cX7_valueDays 107 = .ok (.getfield 18, 3) := de180 hX7_valueDays_104 3 rfl rfl rfl
theorem dX7_valueDays_110 : decode cX7_valueDays 110 = .ok (.invokestatic 92, 3) := de184 hX7_valueDays_104 6 rfl rfl rfl
theorem dX7_valueDays_113 : decode cX7_valueDays 113 = .ok (.iinc 3 1, 3) := de132 hX7_valueDays_104 9 rfl rfl rfl rfl
theorem dX7_valueDays_116 : decode cX7_valueDays 116 = .ok (.goto (-109), 3) := de167 hX7_valueDays_104 12 rfl rfl (by decide +kernel)
theorem dX7_valueDays_119 : decode cX7_valueDays 119 = .ok (.return_, 1) := de177 hX7_valueDays_104 15 rfl rfl
theorem hX8_init_0 : bHas cX8_init 0 [42, 183, 0, 3, 42, 16, 6] := bH_c (n := 7) (by decide +kernel)
theorem dX8_init_0 : decode cX8_init 0 = .ok (.aload_n 0, 1) := de42 hX8_init_0 0 rfl rfl
theorem dX8_init_1 : decode cX8_init 1 = .ok (.invokespecial 3, 3) := de183 hX8_init_0 1 rfl rfl rfl
theorem dX8_init_4 : decode cX8_init 4 = .ok (.aload_n 0, 1) := de42 hX8_init_0 4 rfl rfl
theorem dX8_init_5 : decode cX8_init 5 = .ok (.bipush 6, 2) := de16 hX8_init_0 5 rfl rfl rfl
theorem dX8_init_7 : decode cX8_init 7 = .ok (.newarray .int, 2) := by decide +kernel
theorem hX8_init_9 : bHas cX8_init 9 [181, 0, 9, 42, 16, 28] := bH_c (n := 6) (by decide +kernel)
theorem dX8_init_9 : decode cX8_init 9 = .ok (.putfield 9, 3) := de181 hX8_init_9 0 rfl rfl rfl
theorem dX8_init_12 : decode cX8_init 12 = .ok (.aload_n 0, 1) := de42 hX8_init_9 3 rfl rfl
theorem dX8_init_13 : decode cX8_init 13 = .ok (.bipush 28, 2) := de16 hX8_init_9 4 rfl rfl rfl
theorem dX8_init_15 : decode cX8_init 15 = .ok (.newarray .int, 2) := by decide +kernel
theorem hX8_init_17 : bHas cX8_init 17 [181, 0, 15, 42, 43, 181, 0, 18, 177] := bH_c (n := 9) (by decide +kernel)
theorem dX8_init_17 : decode cX8_init 17 = .ok (.putfield 15, 3) := de181 hX8_init_17 0 rfl rfl rfl
theorem dX8_init_20 : decode cX8_init 20 = .ok (.aload_n 0, 1) := de42 hX8_init_17 3 rfl rfl
theorem dX8_init_21 : decode cX8_init 21 = .ok (.aload_n 1, 1) := de43 hX8_init_17 4 rfl rfl
theorem dX8_init_22 : decode cX8_init 22 = .ok (.putfield 18, 3) := de181 hX8_init_17 5 rfl rfl rfl
theorem dX8_init_25 : decode cX8_init 25 = .ok (.return_, 1) := de177 hX8_init_17 8 rfl rfl
theorem hX8_gather_0 : bHas cX8_gather 0 [42, 3, 181, 0, 22, 18, 26, 61, 28, 4, 161, 0, 59, 27, 28, 108, 16, 10] := bH_c (n := 18) (by decide +kernel)
theorem dX8_gather_0 : decode cX8_gather 0 = .ok (.aload_n 0, 1) := de42 hX8_gather_0 0 rfl rfl
theorem dX8_gather_1 : decode cX8_gather 1 = .ok (.iconst 0, 1) := de3 hX8_gather_0 1 rfl rfl
theorem dX8_gather_2 : decode cX8_gather 2 = .ok (.putfield 22, 3) := de181 hX8_gather_0 2 rfl rfl rfl
theorem dX8_gather_5 : decode cX8_gather 5 = .ok (.ldc 26, 2) := de18 hX8_gather_0 5 rfl rfl rfl
theorem dX8_gather_7 : decode cX8_gather 7 = .ok (.istore_n 2, 1) := de61 hX8_gather_0 7 rfl rfl
theorem dX8_gather_8 : decode cX8_gather 8 = .ok (.iload_n 2, 1) := de28 hX8_gather_0 8 rfl rfl
theorem dX8_gather_9 : decode cX8_gather 9 = .ok (.iconst 1, 1) := de4 hX8_gather_0 9 rfl rfl
theorem dX8_gather_10 : decode cX8_gather 10 = .ok (.if_icmp .lt 59, 3) := de161 hX8_gather_0 10 rfl rfl (by decide +kernel)
theorem dX8_gather_13 : decode cX8_gather 13 = .ok (.iload_n 1, 1) := de27 hX8_gather_0 13 rfl rfl
theorem dX8_gather_14 : decode cX8_gather 14 = .ok (.iload_n 2, 1) := de28 hX8_gather_0 14 rfl rfl
theorem dX8_gather_15 : decode cX8_gather 15 = .ok (.idiv, 1) := de108 hX8_gather_0 15 rfl rfl
theorem dX8_gather_16 : decode cX8_gather 16 = .ok (.bipush 10, 2) := de16 hX8_gather_0 16 rfl rfl rfl
theorem hX8_gather_18 : bHas cX8_gather 18 [112, 62, 29, 4, 161, 0, 39, 29, 42, 180, 0, 18, 180, 0, 27, 180, 0, 33, 163, 0, 25, 42] := bH_c (n := 22) (by decide +kernel)
theorem dX8_gather_18 : decode cX8_gather 18 = .ok (.irem, 1) := de112 hX8_gather_18 0 rfl rfl
theorem dX8_gather_19 : decode cX8_gather 19 = .ok (.istore_n 3, 1) := de62 hX8_gather_18 1 rfl rfl
theorem dX8_gather_20 : decode cX8_gather 20 = .ok (.iload_n 3, 1) := de29 hX8_gather_18 2 rfl rfl
theorem dX8_gather_21 : decode cX8_gather 21 = .ok (.iconst 1, 1) := de4 hX8_gather_18 3 rfl rfl
theorem dX8_gather_22 : decode cX8_gather 22 = .ok (.if_icmp .lt 39, 3) := de161 hX8_gather_18 4 rfl rfl (by decide +kernel)
theorem dX8_gather_25 : decode cX8_gather 25 = .ok (.iload_n 3, 1) := de29 hX8_gather_18 7 rfl rfl
theorem dX8_gather_26 : decode cX8_gather 26 = .ok (.aload_n 0, 1) := de42 hX8_gather_18 8 rfl rfl
theorem dX8_gather_27 : decode cX8_gather 27 = .ok (.getfield 18, 3) := de180 hX8_gather_18 9 rfl rfl rfl
theorem dX8_gather_30 : decode cX8_gather 30 = .ok (.getfield 27, 3) := de180 hX8_gather_18 12 rfl rfl rfl
theorem dX8_gather_33 : decode cX8_gather 33 = .ok (.getfield 33, 3) := de180 hX8_gather_18 15 rfl rfl rfl
theorem dX8_gather_36 : decode cX8_gather 36 = .ok (.if_icmp .gt 25, 3) := de163 hX8_gather_18 18 rfl rfl (by decide +kernel)
theorem dX8_gather_39 : decode cX8_gather 39 = .ok (.aload_n 0, 1) := de42 hX8_gather_18 21 rfl rfl
theorem hX8_gather_40 : bHas cX8_gather 40 [180, 0, 9, 42, 180, 0, 22, 29, 4, 100, 79, 42, 89, 180, 0, 22, 4, 96] := bH_c (n := 18) (by decide +kernel)
theorem dX8_gather_40 : decode cX8_gather 40 = .ok (.getfield 9, 3) := de180 hX8_gather_40 0 rfl rfl rfl
theorem dX8_gather_43 : decode cX8_gather 43 = .ok (.aload_n 0, 1) := de42 hX8_gather_40 3 rfl rfl
theorem dX8_gather_44 : decode cX8_gather 44 = .ok (.getfield 22, 3) := de180 hX8_gather_40 4 rfl rfl rfl
theorem dX8_gather_47 : decode cX8_gather 47 = .ok (.iload_n 3, 1) := de29 hX8_gather_40 7 rfl rfl
theorem dX8_gather_48 : decode cX8_gather 48 = .ok (.iconst 1, 1) := de4 hX8_gather_40 8 rfl rfl
theorem dX8_gather_49 : decode cX8_gather 49 = .ok (.isub, 1) := de100 hX8_gather_40 9 rfl rfl
theorem dX8_gather_50 : decode cX8_gather 50 = .ok (.iastore, 1) := de79 hX8_gather_40 10 rfl rfl
theorem dX8_gather_51 : decode cX8_gather 51 = .ok (.aload_n 0, 1) := de42 hX8_gather_40 11 rfl rfl
theorem dX8_gather_52 : decode cX8_gather 52 = .ok (.dup, 1) := de89 hX8_gather_40 12 rfl rfl
theorem dX8_gather_53 : decode cX8_gather 53 = .ok (.getfield 22, 3) := de180 hX8_gather_40 13 rfl rfl rfl
theorem dX8_gather_56 : decode cX8_gather 56 = .ok (.iconst 1, 1) := de4 hX8_gather_40 16 rfl rfl
theorem dX8_gather_57 : decode cX8_gather 57 = .ok (.iadd, 1) := de96 hX8_gather_40 17 rfl rfl
theorem hX8_gather_58 : bHas cX8_gather 58 [181, 0, 22, 28, 16, 10, 108, 61, 167, 255, 198, 177] := bH_c (n := 12) (by decide +kernel)
theorem dX8_gather_58 : decode cX8_gather 58 = .ok (.putfield 22, 3) := de181 hX8_gather_58 0 rfl rfl rfl
theorem dX8_gather_61 : decode cX8_gather 61 = .ok (.iload_n 2, 1) := de28 hX8_gather_58 3 rfl rfl
theorem dX8_gather_62 : decode cX8_gather 62 = .ok (.bipush 10, 2) := de16 hX8_gather_58 4 rfl rfl rfl
theorem dX8_gather_64 : decode cX8_gather 64 = .ok (.idiv, 1) := de108 hX8_gather_58 6 rfl rfl
theorem dX8_gather_65 : decode cX8_gather 65 = .ok (.istore_n 2, 1) := de61 hX8_gather_58 7 rfl rfl
theorem dX8_gather_66 : decode cX8_gather 66 = .ok (.goto (-58), 3) := de167 hX8_gather_58 8 rfl rfl (by decide +kernel)
theorem dX8_gather_69 : decode cX8_gather 69 = .ok (.return_, 1) := de177 hX8_gather_58 11 rfl rfl
theorem hX8_canOn_0 : bHas cX8_canOn 0 [3, 61, 28, 42, 180, 0, 22, 162, 0, 39, 42, 180, 0, 18, 180, 0, 38, 42, 180, 0, 9, 28] := bH_c (n := 22) (by decide +kernel)
theorem dX8_canOn_0 : decode cX8_canOn 0 = .ok (.iconst 0, 1) := de3 hX8_canOn_0 0 rfl rfl
theorem dX8_canOn_1 : decode cX8_canOn 1 = .ok (.istore_n 2, 1) := de61 hX8_canOn_0 1 rfl rfl
theorem dX8_canOn_2 : decode cX8_canOn 2 = .ok (.iload_n 2, 1) := de28 hX8_canOn_0 2 rfl rfl
theorem dX8_canOn_3 : decode cX8_canOn 3 = .ok (.aload_n 0, 1) := de42 hX8_canOn_0 3 rfl rfl
theorem dX8_canOn_4 : decode cX8_canOn 4 = .ok (.getfield 22, 3) := de180 hX8_canOn_0 4 rfl rfl rfl
theorem dX8_canOn_7 : decode cX8_canOn 7 = .ok (.if_icmp .ge 39, 3) := de162 hX8_canOn_0 7 rfl rfl (by decide +kernel)
theorem dX8_canOn_10 : decode cX8_canOn 10 = .ok (.aload_n 0, 1) := de42 hX8_canOn_0 10 rfl rfl
theorem dX8_canOn_11 : decode cX8_canOn 11 = .ok (.getfield 18, 3) := de180 hX8_canOn_0 11 rfl rfl rfl
theorem dX8_canOn_14 : decode cX8_canOn 14 = .ok (.getfield 38, 3) := de180 hX8_canOn_0 14 rfl rfl rfl
theorem dX8_canOn_17 : decode cX8_canOn 17 = .ok (.aload_n 0, 1) := de42 hX8_canOn_0 17 rfl rfl
theorem dX8_canOn_18 : decode cX8_canOn 18 = .ok (.getfield 9, 3) := de180 hX8_canOn_0 18 rfl rfl rfl
theorem dX8_canOn_21 : decode cX8_canOn 21 = .ok (.iload_n 2, 1) := de28 hX8_canOn_0 21 rfl rfl
theorem hX8_canOn_22 : bHas cX8_canOn 22 [46, 16, 28, 104, 27, 96, 46, 2, 159, 0, 10, 42, 180, 0, 9, 28, 46] := bH_c (n := 17) (by decide +kernel)
theorem dX8_canOn_22 : decode cX8_canOn 22 = .ok (.iaload, 1) := de46 hX8_canOn_22 0 rfl rfl
theorem dX8_canOn_23 : decode cX8_canOn 23 = .ok (.bipush 28, 2) := de16 hX8_canOn_22 1 rfl rfl rfl
theorem dX8_canOn_25 : decode cX8_canOn 25 = .ok (.imul, 1) := de104 hX8_canOn_22 3 rfl rfl
theorem dX8_canOn_26 : decode cX8_canOn 26 = .ok (.iload_n 1, 1) := de27 hX8_canOn_22 4 rfl rfl
theorem dX8_canOn_27 : decode cX8_canOn 27 = .ok (.iadd, 1) := de96 hX8_canOn_22 5 rfl rfl
theorem dX8_canOn_28 : decode cX8_canOn 28 = .ok (.iaload, 1) := de46 hX8_canOn_22 6 rfl rfl
theorem dX8_canOn_29 : decode cX8_canOn 29 = .ok (.iconst (-1), 1) := de2 hX8_canOn_22 7 rfl rfl
theorem dX8_canOn_30 : decode cX8_canOn 30 = .ok (.if_icmp .eq 10, 3) := de159 hX8_canOn_22 8 rfl rfl (by decide +kernel)
theorem dX8_canOn_33 : decode cX8_canOn 33 = .ok (.aload_n 0, 1) := de42 hX8_canOn_22 11 rfl rfl
theorem dX8_canOn_34 : decode cX8_canOn 34 = .ok (.getfield 9, 3) := de180 hX8_canOn_22 12 rfl rfl rfl
theorem dX8_canOn_37 : decode cX8_canOn 37 = .ok (.iload_n 2, 1) := de28 hX8_canOn_22 15 rfl rfl
theorem dX8_canOn_38 : decode cX8_canOn 38 = .ok (.iaload, 1) := de46 hX8_canOn_22 16 rfl rfl
theorem hX8_canOn_39 : bHas cX8_canOn 39 [172, 132, 2, 1, 167, 255, 215, 2, 172] := bH_c (n := 9) (by decide +kernel)
theorem dX8_canOn_39 : decode cX8_canOn 39 = .ok (.ireturn, 1) := de172 hX8_canOn_39 0 rfl rfl
theorem dX8_canOn_40 : decode cX8_canOn 40 = .ok (.iinc 2 1, 3) := de132 hX8_canOn_39 1 rfl rfl rfl rfl
theorem dX8_canOn_43 : decode cX8_canOn 43 = .ok (.goto (-41), 3) := de167 hX8_canOn_39 4 rfl rfl (by decide +kernel)
theorem dX8_canOn_46 : decode cX8_canOn 46 = .ok (.iconst (-1), 1) := de2 hX8_canOn_39 7 rfl rfl
theorem dX8_canOn_47 : decode cX8_canOn 47 = .ok (.ireturn, 1) := de172 hX8_canOn_39 8 rfl rfl
theorem hX8_join_0 : bHas cX8_join 0 [42, 3, 181, 0, 41, 42, 3, 181, 0, 44, 2, 60, 3, 61, 28, 16, 28] := bH_c (n := 17) (by decide +kernel)
theorem dX8_join_0 : decode cX8_join 0 = .ok (.aload_n 0, 1) := de42 hX8_join_0 0 rfl rfl
theorem dX8_join_1 : decode cX8_join 1 = .ok (.iconst 0, 1) := de3 hX8_join_0 1 rfl rfl
theorem dX8_join_2 : decode cX8_join 2 = .ok (.putfield 41, 3) := de181 hX8_join_0 2 rfl rfl rfl
theorem dX8_join_5 : decode cX8_join 5 = .ok (.aload_n 0, 1) := de42 hX8_join_0 5 rfl rfl
theorem dX8_join_6 : decode cX8_join 6 = .ok (.iconst 0, 1) := de3 hX8_join_0 6 rfl rfl
theorem dX8_join_7 : decode cX8_join 7 = .ok (.putfield 44, 3) := de181 hX8_join_0 7 rfl rfl rfl
theorem dX8_join_10 : decode cX8_join 10 = .ok (.iconst (-1), 1) := de2 hX8_join_0 10 rfl rfl
theorem dX8_join_11 : decode cX8_join 11 = .ok (.istore_n 1, 1) := de60 hX8_join_0 11 rfl rfl
theorem dX8_join_12 : decode cX8_join 12 = .ok (.iconst 0, 1) := de3 hX8_join_0 12 rfl rfl
theorem dX8_join_13 : decode cX8_join 13 = .ok (.istore_n 2, 1) := de61 hX8_join_0 13 rfl rfl
theorem dX8_join_14 : decode cX8_join 14 = .ok (.iload_n 2, 1) := de28 hX8_join_0 14 rfl rfl
theorem dX8_join_15 : decode cX8_join 15 = .ok (.bipush 28, 2) := de16 hX8_join_0 15 rfl rfl rfl
theorem hX8_join_17 : bHas cX8_join 17 [162, 0, 78, 42, 28, 182, 0, 47, 62, 29, 2, 160, 0, 6, 167, 0, 58, 42, 89, 180, 0, 44] := bH_c (n := 22) (by decide +kernel)
theorem dX8_join_17 : decode cX8_join 17 = .ok (.if_icmp .ge 78, 3) := de162 hX8_join_17 0 rfl rfl (by decide +kernel)
theorem dX8_join_20 : decode cX8_join 20 = .ok (.aload_n 0, 1) := de42 hX8_join_17 3 rfl rfl
theorem dX8_join_21 : decode cX8_join 21 = .ok (.iload_n 2, 1) := de28 hX8_join_17 4 rfl rfl
theorem dX8_join_22 : decode cX8_join 22 = .ok (.invokevirtual 47, 3) := de182 hX8_join_17 5 rfl rfl rfl
theorem dX8_join_25 : decode cX8_join 25 = .ok (.istore_n 3, 1) := de62 hX8_join_17 8 rfl rfl
theorem dX8_join_26 : decode cX8_join 26 = .ok (.iload_n 3, 1) := de29 hX8_join_17 9 rfl rfl
theorem dX8_join_27 : decode cX8_join 27 = .ok (.iconst (-1), 1) := de2 hX8_join_17 10 rfl rfl
theorem dX8_join_28 : decode cX8_join 28 = .ok (.if_icmp .ne 6, 3) := de160 hX8_join_17 11 rfl rfl (by decide +kernel)
theorem dX8_join_31 : decode cX8_join 31 = .ok (.goto 58, 3) := de167 hX8_join_17 14 rfl rfl (by decide +kernel)
theorem dX8_join_34 : decode cX8_join 34 = .ok (.aload_n 0, 1) := de42 hX8_join_17 17 rfl rfl
theorem dX8_join_35 : decode cX8_join 35 = .ok (.dup, 1) := de89 hX8_join_17 18 rfl rfl
theorem dX8_join_36 : decode cX8_join 36 = .ok (.getfield 44, 3) := de180 hX8_join_17 19 rfl rfl rfl
theorem hX8_join_39 : bHas cX8_join 39 [42, 180, 0, 18, 180, 0, 38, 29, 16, 28, 104, 28, 96, 46, 96, 181, 0, 44, 27] := bH_c (n := 19) (by decide +kernel)
theorem dX8_join_39 : decode cX8_join 39 = .ok (.aload_n 0, 1) := de42 hX8_join_39 0 rfl rfl
theorem dX8_join_40 : decode cX8_join 40 = .ok (.getfield 18, 3) := de180 hX8_join_39 1 rfl rfl rfl
theorem dX8_join_43 : decode cX8_join 43 = .ok (.getfield 38, 3) := de180 hX8_join_39 4 rfl rfl rfl
theorem dX8_join_46 : decode cX8_join 46 = .ok (.iload_n 3, 1) := de29 hX8_join_39 7 rfl rfl
theorem dX8_join_47 : decode cX8_join 47 = .ok (.bipush 28, 2) := de16 hX8_join_39 8 rfl rfl rfl
theorem dX8_join_49 : decode cX8_join 49 = .ok (.imul, 1) := de104 hX8_join_39 10 rfl rfl
theorem dX8_join_50 : decode cX8_join 50 = .ok (.iload_n 2, 1) := de28 hX8_join_39 11 rfl rfl
theorem dX8_join_51 : decode cX8_join 51 = .ok (.iadd, 1) := de96 hX8_join_39 12 rfl rfl
theorem dX8_join_52 : decode cX8_join 52 = .ok (.iaload, 1) := de46 hX8_join_39 13 rfl rfl
theorem dX8_join_53 : decode cX8_join 53 = .ok (.iadd, 1) := de96 hX8_join_39 14 rfl rfl
theorem dX8_join_54 : decode cX8_join 54 = .ok (.putfield 44, 3) := de181 hX8_join_39 15 rfl rfl rfl
theorem dX8_join_57 : decode cX8_join 57 = .ok (.iload_n 1, 1) := de27 hX8_join_39 18 rfl rfl
theorem hX8_join_58 : bHas cX8_join 58 [2, 159, 0, 28, 29, 27, 159, 0, 23, 42, 180, 0, 15, 42, 180, 0, 41, 28, 79, 42] := bH_c (n := 20) (by decide +kernel)
theorem dX8_join_58 : decode cX8_join 58 = .ok (.iconst (-1), 1) := de2 hX8_join_58 0 rfl rfl
theorem dX8_join_59 : decode cX8_join 59 = .ok (.if_icmp .eq 28, 3) := de159 hX8_join_58 1 rfl rfl (by decide +kernel)
theorem dX8_join_62 : decode cX8_join 62 = .ok (.iload_n 3, 1) := de29 hX8_join_58 4 rfl rfl
theorem dX8_join_63 : decode cX8_join 63 = .ok (.iload_n 1, 1) := de27 hX8_join_58 5 rfl rfl
theorem dX8_join_64 : decode cX8_join 64 = .ok (.if_icmp .eq 23, 3) := de159 hX8_join_58 6 rfl rfl (by decide +kernel)
theorem dX8_join_67 : decode cX8_join 67 = .ok (.aload_n 0, 1) := de42 hX8_join_58 9 rfl rfl
theorem dX8_join_68 : decode cX8_join 68 = .ok (.getfield 15, 3) := de180 hX8_join_58 10 rfl rfl rfl
theorem dX8_join_71 : decode cX8_join 71 = .ok (.aload_n 0, 1) := de42 hX8_join_58 13 rfl rfl
theorem dX8_join_72 : decode cX8_join 72 = .ok (.getfield 41, 3) := de180 hX8_join_58 14 rfl rfl rfl
theorem dX8_join_75 : decode cX8_join 75 = .ok (.iload_n 2, 1) := de28 hX8_join_58 17 rfl rfl
theorem dX8_join_76 : decode cX8_join 76 = .ok (.iastore, 1) := de79 hX8_join_58 18 rfl rfl
theorem dX8_join_77 : decode cX8_join 77 = .ok (.aload_n 0, 1) := de42 hX8_join_58 19 rfl rfl
theorem hX8_join_78 : bHas cX8_join 78 [89, 180, 0, 41, 4, 96, 181, 0, 41, 29, 60, 132, 2, 1, 167, 255, 178, 177] := bH_c (n := 18) (by decide +kernel)
theorem dX8_join_78 : decode cX8_join 78 = .ok (.dup, 1) := de89 hX8_join_78 0 rfl rfl
theorem dX8_join_79 : decode cX8_join 79 = .ok (.getfield 41, 3) := de180 hX8_join_78 1 rfl rfl rfl
theorem dX8_join_82 : decode cX8_join 82 = .ok (.iconst 1, 1) := de4 hX8_join_78 4 rfl rfl
theorem dX8_join_83 : decode cX8_join 83 = .ok (.iadd, 1) := de96 hX8_join_78 5 rfl rfl
theorem dX8_join_84 : decode cX8_join 84 = .ok (.putfield 41, 3) := de181 hX8_join_78 6 rfl rfl rfl
theorem dX8_join_87 : decode cX8_join 87 = .ok (.iload_n 3, 1) := de29 hX8_join_78 9 rfl rfl
theorem dX8_join_88 : decode cX8_join 88 = .ok (.istore_n 1, 1) := de60 hX8_join_78 10 rfl rfl
theorem dX8_join_89 : decode cX8_join 89 = .ok (.iinc 2 1, 3) := de132 hX8_join_78 11 rfl rfl rfl rfl
theorem dX8_join_92 : decode cX8_join 92 = .ok (.goto (-78), 3) := de167 hX8_join_78 14 rfl rfl (by decide +kernel)
theorem dX8_join_95 : decode cX8_join 95 = .ok (.return_, 1) := de177 hX8_join_78 17 rfl rfl
theorem hX8_judge_0 : bHas cX8_judge 0 [42, 180, 0, 18, 180, 0, 38, 27, 46, 61, 42, 28, 182, 0, 51, 62, 4, 54, 4] := bH_c (n := 19) (by decide +kernel)
theorem dX8_judge_0 : decode cX8_judge 0 = .ok (.aload_n 0, 1) := de42 hX8_judge_0 0 rfl rfl
theorem dX8_judge_1 : decode cX8_judge 1 = .ok (.getfield 18, 3) := de180 hX8_judge_0 1 rfl rfl rfl
theorem dX8_judge_4 : decode cX8_judge 4 = .ok (.getfield 38, 3) := de180 hX8_judge_0 4 rfl rfl rfl
theorem dX8_judge_7 : decode cX8_judge 7 = .ok (.iload_n 1, 1) := de27 hX8_judge_0 7 rfl rfl
theorem dX8_judge_8 : decode cX8_judge 8 = .ok (.iaload, 1) := de46 hX8_judge_0 8 rfl rfl
theorem dX8_judge_9 : decode cX8_judge 9 = .ok (.istore_n 2, 1) := de61 hX8_judge_0 9 rfl rfl
theorem dX8_judge_10 : decode cX8_judge 10 = .ok (.aload_n 0, 1) := de42 hX8_judge_0 10 rfl rfl
theorem dX8_judge_11 : decode cX8_judge 11 = .ok (.iload_n 2, 1) := de28 hX8_judge_0 11 rfl rfl
theorem dX8_judge_12 : decode cX8_judge 12 = .ok (.invokevirtual 51, 3) := de182 hX8_judge_0 12 rfl rfl rfl
theorem dX8_judge_15 : decode cX8_judge 15 = .ok (.istore_n 3, 1) := de62 hX8_judge_0 15 rfl rfl
theorem dX8_judge_16 : decode cX8_judge 16 = .ok (.iconst 1, 1) := de4 hX8_judge_0 16 rfl rfl
theorem dX8_judge_17 : decode cX8_judge 17 = .ok (.istore 4, 2) := de54 hX8_judge_0 17 rfl rfl rfl
theorem hX8_judge_19 : bHas cX8_judge 19 [42, 180, 0, 18, 180, 0, 27, 180, 0, 33, 16, 28, 104, 54, 5, 3, 54, 6, 21, 6, 21, 5, 162, 0, 66] := bH_c (n := 25) (by decide +kernel)
theorem dX8_judge_19 : decode cX8_judge 19 = .ok (.aload_n 0, 1) := de42 hX8_judge_19 0 rfl rfl
theorem dX8_judge_20 : decode cX8_judge 20 = .ok (.getfield 18, 3) := de180 hX8_judge_19 1 rfl rfl rfl
theorem dX8_judge_23 : decode cX8_judge 23 = .ok (.getfield 27, 3) := de180 hX8_judge_19 4 rfl rfl rfl
theorem dX8_judge_26 : decode cX8_judge 26 = .ok (.getfield 33, 3) := de180 hX8_judge_19 7 rfl rfl rfl
theorem dX8_judge_29 : decode cX8_judge 29 = .ok (.bipush 28, 2) := de16 hX8_judge_19 10 rfl rfl rfl
theorem dX8_judge_31 : decode cX8_judge 31 = .ok (.imul, 1) := de104 hX8_judge_19 12 rfl rfl
theorem dX8_judge_32 : decode cX8_judge 32 = .ok (.istore 5, 2) := de54 hX8_judge_19 13 rfl rfl rfl
theorem dX8_judge_34 : decode cX8_judge 34 = .ok (.iconst 0, 1) := de3 hX8_judge_19 15 rfl rfl
theorem dX8_judge_35 : decode cX8_judge 35 = .ok (.istore 6, 2) := de54 hX8_judge_19 16 rfl rfl rfl
theorem dX8_judge_37 : decode cX8_judge 37 = .ok (.iload 6, 2) := de21 hX8_judge_19 18 rfl rfl rfl
theorem dX8_judge_39 : decode cX8_judge 39 = .ok (.iload 5, 2) := de21 hX8_judge_19 20 rfl rfl rfl
theorem dX8_judge_41 : decode cX8_judge 41 = .ok (.if_icmp .ge 66, 3) := de162 hX8_judge_19 22 rfl rfl (by decide +kernel)
theorem hX8_judge_44 : bHas cX8_judge 44 [42, 180, 0, 18, 180, 0, 38, 21, 6, 46, 54, 7, 21, 6, 27, 159, 0, 42, 21, 7, 2, 160, 0, 6] := bH_c (n := 24) (by decide +kernel)
theorem dX8_judge_44 : decode cX8_judge 44 = .ok (.aload_n 0, 1) := de42 hX8_judge_44 0 rfl rfl
theorem dX8_judge_45 : decode cX8_judge 45 = .ok (.getfield 18, 3) := de180 hX8_judge_44 1 rfl rfl rfl
theorem dX8_judge_48 : decode cX8_judge 48 = .ok (.getfield 38, 3) := de180 hX8_judge_44 4 rfl rfl rfl
theorem dX8_judge_51 : decode cX8_judge 51 = .ok (.iload 6, 2) := de21 hX8_judge_44 7 rfl rfl rfl
theorem dX8_judge_53 : decode cX8_judge 53 = .ok (.iaload, 1) := de46 hX8_judge_44 9 rfl rfl
theorem dX8_judge_54 : decode cX8_judge 54 = .ok (.istore 7, 2) := de54 hX8_judge_44 10 rfl rfl rfl
theorem dX8_judge_56 : decode cX8_judge 56 = .ok (.iload 6, 2) := de21 hX8_judge_44 12 rfl rfl rfl
theorem dX8_judge_58 : decode cX8_judge 58 = .ok (.iload_n 1, 1) := de27 hX8_judge_44 14 rfl rfl
theorem dX8_judge_59 : decode cX8_judge 59 = .ok (.if_icmp .eq 42, 3) := de159 hX8_judge_44 15 rfl rfl (by decide +kernel)
theorem dX8_judge_62 : decode cX8_judge 62 = .ok (.iload 7, 2) := de21 hX8_judge_44 18 rfl rfl rfl
theorem dX8_judge_64 : decode cX8_judge 64 = .ok (.iconst (-1), 1) := de2 hX8_judge_44 20 rfl rfl
theorem dX8_judge_65 : decode cX8_judge 65 = .ok (.if_icmp .ne 6, 3) := de160 hX8_judge_44 21 rfl rfl (by decide +kernel)
theorem hX8_judge_68 : bHas cX8_judge 68 [167, 0, 33, 21, 7, 29, 164, 0, 5, 3, 172, 21, 4, 153, 0, 17, 42, 21, 7, 182, 0, 51, 28] := bH_c (n := 23) (by decide +kernel)
theorem dX8_judge_68 : decode cX8_judge 68 = .ok (.goto 33, 3) := de167 hX8_judge_68 0 rfl rfl (by decide +kernel)
theorem dX8_judge_71 : decode cX8_judge 71 = .ok (.iload 7, 2) := de21 hX8_judge_68 3 rfl rfl rfl
theorem dX8_judge_73 : decode cX8_judge 73 = .ok (.iload_n 3, 1) := de29 hX8_judge_68 5 rfl rfl
theorem dX8_judge_74 : decode cX8_judge 74 = .ok (.if_icmp .le 5, 3) := de164 hX8_judge_68 6 rfl rfl (by decide +kernel)
theorem dX8_judge_77 : decode cX8_judge 77 = .ok (.iconst 0, 1) := de3 hX8_judge_68 9 rfl rfl
theorem dX8_judge_78 : decode cX8_judge 78 = .ok (.ireturn, 1) := de172 hX8_judge_68 10 rfl rfl
theorem dX8_judge_79 : decode cX8_judge 79 = .ok (.iload 4, 2) := de21 hX8_judge_68 11 rfl rfl rfl
theorem dX8_judge_81 : decode cX8_judge 81 = .ok (.ifCond .eq 17, 3) := de153 hX8_judge_68 13 rfl rfl (by decide +kernel)
theorem dX8_judge_84 : decode cX8_judge 84 = .ok (.aload_n 0, 1) := de42 hX8_judge_68 16 rfl rfl
theorem dX8_judge_85 : decode cX8_judge 85 = .ok (.iload 7, 2) := de21 hX8_judge_68 17 rfl rfl rfl
theorem dX8_judge_87 : decode cX8_judge 87 = .ok (.invokevirtual 51, 3) := de182 hX8_judge_68 19 rfl rfl rfl
theorem dX8_judge_90 : decode cX8_judge 90 = .ok (.iload_n 2, 1) := de28 hX8_judge_68 22 rfl rfl
theorem hX8_judge_91 : bHas cX8_judge 91 [162, 0, 7, 4, 167, 0, 4, 3, 54, 4, 132, 6, 1, 167, 255, 189, 21, 4, 153, 0, 7, 5, 167, 0, 4, 4] := bH_c (n := 26) (by decide +kernel)
theorem dX8_judge_91 : decode cX8_judge 91 = .ok (.if_icmp .ge 7, 3) := de162 hX8_judge_91 0 rfl rfl (by decide +kernel)
theorem dX8_judge_94 : decode cX8_judge 94 = .ok (.iconst 1, 1) := de4 hX8_judge_91 3 rfl rfl
theorem dX8_judge_95 : decode cX8_judge 95 = .ok (.goto 4, 3) := de167 hX8_judge_91 4 rfl rfl (by decide +kernel)
theorem dX8_judge_98 : decode cX8_judge 98 = .ok (.iconst 0, 1) := de3 hX8_judge_91 7 rfl rfl
theorem dX8_judge_99 : decode cX8_judge 99 = .ok (.istore 4, 2) := de54 hX8_judge_91 8 rfl rfl rfl
theorem dX8_judge_101 : decode cX8_judge 101 = .ok (.iinc 6 1, 3) := de132 hX8_judge_91 10 rfl rfl rfl rfl
theorem dX8_judge_104 : decode cX8_judge 104 = .ok (.goto (-67), 3) := de167 hX8_judge_91 13 rfl rfl (by decide +kernel)
theorem dX8_judge_107 : decode cX8_judge 107 = .ok (.iload 4, 2) := de21 hX8_judge_91 16 rfl rfl rfl
theorem dX8_judge_109 : decode cX8_judge 109 = .ok (.ifCond .eq 7, 3) := de153 hX8_judge_91 18 rfl rfl (by decide +kernel)
theorem dX8_judge_112 : decode cX8_judge 112 = .ok (.iconst 2, 1) := de5 hX8_judge_91 21 rfl rfl
theorem dX8_judge_113 : decode cX8_judge 113 = .ok (.goto 4, 3) := de167 hX8_judge_91 22 rfl rfl (by decide +kernel)
theorem dX8_judge_116 : decode cX8_judge 116 = .ok (.iconst 1, 1) := de4 hX8_judge_91 25 rfl rfl
theorem hX8_judge_117 : bHas cX8_judge 117 [172] := bH_c (n := 1) (by decide +kernel)
theorem dX8_judge_117 : decode cX8_judge 117 = .ok (.ireturn, 1) := de172 hX8_judge_117 0 rfl rfl
theorem hX8_spanEnd_0 : bHas cX8_spanEnd 0 [27, 16, 10, 42, 180, 0, 18, 180, 0, 27, 180, 0, 54, 6, 46, 96, 104, 16, 10, 108] := bH_c (n := 20) (by decide +kernel)
theorem dX8_spanEnd_0 : decode cX8_spanEnd 0 = .ok (.iload_n 1, 1) := de27 hX8_spanEnd_0 0 rfl rfl
theorem dX8_spanEnd_1 : decode cX8_spanEnd 1 = .ok (.bipush 10, 2) := de16 hX8_spanEnd_0 1 rfl rfl rfl
theorem dX8_spanEnd_3 : decode cX8_spanEnd 3 = .ok (.aload_n 0, 1) := de42 hX8_spanEnd_0 3 rfl rfl
theorem dX8_spanEnd_4 : decode cX8_spanEnd 4 = .ok (.getfield 18, 3) := de180 hX8_spanEnd_0 4 rfl rfl rfl
theorem dX8_spanEnd_7 : decode cX8_spanEnd 7 = .ok (.getfield 27, 3) := de180 hX8_spanEnd_0 7 rfl rfl rfl
theorem dX8_spanEnd_10 : decode cX8_spanEnd 10 = .ok (.getfield 54, 3) := de180 hX8_spanEnd_0 10 rfl rfl rfl
theorem dX8_spanEnd_13 : decode cX8_spanEnd 13 = .ok (.iconst 3, 1) := de6 hX8_spanEnd_0 13 rfl rfl
theorem dX8_spanEnd_14 : decode cX8_spanEnd 14 = .ok (.iaload, 1) := de46 hX8_spanEnd_0 14 rfl rfl
theorem dX8_spanEnd_15 : decode cX8_spanEnd 15 = .ok (.iadd, 1) := de96 hX8_spanEnd_0 15 rfl rfl
theorem dX8_spanEnd_16 : decode cX8_spanEnd 16 = .ok (.imul, 1) := de104 hX8_spanEnd_0 16 rfl rfl
theorem dX8_spanEnd_17 : decode cX8_spanEnd 17 = .ok (.bipush 10, 2) := de16 hX8_spanEnd_0 17 rfl rfl rfl
theorem dX8_spanEnd_19 : decode cX8_spanEnd 19 = .ok (.idiv, 1) := de108 hX8_spanEnd_0 19 rfl rfl
theorem hX8_spanEnd_20 : bHas cX8_spanEnd 20 [172] := bH_c (n := 1) (by decide +kernel)
theorem dX8_spanEnd_20 : decode cX8_spanEnd 20 = .ok (.ireturn, 1) := de172 hX8_spanEnd_20 0 rfl rfl
theorem hX9_init_0 : bHas cX9_init 0 [42, 183, 0, 3, 42, 16, 38] := bH_c (n := 7) (by decide +kernel)
theorem dX9_init_0 : decode cX9_init 0 = .ok (.aload_n 0, 1) := de42 hX9_init_0 0 rfl rfl
theorem dX9_init_1 : decode cX9_init 1 = .ok (.invokespecial 3, 3) := de183 hX9_init_0 1 rfl rfl rfl
theorem dX9_init_4 : decode cX9_init 4 = .ok (.aload_n 0, 1) := de42 hX9_init_0 4 rfl rfl
theorem dX9_init_5 : decode cX9_init 5 = .ok (.bipush 38, 2) := de16 hX9_init_0 5 rfl rfl rfl
theorem dX9_init_7 : decode cX9_init 7 = .ok (.newarray .int, 2) := by decide +kernel
theorem hX9_init_9 : bHas cX9_init 9 [181, 0, 11, 42, 16, 7] := bH_c (n := 6) (by decide +kernel)
theorem dX9_init_9 : decode cX9_init 9 = .ok (.putfield 11, 3) := de181 hX9_init_9 0 rfl rfl rfl
theorem dX9_init_12 : decode cX9_init 12 = .ok (.aload_n 0, 1) := de42 hX9_init_9 3 rfl rfl
theorem dX9_init_13 : decode cX9_init 13 = .ok (.bipush 7, 2) := de16 hX9_init_9 4 rfl rfl rfl
theorem dX9_init_15 : decode cX9_init 15 = .ok (.newarray .int, 2) := by decide +kernel
theorem hX9_init_17 : bHas cX9_init 17 [181, 0, 15, 42, 16, 7] := bH_c (n := 6) (by decide +kernel)
theorem dX9_init_17 : decode cX9_init 17 = .ok (.putfield 15, 3) := de181 hX9_init_17 0 rfl rfl rfl
theorem dX9_init_20 : decode cX9_init 20 = .ok (.aload_n 0, 1) := de42 hX9_init_17 3 rfl rfl
theorem dX9_init_21 : decode cX9_init 21 = .ok (.bipush 7, 2) := de16 hX9_init_17 4 rfl rfl rfl
theorem dX9_init_23 : decode cX9_init 23 = .ok (.newarray .int, 2) := by decide +kernel
theorem hX9_init_25 : bHas cX9_init 25 [181, 0, 18, 42, 16, 7] := bH_c (n := 6) (by decide +kernel)
theorem dX9_init_25 : decode cX9_init 25 = .ok (.putfield 18, 3) := de181 hX9_init_25 0 rfl rfl rfl
theorem dX9_init_28 : decode cX9_init 28 = .ok (.aload_n 0, 1) := de42 hX9_init_25 3 rfl rfl
theorem dX9_init_29 : decode cX9_init 29 = .ok (.bipush 7, 2) := de16 hX9_init_25 4 rfl rfl rfl
theorem dX9_init_31 : decode cX9_init 31 = .ok (.newarray .int, 2) := by decide +kernel
theorem hX9_init_33 : bHas cX9_init 33 [181, 0, 21, 42, 16, 7] := bH_c (n := 6) (by decide +kernel)
theorem dX9_init_33 : decode cX9_init 33 = .ok (.putfield 21, 3) := de181 hX9_init_33 0 rfl rfl rfl
theorem dX9_init_36 : decode cX9_init 36 = .ok (.aload_n 0, 1) := de42 hX9_init_33 3 rfl rfl
theorem dX9_init_37 : decode cX9_init 37 = .ok (.bipush 7, 2) := de16 hX9_init_33 4 rfl rfl rfl
theorem dX9_init_39 : decode cX9_init 39 = .ok (.newarray .int, 2) := by decide +kernel
theorem hX9_init_41 : bHas cX9_init 41 [181, 0, 24, 42, 43, 181, 0, 27, 3, 61, 3, 62, 29, 17, 1, 44, 162, 0, 46, 28] := bH_c (n := 20) (by decide +kernel)
theorem dX9_init_41 : decode cX9_init 41 = .ok (.putfield 24, 3) := de181 hX9_init_41 0 rfl rfl rfl
theorem dX9_init_44 : decode cX9_init 44 = .ok (.aload_n 0, 1) := de42 hX9_init_41 3 rfl rfl
theorem dX9_init_45 : decode cX9_init 45 = .ok (.aload_n 1, 1) := de43 hX9_init_41 4 rfl rfl
theorem dX9_init_46 : decode cX9_init 46 = .ok (.putfield 27, 3) := de181 hX9_init_41 5 rfl rfl rfl
theorem dX9_init_49 : decode cX9_init 49 = .ok (.iconst 0, 1) := de3 hX9_init_41 8 rfl rfl
theorem dX9_init_50 : decode cX9_init 50 = .ok (.istore_n 2, 1) := de61 hX9_init_41 9 rfl rfl
theorem dX9_init_51 : decode cX9_init 51 = .ok (.iconst 0, 1) := de3 hX9_init_41 10 rfl rfl
theorem dX9_init_52 : decode cX9_init 52 = .ok (.istore_n 3, 1) := de62 hX9_init_41 11 rfl rfl
theorem dX9_init_53 : decode cX9_init 53 = .ok (.iload_n 3, 1) := de29 hX9_init_41 12 rfl rfl
theorem dX9_init_54 : decode cX9_init 54 = .ok (.sipush 300, 3) := de17 hX9_init_41 13 rfl rfl (by decide +kernel)
theorem dX9_init_57 : decode cX9_init 57 = .ok (.if_icmp .ge 46, 3) := de162 hX9_init_41 16 rfl rfl (by decide +kernel)
theorem dX9_init_60 : decode cX9_init 60 = .ok (.iload_n 2, 1) := de28 hX9_init_41 19 rfl rfl
theorem hX9_init_61 : bHas cX9_init 61 [16, 38, 162, 0, 40, 29, 16, 100, 108, 29, 16, 10, 108, 16, 10, 112, 29, 16, 10] := bH_c (n := 19) (by decide +kernel)
theorem dX9_init_61 : decode cX9_init 61 = .ok (.bipush 38, 2) := de16 hX9_init_61 0 rfl rfl rfl
theorem dX9_init_63 : decode cX9_init 63 = .ok (.if_icmp .ge 40, 3) := de162 hX9_init_61 2 rfl rfl (by decide +kernel)
theorem dX9_init_66 : decode cX9_init 66 = .ok (.iload_n 3, 1) := de29 hX9_init_61 5 rfl rfl
theorem dX9_init_67 : decode cX9_init 67 = .ok (.bipush 100, 2) := de16 hX9_init_61 6 rfl rfl rfl
theorem dX9_init_69 : decode cX9_init 69 = .ok (.idiv, 1) := de108 hX9_init_61 8 rfl rfl
theorem dX9_init_70 : decode cX9_init 70 = .ok (.iload_n 3, 1) := de29 hX9_init_61 9 rfl rfl
theorem dX9_init_71 : decode cX9_init 71 = .ok (.bipush 10, 2) := de16 hX9_init_61 10 rfl rfl rfl
theorem dX9_init_73 : decode cX9_init 73 = .ok (.idiv, 1) := de108 hX9_init_61 12 rfl rfl
theorem dX9_init_74 : decode cX9_init 74 = .ok (.bipush 10, 2) := de16 hX9_init_61 13 rfl rfl rfl
theorem dX9_init_76 : decode cX9_init 76 = .ok (.irem, 1) := de112 hX9_init_61 15 rfl rfl
theorem dX9_init_77 : decode cX9_init 77 = .ok (.iload_n 3, 1) := de29 hX9_init_61 16 rfl rfl
theorem dX9_init_78 : decode cX9_init 78 = .ok (.bipush 10, 2) := de16 hX9_init_61 17 rfl rfl rfl
theorem hX9_init_80 : bHas cX9_init 80 [112, 184, 0, 31, 153, 0, 13, 42, 180, 0, 11, 28, 29, 79, 132, 2, 1, 132, 3, 1, 167, 255, 209, 177] := bH_c (n := 24) (by decide +kernel)
theorem dX9_init_80 : decode cX9_init 80 = .ok (.irem, 1) := de112 hX9_init_80 0 rfl rfl
theorem dX9_init_81 : decode cX9_init 81 = .ok (.invokestatic 31, 3) := de184 hX9_init_80 1 rfl rfl rfl
theorem dX9_init_84 : decode cX9_init 84 = .ok (.ifCond .eq 13, 3) := de153 hX9_init_80 4 rfl rfl (by decide +kernel)
theorem dX9_init_87 : decode cX9_init 87 = .ok (.aload_n 0, 1) := de42 hX9_init_80 7 rfl rfl
theorem dX9_init_88 : decode cX9_init 88 = .ok (.getfield 11, 3) := de180 hX9_init_80 8 rfl rfl rfl
theorem dX9_init_91 : decode cX9_init 91 = .ok (.iload_n 2, 1) := de28 hX9_init_80 11 rfl rfl
theorem dX9_init_92 : decode cX9_init 92 = .ok (.iload_n 3, 1) := de29 hX9_init_80 12 rfl rfl
theorem dX9_init_93 : decode cX9_init 93 = .ok (.iastore, 1) := de79 hX9_init_80 13 rfl rfl
theorem dX9_init_94 : decode cX9_init 94 = .ok (.iinc 2 1, 3) := de132 hX9_init_80 14 rfl rfl rfl rfl
theorem dX9_init_97 : decode cX9_init 97 = .ok (.iinc 3 1, 3) := de132 hX9_init_80 17 rfl rfl rfl rfl
theorem dX9_init_100 : decode cX9_init 100 = .ok (.goto (-47), 3) := de167 hX9_init_80 20 rfl rfl (by decide +kernel)
theorem dX9_init_103 : decode cX9_init 103 = .ok (.return_, 1) := de177 hX9_init_80 23 rfl rfl
theorem hX9_isMending_0 : bHas cX9_isMending 0 [26, 154, 0, 19, 27, 16, 6, 162, 0, 11, 28, 154, 0, 7, 4, 167, 0, 4, 3, 172, 26] := bH_c (n := 21) (by decide +kernel)
theorem dX9_isMending_0 : decode cX9_isMending 0 = .ok (.iload_n 0, 1) := de26 hX9_isMending_0 0 rfl rfl
theorem dX9_isMending_1 : decode cX9_isMending 1 = .ok (.ifCond .ne 19, 3) := de154 hX9_isMending_0 1 rfl rfl (by decide +kernel)
theorem dX9_isMending_4 : decode cX9_isMending 4 = .ok (.iload_n 1, 1) := de27 hX9_isMending_0 4 rfl rfl
theorem dX9_isMending_5 : decode cX9_isMending 5 = .ok (.bipush 6, 2) := de16 hX9_isMending_0 5 rfl rfl rfl
theorem dX9_isMending_7 : decode cX9_isMending 7 = .ok (.if_icmp .ge 11, 3) := de162 hX9_isMending_0 7 rfl rfl (by decide +kernel)
theorem dX9_isMending_10 : decode cX9_isMending 10 = .ok (.iload_n 2, 1) := de28 hX9_isMending_0 10 rfl rfl
theorem dX9_isMending_11 : decode cX9_isMending 11 = .ok (.ifCond .ne 7, 3) := de154 hX9_isMending_0 11 rfl rfl (by decide +kernel)
theorem dX9_isMending_14 : decode cX9_isMending 14 = .ok (.iconst 1, 1) := de4 hX9_isMending_0 14 rfl rfl
theorem dX9_isMending_15 : decode cX9_isMending 15 = .ok (.goto 4, 3) := de167 hX9_isMending_0 15 rfl rfl (by decide +kernel)
theorem dX9_isMending_18 : decode cX9_isMending 18 = .ok (.iconst 0, 1) := de3 hX9_isMending_0 18 rfl rfl
theorem dX9_isMending_19 : decode cX9_isMending 19 = .ok (.ireturn, 1) := de172 hX9_isMending_0 19 rfl rfl
theorem dX9_isMending_20 : decode cX9_isMending 20 = .ok (.iload_n 0, 1) := de26 hX9_isMending_0 20 rfl rfl
theorem hX9_isMending_21 : bHas cX9_isMending 21 [4, 160, 0, 25, 27, 4, 161, 0, 18, 28, 27, 161, 0, 13, 28, 16, 7, 162, 0, 7, 4] := bH_c (n := 21) (by decide +kernel)
theorem dX9_isMending_21 : decode cX9_isMending 21 = .ok (.iconst 1, 1) := de4 hX9_isMending_21 0 rfl rfl
theorem dX9_isMending_22 : decode cX9_isMending 22 = .ok (.if_icmp .ne 25, 3) := de160 hX9_isMending_21 1 rfl rfl (by decide +kernel)
theorem dX9_isMending_25 : decode cX9_isMending 25 = .ok (.iload_n 1, 1) := de27 hX9_isMending_21 4 rfl rfl
theorem dX9_isMending_26 : decode cX9_isMending 26 = .ok (.iconst 1, 1) := de4 hX9_isMending_21 5 rfl rfl
theorem dX9_isMending_27 : decode cX9_isMending 27 = .ok (.if_icmp .lt 18, 3) := de161 hX9_isMending_21 6 rfl rfl (by decide +kernel)
theorem dX9_isMending_30 : decode cX9_isMending 30 = .ok (.iload_n 2, 1) := de28 hX9_isMending_21 9 rfl rfl
theorem dX9_isMending_31 : decode cX9_isMending 31 = .ok (.iload_n 1, 1) := de27 hX9_isMending_21 10 rfl rfl
theorem dX9_isMending_32 : decode cX9_isMending 32 = .ok (.if_icmp .lt 13, 3) := de161 hX9_isMending_21 11 rfl rfl (by decide +kernel)
theorem dX9_isMending_35 : decode cX9_isMending 35 = .ok (.iload_n 2, 1) := de28 hX9_isMending_21 14 rfl rfl
theorem dX9_isMending_36 : decode cX9_isMending 36 = .ok (.bipush 7, 2) := de16 hX9_isMending_21 15 rfl rfl rfl
theorem dX9_isMending_38 : decode cX9_isMending 38 = .ok (.if_icmp .ge 7, 3) := de162 hX9_isMending_21 17 rfl rfl (by decide +kernel)
theorem dX9_isMending_41 : decode cX9_isMending 41 = .ok (.iconst 1, 1) := de4 hX9_isMending_21 20 rfl rfl
theorem hX9_isMending_42 : bHas cX9_isMending 42 [167, 0, 4, 3, 172, 28, 16, 7, 162, 0, 21, 28, 27, 4, 96, 159, 0, 10, 28] := bH_c (n := 19) (by decide +kernel)
theorem dX9_isMending_42 : decode cX9_isMending 42 = .ok (.goto 4, 3) := de167 hX9_isMending_42 0 rfl rfl (by decide +kernel)
theorem dX9_isMending_45 : decode cX9_isMending 45 = .ok (.iconst 0, 1) := de3 hX9_isMending_42 3 rfl rfl
theorem dX9_isMending_46 : decode cX9_isMending 46 = .ok (.ireturn, 1) := de172 hX9_isMending_42 4 rfl rfl
theorem dX9_isMending_47 : decode cX9_isMending 47 = .ok (.iload_n 2, 1) := de28 hX9_isMending_42 5 rfl rfl
theorem dX9_isMending_48 : decode cX9_isMending 48 = .ok (.bipush 7, 2) := de16 hX9_isMending_42 6 rfl rfl rfl
theorem dX9_isMending_50 : decode cX9_isMending 50 = .ok (.if_icmp .ge 21, 3) := de162 hX9_isMending_42 8 rfl rfl (by decide +kernel)
theorem dX9_isMending_53 : decode cX9_isMending 53 = .ok (.iload_n 2, 1) := de28 hX9_isMending_42 11 rfl rfl
theorem dX9_isMending_54 : decode cX9_isMending 54 = .ok (.iload_n 1, 1) := de27 hX9_isMending_42 12 rfl rfl
theorem dX9_isMending_55 : decode cX9_isMending 55 = .ok (.iconst 1, 1) := de4 hX9_isMending_42 13 rfl rfl
theorem dX9_isMending_56 : decode cX9_isMending 56 = .ok (.iadd, 1) := de96 hX9_isMending_42 14 rfl rfl
theorem dX9_isMending_57 : decode cX9_isMending 57 = .ok (.if_icmp .eq 10, 3) := de159 hX9_isMending_42 15 rfl rfl (by decide +kernel)
theorem dX9_isMending_60 : decode cX9_isMending 60 = .ok (.iload_n 2, 1) := de28 hX9_isMending_42 18 rfl rfl
theorem hX9_isMending_61 : bHas cX9_isMending 61 [27, 5, 96, 160, 0, 7, 4, 167, 0, 4, 3, 172] := bH_c (n := 12) (by decide +kernel)
theorem dX9_isMending_61 : decode cX9_isMending 61 = .ok (.iload_n 1, 1) := de27 hX9_isMending_61 0 rfl rfl
theorem dX9_isMending_62 : decode cX9_isMending 62 = .ok (.iconst 2, 1) := de5 hX9_isMending_61 1 rfl rfl
theorem dX9_isMending_63 : decode cX9_isMending 63 = .ok (.iadd, 1) := de96 hX9_isMending_61 2 rfl rfl
theorem dX9_isMending_64 : decode cX9_isMending 64 = .ok (.if_icmp .ne 7, 3) := de160 hX9_isMending_61 3 rfl rfl (by decide +kernel)
theorem dX9_isMending_67 : decode cX9_isMending 67 = .ok (.iconst 1, 1) := de4 hX9_isMending_61 6 rfl rfl
theorem dX9_isMending_68 : decode cX9_isMending 68 = .ok (.goto 4, 3) := de167 hX9_isMending_61 7 rfl rfl (by decide +kernel)
theorem dX9_isMending_71 : decode cX9_isMending 71 = .ok (.iconst 0, 1) := de3 hX9_isMending_61 10 rfl rfl
theorem dX9_isMending_72 : decode cX9_isMending 72 = .ok (.ireturn, 1) := de172 hX9_isMending_61 11 rfl rfl
theorem hX9_explain_0 : bHas cX9_explain 0 [3, 61, 28, 16, 7, 162, 0, 51, 42, 180, 0, 15, 28, 3, 42, 180, 0, 27, 180, 0, 35] := bH_c (n := 21) (by decide +kernel)
theorem dX9_explain_0 : decode cX9_explain 0 = .ok (.iconst 0, 1) := de3 hX9_explain_0 0 rfl rfl
theorem dX9_explain_1 : decode cX9_explain 1 = .ok (.istore_n 2, 1) := de61 hX9_explain_0 1 rfl rfl
theorem dX9_explain_2 : decode cX9_explain 2 = .ok (.iload_n 2, 1) := de28 hX9_explain_0 2 rfl rfl
theorem dX9_explain_3 : decode cX9_explain 3 = .ok (.bipush 7, 2) := de16 hX9_explain_0 3 rfl rfl rfl
theorem dX9_explain_5 : decode cX9_explain 5 = .ok (.if_icmp .ge 51, 3) := de162 hX9_explain_0 5 rfl rfl (by decide +kernel)
theorem dX9_explain_8 : decode cX9_explain 8 = .ok (.aload_n 0, 1) := de42 hX9_explain_0 8 rfl rfl
theorem dX9_explain_9 : decode cX9_explain 9 = .ok (.getfield 15, 3) := de180 hX9_explain_0 9 rfl rfl rfl
theorem dX9_explain_12 : decode cX9_explain 12 = .ok (.iload_n 2, 1) := de28 hX9_explain_0 12 rfl rfl
theorem dX9_explain_13 : decode cX9_explain 13 = .ok (.iconst 0, 1) := de3 hX9_explain_0 13 rfl rfl
theorem dX9_explain_14 : decode cX9_explain 14 = .ok (.aload_n 0, 1) := de42 hX9_explain_0 14 rfl rfl
theorem dX9_explain_15 : decode cX9_explain 15 = .ok (.getfield 27, 3) := de180 hX9_explain_0 15 rfl rfl rfl
theorem dX9_explain_18 : decode cX9_explain 18 = .ok (.getfield 35, 3) := de180 hX9_explain_0 18 rfl rfl rfl
theorem hX9_explain_21 : bHas cX9_explain 21 [27, 28, 96, 46, 184, 0, 40, 79, 42, 180, 0, 18, 28, 3, 42, 180, 0, 27] := bH_c (n := 18) (by decide +kernel)
theorem dX9_explain_21 : decode cX9_explain 21 = .ok (.iload_n 1, 1) := de27 hX9_explain_21 0 rfl rfl
theorem dX9_explain_22 : decode cX9_explain 22 = .ok (.iload_n 2, 1) := de28 hX9_explain_21 1 rfl rfl
theorem dX9_explain_23 : decode cX9_explain 23 = .ok (.iadd, 1) := de96 hX9_explain_21 2 rfl rfl
theorem dX9_explain_24 : decode cX9_explain 24 = .ok (.iaload, 1) := de46 hX9_explain_21 3 rfl rfl
theorem dX9_explain_25 : decode cX9_explain 25 = .ok (.invokestatic 40, 3) := de184 hX9_explain_21 4 rfl rfl rfl
theorem dX9_explain_28 : decode cX9_explain 28 = .ok (.iastore, 1) := de79 hX9_explain_21 7 rfl rfl
theorem dX9_explain_29 : decode cX9_explain 29 = .ok (.aload_n 0, 1) := de42 hX9_explain_21 8 rfl rfl
theorem dX9_explain_30 : decode cX9_explain 30 = .ok (.getfield 18, 3) := de180 hX9_explain_21 9 rfl rfl rfl
theorem dX9_explain_33 : decode cX9_explain 33 = .ok (.iload_n 2, 1) := de28 hX9_explain_21 12 rfl rfl
theorem dX9_explain_34 : decode cX9_explain 34 = .ok (.iconst 0, 1) := de3 hX9_explain_21 13 rfl rfl
theorem dX9_explain_35 : decode cX9_explain 35 = .ok (.aload_n 0, 1) := de42 hX9_explain_21 14 rfl rfl
theorem dX9_explain_36 : decode cX9_explain 36 = .ok (.getfield 27, 3) := de180 hX9_explain_21 15 rfl rfl rfl
theorem hX9_explain_39 : bHas cX9_explain 39 [180, 0, 46, 27, 28, 96, 46, 184, 0, 40, 79, 132, 2, 1, 167, 255, 205, 42, 42, 42] := bH_c (n := 20) (by decide +kernel)
theorem dX9_explain_39 : decode cX9_explain 39 = .ok (.getfield 46, 3) := de180 hX9_explain_39 0 rfl rfl rfl
theorem dX9_explain_42 : decode cX9_explain 42 = .ok (.iload_n 1, 1) := de27 hX9_explain_39 3 rfl rfl
theorem dX9_explain_43 : decode cX9_explain 43 = .ok (.iload_n 2, 1) := de28 hX9_explain_39 4 rfl rfl
theorem dX9_explain_44 : decode cX9_explain 44 = .ok (.iadd, 1) := de96 hX9_explain_39 5 rfl rfl
theorem dX9_explain_45 : decode cX9_explain 45 = .ok (.iaload, 1) := de46 hX9_explain_39 6 rfl rfl
theorem dX9_explain_46 : decode cX9_explain 46 = .ok (.invokestatic 40, 3) := de184 hX9_explain_39 7 rfl rfl rfl
theorem dX9_explain_49 : decode cX9_explain 49 = .ok (.iastore, 1) := de79 hX9_explain_39 10 rfl rfl
theorem dX9_explain_50 : decode cX9_explain 50 = .ok (.iinc 2 1, 3) := de132 hX9_explain_39 11 rfl rfl rfl rfl
theorem dX9_explain_53 : decode cX9_explain 53 = .ok (.goto (-51), 3) := de167 hX9_explain_39 14 rfl rfl (by decide +kernel)
theorem dX9_explain_56 : decode cX9_explain 56 = .ok (.aload_n 0, 1) := de42 hX9_explain_39 17 rfl rfl
theorem dX9_explain_57 : decode cX9_explain 57 = .ok (.aload_n 0, 1) := de42 hX9_explain_39 18 rfl rfl
theorem dX9_explain_58 : decode cX9_explain 58 = .ok (.aload_n 0, 1) := de42 hX9_explain_39 19 rfl rfl
theorem hX9_explain_59 : bHas cX9_explain 59 [180, 0, 15, 182, 0, 47, 181, 0, 51, 42, 3, 181, 0, 55, 42, 2, 181, 0, 58, 42, 2, 181, 0, 61] := bH_c (n := 24) (by decide +kernel)
theorem dX9_explain_59 : decode cX9_explain 59 = .ok (.getfield 15, 3) := de180 hX9_explain_59 0 rfl rfl rfl
theorem dX9_explain_62 : decode cX9_explain 62 = .ok (.invokevirtual 47, 3) := de182 hX9_explain_59 3 rfl rfl rfl
theorem dX9_explain_65 : decode cX9_explain 65 = .ok (.putfield 51, 3) := de181 hX9_explain_59 6 rfl rfl rfl
theorem dX9_explain_68 : decode cX9_explain 68 = .ok (.aload_n 0, 1) := de42 hX9_explain_59 9 rfl rfl
theorem dX9_explain_69 : decode cX9_explain 69 = .ok (.iconst 0, 1) := de3 hX9_explain_59 10 rfl rfl
theorem dX9_explain_70 : decode cX9_explain 70 = .ok (.putfield 55, 3) := de181 hX9_explain_59 11 rfl rfl rfl
theorem dX9_explain_73 : decode cX9_explain 73 = .ok (.aload_n 0, 1) := de42 hX9_explain_59 14 rfl rfl
theorem dX9_explain_74 : decode cX9_explain 74 = .ok (.iconst (-1), 1) := de2 hX9_explain_59 15 rfl rfl
theorem dX9_explain_75 : decode cX9_explain 75 = .ok (.putfield 58, 3) := de181 hX9_explain_59 16 rfl rfl rfl
theorem dX9_explain_78 : decode cX9_explain 78 = .ok (.aload_n 0, 1) := de42 hX9_explain_59 19 rfl rfl
theorem dX9_explain_79 : decode cX9_explain 79 = .ok (.iconst (-1), 1) := de2 hX9_explain_59 20 rfl rfl
theorem dX9_explain_80 : decode cX9_explain 80 = .ok (.putfield 61, 3) := de181 hX9_explain_59 21 rfl rfl rfl
theorem hX9_explain_83 : bHas cX9_explain 83 [42, 182, 0, 64, 42, 182, 0, 67, 177] := bH_c (n := 9) (by decide +kernel)
theorem dX9_explain_83 : decode cX9_explain 83 = .ok (.aload_n 0, 1) := de42 hX9_explain_83 0 rfl rfl
theorem dX9_explain_84 : decode cX9_explain 84 = .ok (.invokevirtual 64, 3) := de182 hX9_explain_83 1 rfl rfl rfl
theorem dX9_explain_87 : decode cX9_explain 87 = .ok (.aload_n 0, 1) := de42 hX9_explain_83 4 rfl rfl
theorem dX9_explain_88 : decode cX9_explain 88 = .ok (.invokevirtual 67, 3) := de182 hX9_explain_83 5 rfl rfl rfl
theorem dX9_explain_91 : decode cX9_explain 91 = .ok (.return_, 1) := de177 hX9_explain_83 8 rfl rfl
theorem hX9_tryOne_0 : bHas cX9_tryOne 0 [42, 180, 0, 27, 180, 0, 70, 180, 0, 74, 4, 46, 60, 3, 61, 28, 16, 38, 162, 0, 52] := bH_c (n := 21) (by decide +kernel)
theorem dX9_tryOne_0 : decode cX9_tryOne 0 = .ok (.aload_n 0, 1) := de42 hX9_tryOne_0 0 rfl rfl
theorem dX9_tryOne_1 : decode cX9_tryOne 1 = .ok (.getfield 27, 3) := de180 hX9_tryOne_0 1 rfl rfl rfl
theorem dX9_tryOne_4 : decode cX9_tryOne 4 = .ok (.getfield 70, 3) := de180 hX9_tryOne_0 4 rfl rfl rfl
theorem dX9_tryOne_7 : decode cX9_tryOne 7 = .ok (.getfield 74, 3) := de180 hX9_tryOne_0 7 rfl rfl rfl
theorem dX9_tryOne_10 : decode cX9_tryOne 10 = .ok (.iconst 1, 1) := de4 hX9_tryOne_0 10 rfl rfl
theorem dX9_tryOne_11 : decode cX9_tryOne 11 = .ok (.iaload, 1) := de46 hX9_tryOne_0 11 rfl rfl
theorem dX9_tryOne_12 : decode cX9_tryOne 12 = .ok (.istore_n 1, 1) := de60 hX9_tryOne_0 12 rfl rfl
theorem dX9_tryOne_13 : decode cX9_tryOne 13 = .ok (.iconst 0, 1) := de3 hX9_tryOne_0 13 rfl rfl
theorem dX9_tryOne_14 : decode cX9_tryOne 14 = .ok (.istore_n 2, 1) := de61 hX9_tryOne_0 14 rfl rfl
theorem dX9_tryOne_15 : decode cX9_tryOne 15 = .ok (.iload_n 2, 1) := de28 hX9_tryOne_0 15 rfl rfl
theorem dX9_tryOne_16 : decode cX9_tryOne 16 = .ok (.bipush 38, 2) := de16 hX9_tryOne_0 16 rfl rfl rfl
theorem dX9_tryOne_18 : decode cX9_tryOne 18 = .ok (.if_icmp .ge 52, 3) := de162 hX9_tryOne_0 18 rfl rfl (by decide +kernel)
theorem hX9_tryOne_21 : bHas cX9_tryOne 21 [42, 42, 180, 0, 15, 42, 180, 0, 11, 28, 46, 42, 180, 0, 21, 182, 0, 79, 153, 0, 25, 42] := bH_c (n := 22) (by decide +kernel)
theorem dX9_tryOne_21 : decode cX9_tryOne 21 = .ok (.aload_n 0, 1) := de42 hX9_tryOne_21 0 rfl rfl
theorem dX9_tryOne_22 : decode cX9_tryOne 22 = .ok (.aload_n 0, 1) := de42 hX9_tryOne_21 1 rfl rfl
theorem dX9_tryOne_23 : decode cX9_tryOne 23 = .ok (.getfield 15, 3) := de180 hX9_tryOne_21 2 rfl rfl rfl
theorem dX9_tryOne_26 : decode cX9_tryOne 26 = .ok (.aload_n 0, 1) := de42 hX9_tryOne_21 5 rfl rfl
theorem dX9_tryOne_27 : decode cX9_tryOne 27 = .ok (.getfield 11, 3) := de180 hX9_tryOne_21 6 rfl rfl rfl
theorem dX9_tryOne_30 : decode cX9_tryOne 30 = .ok (.iload_n 2, 1) := de28 hX9_tryOne_21 9 rfl rfl
theorem dX9_tryOne_31 : decode cX9_tryOne 31 = .ok (.iaload, 1) := de46 hX9_tryOne_21 10 rfl rfl
theorem dX9_tryOne_32 : decode cX9_tryOne 32 = .ok (.aload_n 0, 1) := de42 hX9_tryOne_21 11 rfl rfl
theorem dX9_tryOne_33 : decode cX9_tryOne 33 = .ok (.getfield 21, 3) := de180 hX9_tryOne_21 12 rfl rfl rfl
theorem dX9_tryOne_36 : decode cX9_tryOne 36 = .ok (.invokevirtual 79, 3) := de182 hX9_tryOne_21 15 rfl rfl rfl
theorem dX9_tryOne_39 : decode cX9_tryOne 39 = .ok (.ifCond .eq 25, 3) := de153 hX9_tryOne_21 18 rfl rfl (by decide +kernel)
theorem dX9_tryOne_42 : decode cX9_tryOne 42 = .ok (.aload_n 0, 1) := de42 hX9_tryOne_21 21 rfl rfl
theorem hX9_tryOne_43 : bHas cX9_tryOne 43 [42, 42, 180, 0, 21, 182, 0, 47, 27, 96, 4, 42, 180, 0, 11, 28, 46, 2] := bH_c (n := 18) (by decide +kernel)
theorem dX9_tryOne_43 : decode cX9_tryOne 43 = .ok (.aload_n 0, 1) := de42 hX9_tryOne_43 0 rfl rfl
theorem dX9_tryOne_44 : decode cX9_tryOne 44 = .ok (.aload_n 0, 1) := de42 hX9_tryOne_43 1 rfl rfl
theorem dX9_tryOne_45 : decode cX9_tryOne 45 = .ok (.getfield 21, 3) := de180 hX9_tryOne_43 2 rfl rfl rfl
theorem dX9_tryOne_48 : decode cX9_tryOne 48 = .ok (.invokevirtual 47, 3) := de182 hX9_tryOne_43 5 rfl rfl rfl
theorem dX9_tryOne_51 : decode cX9_tryOne 51 = .ok (.iload_n 1, 1) := de27 hX9_tryOne_43 8 rfl rfl
theorem dX9_tryOne_52 : decode cX9_tryOne 52 = .ok (.iadd, 1) := de96 hX9_tryOne_43 9 rfl rfl
theorem dX9_tryOne_53 : decode cX9_tryOne 53 = .ok (.iconst 1, 1) := de4 hX9_tryOne_43 10 rfl rfl
theorem dX9_tryOne_54 : decode cX9_tryOne 54 = .ok (.aload_n 0, 1) := de42 hX9_tryOne_43 11 rfl rfl
theorem dX9_tryOne_55 : decode cX9_tryOne 55 = .ok (.getfield 11, 3) := de180 hX9_tryOne_43 12 rfl rfl rfl
theorem dX9_tryOne_58 : decode cX9_tryOne 58 = .ok (.iload_n 2, 1) := de28 hX9_tryOne_43 15 rfl rfl
theorem dX9_tryOne_59 : decode cX9_tryOne 59 = .ok (.iaload, 1) := de46 hX9_tryOne_43 16 rfl rfl
theorem dX9_tryOne_60 : decode cX9_tryOne 60 = .ok (.iconst (-1), 1) := de2 hX9_tryOne_43 17 rfl rfl
theorem hX9_tryOne_61 : bHas cX9_tryOne 61 [182, 0, 83, 132, 2, 1, 167, 255, 204, 177] := bH_c (n := 10) (by decide +kernel)
theorem dX9_tryOne_61 : decode cX9_tryOne 61 = .ok (.invokevirtual 83, 3) := de182 hX9_tryOne_61 0 rfl rfl rfl
theorem dX9_tryOne_64 : decode cX9_tryOne 64 = .ok (.iinc 2 1, 3) := de132 hX9_tryOne_61 3 rfl rfl rfl rfl
theorem dX9_tryOne_67 : decode cX9_tryOne 67 = .ok (.goto (-52), 3) := de167 hX9_tryOne_61 6 rfl rfl (by decide +kernel)
theorem dX9_tryOne_70 : decode cX9_tryOne 70 = .ok (.return_, 1) := de177 hX9_tryOne_61 9 rfl rfl
theorem hX9_tryTwo_0 : bHas cX9_tryTwo 0 [5, 42, 180, 0, 27, 180, 0, 70, 180, 0, 74, 4, 46, 104, 60, 3, 61, 28] := bH_c (n := 18) (by decide +kernel)
theorem dX9_tryTwo_0 : decode cX9_tryTwo 0 = .ok (.iconst 2, 1) := de5 hX9_tryTwo_0 0 rfl rfl
theorem dX9_tryTwo_1 : decode cX9_tryTwo 1 = .ok (.aload_n 0, 1) := de42 hX9_tryTwo_0 1 rfl rfl
theorem dX9_tryTwo_2 : decode cX9_tryTwo 2 = .ok (.getfield 27, 3) := de180 hX9_tryTwo_0 2 rfl rfl rfl
theorem dX9_tryTwo_5 : decode cX9_tryTwo 5 = .ok (.getfield 70, 3) := de180 hX9_tryTwo_0 5 rfl rfl rfl
theorem dX9_tryTwo_8 : decode cX9_tryTwo 8 = .ok (.getfield 74, 3) := de180 hX9_tryTwo_0 8 rfl rfl rfl
theorem dX9_tryTwo_11 : decode cX9_tryTwo 11 = .ok (.iconst 1, 1) := de4 hX9_tryTwo_0 11 rfl rfl
theorem dX9_tryTwo_12 : decode cX9_tryTwo 12 = .ok (.iaload, 1) := de46 hX9_tryTwo_0 12 rfl rfl
theorem dX9_tryTwo_13 : decode cX9_tryTwo 13 = .ok (.imul, 1) := de104 hX9_tryTwo_0 13 rfl rfl
theorem dX9_tryTwo_14 : decode cX9_tryTwo 14 = .ok (.istore_n 1, 1) := de60 hX9_tryTwo_0 14 rfl rfl
theorem dX9_tryTwo_15 : decode cX9_tryTwo 15 = .ok (.iconst 0, 1) := de3 hX9_tryTwo_0 15 rfl rfl
theorem dX9_tryTwo_16 : decode cX9_tryTwo 16 = .ok (.istore_n 2, 1) := de61 hX9_tryTwo_0 16 rfl rfl
theorem dX9_tryTwo_17 : decode cX9_tryTwo 17 = .ok (.iload_n 2, 1) := de28 hX9_tryTwo_0 17 rfl rfl
theorem hX9_tryTwo_18 : bHas cX9_tryTwo 18 [16, 38, 162, 0, 95, 42, 42, 180, 0, 15, 42, 180, 0, 11, 28, 46, 42, 180, 0, 21, 182, 0, 79] := bH_c (n := 23) (by decide +kernel)
theorem dX9_tryTwo_18 : decode cX9_tryTwo 18 = .ok (.bipush 38, 2) := de16 hX9_tryTwo_18 0 rfl rfl rfl
theorem dX9_tryTwo_20 : decode cX9_tryTwo 20 = .ok (.if_icmp .ge 95, 3) := de162 hX9_tryTwo_18 2 rfl rfl (by decide +kernel)
theorem dX9_tryTwo_23 : decode cX9_tryTwo 23 = .ok (.aload_n 0, 1) := de42 hX9_tryTwo_18 5 rfl rfl
theorem dX9_tryTwo_24 : decode cX9_tryTwo 24 = .ok (.aload_n 0, 1) := de42 hX9_tryTwo_18 6 rfl rfl
theorem dX9_tryTwo_25 : decode cX9_tryTwo 25 = .ok (.getfield 15, 3) := de180 hX9_tryTwo_18 7 rfl rfl rfl
theorem dX9_tryTwo_28 : decode cX9_tryTwo 28 = .ok (.aload_n 0, 1) := de42 hX9_tryTwo_18 10 rfl rfl
theorem dX9_tryTwo_29 : decode cX9_tryTwo 29 = .ok (.getfield 11, 3) := de180 hX9_tryTwo_18 11 rfl rfl rfl
theorem dX9_tryTwo_32 : decode cX9_tryTwo 32 = .ok (.iload_n 2, 1) := de28 hX9_tryTwo_18 14 rfl rfl
theorem dX9_tryTwo_33 : decode cX9_tryTwo 33 = .ok (.iaload, 1) := de46 hX9_tryTwo_18 15 rfl rfl
theorem dX9_tryTwo_34 : decode cX9_tryTwo 34 = .ok (.aload_n 0, 1) := de42 hX9_tryTwo_18 16 rfl rfl
theorem dX9_tryTwo_35 : decode cX9_tryTwo 35 = .ok (.getfield 21, 3) := de180 hX9_tryTwo_18 17 rfl rfl rfl
theorem dX9_tryTwo_38 : decode cX9_tryTwo 38 = .ok (.invokevirtual 79, 3) := de182 hX9_tryTwo_18 20 rfl rfl rfl
theorem hX9_tryTwo_41 : bHas cX9_tryTwo 41 [154, 0, 6, 167, 0, 65, 3, 62, 29, 16, 38, 162, 0, 57, 42, 42, 180, 0, 21, 42, 180, 0, 11] := bH_c (n := 23) (by decide +kernel)
theorem dX9_tryTwo_41 : decode cX9_tryTwo 41 = .ok (.ifCond .ne 6, 3) := de154 hX9_tryTwo_41 0 rfl rfl (by decide +kernel)
theorem dX9_tryTwo_44 : decode cX9_tryTwo 44 = .ok (.goto 65, 3) := de167 hX9_tryTwo_41 3 rfl rfl (by decide +kernel)
theorem dX9_tryTwo_47 : decode cX9_tryTwo 47 = .ok (.iconst 0, 1) := de3 hX9_tryTwo_41 6 rfl rfl
theorem dX9_tryTwo_48 : decode cX9_tryTwo 48 = .ok (.istore_n 3, 1) := de62 hX9_tryTwo_41 7 rfl rfl
theorem dX9_tryTwo_49 : decode cX9_tryTwo 49 = .ok (.iload_n 3, 1) := de29 hX9_tryTwo_41 8 rfl rfl
theorem dX9_tryTwo_50 : decode cX9_tryTwo 50 = .ok (.bipush 38, 2) := de16 hX9_tryTwo_41 9 rfl rfl rfl
theorem dX9_tryTwo_52 : decode cX9_tryTwo 52 = .ok (.if_icmp .ge 57, 3) := de162 hX9_tryTwo_41 11 rfl rfl (by decide +kernel)
theorem dX9_tryTwo_55 : decode cX9_tryTwo 55 = .ok (.aload_n 0, 1) := de42 hX9_tryTwo_41 14 rfl rfl
theorem dX9_tryTwo_56 : decode cX9_tryTwo 56 = .ok (.aload_n 0, 1) := de42 hX9_tryTwo_41 15 rfl rfl
theorem dX9_tryTwo_57 : decode cX9_tryTwo 57 = .ok (.getfield 21, 3) := de180 hX9_tryTwo_41 16 rfl rfl rfl
theorem dX9_tryTwo_60 : decode cX9_tryTwo 60 = .ok (.aload_n 0, 1) := de42 hX9_tryTwo_41 19 rfl rfl
theorem dX9_tryTwo_61 : decode cX9_tryTwo 61 = .ok (.getfield 11, 3) := de180 hX9_tryTwo_41 20 rfl rfl rfl
theorem hX9_tryTwo_64 : bHas cX9_tryTwo 64 [29, 46, 42, 180, 0, 24, 182, 0, 79, 153, 0, 30, 42, 42, 42, 180, 0, 24, 182, 0, 47, 27] := bH_c (n := 22) (by decide +kernel)
theorem dX9_tryTwo_64 : decode cX9_tryTwo 64 = .ok (.iload_n 3, 1) := de29 hX9_tryTwo_64 0 rfl rfl
theorem dX9_tryTwo_65 : decode cX9_tryTwo 65 = .ok (.iaload, 1) := de46 hX9_tryTwo_64 1 rfl rfl
theorem dX9_tryTwo_66 : decode cX9_tryTwo 66 = .ok (.aload_n 0, 1) := de42 hX9_tryTwo_64 2 rfl rfl
theorem dX9_tryTwo_67 : decode cX9_tryTwo 67 = .ok (.getfield 24, 3) := de180 hX9_tryTwo_64 3 rfl rfl rfl
theorem dX9_tryTwo_70 : decode cX9_tryTwo 70 = .ok (.invokevirtual 79, 3) := de182 hX9_tryTwo_64 6 rfl rfl rfl
theorem dX9_tryTwo_73 : decode cX9_tryTwo 73 = .ok (.ifCond .eq 30, 3) := de153 hX9_tryTwo_64 9 rfl rfl (by decide +kernel)
theorem dX9_tryTwo_76 : decode cX9_tryTwo 76 = .ok (.aload_n 0, 1) := de42 hX9_tryTwo_64 12 rfl rfl
theorem dX9_tryTwo_77 : decode cX9_tryTwo 77 = .ok (.aload_n 0, 1) := de42 hX9_tryTwo_64 13 rfl rfl
theorem dX9_tryTwo_78 : decode cX9_tryTwo 78 = .ok (.aload_n 0, 1) := de42 hX9_tryTwo_64 14 rfl rfl
theorem dX9_tryTwo_79 : decode cX9_tryTwo 79 = .ok (.getfield 24, 3) := de180 hX9_tryTwo_64 15 rfl rfl rfl
theorem dX9_tryTwo_82 : decode cX9_tryTwo 82 = .ok (.invokevirtual 47, 3) := de182 hX9_tryTwo_64 18 rfl rfl rfl
theorem dX9_tryTwo_85 : decode cX9_tryTwo 85 = .ok (.iload_n 1, 1) := de27 hX9_tryTwo_64 21 rfl rfl
theorem hX9_tryTwo_86 : bHas cX9_tryTwo 86 [96, 5, 42, 180, 0, 11, 28, 46, 42, 180, 0, 11, 29, 46, 182, 0, 83, 132, 3, 1] := bH_c (n := 20) (by decide +kernel)
theorem dX9_tryTwo_86 : decode cX9_tryTwo 86 = .ok (.iadd, 1) := de96 hX9_tryTwo_86 0 rfl rfl
theorem dX9_tryTwo_87 : decode cX9_tryTwo 87 = .ok (.iconst 2, 1) := de5 hX9_tryTwo_86 1 rfl rfl
theorem dX9_tryTwo_88 : decode cX9_tryTwo 88 = .ok (.aload_n 0, 1) := de42 hX9_tryTwo_86 2 rfl rfl
theorem dX9_tryTwo_89 : decode cX9_tryTwo 89 = .ok (.getfield 11, 3) := de180 hX9_tryTwo_86 3 rfl rfl rfl
theorem dX9_tryTwo_92 : decode cX9_tryTwo 92 = .ok (.iload_n 2, 1) := de28 hX9_tryTwo_86 6 rfl rfl
theorem dX9_tryTwo_93 : decode cX9_tryTwo 93 = .ok (.iaload, 1) := de46 hX9_tryTwo_86 7 rfl rfl
theorem dX9_tryTwo_94 : decode cX9_tryTwo 94 = .ok (.aload_n 0, 1) := de42 hX9_tryTwo_86 8 rfl rfl
theorem dX9_tryTwo_95 : decode cX9_tryTwo 95 = .ok (.getfield 11, 3) := de180 hX9_tryTwo_86 9 rfl rfl rfl
theorem dX9_tryTwo_98 : decode cX9_tryTwo 98 = .ok (.iload_n 3, 1) := de29 hX9_tryTwo_86 12 rfl rfl
theorem dX9_tryTwo_99 : decode cX9_tryTwo 99 = .ok (.iaload, 1) := de46 hX9_tryTwo_86 13 rfl rfl
theorem dX9_tryTwo_100 : decode cX9_tryTwo 100 = .ok (.invokevirtual 83, 3) := de182 hX9_tryTwo_86 14 rfl rfl rfl
theorem dX9_tryTwo_103 : decode cX9_tryTwo 103 = .ok (.iinc 3 1, 3) := de132 hX9_tryTwo_86 17 rfl rfl rfl rfl
theorem hX9_tryTwo_106 : bHas cX9_tryTwo 106 [167, 255, 199, 132, 2, 1, 167, 255, 161, 177] := bH_c (n := 10) (by decide +kernel)
theorem dX9_tryTwo_106 : decode cX9_tryTwo 106 = .ok (.goto (-57), 3) := de167 hX9_tryTwo_106 0 rfl rfl (by decide +kernel)
theorem dX9_tryTwo_109 : decode cX9_tryTwo 109 = .ok (.iinc 2 1, 3) := de132 hX9_tryTwo_106 3 rfl rfl rfl rfl
theorem dX9_tryTwo_112 : decode cX9_tryTwo 112 = .ok (.goto (-95), 3) := de167 hX9_tryTwo_106 6 rfl rfl (by decide +kernel)
theorem dX9_tryTwo_115 : decode cX9_tryTwo 115 = .ok (.return_, 1) := de177 hX9_tryTwo_106 9 rfl rfl
theorem hX9_keepBetter_0 : bHas cX9_keepBetter 0 [27, 42, 180, 0, 51, 162, 0, 24, 42, 27, 181, 0, 51, 42, 28, 181, 0, 55, 42, 29] := bH_c (n := 20) (by decide +kernel)
theorem dX9_keepBetter_0 : decode cX9_keepBetter 0 = .ok (.iload_n 1, 1) := de27 hX9_keepBetter_0 0 rfl rfl
theorem dX9_keepBetter_1 : decode cX9_keepBetter 1 = .ok (.aload_n 0, 1) := de42 hX9_keepBetter_0 1 rfl rfl
theorem dX9_keepBetter_2 : decode cX9_keepBetter 2 = .ok (.getfield 51, 3) := de180 hX9_keepBetter_0 2 rfl rfl rfl
theorem dX9_keepBetter_5 : decode cX9_keepBetter 5 = .ok (.if_icmp .ge 24, 3) := de162 hX9_keepBetter_0 5 rfl rfl (by decide +kernel)
theorem dX9_keepBetter_8 : decode cX9_keepBetter 8 = .ok (.aload_n 0, 1) := de42 hX9_keepBetter_0 8 rfl rfl
theorem dX9_keepBetter_9 : decode cX9_keepBetter 9 = .ok (.iload_n 1, 1) := de27 hX9_keepBetter_0 9 rfl rfl
theorem dX9_keepBetter_10 : decode cX9_keepBetter 10 = .ok (.putfield 51, 3) := de181 hX9_keepBetter_0 10 rfl rfl rfl
theorem dX9_keepBetter_13 : decode cX9_keepBetter 13 = .ok (.aload_n 0, 1) := de42 hX9_keepBetter_0 13 rfl rfl
theorem dX9_keepBetter_14 : decode cX9_keepBetter 14 = .ok (.iload_n 2, 1) := de28 hX9_keepBetter_0 14 rfl rfl
theorem dX9_keepBetter_15 : decode cX9_keepBetter 15 = .ok (.putfield 55, 3) := de181 hX9_keepBetter_0 15 rfl rfl rfl
theorem dX9_keepBetter_18 : decode cX9_keepBetter 18 = .ok (.aload_n 0, 1) := de42 hX9_keepBetter_0 18 rfl rfl
theorem dX9_keepBetter_19 : decode cX9_keepBetter 19 = .ok (.iload_n 3, 1) := de29 hX9_keepBetter_0 19 rfl rfl
theorem hX9_keepBetter_20 : bHas cX9_keepBetter 20 [181, 0, 58, 42, 21, 4, 181, 0, 61, 177] := bH_c (n := 10) (by decide +kernel)
theorem dX9_keepBetter_20 : decode cX9_keepBetter 20 = .ok (.putfield 58, 3) := de181 hX9_keepBetter_20 0 rfl rfl rfl
theorem dX9_keepBetter_23 : decode cX9_keepBetter 23 = .ok (.aload_n 0, 1) := de42 hX9_keepBetter_20 3 rfl rfl
theorem dX9_keepBetter_24 : decode cX9_keepBetter 24 = .ok (.iload 4, 2) := de21 hX9_keepBetter_20 4 rfl rfl rfl
theorem dX9_keepBetter_26 : decode cX9_keepBetter 26 = .ok (.putfield 61, 3) := de181 hX9_keepBetter_20 6 rfl rfl rfl
theorem dX9_keepBetter_29 : decode cX9_keepBetter 29 = .ok (.return_, 1) := de177 hX9_keepBetter_20 9 rfl rfl
theorem hX9_mend_0 : bHas cX9_mend 0 [28, 16, 10, 108, 16, 10, 112, 54, 4, 28, 16, 10, 112, 54, 5, 43, 3] := bH_c (n := 17) (by decide +kernel)
theorem dX9_mend_0 : decode cX9_mend 0 = .ok (.iload_n 2, 1) := de28 hX9_mend_0 0 rfl rfl
theorem dX9_mend_1 : decode cX9_mend 1 = .ok (.bipush 10, 2) := de16 hX9_mend_0 1 rfl rfl rfl
theorem dX9_mend_3 : decode cX9_mend 3 = .ok (.idiv, 1) := de108 hX9_mend_0 3 rfl rfl
theorem dX9_mend_4 : decode cX9_mend 4 = .ok (.bipush 10, 2) := de16 hX9_mend_0 4 rfl rfl rfl
theorem dX9_mend_6 : decode cX9_mend 6 = .ok (.irem, 1) := de112 hX9_mend_0 6 rfl rfl
theorem dX9_mend_7 : decode cX9_mend 7 = .ok (.istore 4, 2) := de54 hX9_mend_0 7 rfl rfl rfl
theorem dX9_mend_9 : decode cX9_mend 9 = .ok (.iload_n 2, 1) := de28 hX9_mend_0 9 rfl rfl
theorem dX9_mend_10 : decode cX9_mend 10 = .ok (.bipush 10, 2) := de16 hX9_mend_0 10 rfl rfl rfl
theorem dX9_mend_12 : decode cX9_mend 12 = .ok (.irem, 1) := de112 hX9_mend_0 12 rfl rfl
theorem dX9_mend_13 : decode cX9_mend 13 = .ok (.istore 5, 2) := de54 hX9_mend_0 13 rfl rfl rfl
theorem dX9_mend_15 : decode cX9_mend 15 = .ok (.aload_n 1, 1) := de43 hX9_mend_0 15 rfl rfl
theorem dX9_mend_16 : decode cX9_mend 16 = .ok (.iconst 0, 1) := de3 hX9_mend_0 16 rfl rfl
theorem hX9_mend_17 : bHas cX9_mend 17 [45, 3, 16, 7, 184, 0, 87, 28, 16, 100, 108] := bH_c (n := 11) (by decide +kernel)
theorem dX9_mend_17 : decode cX9_mend 17 = .ok (.aload_n 3, 1) := de45 hX9_mend_17 0 rfl rfl
theorem dX9_mend_18 : decode cX9_mend 18 = .ok (.iconst 0, 1) := de3 hX9_mend_17 1 rfl rfl
theorem dX9_mend_19 : decode cX9_mend 19 = .ok (.bipush 7, 2) := de16 hX9_mend_17 2 rfl rfl rfl
theorem dX9_mend_21 : decode cX9_mend 21 = .ok (.invokestatic 87, 3) := de184 hX9_mend_17 4 rfl rfl rfl
theorem dX9_mend_24 : decode cX9_mend 24 = .ok (.iload_n 2, 1) := de28 hX9_mend_17 7 rfl rfl
theorem dX9_mend_25 : decode cX9_mend 25 = .ok (.bipush 100, 2) := de16 hX9_mend_17 8 rfl rfl rfl
theorem dX9_mend_27 : decode cX9_mend 27 = .ok (.idiv, 1) := de108 hX9_mend_17 10 rfl rfl
theorem dX9_mend_28 : decode cX9_mend 28 = .ok (.lookupswitch 75 #[(0, 28), (1, 50)], 28) := by decide +kernel
theorem hX9_mend_56 : bHas cX9_mend 56 [45, 21, 4, 43, 21, 4, 4, 96, 46, 79, 45, 21, 4, 4, 96] := bH_c (n := 15) (by decide +kernel)
theorem dX9_mend_56 : decode cX9_mend 56 = .ok (.aload_n 3, 1) := de45 hX9_mend_56 0 rfl rfl
theorem dX9_mend_57 : decode cX9_mend 57 = .ok (.iload 4, 2) := de21 hX9_mend_56 1 rfl rfl rfl
theorem dX9_mend_59 : decode cX9_mend 59 = .ok (.aload_n 1, 1) := de43 hX9_mend_56 3 rfl rfl
theorem dX9_mend_60 : decode cX9_mend 60 = .ok (.iload 4, 2) := de21 hX9_mend_56 4 rfl rfl rfl
theorem dX9_mend_62 : decode cX9_mend 62 = .ok (.iconst 1, 1) := de4 hX9_mend_56 6 rfl rfl
theorem dX9_mend_63 : decode cX9_mend 63 = .ok (.iadd, 1) := de96 hX9_mend_56 7 rfl rfl
theorem dX9_mend_64 : decode cX9_mend 64 = .ok (.iaload, 1) := de46 hX9_mend_56 8 rfl rfl
theorem dX9_mend_65 : decode cX9_mend 65 = .ok (.iastore, 1) := de79 hX9_mend_56 9 rfl rfl
theorem dX9_mend_66 : decode cX9_mend 66 = .ok (.aload_n 3, 1) := de45 hX9_mend_56 10 rfl rfl
theorem dX9_mend_67 : decode cX9_mend 67 = .ok (.iload 4, 2) := de21 hX9_mend_56 11 rfl rfl rfl
theorem dX9_mend_69 : decode cX9_mend 69 = .ok (.iconst 1, 1) := de4 hX9_mend_56 13 rfl rfl
theorem dX9_mend_70 : decode cX9_mend 70 = .ok (.iadd, 1) := de96 hX9_mend_56 14 rfl rfl
theorem hX9_mend_71 : bHas cX9_mend 71 [43, 21, 4, 46, 79, 4, 172, 43, 21, 4, 45, 21, 4, 4, 100] := bH_c (n := 15) (by decide +kernel)
theorem dX9_mend_71 : decode cX9_mend 71 = .ok (.aload_n 1, 1) := de43 hX9_mend_71 0 rfl rfl
theorem dX9_mend_72 : decode cX9_mend 72 = .ok (.iload 4, 2) := de21 hX9_mend_71 1 rfl rfl rfl
theorem dX9_mend_74 : decode cX9_mend 74 = .ok (.iaload, 1) := de46 hX9_mend_71 3 rfl rfl
theorem dX9_mend_75 : decode cX9_mend 75 = .ok (.iastore, 1) := de79 hX9_mend_71 4 rfl rfl
theorem dX9_mend_76 : decode cX9_mend 76 = .ok (.iconst 1, 1) := de4 hX9_mend_71 5 rfl rfl
theorem dX9_mend_77 : decode cX9_mend 77 = .ok (.ireturn, 1) := de172 hX9_mend_71 6 rfl rfl
theorem dX9_mend_78 : decode cX9_mend 78 = .ok (.aload_n 1, 1) := de43 hX9_mend_71 7 rfl rfl
theorem dX9_mend_79 : decode cX9_mend 79 = .ok (.iload 4, 2) := de21 hX9_mend_71 8 rfl rfl rfl
theorem dX9_mend_81 : decode cX9_mend 81 = .ok (.aload_n 3, 1) := de45 hX9_mend_71 10 rfl rfl
theorem dX9_mend_82 : decode cX9_mend 82 = .ok (.iload 4, 2) := de21 hX9_mend_71 11 rfl rfl rfl
theorem dX9_mend_84 : decode cX9_mend 84 = .ok (.iconst 1, 1) := de4 hX9_mend_71 13 rfl rfl
theorem dX9_mend_85 : decode cX9_mend 85 = .ok (.isub, 1) := de100 hX9_mend_71 14 rfl rfl
theorem hX9_mend_86 : bHas cX9_mend 86 [21, 5, 21, 4, 100, 4, 96, 184, 0, 87, 45, 21, 5, 3, 79, 4, 172] := bH_c (n := 17) (by decide +kernel)
theorem dX9_mend_86 : decode cX9_mend 86 = .ok (.iload 5, 2) := de21 hX9_mend_86 0 rfl rfl rfl
theorem dX9_mend_88 : decode cX9_mend 88 = .ok (.iload 4, 2) := de21 hX9_mend_86 2 rfl rfl rfl
theorem dX9_mend_90 : decode cX9_mend 90 = .ok (.isub, 1) := de100 hX9_mend_86 4 rfl rfl
theorem dX9_mend_91 : decode cX9_mend 91 = .ok (.iconst 1, 1) := de4 hX9_mend_86 5 rfl rfl
theorem dX9_mend_92 : decode cX9_mend 92 = .ok (.iadd, 1) := de96 hX9_mend_86 6 rfl rfl
theorem dX9_mend_93 : decode cX9_mend 93 = .ok (.invokestatic 87, 3) := de184 hX9_mend_86 7 rfl rfl rfl
theorem dX9_mend_96 : decode cX9_mend 96 = .ok (.aload_n 3, 1) := de45 hX9_mend_86 10 rfl rfl
theorem dX9_mend_97 : decode cX9_mend 97 = .ok (.iload 5, 2) := de21 hX9_mend_86 11 rfl rfl rfl
theorem dX9_mend_99 : decode cX9_mend 99 = .ok (.iconst 0, 1) := de3 hX9_mend_86 13 rfl rfl
theorem dX9_mend_100 : decode cX9_mend 100 = .ok (.iastore, 1) := de79 hX9_mend_86 14 rfl rfl
theorem dX9_mend_101 : decode cX9_mend 101 = .ok (.iconst 1, 1) := de4 hX9_mend_86 15 rfl rfl
theorem dX9_mend_102 : decode cX9_mend 102 = .ok (.ireturn, 1) := de172 hX9_mend_86 16 rfl rfl
theorem hX9_mend_103 : bHas cX9_mend 103 [21, 4, 54, 6, 21, 6, 21, 5, 162, 0, 18, 43, 21, 6, 46, 153, 0, 5, 3, 172, 132, 6, 1] := bH_c (n := 23) (by decide +kernel)
theorem dX9_mend_103 : decode cX9_mend 103 = .ok (.iload 4, 2) := de21 hX9_mend_103 0 rfl rfl rfl
theorem dX9_mend_105 : decode cX9_mend 105 = .ok (.istore 6, 2) := de54 hX9_mend_103 2 rfl rfl rfl
theorem dX9_mend_107 : decode cX9_mend 107 = .ok (.iload 6, 2) := de21 hX9_mend_103 4 rfl rfl rfl
theorem dX9_mend_109 : decode cX9_mend 109 = .ok (.iload 5, 2) := de21 hX9_mend_103 6 rfl rfl rfl
theorem dX9_mend_111 : decode cX9_mend 111 = .ok (.if_icmp .ge 18, 3) := de162 hX9_mend_103 8 rfl rfl (by decide +kernel)
theorem dX9_mend_114 : decode cX9_mend 114 = .ok (.aload_n 1, 1) := de43 hX9_mend_103 11 rfl rfl
theorem dX9_mend_115 : decode cX9_mend 115 = .ok (.iload 6, 2) := de21 hX9_mend_103 12 rfl rfl rfl
theorem dX9_mend_117 : decode cX9_mend 117 = .ok (.iaload, 1) := de46 hX9_mend_103 14 rfl rfl
theorem dX9_mend_118 : decode cX9_mend 118 = .ok (.ifCond .eq 5, 3) := de153 hX9_mend_103 15 rfl rfl (by decide +kernel)
theorem dX9_mend_121 : decode cX9_mend 121 = .ok (.iconst 0, 1) := de3 hX9_mend_103 18 rfl rfl
theorem dX9_mend_122 : decode cX9_mend 122 = .ok (.ireturn, 1) := de172 hX9_mend_103 19 rfl rfl
theorem dX9_mend_123 : decode cX9_mend 123 = .ok (.iinc 6 1, 3) := de132 hX9_mend_103 20 rfl rfl rfl rfl
theorem hX9_mend_126 : bHas cX9_mend 126 [167, 255, 237, 45, 21, 4, 21, 5, 43, 21, 5, 46, 42, 180, 0, 18, 184, 0, 93, 4, 172] := bH_c (n := 21) (by decide +kernel)
theorem dX9_mend_126 : decode cX9_mend 126 = .ok (.goto (-19), 3) := de167 hX9_mend_126 0 rfl rfl (by decide +kernel)
theorem dX9_mend_129 : decode cX9_mend 129 = .ok (.aload_n 3, 1) := de45 hX9_mend_126 3 rfl rfl
theorem dX9_mend_130 : decode cX9_mend 130 = .ok (.iload 4, 2) := de21 hX9_mend_126 4 rfl rfl rfl
theorem dX9_mend_132 : decode cX9_mend 132 = .ok (.iload 5, 2) := de21 hX9_mend_126 6 rfl rfl rfl
theorem dX9_mend_134 : decode cX9_mend 134 = .ok (.aload_n 1, 1) := de43 hX9_mend_126 8 rfl rfl
theorem dX9_mend_135 : decode cX9_mend 135 = .ok (.iload 5, 2) := de21 hX9_mend_126 9 rfl rfl rfl
theorem dX9_mend_137 : decode cX9_mend 137 = .ok (.iaload, 1) := de46 hX9_mend_126 11 rfl rfl
theorem dX9_mend_138 : decode cX9_mend 138 = .ok (.aload_n 0, 1) := de42 hX9_mend_126 12 rfl rfl
theorem dX9_mend_139 : decode cX9_mend 139 = .ok (.getfield 18, 3) := de180 hX9_mend_126 13 rfl rfl rfl
theorem dX9_mend_142 : decode cX9_mend 142 = .ok (.invokestatic 93, 3) := de184 hX9_mend_126 16 rfl rfl rfl
theorem dX9_mend_145 : decode cX9_mend 145 = .ok (.iconst 1, 1) := de4 hX9_mend_126 19 rfl rfl
theorem dX9_mend_146 : decode cX9_mend 146 = .ok (.ireturn, 1) := de172 hX9_mend_126 20 rfl rfl
theorem hX9_misfit_0 : bHas cX9_misfit 0 [3, 61, 3, 62, 29, 16, 7, 162, 0, 25, 28, 43, 29, 46, 42] := bH_c (n := 15) (by decide +kernel)
theorem dX9_misfit_0 : decode cX9_misfit 0 = .ok (.iconst 0, 1) := de3 hX9_misfit_0 0 rfl rfl
theorem dX9_misfit_1 : decode cX9_misfit 1 = .ok (.istore_n 2, 1) := de61 hX9_misfit_0 1 rfl rfl
theorem dX9_misfit_2 : decode cX9_misfit 2 = .ok (.iconst 0, 1) := de3 hX9_misfit_0 2 rfl rfl
theorem dX9_misfit_3 : decode cX9_misfit 3 = .ok (.istore_n 3, 1) := de62 hX9_misfit_0 3 rfl rfl
theorem dX9_misfit_4 : decode cX9_misfit 4 = .ok (.iload_n 3, 1) := de29 hX9_misfit_0 4 rfl rfl
theorem dX9_misfit_5 : decode cX9_misfit 5 = .ok (.bipush 7, 2) := de16 hX9_misfit_0 5 rfl rfl rfl
theorem dX9_misfit_7 : decode cX9_misfit 7 = .ok (.if_icmp .ge 25, 3) := de162 hX9_misfit_0 7 rfl rfl (by decide +kernel)
theorem dX9_misfit_10 : decode cX9_misfit 10 = .ok (.iload_n 2, 1) := de28 hX9_misfit_0 10 rfl rfl
theorem dX9_misfit_11 : decode cX9_misfit 11 = .ok (.aload_n 1, 1) := de43 hX9_misfit_0 11 rfl rfl
theorem dX9_misfit_12 : decode cX9_misfit 12 = .ok (.iload_n 3, 1) := de29 hX9_misfit_0 12 rfl rfl
theorem dX9_misfit_13 : decode cX9_misfit 13 = .ok (.iaload, 1) := de46 hX9_misfit_0 13 rfl rfl
theorem dX9_misfit_14 : decode cX9_misfit 14 = .ok (.aload_n 0, 1) := de42 hX9_misfit_0 14 rfl rfl
theorem hX9_misfit_15 : bHas cX9_misfit 15 [180, 0, 18, 29, 46, 100, 184, 0, 97, 96, 61, 132, 3, 1, 167, 255, 231, 28, 172] := bH_c (n := 19) (by decide +kernel)
theorem dX9_misfit_15 : decode cX9_misfit 15 = .ok (.getfield 18, 3) := de180 hX9_misfit_15 0 rfl rfl rfl
theorem dX9_misfit_18 : decode cX9_misfit 18 = .ok (.iload_n 3, 1) := de29 hX9_misfit_15 3 rfl rfl
theorem dX9_misfit_19 : decode cX9_misfit 19 = .ok (.iaload, 1) := de46 hX9_misfit_15 4 rfl rfl
theorem dX9_misfit_20 : decode cX9_misfit 20 = .ok (.isub, 1) := de100 hX9_misfit_15 5 rfl rfl
theorem dX9_misfit_21 : decode cX9_misfit 21 = .ok (.invokestatic 97, 3) := de184 hX9_misfit_15 6 rfl rfl rfl
theorem dX9_misfit_24 : decode cX9_misfit 24 = .ok (.iadd, 1) := de96 hX9_misfit_15 9 rfl rfl
theorem dX9_misfit_25 : decode cX9_misfit 25 = .ok (.istore_n 2, 1) := de61 hX9_misfit_15 10 rfl rfl
theorem dX9_misfit_26 : decode cX9_misfit 26 = .ok (.iinc 3 1, 3) := de132 hX9_misfit_15 11 rfl rfl rfl rfl
theorem dX9_misfit_29 : decode cX9_misfit 29 = .ok (.goto (-25), 3) := de167 hX9_misfit_15 14 rfl rfl (by decide +kernel)
theorem dX9_misfit_32 : decode cX9_misfit 32 = .ok (.iload_n 2, 1) := de28 hX9_misfit_15 17 rfl rfl
theorem dX9_misfit_33 : decode cX9_misfit 33 = .ok (.ireturn, 1) := de172 hX9_misfit_15 18 rfl rfl
theorem hX10_init_0 : bHas cX10_init 0 [42, 183, 0, 1, 42, 187, 0, 7, 89, 183, 0, 9, 181, 0, 10, 42, 187, 0, 16, 89, 183, 0, 18, 181, 0, 19] := bH_c (n := 26) (by decide +kernel)
theorem dX10_init_0 : decode cX10_init 0 = .ok (.aload_n 0, 1) := de42 hX10_init_0 0 rfl rfl
theorem dX10_init_1 : decode cX10_init 1 = .ok (.invokespecial 1, 3) := de183 hX10_init_0 1 rfl rfl rfl
theorem dX10_init_4 : decode cX10_init 4 = .ok (.aload_n 0, 1) := de42 hX10_init_0 4 rfl rfl
theorem dX10_init_5 : decode cX10_init 5 = .ok (.new 7, 3) := de187 hX10_init_0 5 rfl rfl rfl
theorem dX10_init_8 : decode cX10_init 8 = .ok (.dup, 1) := de89 hX10_init_0 8 rfl rfl
theorem dX10_init_9 : decode cX10_init 9 = .ok (.invokespecial 9, 3) := de183 hX10_init_0 9 rfl rfl rfl
theorem dX10_init_12 : decode cX10_init 12 = .ok (.putfield 10, 3) := de181 hX10_init_0 12 rfl rfl rfl
theorem dX10_init_15 : decode cX10_init 15 = .ok (.aload_n 0, 1) := de42 hX10_init_0 15 rfl rfl
theorem dX10_init_16 : decode cX10_init 16 = .ok (.new 16, 3) := de187 hX10_init_0 16 rfl rfl rfl
theorem dX10_init_19 : decode cX10_init 19 = .ok (.dup, 1) := de89 hX10_init_0 19 rfl rfl
theorem dX10_init_20 : decode cX10_init 20 = .ok (.invokespecial 18, 3) := de183 hX10_init_0 20 rfl rfl rfl
theorem dX10_init_23 : decode cX10_init 23 = .ok (.putfield 19, 3) := de181 hX10_init_0 23 rfl rfl rfl
theorem hX10_init_26 : bHas cX10_init 26 [42, 187, 0, 23, 89, 42, 180, 0, 10, 183, 0, 25, 181, 0, 28, 42, 187, 0, 32, 89, 42, 180, 0, 28] := bH_c (n := 24) (by decide +kernel)
theorem dX10_init_26 : decode cX10_init 26 = .ok (.aload_n 0, 1) := de42 hX10_init_26 0 rfl rfl
theorem dX10_init_27 : decode cX10_init 27 = .ok (.new 23, 3) := de187 hX10_init_26 1 rfl rfl rfl
theorem dX10_init_30 : decode cX10_init 30 = .ok (.dup, 1) := de89 hX10_init_26 4 rfl rfl
theorem dX10_init_31 : decode cX10_init 31 = .ok (.aload_n 0, 1) := de42 hX10_init_26 5 rfl rfl
theorem dX10_init_32 : decode cX10_init 32 = .ok (.getfield 10, 3) := de180 hX10_init_26 6 rfl rfl rfl
theorem dX10_init_35 : decode cX10_init 35 = .ok (.invokespecial 25, 3) := de183 hX10_init_26 9 rfl rfl rfl
theorem dX10_init_38 : decode cX10_init 38 = .ok (.putfield 28, 3) := de181 hX10_init_26 12 rfl rfl rfl
theorem dX10_init_41 : decode cX10_init 41 = .ok (.aload_n 0, 1) := de42 hX10_init_26 15 rfl rfl
theorem dX10_init_42 : decode cX10_init 42 = .ok (.new 32, 3) := de187 hX10_init_26 16 rfl rfl rfl
theorem dX10_init_45 : decode cX10_init 45 = .ok (.dup, 1) := de89 hX10_init_26 19 rfl rfl
theorem dX10_init_46 : decode cX10_init 46 = .ok (.aload_n 0, 1) := de42 hX10_init_26 20 rfl rfl
theorem dX10_init_47 : decode cX10_init 47 = .ok (.getfield 28, 3) := de180 hX10_init_26 21 rfl rfl rfl
theorem hX10_init_50 : bHas cX10_init 50 [183, 0, 34, 181, 0, 37, 42, 187, 0, 41, 89, 42, 180, 0, 28, 183, 0, 43, 181, 0, 44, 42, 187, 0, 48, 89] := bH_c (n := 26) (by decide +kernel)
theorem dX10_init_50 : decode cX10_init 50 = .ok (.invokespecial 34, 3) := de183 hX10_init_50 0 rfl rfl rfl
theorem dX10_init_53 : decode cX10_init 53 = .ok (.putfield 37, 3) := de181 hX10_init_50 3 rfl rfl rfl
theorem dX10_init_56 : decode cX10_init 56 = .ok (.aload_n 0, 1) := de42 hX10_init_50 6 rfl rfl
theorem dX10_init_57 : decode cX10_init 57 = .ok (.new 41, 3) := de187 hX10_init_50 7 rfl rfl rfl
theorem dX10_init_60 : decode cX10_init 60 = .ok (.dup, 1) := de89 hX10_init_50 10 rfl rfl
theorem dX10_init_61 : decode cX10_init 61 = .ok (.aload_n 0, 1) := de42 hX10_init_50 11 rfl rfl
theorem dX10_init_62 : decode cX10_init 62 = .ok (.getfield 28, 3) := de180 hX10_init_50 12 rfl rfl rfl
theorem dX10_init_65 : decode cX10_init 65 = .ok (.invokespecial 43, 3) := de183 hX10_init_50 15 rfl rfl rfl
theorem dX10_init_68 : decode cX10_init 68 = .ok (.putfield 44, 3) := de181 hX10_init_50 18 rfl rfl rfl
theorem dX10_init_71 : decode cX10_init 71 = .ok (.aload_n 0, 1) := de42 hX10_init_50 21 rfl rfl
theorem dX10_init_72 : decode cX10_init 72 = .ok (.new 48, 3) := de187 hX10_init_50 22 rfl rfl rfl
theorem dX10_init_75 : decode cX10_init 75 = .ok (.dup, 1) := de89 hX10_init_50 25 rfl rfl
theorem hX10_init_76 : bHas cX10_init 76 [42, 180, 0, 28, 183, 0, 50, 181, 0, 51, 42, 187, 0, 55, 89, 42, 180, 0, 28, 183, 0, 57, 181, 0, 58, 42] := bH_c (n := 26) (by decide +kernel)
theorem dX10_init_76 : decode cX10_init 76 = .ok (.aload_n 0, 1) := de42 hX10_init_76 0 rfl rfl
theorem dX10_init_77 : decode cX10_init 77 = .ok (.getfield 28, 3) := de180 hX10_init_76 1 rfl rfl rfl
theorem dX10_init_80 : decode cX10_init 80 = .ok (.invokespecial 50, 3) := de183 hX10_init_76 4 rfl rfl rfl
theorem dX10_init_83 : decode cX10_init 83 = .ok (.putfield 51, 3) := de181 hX10_init_76 7 rfl rfl rfl
theorem dX10_init_86 : decode cX10_init 86 = .ok (.aload_n 0, 1) := de42 hX10_init_76 10 rfl rfl
theorem dX10_init_87 : decode cX10_init 87 = .ok (.new 55, 3) := de187 hX10_init_76 11 rfl rfl rfl
theorem dX10_init_90 : decode cX10_init 90 = .ok (.dup, 1) := de89 hX10_init_76 14 rfl rfl
theorem dX10_init_91 : decode cX10_init 91 = .ok (.aload_n 0, 1) := de42 hX10_init_76 15 rfl rfl
theorem dX10_init_92 : decode cX10_init 92 = .ok (.getfield 28, 3) := de180 hX10_init_76 16 rfl rfl rfl
theorem dX10_init_95 : decode cX10_init 95 = .ok (.invokespecial 57, 3) := de183 hX10_init_76 19 rfl rfl rfl
theorem dX10_init_98 : decode cX10_init 98 = .ok (.putfield 58, 3) := de181 hX10_init_76 22 rfl rfl rfl
theorem dX10_init_101 : decode cX10_init 101 = .ok (.aload_n 0, 1) := de42 hX10_init_76 25 rfl rfl
theorem hX10_init_102 : bHas cX10_init 102 [187, 0, 62, 89, 42, 180, 0, 10, 183, 0, 64, 181, 0, 65, 42, 5, 189, 0, 7, 181, 0, 69, 3, 60] := bH_c (n := 24) (by decide +kernel)
theorem dX10_init_102 : decode cX10_init 102 = .ok (.new 62, 3) := de187 hX10_init_102 0 rfl rfl rfl
theorem dX10_init_105 : decode cX10_init 105 = .ok (.dup, 1) := de89 hX10_init_102 3 rfl rfl
theorem dX10_init_106 : decode cX10_init 106 = .ok (.aload_n 0, 1) := de42 hX10_init_102 4 rfl rfl
theorem dX10_init_107 : decode cX10_init 107 = .ok (.getfield 10, 3) := de180 hX10_init_102 5 rfl rfl rfl
theorem dX10_init_110 : decode cX10_init 110 = .ok (.invokespecial 64, 3) := de183 hX10_init_102 8 rfl rfl rfl
theorem dX10_init_113 : decode cX10_init 113 = .ok (.putfield 65, 3) := de181 hX10_init_102 11 rfl rfl rfl
theorem dX10_init_116 : decode cX10_init 116 = .ok (.aload_n 0, 1) := de42 hX10_init_102 14 rfl rfl
theorem dX10_init_117 : decode cX10_init 117 = .ok (.iconst 2, 1) := de5 hX10_init_102 15 rfl rfl
theorem dX10_init_118 : decode cX10_init 118 = .ok (.anewarray 7, 3) := de189 hX10_init_102 16 rfl rfl rfl
theorem dX10_init_121 : decode cX10_init 121 = .ok (.putfield 69, 3) := de181 hX10_init_102 19 rfl rfl rfl
theorem dX10_init_124 : decode cX10_init 124 = .ok (.iconst 0, 1) := de3 hX10_init_102 22 rfl rfl
theorem dX10_init_125 : decode cX10_init 125 = .ok (.istore_n 1, 1) := de60 hX10_init_102 23 rfl rfl
theorem hX10_init_126 : bHas cX10_init 126 [27, 5, 162, 0, 22, 42, 180, 0, 69, 27, 187, 0, 7, 89, 183, 0, 9, 83, 132, 1, 1, 167, 255, 235] := bH_c (n := 24) (by decide +kernel)
theorem dX10_init_126 : decode cX10_init 126 = .ok (.iload_n 1, 1) := de27 hX10_init_126 0 rfl rfl
theorem dX10_init_127 : decode cX10_init 127 = .ok (.iconst 2, 1) := de5 hX10_init_126 1 rfl rfl
theorem dX10_init_128 : decode cX10_init 128 = .ok (.if_icmp .ge 22, 3) := de162 hX10_init_126 2 rfl rfl (by decide +kernel)
theorem dX10_init_131 : decode cX10_init 131 = .ok (.aload_n 0, 1) := de42 hX10_init_126 5 rfl rfl
theorem dX10_init_132 : decode cX10_init 132 = .ok (.getfield 69, 3) := de180 hX10_init_126 6 rfl rfl rfl
theorem dX10_init_135 : decode cX10_init 135 = .ok (.iload_n 1, 1) := de27 hX10_init_126 9 rfl rfl
theorem dX10_init_136 : decode cX10_init 136 = .ok (.new 7, 3) := de187 hX10_init_126 10 rfl rfl rfl
theorem dX10_init_139 : decode cX10_init 139 = .ok (.dup, 1) := de89 hX10_init_126 13 rfl rfl
theorem dX10_init_140 : decode cX10_init 140 = .ok (.invokespecial 9, 3) := de183 hX10_init_126 14 rfl rfl rfl
theorem dX10_init_143 : decode cX10_init 143 = .ok (.aastore, 1) := de83 hX10_init_126 17 rfl rfl
theorem dX10_init_144 : decode cX10_init 144 = .ok (.iinc 1 1, 3) := de132 hX10_init_126 18 rfl rfl rfl rfl
theorem dX10_init_147 : decode cX10_init 147 = .ok (.goto (-21), 3) := de167 hX10_init_126 21 rfl rfl (by decide +kernel)
theorem hX10_init_150 : bHas cX10_init 150 [42, 5] := bH_c (n := 2) (by decide +kernel)
theorem dX10_init_150 : decode cX10_init 150 = .ok (.aload_n 0, 1) := de42 hX10_init_150 0 rfl rfl
theorem dX10_init_151 : decode cX10_init 151 = .ok (.iconst 2, 1) := de5 hX10_init_150 1 rfl rfl
theorem dX10_init_152 : decode cX10_init 152 = .ok (.newarray .boolean, 2) := by decide +kernel
theorem hX10_init_154 : bHas cX10_init 154 [181, 0, 73, 177] := bH_c (n := 4) (by decide +kernel)
theorem dX10_init_154 : decode cX10_init 154 = .ok (.putfield 73, 3) := de181 hX10_init_154 0 rfl rfl rfl
theorem dX10_init_157 : decode cX10_init 157 = .ok (.return_, 1) := de177 hX10_init_154 3 rfl rfl
theorem hX10_can_0 : bHas cX10_can 0 [27, 28, 184, 0, 77, 154, 0, 6, 16, 254, 172, 42, 180, 0, 10, 180, 0, 81, 16, 6, 161, 0, 6, 16, 252] := bH_c (n := 25) (by decide +kernel)
theorem dX10_can_0 : decode cX10_can 0 = .ok (.iload_n 1, 1) := de27 hX10_can_0 0 rfl rfl
theorem dX10_can_1 : decode cX10_can 1 = .ok (.iload_n 2, 1) := de28 hX10_can_0 1 rfl rfl
theorem dX10_can_2 : decode cX10_can 2 = .ok (.invokestatic 77, 3) := de184 hX10_can_0 2 rfl rfl rfl
theorem dX10_can_5 : decode cX10_can 5 = .ok (.ifCond .ne 6, 3) := de154 hX10_can_0 5 rfl rfl (by decide +kernel)
theorem dX10_can_8 : decode cX10_can 8 = .ok (.bipush (-2), 2) := de16 hX10_can_0 8 rfl rfl rfl
theorem dX10_can_10 : decode cX10_can 10 = .ok (.ireturn, 1) := de172 hX10_can_0 10 rfl rfl
theorem dX10_can_11 : decode cX10_can 11 = .ok (.aload_n 0, 1) := de42 hX10_can_0 11 rfl rfl
theorem dX10_can_12 : decode cX10_can 12 = .ok (.getfield 10, 3) := de180 hX10_can_0 12 rfl rfl rfl
theorem dX10_can_15 : decode cX10_can 15 = .ok (.getfield 81, 3) := de180 hX10_can_0 15 rfl rfl rfl
theorem dX10_can_18 : decode cX10_can 18 = .ok (.bipush 6, 2) := de16 hX10_can_0 18 rfl rfl rfl
theorem dX10_can_20 : decode cX10_can 20 = .ok (.if_icmp .lt 6, 3) := de161 hX10_can_0 20 rfl rfl (by decide +kernel)
theorem dX10_can_23 : decode cX10_can 23 = .ok (.bipush (-4), 2) := de16 hX10_can_0 23 rfl rfl rfl
theorem hX10_can_25 : bHas cX10_can 25 [172, 42, 180, 0, 28, 4, 181, 0, 85, 42, 180, 0, 10, 27, 28, 182, 0, 89, 172] := bH_c (n := 19) (by decide +kernel)
theorem dX10_can_25 : decode cX10_can 25 = .ok (.ireturn, 1) := de172 hX10_can_25 0 rfl rfl
theorem dX10_can_26 : decode cX10_can 26 = .ok (.aload_n 0, 1) := de42 hX10_can_25 1 rfl rfl
theorem dX10_can_27 : decode cX10_can 27 = .ok (.getfield 28, 3) := de180 hX10_can_25 2 rfl rfl rfl
theorem dX10_can_30 : decode cX10_can 30 = .ok (.iconst 1, 1) := de4 hX10_can_25 5 rfl rfl
theorem dX10_can_31 : decode cX10_can 31 = .ok (.putfield 85, 3) := de181 hX10_can_25 6 rfl rfl rfl
theorem dX10_can_34 : decode cX10_can 34 = .ok (.aload_n 0, 1) := de42 hX10_can_25 9 rfl rfl
theorem dX10_can_35 : decode cX10_can 35 = .ok (.getfield 10, 3) := de180 hX10_can_25 10 rfl rfl rfl
theorem dX10_can_38 : decode cX10_can 38 = .ok (.iload_n 1, 1) := de27 hX10_can_25 13 rfl rfl
theorem dX10_can_39 : decode cX10_can 39 = .ok (.iload_n 2, 1) := de28 hX10_can_25 14 rfl rfl
theorem dX10_can_40 : decode cX10_can 40 = .ok (.invokevirtual 89, 3) := de182 hX10_can_25 15 rfl rfl rfl
theorem dX10_can_43 : decode cX10_can 43 = .ok (.ireturn, 1) := de172 hX10_can_25 18 rfl rfl
theorem hX10_miss_0 : bHas cX10_miss 0 [42, 27, 182, 0, 93, 154, 0, 5, 2, 172, 28, 3, 5, 184, 0, 97, 153, 0, 13, 29] := bH_c (n := 20) (by decide +kernel)
theorem dX10_miss_0 : decode cX10_miss 0 = .ok (.aload_n 0, 1) := de42 hX10_miss_0 0 rfl rfl
theorem dX10_miss_1 : decode cX10_miss 1 = .ok (.iload_n 1, 1) := de27 hX10_miss_0 1 rfl rfl
theorem dX10_miss_2 : decode cX10_miss 2 = .ok (.invokevirtual 93, 3) := de182 hX10_miss_0 2 rfl rfl rfl
theorem dX10_miss_5 : decode cX10_miss 5 = .ok (.ifCond .ne 5, 3) := de154 hX10_miss_0 5 rfl rfl (by decide +kernel)
theorem dX10_miss_8 : decode cX10_miss 8 = .ok (.iconst (-1), 1) := de2 hX10_miss_0 8 rfl rfl
theorem dX10_miss_9 : decode cX10_miss 9 = .ok (.ireturn, 1) := de172 hX10_miss_0 9 rfl rfl
theorem dX10_miss_10 : decode cX10_miss 10 = .ok (.iload_n 2, 1) := de28 hX10_miss_0 10 rfl rfl
theorem dX10_miss_11 : decode cX10_miss 11 = .ok (.iconst 0, 1) := de3 hX10_miss_0 11 rfl rfl
theorem dX10_miss_12 : decode cX10_miss 12 = .ok (.iconst 2, 1) := de5 hX10_miss_0 12 rfl rfl
theorem dX10_miss_13 : decode cX10_miss 13 = .ok (.invokestatic 97, 3) := de184 hX10_miss_0 13 rfl rfl rfl
theorem dX10_miss_16 : decode cX10_miss 16 = .ok (.ifCond .eq 13, 3) := de153 hX10_miss_0 16 rfl rfl (by decide +kernel)
theorem dX10_miss_19 : decode cX10_miss 19 = .ok (.iload_n 3, 1) := de29 hX10_miss_0 19 rfl rfl
theorem hX10_miss_20 : bHas cX10_miss 20 [3, 16, 9, 184, 0, 97, 154, 0, 6, 16, 254, 172, 27, 6, 104, 28, 96, 54, 4] := bH_c (n := 19) (by decide +kernel)
theorem dX10_miss_20 : decode cX10_miss 20 = .ok (.iconst 0, 1) := de3 hX10_miss_20 0 rfl rfl
theorem dX10_miss_21 : decode cX10_miss 21 = .ok (.bipush 9, 2) := de16 hX10_miss_20 1 rfl rfl rfl
theorem dX10_miss_23 : decode cX10_miss 23 = .ok (.invokestatic 97, 3) := de184 hX10_miss_20 3 rfl rfl rfl
theorem dX10_miss_26 : decode cX10_miss 26 = .ok (.ifCond .ne 6, 3) := de154 hX10_miss_20 6 rfl rfl (by decide +kernel)
theorem dX10_miss_29 : decode cX10_miss 29 = .ok (.bipush (-2), 2) := de16 hX10_miss_20 9 rfl rfl rfl
theorem dX10_miss_31 : decode cX10_miss 31 = .ok (.ireturn, 1) := de172 hX10_miss_20 11 rfl rfl
theorem dX10_miss_32 : decode cX10_miss 32 = .ok (.iload_n 1, 1) := de27 hX10_miss_20 12 rfl rfl
theorem dX10_miss_33 : decode cX10_miss 33 = .ok (.iconst 3, 1) := de6 hX10_miss_20 13 rfl rfl
theorem dX10_miss_34 : decode cX10_miss 34 = .ok (.imul, 1) := de104 hX10_miss_20 14 rfl rfl
theorem dX10_miss_35 : decode cX10_miss 35 = .ok (.iload_n 2, 1) := de28 hX10_miss_20 15 rfl rfl
theorem dX10_miss_36 : decode cX10_miss 36 = .ok (.iadd, 1) := de96 hX10_miss_20 16 rfl rfl
theorem dX10_miss_37 : decode cX10_miss 37 = .ok (.istore 4, 2) := de54 hX10_miss_20 17 rfl rfl rfl
theorem hX10_miss_39 : bHas cX10_miss 39 [42, 180, 0, 10, 180, 0, 101, 21, 4, 46, 54, 5, 42, 180, 0, 10, 180, 0, 101, 21, 4, 29, 79] := bH_c (n := 23) (by decide +kernel)
theorem dX10_miss_39 : decode cX10_miss 39 = .ok (.aload_n 0, 1) := de42 hX10_miss_39 0 rfl rfl
theorem dX10_miss_40 : decode cX10_miss 40 = .ok (.getfield 10, 3) := de180 hX10_miss_39 1 rfl rfl rfl
theorem dX10_miss_43 : decode cX10_miss 43 = .ok (.getfield 101, 3) := de180 hX10_miss_39 4 rfl rfl rfl
theorem dX10_miss_46 : decode cX10_miss 46 = .ok (.iload 4, 2) := de21 hX10_miss_39 7 rfl rfl rfl
theorem dX10_miss_48 : decode cX10_miss 48 = .ok (.iaload, 1) := de46 hX10_miss_39 9 rfl rfl
theorem dX10_miss_49 : decode cX10_miss 49 = .ok (.istore 5, 2) := de54 hX10_miss_39 10 rfl rfl rfl
theorem dX10_miss_51 : decode cX10_miss 51 = .ok (.aload_n 0, 1) := de42 hX10_miss_39 12 rfl rfl
theorem dX10_miss_52 : decode cX10_miss 52 = .ok (.getfield 10, 3) := de180 hX10_miss_39 13 rfl rfl rfl
theorem dX10_miss_55 : decode cX10_miss 55 = .ok (.getfield 101, 3) := de180 hX10_miss_39 16 rfl rfl rfl
theorem dX10_miss_58 : decode cX10_miss 58 = .ok (.iload 4, 2) := de21 hX10_miss_39 19 rfl rfl rfl
theorem dX10_miss_60 : decode cX10_miss 60 = .ok (.iload_n 3, 1) := de29 hX10_miss_39 21 rfl rfl
theorem dX10_miss_61 : decode cX10_miss 61 = .ok (.iastore, 1) := de79 hX10_miss_39 22 rfl rfl
theorem hX10_miss_62 : bHas cX10_miss 62 [42, 180, 0, 28, 4, 181, 0, 85, 21, 5, 172] := bH_c (n := 11) (by decide +kernel)
theorem dX10_miss_62 : decode cX10_miss 62 = .ok (.aload_n 0, 1) := de42 hX10_miss_62 0 rfl rfl
theorem dX10_miss_63 : decode cX10_miss 63 = .ok (.getfield 28, 3) := de180 hX10_miss_62 1 rfl rfl rfl
theorem dX10_miss_66 : decode cX10_miss 66 = .ok (.iconst 1, 1) := de4 hX10_miss_62 4 rfl rfl
theorem dX10_miss_67 : decode cX10_miss 67 = .ok (.putfield 85, 3) := de181 hX10_miss_62 5 rfl rfl rfl
theorem dX10_miss_70 : decode cX10_miss 70 = .ok (.iload 5, 2) := de21 hX10_miss_62 8 rfl rfl rfl
theorem dX10_miss_72 : decode cX10_miss 72 = .ok (.ireturn, 1) := de172 hX10_miss_62 10 rfl rfl
theorem hX10_wind_0 : bHas cX10_wind 0 [27, 184, 0, 105, 154, 0, 5, 2, 172, 28, 3, 5, 184, 0, 97, 154, 0, 6, 16, 254, 172] := bH_c (n := 21) (by decide +kernel)
theorem dX10_wind_0 : decode cX10_wind 0 = .ok (.iload_n 1, 1) := de27 hX10_wind_0 0 rfl rfl
theorem dX10_wind_1 : decode cX10_wind 1 = .ok (.invokestatic 105, 3) := de184 hX10_wind_0 1 rfl rfl rfl
theorem dX10_wind_4 : decode cX10_wind 4 = .ok (.ifCond .ne 5, 3) := de154 hX10_wind_0 4 rfl rfl (by decide +kernel)
theorem dX10_wind_7 : decode cX10_wind 7 = .ok (.iconst (-1), 1) := de2 hX10_wind_0 7 rfl rfl
theorem dX10_wind_8 : decode cX10_wind 8 = .ok (.ireturn, 1) := de172 hX10_wind_0 8 rfl rfl
theorem dX10_wind_9 : decode cX10_wind 9 = .ok (.iload_n 2, 1) := de28 hX10_wind_0 9 rfl rfl
theorem dX10_wind_10 : decode cX10_wind 10 = .ok (.iconst 0, 1) := de3 hX10_wind_0 10 rfl rfl
theorem dX10_wind_11 : decode cX10_wind 11 = .ok (.iconst 2, 1) := de5 hX10_wind_0 11 rfl rfl
theorem dX10_wind_12 : decode cX10_wind 12 = .ok (.invokestatic 97, 3) := de184 hX10_wind_0 12 rfl rfl rfl
theorem dX10_wind_15 : decode cX10_wind 15 = .ok (.ifCond .ne 6, 3) := de154 hX10_wind_0 15 rfl rfl (by decide +kernel)
theorem dX10_wind_18 : decode cX10_wind 18 = .ok (.bipush (-2), 2) := de16 hX10_wind_0 18 rfl rfl rfl
theorem dX10_wind_20 : decode cX10_wind 20 = .ok (.ireturn, 1) := de172 hX10_wind_0 20 rfl rfl
theorem hX10_wind_21 : bHas cX10_wind 21 [42, 180, 0, 10, 180, 0, 108, 27, 46, 62, 42, 180, 0, 10, 180, 0, 108, 27, 28, 79] := bH_c (n := 20) (by decide +kernel)
theorem dX10_wind_21 : decode cX10_wind 21 = .ok (.aload_n 0, 1) := de42 hX10_wind_21 0 rfl rfl
theorem dX10_wind_22 : decode cX10_wind 22 = .ok (.getfield 10, 3) := de180 hX10_wind_21 1 rfl rfl rfl
theorem dX10_wind_25 : decode cX10_wind 25 = .ok (.getfield 108, 3) := de180 hX10_wind_21 4 rfl rfl rfl
theorem dX10_wind_28 : decode cX10_wind 28 = .ok (.iload_n 1, 1) := de27 hX10_wind_21 7 rfl rfl
theorem dX10_wind_29 : decode cX10_wind 29 = .ok (.iaload, 1) := de46 hX10_wind_21 8 rfl rfl
theorem dX10_wind_30 : decode cX10_wind 30 = .ok (.istore_n 3, 1) := de62 hX10_wind_21 9 rfl rfl
theorem dX10_wind_31 : decode cX10_wind 31 = .ok (.aload_n 0, 1) := de42 hX10_wind_21 10 rfl rfl
theorem dX10_wind_32 : decode cX10_wind 32 = .ok (.getfield 10, 3) := de180 hX10_wind_21 11 rfl rfl rfl
theorem dX10_wind_35 : decode cX10_wind 35 = .ok (.getfield 108, 3) := de180 hX10_wind_21 14 rfl rfl rfl
theorem dX10_wind_38 : decode cX10_wind 38 = .ok (.iload_n 1, 1) := de27 hX10_wind_21 17 rfl rfl
theorem dX10_wind_39 : decode cX10_wind 39 = .ok (.iload_n 2, 1) := de28 hX10_wind_21 18 rfl rfl
theorem dX10_wind_40 : decode cX10_wind 40 = .ok (.iastore, 1) := de79 hX10_wind_21 19 rfl rfl
theorem hX10_wind_41 : bHas cX10_wind 41 [42, 180, 0, 28, 4, 181, 0, 85, 29, 172] := bH_c (n := 10) (by decide +kernel)
theorem dX10_wind_41 : decode cX10_wind 41 = .ok (.aload_n 0, 1) := de42 hX10_wind_41 0 rfl rfl
theorem dX10_wind_42 : decode cX10_wind 42 = .ok (.getfield 28, 3) := de180 hX10_wind_41 1 rfl rfl rfl
theorem dX10_wind_45 : decode cX10_wind 45 = .ok (.iconst 1, 1) := de4 hX10_wind_41 4 rfl rfl
theorem dX10_wind_46 : decode cX10_wind 46 = .ok (.putfield 85, 3) := de181 hX10_wind_41 5 rfl rfl rfl
theorem dX10_wind_49 : decode cX10_wind 49 = .ok (.iload_n 3, 1) := de29 hX10_wind_41 8 rfl rfl
theorem dX10_wind_50 : decode cX10_wind 50 = .ok (.ireturn, 1) := de172 hX10_wind_41 9 rfl rfl
theorem hX10_raw_0 : bHas cX10_raw 0 [42, 27, 182, 0, 93, 153, 0, 10, 28, 184, 0, 105, 154, 0, 5, 2, 172, 29, 2, 17, 3, 231] := bH_c (n := 22) (by decide +kernel)
theorem dX10_raw_0 : decode cX10_raw 0 = .ok (.aload_n 0, 1) := de42 hX10_raw_0 0 rfl rfl
theorem dX10_raw_1 : decode cX10_raw 1 = .ok (.iload_n 1, 1) := de27 hX10_raw_0 1 rfl rfl
theorem dX10_raw_2 : decode cX10_raw 2 = .ok (.invokevirtual 93, 3) := de182 hX10_raw_0 2 rfl rfl rfl
theorem dX10_raw_5 : decode cX10_raw 5 = .ok (.ifCond .eq 10, 3) := de153 hX10_raw_0 5 rfl rfl (by decide +kernel)
theorem dX10_raw_8 : decode cX10_raw 8 = .ok (.iload_n 2, 1) := de28 hX10_raw_0 8 rfl rfl
theorem dX10_raw_9 : decode cX10_raw 9 = .ok (.invokestatic 105, 3) := de184 hX10_raw_0 9 rfl rfl rfl
theorem dX10_raw_12 : decode cX10_raw 12 = .ok (.ifCond .ne 5, 3) := de154 hX10_raw_0 12 rfl rfl (by decide +kernel)
theorem dX10_raw_15 : decode cX10_raw 15 = .ok (.iconst (-1), 1) := de2 hX10_raw_0 15 rfl rfl
theorem dX10_raw_16 : decode cX10_raw 16 = .ok (.ireturn, 1) := de172 hX10_raw_0 16 rfl rfl
theorem dX10_raw_17 : decode cX10_raw 17 = .ok (.iload_n 3, 1) := de29 hX10_raw_0 17 rfl rfl
theorem dX10_raw_18 : decode cX10_raw 18 = .ok (.iconst (-1), 1) := de2 hX10_raw_0 18 rfl rfl
theorem dX10_raw_19 : decode cX10_raw 19 = .ok (.sipush 999, 3) := de17 hX10_raw_0 19 rfl rfl (by decide +kernel)
theorem hX10_raw_22 : bHas cX10_raw 22 [184, 0, 97, 154, 0, 6, 16, 254, 172, 27, 16, 28, 104, 28, 96, 54, 4, 42, 180, 0, 10] := bH_c (n := 21) (by decide +kernel)
theorem dX10_raw_22 : decode cX10_raw 22 = .ok (.invokestatic 97, 3) := de184 hX10_raw_22 0 rfl rfl rfl
theorem dX10_raw_25 : decode cX10_raw 25 = .ok (.ifCond .ne 6, 3) := de154 hX10_raw_22 3 rfl rfl (by decide +kernel)
theorem dX10_raw_28 : decode cX10_raw 28 = .ok (.bipush (-2), 2) := de16 hX10_raw_22 6 rfl rfl rfl
theorem dX10_raw_30 : decode cX10_raw 30 = .ok (.ireturn, 1) := de172 hX10_raw_22 8 rfl rfl
theorem dX10_raw_31 : decode cX10_raw 31 = .ok (.iload_n 1, 1) := de27 hX10_raw_22 9 rfl rfl
theorem dX10_raw_32 : decode cX10_raw 32 = .ok (.bipush 28, 2) := de16 hX10_raw_22 10 rfl rfl rfl
theorem dX10_raw_34 : decode cX10_raw 34 = .ok (.imul, 1) := de104 hX10_raw_22 12 rfl rfl
theorem dX10_raw_35 : decode cX10_raw 35 = .ok (.iload_n 2, 1) := de28 hX10_raw_22 13 rfl rfl
theorem dX10_raw_36 : decode cX10_raw 36 = .ok (.iadd, 1) := de96 hX10_raw_22 14 rfl rfl
theorem dX10_raw_37 : decode cX10_raw 37 = .ok (.istore 4, 2) := de54 hX10_raw_22 15 rfl rfl rfl
theorem dX10_raw_39 : decode cX10_raw 39 = .ok (.aload_n 0, 1) := de42 hX10_raw_22 17 rfl rfl
theorem dX10_raw_40 : decode cX10_raw 40 = .ok (.getfield 10, 3) := de180 hX10_raw_22 18 rfl rfl rfl
theorem hX10_raw_43 : bHas cX10_raw 43 [180, 0, 111, 21, 4, 46, 54, 5, 42, 180, 0, 10, 180, 0, 111, 21, 4, 29, 79, 42, 180, 0, 28] := bH_c (n := 23) (by decide +kernel)
theorem dX10_raw_43 : decode cX10_raw 43 = .ok (.getfield 111, 3) := de180 hX10_raw_43 0 rfl rfl rfl
theorem dX10_raw_46 : decode cX10_raw 46 = .ok (.iload 4, 2) := de21 hX10_raw_43 3 rfl rfl rfl
theorem dX10_raw_48 : decode cX10_raw 48 = .ok (.iaload, 1) := de46 hX10_raw_43 5 rfl rfl
theorem dX10_raw_49 : decode cX10_raw 49 = .ok (.istore 5, 2) := de54 hX10_raw_43 6 rfl rfl rfl
theorem dX10_raw_51 : decode cX10_raw 51 = .ok (.aload_n 0, 1) := de42 hX10_raw_43 8 rfl rfl
theorem dX10_raw_52 : decode cX10_raw 52 = .ok (.getfield 10, 3) := de180 hX10_raw_43 9 rfl rfl rfl
theorem dX10_raw_55 : decode cX10_raw 55 = .ok (.getfield 111, 3) := de180 hX10_raw_43 12 rfl rfl rfl
theorem dX10_raw_58 : decode cX10_raw 58 = .ok (.iload 4, 2) := de21 hX10_raw_43 15 rfl rfl rfl
theorem dX10_raw_60 : decode cX10_raw 60 = .ok (.iload_n 3, 1) := de29 hX10_raw_43 17 rfl rfl
theorem dX10_raw_61 : decode cX10_raw 61 = .ok (.iastore, 1) := de79 hX10_raw_43 18 rfl rfl
theorem dX10_raw_62 : decode cX10_raw 62 = .ok (.aload_n 0, 1) := de42 hX10_raw_43 19 rfl rfl
theorem dX10_raw_63 : decode cX10_raw 63 = .ok (.getfield 28, 3) := de180 hX10_raw_43 20 rfl rfl rfl
theorem hX10_raw_66 : bHas cX10_raw 66 [4, 181, 0, 85, 21, 5, 184, 0, 114, 172] := bH_c (n := 10) (by decide +kernel)
theorem dX10_raw_66 : decode cX10_raw 66 = .ok (.iconst 1, 1) := de4 hX10_raw_66 0 rfl rfl
theorem dX10_raw_67 : decode cX10_raw 67 = .ok (.putfield 85, 3) := de181 hX10_raw_66 1 rfl rfl rfl
theorem dX10_raw_70 : decode cX10_raw 70 = .ok (.iload 5, 2) := de21 hX10_raw_66 4 rfl rfl rfl
theorem dX10_raw_72 : decode cX10_raw 72 = .ok (.invokestatic 114, 3) := de184 hX10_raw_66 6 rfl rfl rfl
theorem dX10_raw_75 : decode cX10_raw 75 = .ok (.ireturn, 1) := de172 hX10_raw_66 9 rfl rfl
theorem hX10_fix_0 : bHas cX10_fix 0 [42, 27, 182, 0, 93, 153, 0, 10, 28, 184, 0, 105, 154, 0, 5, 2, 172, 29, 2, 17, 3, 231] := bH_c (n := 22) (by decide +kernel)
theorem dX10_fix_0 : decode cX10_fix 0 = .ok (.aload_n 0, 1) := de42 hX10_fix_0 0 rfl rfl
theorem dX10_fix_1 : decode cX10_fix 1 = .ok (.iload_n 1, 1) := de27 hX10_fix_0 1 rfl rfl
theorem dX10_fix_2 : decode cX10_fix 2 = .ok (.invokevirtual 93, 3) := de182 hX10_fix_0 2 rfl rfl rfl
theorem dX10_fix_5 : decode cX10_fix 5 = .ok (.ifCond .eq 10, 3) := de153 hX10_fix_0 5 rfl rfl (by decide +kernel)
theorem dX10_fix_8 : decode cX10_fix 8 = .ok (.iload_n 2, 1) := de28 hX10_fix_0 8 rfl rfl
theorem dX10_fix_9 : decode cX10_fix 9 = .ok (.invokestatic 105, 3) := de184 hX10_fix_0 9 rfl rfl rfl
theorem dX10_fix_12 : decode cX10_fix 12 = .ok (.ifCond .ne 5, 3) := de154 hX10_fix_0 12 rfl rfl (by decide +kernel)
theorem dX10_fix_15 : decode cX10_fix 15 = .ok (.iconst (-1), 1) := de2 hX10_fix_0 15 rfl rfl
theorem dX10_fix_16 : decode cX10_fix 16 = .ok (.ireturn, 1) := de172 hX10_fix_0 16 rfl rfl
theorem dX10_fix_17 : decode cX10_fix 17 = .ok (.iload_n 3, 1) := de29 hX10_fix_0 17 rfl rfl
theorem dX10_fix_18 : decode cX10_fix 18 = .ok (.iconst (-1), 1) := de2 hX10_fix_0 18 rfl rfl
theorem dX10_fix_19 : decode cX10_fix 19 = .ok (.sipush 999, 3) := de17 hX10_fix_0 19 rfl rfl (by decide +kernel)
theorem hX10_fix_22 : bHas cX10_fix 22 [184, 0, 97, 154, 0, 6, 16, 254, 172, 42, 180, 0, 10, 180, 0, 118, 180, 0, 122, 16, 20, 161, 0, 6, 16, 252, 172] := bH_c (n := 27) (by decide +kernel)
theorem dX10_fix_22 : decode cX10_fix 22 = .ok (.invokestatic 97, 3) := de184 hX10_fix_22 0 rfl rfl rfl
theorem dX10_fix_25 : decode cX10_fix 25 = .ok (.ifCond .ne 6, 3) := de154 hX10_fix_22 3 rfl rfl (by decide +kernel)
theorem dX10_fix_28 : decode cX10_fix 28 = .ok (.bipush (-2), 2) := de16 hX10_fix_22 6 rfl rfl rfl
theorem dX10_fix_30 : decode cX10_fix 30 = .ok (.ireturn, 1) := de172 hX10_fix_22 8 rfl rfl
theorem dX10_fix_31 : decode cX10_fix 31 = .ok (.aload_n 0, 1) := de42 hX10_fix_22 9 rfl rfl
theorem dX10_fix_32 : decode cX10_fix 32 = .ok (.getfield 10, 3) := de180 hX10_fix_22 10 rfl rfl rfl
theorem dX10_fix_35 : decode cX10_fix 35 = .ok (.getfield 118, 3) := de180 hX10_fix_22 13 rfl rfl rfl
theorem dX10_fix_38 : decode cX10_fix 38 = .ok (.getfield 122, 3) := de180 hX10_fix_22 16 rfl rfl rfl
theorem dX10_fix_41 : decode cX10_fix 41 = .ok (.bipush 20, 2) := de16 hX10_fix_22 19 rfl rfl rfl
theorem dX10_fix_43 : decode cX10_fix 43 = .ok (.if_icmp .lt 6, 3) := de161 hX10_fix_22 21 rfl rfl (by decide +kernel)
theorem dX10_fix_46 : decode cX10_fix 46 = .ok (.bipush (-4), 2) := de16 hX10_fix_22 24 rfl rfl rfl
theorem dX10_fix_48 : decode cX10_fix 48 = .ok (.ireturn, 1) := de172 hX10_fix_22 26 rfl rfl
theorem hX10_fix_49 : bHas cX10_fix 49 [42, 180, 0, 10, 180, 0, 118, 27, 16, 28, 104, 28, 96, 29, 182, 0, 127, 42, 180, 0, 28] := bH_c (n := 21) (by decide +kernel)
theorem dX10_fix_49 : decode cX10_fix 49 = .ok (.aload_n 0, 1) := de42 hX10_fix_49 0 rfl rfl
theorem dX10_fix_50 : decode cX10_fix 50 = .ok (.getfield 10, 3) := de180 hX10_fix_49 1 rfl rfl rfl
theorem dX10_fix_53 : decode cX10_fix 53 = .ok (.getfield 118, 3) := de180 hX10_fix_49 4 rfl rfl rfl
theorem dX10_fix_56 : decode cX10_fix 56 = .ok (.iload_n 1, 1) := de27 hX10_fix_49 7 rfl rfl
theorem dX10_fix_57 : decode cX10_fix 57 = .ok (.bipush 28, 2) := de16 hX10_fix_49 8 rfl rfl rfl
theorem dX10_fix_59 : decode cX10_fix 59 = .ok (.imul, 1) := de104 hX10_fix_49 10 rfl rfl
theorem dX10_fix_60 : decode cX10_fix 60 = .ok (.iload_n 2, 1) := de28 hX10_fix_49 11 rfl rfl
theorem dX10_fix_61 : decode cX10_fix 61 = .ok (.iadd, 1) := de96 hX10_fix_49 12 rfl rfl
theorem dX10_fix_62 : decode cX10_fix 62 = .ok (.iload_n 3, 1) := de29 hX10_fix_49 13 rfl rfl
theorem dX10_fix_63 : decode cX10_fix 63 = .ok (.invokevirtual 127, 3) := de182 hX10_fix_49 14 rfl rfl rfl
theorem dX10_fix_66 : decode cX10_fix 66 = .ok (.aload_n 0, 1) := de42 hX10_fix_49 17 rfl rfl
theorem dX10_fix_67 : decode cX10_fix 67 = .ok (.getfield 28, 3) := de180 hX10_fix_49 18 rfl rfl rfl
theorem hX10_fix_70 : bHas cX10_fix 70 [4, 181, 0, 85, 42, 180, 0, 10, 180, 0, 118, 180, 0, 122, 172] := bH_c (n := 15) (by decide +kernel)
theorem dX10_fix_70 : decode cX10_fix 70 = .ok (.iconst 1, 1) := de4 hX10_fix_70 0 rfl rfl
theorem dX10_fix_71 : decode cX10_fix 71 = .ok (.putfield 85, 3) := de181 hX10_fix_70 1 rfl rfl rfl
theorem dX10_fix_74 : decode cX10_fix 74 = .ok (.aload_n 0, 1) := de42 hX10_fix_70 4 rfl rfl
theorem dX10_fix_75 : decode cX10_fix 75 = .ok (.getfield 10, 3) := de180 hX10_fix_70 5 rfl rfl rfl
theorem dX10_fix_78 : decode cX10_fix 78 = .ok (.getfield 118, 3) := de180 hX10_fix_70 8 rfl rfl rfl
theorem dX10_fix_81 : decode cX10_fix 81 = .ok (.getfield 122, 3) := de180 hX10_fix_70 11 rfl rfl rfl
theorem dX10_fix_84 : decode cX10_fix 84 = .ok (.ireturn, 1) := de172 hX10_fix_70 14 rfl rfl
theorem hX10_undo_0 : bHas cX10_undo 0 [42, 180, 0, 10, 180, 0, 118, 180, 0, 122, 154, 0, 6, 16, 251, 172, 42, 180, 0, 10, 180, 0, 118, 182, 0, 131, 42] := bH_c (n := 27) (by decide +kernel)
theorem dX10_undo_0 : decode cX10_undo 0 = .ok (.aload_n 0, 1) := de42 hX10_undo_0 0 rfl rfl
theorem dX10_undo_1 : decode cX10_undo 1 = .ok (.getfield 10, 3) := de180 hX10_undo_0 1 rfl rfl rfl
theorem dX10_undo_4 : decode cX10_undo 4 = .ok (.getfield 118, 3) := de180 hX10_undo_0 4 rfl rfl rfl
theorem dX10_undo_7 : decode cX10_undo 7 = .ok (.getfield 122, 3) := de180 hX10_undo_0 7 rfl rfl rfl
theorem dX10_undo_10 : decode cX10_undo 10 = .ok (.ifCond .ne 6, 3) := de154 hX10_undo_0 10 rfl rfl (by decide +kernel)
theorem dX10_undo_13 : decode cX10_undo 13 = .ok (.bipush (-5), 2) := de16 hX10_undo_0 13 rfl rfl rfl
theorem dX10_undo_15 : decode cX10_undo 15 = .ok (.ireturn, 1) := de172 hX10_undo_0 15 rfl rfl
theorem dX10_undo_16 : decode cX10_undo 16 = .ok (.aload_n 0, 1) := de42 hX10_undo_0 16 rfl rfl
theorem dX10_undo_17 : decode cX10_undo 17 = .ok (.getfield 10, 3) := de180 hX10_undo_0 17 rfl rfl rfl
theorem dX10_undo_20 : decode cX10_undo 20 = .ok (.getfield 118, 3) := de180 hX10_undo_0 20 rfl rfl rfl
theorem dX10_undo_23 : decode cX10_undo 23 = .ok (.invokevirtual 131, 3) := de182 hX10_undo_0 23 rfl rfl rfl
theorem dX10_undo_26 : decode cX10_undo 26 = .ok (.aload_n 0, 1) := de42 hX10_undo_0 26 rfl rfl
theorem hX10_undo_27 : bHas cX10_undo 27 [180, 0, 28, 4, 181, 0, 85, 42, 180, 0, 10, 180, 0, 118, 180, 0, 122, 172] := bH_c (n := 18) (by decide +kernel)
theorem dX10_undo_27 : decode cX10_undo 27 = .ok (.getfield 28, 3) := de180 hX10_undo_27 0 rfl rfl rfl
theorem dX10_undo_30 : decode cX10_undo 30 = .ok (.iconst 1, 1) := de4 hX10_undo_27 3 rfl rfl
theorem dX10_undo_31 : decode cX10_undo 31 = .ok (.putfield 85, 3) := de181 hX10_undo_27 4 rfl rfl rfl
theorem dX10_undo_34 : decode cX10_undo 34 = .ok (.aload_n 0, 1) := de42 hX10_undo_27 7 rfl rfl
theorem dX10_undo_35 : decode cX10_undo 35 = .ok (.getfield 10, 3) := de180 hX10_undo_27 8 rfl rfl rfl
theorem dX10_undo_38 : decode cX10_undo 38 = .ok (.getfield 118, 3) := de180 hX10_undo_27 11 rfl rfl rfl
theorem dX10_undo_41 : decode cX10_undo 41 = .ok (.getfield 122, 3) := de180 hX10_undo_27 14 rfl rfl rfl
theorem dX10_undo_44 : decode cX10_undo 44 = .ok (.ireturn, 1) := de172 hX10_undo_27 17 rfl rfl
theorem hX10_say_0 : bHas cX10_say 0 [27, 16, 33, 16, 126, 184, 0, 97, 154, 0, 6, 16, 254, 172, 42, 180, 0, 19, 180, 0, 134, 16, 40, 161, 0, 6] := bH_c (n := 26) (by decide +kernel)
theorem dX10_say_0 : decode cX10_say 0 = .ok (.iload_n 1, 1) := de27 hX10_say_0 0 rfl rfl
theorem dX10_say_1 : decode cX10_say 1 = .ok (.bipush 33, 2) := de16 hX10_say_0 1 rfl rfl rfl
theorem dX10_say_3 : decode cX10_say 3 = .ok (.bipush 126, 2) := de16 hX10_say_0 3 rfl rfl rfl
theorem dX10_say_5 : decode cX10_say 5 = .ok (.invokestatic 97, 3) := de184 hX10_say_0 5 rfl rfl rfl
theorem dX10_say_8 : decode cX10_say 8 = .ok (.ifCond .ne 6, 3) := de154 hX10_say_0 8 rfl rfl (by decide +kernel)
theorem dX10_say_11 : decode cX10_say 11 = .ok (.bipush (-2), 2) := de16 hX10_say_0 11 rfl rfl rfl
theorem dX10_say_13 : decode cX10_say 13 = .ok (.ireturn, 1) := de172 hX10_say_0 13 rfl rfl
theorem dX10_say_14 : decode cX10_say 14 = .ok (.aload_n 0, 1) := de42 hX10_say_0 14 rfl rfl
theorem dX10_say_15 : decode cX10_say 15 = .ok (.getfield 19, 3) := de180 hX10_say_0 15 rfl rfl rfl
theorem dX10_say_18 : decode cX10_say 18 = .ok (.getfield 134, 3) := de180 hX10_say_0 18 rfl rfl rfl
theorem dX10_say_21 : decode cX10_say 21 = .ok (.bipush 40, 2) := de16 hX10_say_0 21 rfl rfl rfl
theorem dX10_say_23 : decode cX10_say 23 = .ok (.if_icmp .lt 6, 3) := de161 hX10_say_0 23 rfl rfl (by decide +kernel)
theorem hX10_say_26 : bHas cX10_say 26 [16, 252, 172, 42, 180, 0, 19, 27, 182, 0, 137, 172] := bH_c (n := 12) (by decide +kernel)
theorem dX10_say_26 : decode cX10_say 26 = .ok (.bipush (-4), 2) := de16 hX10_say_26 0 rfl rfl rfl
theorem dX10_say_28 : decode cX10_say 28 = .ok (.ireturn, 1) := de172 hX10_say_26 2 rfl rfl
theorem dX10_say_29 : decode cX10_say 29 = .ok (.aload_n 0, 1) := de42 hX10_say_26 3 rfl rfl
theorem dX10_say_30 : decode cX10_say 30 = .ok (.getfield 19, 3) := de180 hX10_say_26 4 rfl rfl rfl
theorem dX10_say_33 : decode cX10_say 33 = .ok (.iload_n 1, 1) := de27 hX10_say_26 7 rfl rfl
theorem dX10_say_34 : decode cX10_say 34 = .ok (.invokevirtual 137, 3) := de182 hX10_say_26 8 rfl rfl rfl
theorem dX10_say_37 : decode cX10_say 37 = .ok (.ireturn, 1) := de172 hX10_say_26 11 rfl rfl
theorem hX10_wipe_0 : bHas cX10_wipe 0 [42, 180, 0, 19, 180, 0, 134, 60, 42, 180, 0, 19, 3, 181, 0, 134, 27, 172] := bH_c (n := 18) (by decide +kernel)
theorem dX10_wipe_0 : decode cX10_wipe 0 = .ok (.aload_n 0, 1) := de42 hX10_wipe_0 0 rfl rfl
theorem dX10_wipe_1 : decode cX10_wipe 1 = .ok (.getfield 19, 3) := de180 hX10_wipe_0 1 rfl rfl rfl
theorem dX10_wipe_4 : decode cX10_wipe 4 = .ok (.getfield 134, 3) := de180 hX10_wipe_0 4 rfl rfl rfl
theorem dX10_wipe_7 : decode cX10_wipe 7 = .ok (.istore_n 1, 1) := de60 hX10_wipe_0 7 rfl rfl
theorem dX10_wipe_8 : decode cX10_wipe 8 = .ok (.aload_n 0, 1) := de42 hX10_wipe_0 8 rfl rfl
theorem dX10_wipe_9 : decode cX10_wipe 9 = .ok (.getfield 19, 3) := de180 hX10_wipe_0 9 rfl rfl rfl
theorem dX10_wipe_12 : decode cX10_wipe 12 = .ok (.iconst 0, 1) := de3 hX10_wipe_0 12 rfl rfl
theorem dX10_wipe_13 : decode cX10_wipe 13 = .ok (.putfield 134, 3) := de181 hX10_wipe_0 13 rfl rfl rfl
theorem dX10_wipe_16 : decode cX10_wipe 16 = .ok (.iload_n 1, 1) := de27 hX10_wipe_0 16 rfl rfl
theorem dX10_wipe_17 : decode cX10_wipe 17 = .ok (.ireturn, 1) := de172 hX10_wipe_0 17 rfl rfl
theorem hX10_fault_0 : bHas cX10_fault 0 [42, 180, 0, 19, 182, 0, 139, 184, 0, 114, 172] := bH_c (n := 11) (by decide +kernel)
theorem dX10_fault_0 : decode cX10_fault 0 = .ok (.aload_n 0, 1) := de42 hX10_fault_0 0 rfl rfl
theorem dX10_fault_1 : decode cX10_fault 1 = .ok (.getfield 19, 3) := de180 hX10_fault_0 1 rfl rfl rfl
theorem dX10_fault_4 : decode cX10_fault 4 = .ok (.invokevirtual 139, 3) := de182 hX10_fault_0 4 rfl rfl rfl
theorem dX10_fault_7 : decode cX10_fault 7 = .ok (.invokestatic 114, 3) := de184 hX10_fault_0 7 rfl rfl rfl
theorem dX10_fault_10 : decode cX10_fault 10 = .ok (.ireturn, 1) := de172 hX10_fault_0 10 rfl rfl
theorem hX10_note_0 : bHas cX10_note 0 [42, 27, 182, 0, 93, 154, 0, 5, 2, 172, 42, 180, 0, 19, 180, 0, 134, 158, 0, 17, 42, 180, 0, 19] := bH_c (n := 24) (by decide +kernel)
theorem dX10_note_0 : decode cX10_note 0 = .ok (.aload_n 0, 1) := de42 hX10_note_0 0 rfl rfl
theorem dX10_note_1 : decode cX10_note 1 = .ok (.iload_n 1, 1) := de27 hX10_note_0 1 rfl rfl
theorem dX10_note_2 : decode cX10_note 2 = .ok (.invokevirtual 93, 3) := de182 hX10_note_0 2 rfl rfl rfl
theorem dX10_note_5 : decode cX10_note 5 = .ok (.ifCond .ne 5, 3) := de154 hX10_note_0 5 rfl rfl (by decide +kernel)
theorem dX10_note_8 : decode cX10_note 8 = .ok (.iconst (-1), 1) := de2 hX10_note_0 8 rfl rfl
theorem dX10_note_9 : decode cX10_note 9 = .ok (.ireturn, 1) := de172 hX10_note_0 9 rfl rfl
theorem dX10_note_10 : decode cX10_note 10 = .ok (.aload_n 0, 1) := de42 hX10_note_0 10 rfl rfl
theorem dX10_note_11 : decode cX10_note 11 = .ok (.getfield 19, 3) := de180 hX10_note_0 11 rfl rfl rfl
theorem dX10_note_14 : decode cX10_note 14 = .ok (.getfield 134, 3) := de180 hX10_note_0 14 rfl rfl rfl
theorem dX10_note_17 : decode cX10_note 17 = .ok (.ifCond .le 17, 3) := de158 hX10_note_0 17 rfl rfl (by decide +kernel)
theorem dX10_note_20 : decode cX10_note 20 = .ok (.aload_n 0, 1) := de42 hX10_note_0 20 rfl rfl
theorem dX10_note_21 : decode cX10_note 21 = .ok (.getfield 19, 3) := de180 hX10_note_0 21 rfl rfl rfl
theorem hX10_note_24 : bHas cX10_note 24 [182, 0, 139, 2, 159, 0, 6, 16, 251, 172, 42, 180, 0, 19, 182, 0, 143, 154, 0, 6, 16, 251, 172, 42] := bH_c (n := 24) (by decide +kernel)
theorem dX10_note_24 : decode cX10_note 24 = .ok (.invokevirtual 139, 3) := de182 hX10_note_24 0 rfl rfl rfl
theorem dX10_note_27 : decode cX10_note 27 = .ok (.iconst (-1), 1) := de2 hX10_note_24 3 rfl rfl
theorem dX10_note_28 : decode cX10_note 28 = .ok (.if_icmp .eq 6, 3) := de159 hX10_note_24 4 rfl rfl (by decide +kernel)
theorem dX10_note_31 : decode cX10_note 31 = .ok (.bipush (-5), 2) := de16 hX10_note_24 7 rfl rfl rfl
theorem dX10_note_33 : decode cX10_note 33 = .ok (.ireturn, 1) := de172 hX10_note_24 9 rfl rfl
theorem dX10_note_34 : decode cX10_note 34 = .ok (.aload_n 0, 1) := de42 hX10_note_24 10 rfl rfl
theorem dX10_note_35 : decode cX10_note 35 = .ok (.getfield 19, 3) := de180 hX10_note_24 11 rfl rfl rfl
theorem dX10_note_38 : decode cX10_note 38 = .ok (.invokevirtual 143, 3) := de182 hX10_note_24 14 rfl rfl rfl
theorem dX10_note_41 : decode cX10_note 41 = .ok (.ifCond .ne 6, 3) := de154 hX10_note_24 17 rfl rfl (by decide +kernel)
theorem dX10_note_44 : decode cX10_note 44 = .ok (.bipush (-5), 2) := de16 hX10_note_24 20 rfl rfl rfl
theorem dX10_note_46 : decode cX10_note 46 = .ok (.ireturn, 1) := de172 hX10_note_24 22 rfl rfl
theorem dX10_note_47 : decode cX10_note 47 = .ok (.aload_n 0, 1) := de42 hX10_note_24 23 rfl rfl
theorem hX10_note_48 : bHas cX10_note 48 [180, 0, 10, 27, 42, 180, 0, 19, 182, 0, 147, 42, 180, 0, 19, 3, 181, 0, 134, 42, 180, 0, 28, 4] := bH_c (n := 24) (by decide +kernel)
theorem dX10_note_48 : decode cX10_note 48 = .ok (.getfield 10, 3) := de180 hX10_note_48 0 rfl rfl rfl
theorem dX10_note_51 : decode cX10_note 51 = .ok (.iload_n 1, 1) := de27 hX10_note_48 3 rfl rfl
theorem dX10_note_52 : decode cX10_note 52 = .ok (.aload_n 0, 1) := de42 hX10_note_48 4 rfl rfl
theorem dX10_note_53 : decode cX10_note 53 = .ok (.getfield 19, 3) := de180 hX10_note_48 5 rfl rfl rfl
theorem dX10_note_56 : decode cX10_note 56 = .ok (.invokevirtual 147, 3) := de182 hX10_note_48 8 rfl rfl rfl
theorem dX10_note_59 : decode cX10_note 59 = .ok (.aload_n 0, 1) := de42 hX10_note_48 11 rfl rfl
theorem dX10_note_60 : decode cX10_note 60 = .ok (.getfield 19, 3) := de180 hX10_note_48 12 rfl rfl rfl
theorem dX10_note_63 : decode cX10_note 63 = .ok (.iconst 0, 1) := de3 hX10_note_48 15 rfl rfl
theorem dX10_note_64 : decode cX10_note 64 = .ok (.putfield 134, 3) := de181 hX10_note_48 16 rfl rfl rfl
theorem dX10_note_67 : decode cX10_note 67 = .ok (.aload_n 0, 1) := de42 hX10_note_48 19 rfl rfl
theorem dX10_note_68 : decode cX10_note 68 = .ok (.getfield 28, 3) := de180 hX10_note_48 20 rfl rfl rfl
theorem dX10_note_71 : decode cX10_note 71 = .ok (.iconst 1, 1) := de4 hX10_note_48 23 rfl rfl
theorem hX10_note_72 : bHas cX10_note 72 [181, 0, 85, 42, 180, 0, 19, 180, 0, 151, 172] := bH_c (n := 11) (by decide +kernel)
theorem dX10_note_72 : decode cX10_note 72 = .ok (.putfield 85, 3) := de181 hX10_note_72 0 rfl rfl rfl
theorem dX10_note_75 : decode cX10_note 75 = .ok (.aload_n 0, 1) := de42 hX10_note_72 3 rfl rfl
theorem dX10_note_76 : decode cX10_note 76 = .ok (.getfield 19, 3) := de180 hX10_note_72 4 rfl rfl rfl
theorem dX10_note_79 : decode cX10_note 79 = .ok (.getfield 151, 3) := de180 hX10_note_72 7 rfl rfl rfl
theorem dX10_note_82 : decode cX10_note 82 = .ok (.ireturn, 1) := de172 hX10_note_72 10 rfl rfl
theorem hX10_of_0 : bHas cX10_of 0 [42, 27, 182, 0, 93, 153, 0, 10, 28, 184, 0, 105, 154, 0, 5, 2, 172, 29, 3, 8] := bH_c (n := 20) (by decide +kernel)
theorem dX10_of_0 : decode cX10_of 0 = .ok (.aload_n 0, 1) := de42 hX10_of_0 0 rfl rfl
theorem dX10_of_1 : decode cX10_of 1 = .ok (.iload_n 1, 1) := de27 hX10_of_0 1 rfl rfl
theorem dX10_of_2 : decode cX10_of 2 = .ok (.invokevirtual 93, 3) := de182 hX10_of_0 2 rfl rfl rfl
theorem dX10_of_5 : decode cX10_of 5 = .ok (.ifCond .eq 10, 3) := de153 hX10_of_0 5 rfl rfl (by decide +kernel)
theorem dX10_of_8 : decode cX10_of 8 = .ok (.iload_n 2, 1) := de28 hX10_of_0 8 rfl rfl
theorem dX10_of_9 : decode cX10_of 9 = .ok (.invokestatic 105, 3) := de184 hX10_of_0 9 rfl rfl rfl
theorem dX10_of_12 : decode cX10_of 12 = .ok (.ifCond .ne 5, 3) := de154 hX10_of_0 12 rfl rfl (by decide +kernel)
theorem dX10_of_15 : decode cX10_of 15 = .ok (.iconst (-1), 1) := de2 hX10_of_0 15 rfl rfl
theorem dX10_of_16 : decode cX10_of 16 = .ok (.ireturn, 1) := de172 hX10_of_0 16 rfl rfl
theorem dX10_of_17 : decode cX10_of 17 = .ok (.iload_n 3, 1) := de29 hX10_of_0 17 rfl rfl
theorem dX10_of_18 : decode cX10_of 18 = .ok (.iconst 0, 1) := de3 hX10_of_0 18 rfl rfl
theorem dX10_of_19 : decode cX10_of 19 = .ok (.iconst 5, 1) := de8 hX10_of_0 19 rfl rfl
theorem hX10_of_20 : bHas cX10_of 20 [184, 0, 97, 154, 0, 6, 16, 254, 172, 42, 180, 0, 28, 182, 0, 154, 42, 180, 0, 28, 27, 16, 28, 104] := bH_c (n := 24) (by decide +kernel)
theorem dX10_of_20 : decode cX10_of 20 = .ok (.invokestatic 97, 3) := de184 hX10_of_20 0 rfl rfl rfl
theorem dX10_of_23 : decode cX10_of 23 = .ok (.ifCond .ne 6, 3) := de154 hX10_of_20 3 rfl rfl (by decide +kernel)
theorem dX10_of_26 : decode cX10_of 26 = .ok (.bipush (-2), 2) := de16 hX10_of_20 6 rfl rfl rfl
theorem dX10_of_28 : decode cX10_of 28 = .ok (.ireturn, 1) := de172 hX10_of_20 8 rfl rfl
theorem dX10_of_29 : decode cX10_of 29 = .ok (.aload_n 0, 1) := de42 hX10_of_20 9 rfl rfl
theorem dX10_of_30 : decode cX10_of 30 = .ok (.getfield 28, 3) := de180 hX10_of_20 10 rfl rfl rfl
theorem dX10_of_33 : decode cX10_of 33 = .ok (.invokevirtual 154, 3) := de182 hX10_of_20 13 rfl rfl rfl
theorem dX10_of_36 : decode cX10_of 36 = .ok (.aload_n 0, 1) := de42 hX10_of_20 16 rfl rfl
theorem dX10_of_37 : decode cX10_of 37 = .ok (.getfield 28, 3) := de180 hX10_of_20 17 rfl rfl rfl
theorem dX10_of_40 : decode cX10_of 40 = .ok (.iload_n 1, 1) := de27 hX10_of_20 20 rfl rfl
theorem dX10_of_41 : decode cX10_of 41 = .ok (.bipush 28, 2) := de16 hX10_of_20 21 rfl rfl rfl
theorem dX10_of_43 : decode cX10_of 43 = .ok (.imul, 1) := de104 hX10_of_20 23 rfl rfl
theorem hX10_of_44 : bHas cX10_of 44 [28, 96, 29, 182, 0, 157, 184, 0, 114, 172] := bH_c (n := 10) (by decide +kernel)
theorem dX10_of_44 : decode cX10_of 44 = .ok (.iload_n 2, 1) := de28 hX10_of_44 0 rfl rfl
theorem dX10_of_45 : decode cX10_of 45 = .ok (.iadd, 1) := de96 hX10_of_44 1 rfl rfl
theorem dX10_of_46 : decode cX10_of 46 = .ok (.iload_n 3, 1) := de29 hX10_of_44 2 rfl rfl
theorem dX10_of_47 : decode cX10_of 47 = .ok (.invokevirtual 157, 3) := de182 hX10_of_44 3 rfl rfl rfl
theorem dX10_of_50 : decode cX10_of 50 = .ok (.invokestatic 114, 3) := de184 hX10_of_44 6 rfl rfl rfl
theorem dX10_of_53 : decode cX10_of 53 = .ok (.ireturn, 1) := de172 hX10_of_44 9 rfl rfl
theorem hX10_set_0 : bHas cX10_set 0 [27, 3, 6, 184, 0, 97, 153, 0, 20, 28, 178, 0, 160, 27, 46, 178, 0, 163, 27, 46] := bH_c (n := 20) (by decide +kernel)
theorem dX10_set_0 : decode cX10_set 0 = .ok (.iload_n 1, 1) := de27 hX10_set_0 0 rfl rfl
theorem dX10_set_1 : decode cX10_set 1 = .ok (.iconst 0, 1) := de3 hX10_set_0 1 rfl rfl
theorem dX10_set_2 : decode cX10_set 2 = .ok (.iconst 3, 1) := de6 hX10_set_0 2 rfl rfl
theorem dX10_set_3 : decode cX10_set 3 = .ok (.invokestatic 97, 3) := de184 hX10_set_0 3 rfl rfl rfl
theorem dX10_set_6 : decode cX10_set 6 = .ok (.ifCond .eq 20, 3) := de153 hX10_set_0 6 rfl rfl (by decide +kernel)
theorem dX10_set_9 : decode cX10_set 9 = .ok (.iload_n 2, 1) := de28 hX10_set_0 9 rfl rfl
theorem dX10_set_10 : decode cX10_set 10 = .ok (.getstatic 160, 3) := de178 hX10_set_0 10 rfl rfl rfl
theorem dX10_set_13 : decode cX10_set 13 = .ok (.iload_n 1, 1) := de27 hX10_set_0 13 rfl rfl
theorem dX10_set_14 : decode cX10_set 14 = .ok (.iaload, 1) := de46 hX10_set_0 14 rfl rfl
theorem dX10_set_15 : decode cX10_set 15 = .ok (.getstatic 163, 3) := de178 hX10_set_0 15 rfl rfl rfl
theorem dX10_set_18 : decode cX10_set 18 = .ok (.iload_n 1, 1) := de27 hX10_set_0 18 rfl rfl
theorem dX10_set_19 : decode cX10_set 19 = .ok (.iaload, 1) := de46 hX10_set_0 19 rfl rfl
theorem hX10_set_20 : bHas cX10_set 20 [184, 0, 97, 154, 0, 6, 16, 254, 172, 42, 180, 0, 10, 180, 0, 166, 27, 46, 62, 42, 180, 0, 10] := bH_c (n := 23) (by decide +kernel)
theorem dX10_set_20 : decode cX10_set 20 = .ok (.invokestatic 97, 3) := de184 hX10_set_20 0 rfl rfl rfl
theorem dX10_set_23 : decode cX10_set 23 = .ok (.ifCond .ne 6, 3) := de154 hX10_set_20 3 rfl rfl (by decide +kernel)
theorem dX10_set_26 : decode cX10_set 26 = .ok (.bipush (-2), 2) := de16 hX10_set_20 6 rfl rfl rfl
theorem dX10_set_28 : decode cX10_set 28 = .ok (.ireturn, 1) := de172 hX10_set_20 8 rfl rfl
theorem dX10_set_29 : decode cX10_set 29 = .ok (.aload_n 0, 1) := de42 hX10_set_20 9 rfl rfl
theorem dX10_set_30 : decode cX10_set 30 = .ok (.getfield 10, 3) := de180 hX10_set_20 10 rfl rfl rfl
theorem dX10_set_33 : decode cX10_set 33 = .ok (.getfield 166, 3) := de180 hX10_set_20 13 rfl rfl rfl
theorem dX10_set_36 : decode cX10_set 36 = .ok (.iload_n 1, 1) := de27 hX10_set_20 16 rfl rfl
theorem dX10_set_37 : decode cX10_set 37 = .ok (.iaload, 1) := de46 hX10_set_20 17 rfl rfl
theorem dX10_set_38 : decode cX10_set 38 = .ok (.istore_n 3, 1) := de62 hX10_set_20 18 rfl rfl
theorem dX10_set_39 : decode cX10_set 39 = .ok (.aload_n 0, 1) := de42 hX10_set_20 19 rfl rfl
theorem dX10_set_40 : decode cX10_set 40 = .ok (.getfield 10, 3) := de180 hX10_set_20 20 rfl rfl rfl
theorem hX10_set_43 : bHas cX10_set 43 [180, 0, 166, 27, 28, 79, 42, 180, 0, 28, 4, 181, 0, 85, 29, 172] := bH_c (n := 16) (by decide +kernel)
theorem dX10_set_43 : decode cX10_set 43 = .ok (.getfield 166, 3) := de180 hX10_set_43 0 rfl rfl rfl
theorem dX10_set_46 : decode cX10_set 46 = .ok (.iload_n 1, 1) := de27 hX10_set_43 3 rfl rfl
theorem dX10_set_47 : decode cX10_set 47 = .ok (.iload_n 2, 1) := de28 hX10_set_43 4 rfl rfl
theorem dX10_set_48 : decode cX10_set 48 = .ok (.iastore, 1) := de79 hX10_set_43 5 rfl rfl
theorem dX10_set_49 : decode cX10_set 49 = .ok (.aload_n 0, 1) := de42 hX10_set_43 6 rfl rfl
theorem dX10_set_50 : decode cX10_set 50 = .ok (.getfield 28, 3) := de180 hX10_set_43 7 rfl rfl rfl
theorem dX10_set_53 : decode cX10_set 53 = .ok (.iconst 1, 1) := de4 hX10_set_43 10 rfl rfl
theorem dX10_set_54 : decode cX10_set 54 = .ok (.putfield 85, 3) := de181 hX10_set_43 11 rfl rfl rfl
theorem dX10_set_57 : decode cX10_set 57 = .ok (.iload_n 3, 1) := de29 hX10_set_43 14 rfl rfl
theorem dX10_set_58 : decode cX10_set 58 = .ok (.ireturn, 1) := de172 hX10_set_43 15 rfl rfl
theorem hX10_week_0 : bHas cX10_week 0 [42, 27, 182, 0, 93, 153, 0, 13, 28, 3, 16, 21, 184, 0, 97, 154, 0, 5, 2, 172, 29] := bH_c (n := 21) (by decide +kernel)
theorem dX10_week_0 : decode cX10_week 0 = .ok (.aload_n 0, 1) := de42 hX10_week_0 0 rfl rfl
theorem dX10_week_1 : decode cX10_week 1 = .ok (.iload_n 1, 1) := de27 hX10_week_0 1 rfl rfl
theorem dX10_week_2 : decode cX10_week 2 = .ok (.invokevirtual 93, 3) := de182 hX10_week_0 2 rfl rfl rfl
theorem dX10_week_5 : decode cX10_week 5 = .ok (.ifCond .eq 13, 3) := de153 hX10_week_0 5 rfl rfl (by decide +kernel)
theorem dX10_week_8 : decode cX10_week 8 = .ok (.iload_n 2, 1) := de28 hX10_week_0 8 rfl rfl
theorem dX10_week_9 : decode cX10_week 9 = .ok (.iconst 0, 1) := de3 hX10_week_0 9 rfl rfl
theorem dX10_week_10 : decode cX10_week 10 = .ok (.bipush 21, 2) := de16 hX10_week_0 10 rfl rfl rfl
theorem dX10_week_12 : decode cX10_week 12 = .ok (.invokestatic 97, 3) := de184 hX10_week_0 12 rfl rfl rfl
theorem dX10_week_15 : decode cX10_week 15 = .ok (.ifCond .ne 5, 3) := de154 hX10_week_0 15 rfl rfl (by decide +kernel)
theorem dX10_week_18 : decode cX10_week 18 = .ok (.iconst (-1), 1) := de2 hX10_week_0 18 rfl rfl
theorem dX10_week_19 : decode cX10_week 19 = .ok (.ireturn, 1) := de172 hX10_week_0 19 rfl rfl
theorem dX10_week_20 : decode cX10_week 20 = .ok (.iload_n 3, 1) := de29 hX10_week_0 20 rfl rfl
theorem hX10_week_21 : bHas cX10_week 21 [3, 6, 184, 0, 97, 154, 0, 6, 16, 254, 172, 42, 180, 0, 28, 182, 0, 154, 42, 180, 0, 37, 27] := bH_c (n := 23) (by decide +kernel)
theorem dX10_week_21 : decode cX10_week 21 = .ok (.iconst 0, 1) := de3 hX10_week_21 0 rfl rfl
theorem dX10_week_22 : decode cX10_week 22 = .ok (.iconst 3, 1) := de6 hX10_week_21 1 rfl rfl
theorem dX10_week_23 : decode cX10_week 23 = .ok (.invokestatic 97, 3) := de184 hX10_week_21 2 rfl rfl rfl
theorem dX10_week_26 : decode cX10_week 26 = .ok (.ifCond .ne 6, 3) := de154 hX10_week_21 5 rfl rfl (by decide +kernel)
theorem dX10_week_29 : decode cX10_week 29 = .ok (.bipush (-2), 2) := de16 hX10_week_21 8 rfl rfl rfl
theorem dX10_week_31 : decode cX10_week 31 = .ok (.ireturn, 1) := de172 hX10_week_21 10 rfl rfl
theorem dX10_week_32 : decode cX10_week 32 = .ok (.aload_n 0, 1) := de42 hX10_week_21 11 rfl rfl
theorem dX10_week_33 : decode cX10_week 33 = .ok (.getfield 28, 3) := de180 hX10_week_21 12 rfl rfl rfl
theorem dX10_week_36 : decode cX10_week 36 = .ok (.invokevirtual 154, 3) := de182 hX10_week_21 15 rfl rfl rfl
theorem dX10_week_39 : decode cX10_week 39 = .ok (.aload_n 0, 1) := de42 hX10_week_21 18 rfl rfl
theorem dX10_week_40 : decode cX10_week 40 = .ok (.getfield 37, 3) := de180 hX10_week_21 19 rfl rfl rfl
theorem dX10_week_43 : decode cX10_week 43 = .ok (.iload_n 1, 1) := de27 hX10_week_21 22 rfl rfl
theorem hX10_week_44 : bHas cX10_week 44 [16, 28, 104, 28, 96, 182, 0, 169, 29] := bH_c (n := 9) (by decide +kernel)
theorem dX10_week_44 : decode cX10_week 44 = .ok (.bipush 28, 2) := de16 hX10_week_44 0 rfl rfl rfl
theorem dX10_week_46 : decode cX10_week 46 = .ok (.imul, 1) := de104 hX10_week_44 2 rfl rfl
theorem dX10_week_47 : decode cX10_week 47 = .ok (.iload_n 2, 1) := de28 hX10_week_44 3 rfl rfl
theorem dX10_week_48 : decode cX10_week 48 = .ok (.iadd, 1) := de96 hX10_week_44 4 rfl rfl
theorem dX10_week_49 : decode cX10_week 49 = .ok (.invokevirtual 169, 3) := de182 hX10_week_44 5 rfl rfl rfl
theorem dX10_week_52 : decode cX10_week 52 = .ok (.iload_n 3, 1) := de29 hX10_week_44 8 rfl rfl
theorem dX10_week_53 : decode cX10_week 53 = .ok (.tableswitch 54 0 2 #[27, 35, 43], 27) := by decide +kernel
theorem hX10_week_80 : bHas cX10_week 80 [42, 180, 0, 37, 180, 0, 173, 172, 42, 180, 0, 37, 180, 0, 176, 172, 42, 180, 0, 37, 180, 0, 177, 184, 0, 114] := bH_c (n := 26) (by decide +kernel)
theorem dX10_week_80 : decode cX10_week 80 = .ok (.aload_n 0, 1) := de42 hX10_week_80 0 rfl rfl
theorem dX10_week_81 : decode cX10_week 81 = .ok (.getfield 37, 3) := de180 hX10_week_80 1 rfl rfl rfl
theorem dX10_week_84 : decode cX10_week 84 = .ok (.getfield 173, 3) := de180 hX10_week_80 4 rfl rfl rfl
theorem dX10_week_87 : decode cX10_week 87 = .ok (.ireturn, 1) := de172 hX10_week_80 7 rfl rfl
theorem dX10_week_88 : decode cX10_week 88 = .ok (.aload_n 0, 1) := de42 hX10_week_80 8 rfl rfl
theorem dX10_week_89 : decode cX10_week 89 = .ok (.getfield 37, 3) := de180 hX10_week_80 9 rfl rfl rfl
theorem dX10_week_92 : decode cX10_week 92 = .ok (.getfield 176, 3) := de180 hX10_week_80 12 rfl rfl rfl
theorem dX10_week_95 : decode cX10_week 95 = .ok (.ireturn, 1) := de172 hX10_week_80 15 rfl rfl
theorem dX10_week_96 : decode cX10_week 96 = .ok (.aload_n 0, 1) := de42 hX10_week_80 16 rfl rfl
theorem dX10_week_97 : decode cX10_week 97 = .ok (.getfield 37, 3) := de180 hX10_week_80 17 rfl rfl rfl
theorem dX10_week_100 : decode cX10_week 100 = .ok (.getfield 177, 3) := de180 hX10_week_80 20 rfl rfl rfl
theorem dX10_week_103 : decode cX10_week 103 = .ok (.invokestatic 114, 3) := de184 hX10_week_80 23 rfl rfl rfl
theorem hX10_week_106 : bHas cX10_week 106 [172, 42, 180, 0, 37, 180, 0, 180, 184, 0, 114, 172] := bH_c (n := 12) (by decide +kernel)
theorem dX10_week_106 : decode cX10_week 106 = .ok (.ireturn, 1) := de172 hX10_week_106 0 rfl rfl
theorem dX10_week_107 : decode cX10_week 107 = .ok (.aload_n 0, 1) := de42 hX10_week_106 1 rfl rfl
theorem dX10_week_108 : decode cX10_week 108 = .ok (.getfield 37, 3) := de180 hX10_week_106 2 rfl rfl rfl
theorem dX10_week_111 : decode cX10_week 111 = .ok (.getfield 180, 3) := de180 hX10_week_106 5 rfl rfl rfl
theorem dX10_week_114 : decode cX10_week 114 = .ok (.invokestatic 114, 3) := de184 hX10_week_106 8 rfl rfl rfl
theorem dX10_week_117 : decode cX10_week 117 = .ok (.ireturn, 1) := de172 hX10_week_106 11 rfl rfl
theorem hX10_breaks_0 : bHas cX10_breaks 0 [42, 27, 182, 0, 93, 154, 0, 6, 18, 183, 172, 28, 3, 4, 184, 0, 97, 154, 0, 6, 18, 184] := bH_c (n := 22) (by decide +kernel)
theorem dX10_breaks_0 : decode cX10_breaks 0 = .ok (.aload_n 0, 1) := de42 hX10_breaks_0 0 rfl rfl
theorem dX10_breaks_1 : decode cX10_breaks 1 = .ok (.iload_n 1, 1) := de27 hX10_breaks_0 1 rfl rfl
theorem dX10_breaks_2 : decode cX10_breaks 2 = .ok (.invokevirtual 93, 3) := de182 hX10_breaks_0 2 rfl rfl rfl
theorem dX10_breaks_5 : decode cX10_breaks 5 = .ok (.ifCond .ne 6, 3) := de154 hX10_breaks_0 5 rfl rfl (by decide +kernel)
theorem dX10_breaks_8 : decode cX10_breaks 8 = .ok (.ldc 183, 2) := de18 hX10_breaks_0 8 rfl rfl rfl
theorem dX10_breaks_10 : decode cX10_breaks 10 = .ok (.ireturn, 1) := de172 hX10_breaks_0 10 rfl rfl
theorem dX10_breaks_11 : decode cX10_breaks 11 = .ok (.iload_n 2, 1) := de28 hX10_breaks_0 11 rfl rfl
theorem dX10_breaks_12 : decode cX10_breaks 12 = .ok (.iconst 0, 1) := de3 hX10_breaks_0 12 rfl rfl
theorem dX10_breaks_13 : decode cX10_breaks 13 = .ok (.iconst 1, 1) := de4 hX10_breaks_0 13 rfl rfl
theorem dX10_breaks_14 : decode cX10_breaks 14 = .ok (.invokestatic 97, 3) := de184 hX10_breaks_0 14 rfl rfl rfl
theorem dX10_breaks_17 : decode cX10_breaks 17 = .ok (.ifCond .ne 6, 3) := de154 hX10_breaks_0 17 rfl rfl (by decide +kernel)
theorem dX10_breaks_20 : decode cX10_breaks 20 = .ok (.ldc 184, 2) := de18 hX10_breaks_0 20 rfl rfl rfl
theorem hX10_breaks_22 : bHas cX10_breaks 22 [172, 42, 180, 0, 28, 182, 0, 154, 42, 180, 0, 44, 27, 182, 0, 185, 154, 0, 6, 18, 188, 172, 28] := bH_c (n := 23) (by decide +kernel)
theorem dX10_breaks_22 : decode cX10_breaks 22 = .ok (.ireturn, 1) := de172 hX10_breaks_22 0 rfl rfl
theorem dX10_breaks_23 : decode cX10_breaks 23 = .ok (.aload_n 0, 1) := de42 hX10_breaks_22 1 rfl rfl
theorem dX10_breaks_24 : decode cX10_breaks 24 = .ok (.getfield 28, 3) := de180 hX10_breaks_22 2 rfl rfl rfl
theorem dX10_breaks_27 : decode cX10_breaks 27 = .ok (.invokevirtual 154, 3) := de182 hX10_breaks_22 5 rfl rfl rfl
theorem dX10_breaks_30 : decode cX10_breaks 30 = .ok (.aload_n 0, 1) := de42 hX10_breaks_22 8 rfl rfl
theorem dX10_breaks_31 : decode cX10_breaks 31 = .ok (.getfield 44, 3) := de180 hX10_breaks_22 9 rfl rfl rfl
theorem dX10_breaks_34 : decode cX10_breaks 34 = .ok (.iload_n 1, 1) := de27 hX10_breaks_22 12 rfl rfl
theorem dX10_breaks_35 : decode cX10_breaks 35 = .ok (.invokevirtual 185, 3) := de182 hX10_breaks_22 13 rfl rfl rfl
theorem dX10_breaks_38 : decode cX10_breaks 38 = .ok (.ifCond .ne 6, 3) := de154 hX10_breaks_22 16 rfl rfl (by decide +kernel)
theorem dX10_breaks_41 : decode cX10_breaks 41 = .ok (.ldc 188, 2) := de18 hX10_breaks_22 19 rfl rfl rfl
theorem dX10_breaks_43 : decode cX10_breaks 43 = .ok (.ireturn, 1) := de172 hX10_breaks_22 21 rfl rfl
theorem dX10_breaks_44 : decode cX10_breaks 44 = .ok (.iload_n 2, 1) := de28 hX10_breaks_22 22 rfl rfl
theorem hX10_breaks_45 : bHas cX10_breaks 45 [154, 0, 13, 42, 180, 0, 44, 182, 0, 189, 167, 0, 10, 42, 180, 0, 44, 182, 0, 192, 172] := bH_c (n := 21) (by decide +kernel)
theorem dX10_breaks_45 : decode cX10_breaks 45 = .ok (.ifCond .ne 13, 3) := de154 hX10_breaks_45 0 rfl rfl (by decide +kernel)
theorem dX10_breaks_48 : decode cX10_breaks 48 = .ok (.aload_n 0, 1) := de42 hX10_breaks_45 3 rfl rfl
theorem dX10_breaks_49 : decode cX10_breaks 49 = .ok (.getfield 44, 3) := de180 hX10_breaks_45 4 rfl rfl rfl
theorem dX10_breaks_52 : decode cX10_breaks 52 = .ok (.invokevirtual 189, 3) := de182 hX10_breaks_45 7 rfl rfl rfl
theorem dX10_breaks_55 : decode cX10_breaks 55 = .ok (.goto 10, 3) := de167 hX10_breaks_45 10 rfl rfl (by decide +kernel)
theorem dX10_breaks_58 : decode cX10_breaks 58 = .ok (.aload_n 0, 1) := de42 hX10_breaks_45 13 rfl rfl
theorem dX10_breaks_59 : decode cX10_breaks 59 = .ok (.getfield 44, 3) := de180 hX10_breaks_45 14 rfl rfl rfl
theorem dX10_breaks_62 : decode cX10_breaks 62 = .ok (.invokevirtual 192, 3) := de182 hX10_breaks_45 17 rfl rfl rfl
theorem dX10_breaks_65 : decode cX10_breaks 65 = .ok (.ireturn, 1) := de172 hX10_breaks_45 20 rfl rfl
theorem hX10_chance_0 : bHas cX10_chance 0 [42, 27, 182, 0, 93, 154, 0, 5, 2, 172, 28, 3, 17, 39, 15, 184, 0, 97, 154, 0, 6, 16, 254] := bH_c (n := 23) (by decide +kernel)
theorem dX10_chance_0 : decode cX10_chance 0 = .ok (.aload_n 0, 1) := de42 hX10_chance_0 0 rfl rfl
theorem dX10_chance_1 : decode cX10_chance 1 = .ok (.iload_n 1, 1) := de27 hX10_chance_0 1 rfl rfl
theorem dX10_chance_2 : decode cX10_chance 2 = .ok (.invokevirtual 93, 3) := de182 hX10_chance_0 2 rfl rfl rfl
theorem dX10_chance_5 : decode cX10_chance 5 = .ok (.ifCond .ne 5, 3) := de154 hX10_chance_0 5 rfl rfl (by decide +kernel)
theorem dX10_chance_8 : decode cX10_chance 8 = .ok (.iconst (-1), 1) := de2 hX10_chance_0 8 rfl rfl
theorem dX10_chance_9 : decode cX10_chance 9 = .ok (.ireturn, 1) := de172 hX10_chance_0 9 rfl rfl
theorem dX10_chance_10 : decode cX10_chance 10 = .ok (.iload_n 2, 1) := de28 hX10_chance_0 10 rfl rfl
theorem dX10_chance_11 : decode cX10_chance 11 = .ok (.iconst 0, 1) := de3 hX10_chance_0 11 rfl rfl
theorem dX10_chance_12 : decode cX10_chance 12 = .ok (.sipush 9999, 3) := de17 hX10_chance_0 12 rfl rfl (by decide +kernel)
theorem dX10_chance_15 : decode cX10_chance 15 = .ok (.invokestatic 97, 3) := de184 hX10_chance_0 15 rfl rfl rfl
theorem dX10_chance_18 : decode cX10_chance 18 = .ok (.ifCond .ne 6, 3) := de154 hX10_chance_0 18 rfl rfl (by decide +kernel)
theorem dX10_chance_21 : decode cX10_chance 21 = .ok (.bipush (-2), 2) := de16 hX10_chance_0 21 rfl rfl rfl
theorem hX10_chance_23 : bHas cX10_chance 23 [172, 42, 180, 0, 28, 182, 0, 154, 42, 180, 0, 44, 27, 182, 0, 185, 154, 0, 6, 16, 251, 172, 42] := bH_c (n := 23) (by decide +kernel)
theorem dX10_chance_23 : decode cX10_chance 23 = .ok (.ireturn, 1) := de172 hX10_chance_23 0 rfl rfl
theorem dX10_chance_24 : decode cX10_chance 24 = .ok (.aload_n 0, 1) := de42 hX10_chance_23 1 rfl rfl
theorem dX10_chance_25 : decode cX10_chance 25 = .ok (.getfield 28, 3) := de180 hX10_chance_23 2 rfl rfl rfl
theorem dX10_chance_28 : decode cX10_chance 28 = .ok (.invokevirtual 154, 3) := de182 hX10_chance_23 5 rfl rfl rfl
theorem dX10_chance_31 : decode cX10_chance 31 = .ok (.aload_n 0, 1) := de42 hX10_chance_23 8 rfl rfl
theorem dX10_chance_32 : decode cX10_chance 32 = .ok (.getfield 44, 3) := de180 hX10_chance_23 9 rfl rfl rfl
theorem dX10_chance_35 : decode cX10_chance 35 = .ok (.iload_n 1, 1) := de27 hX10_chance_23 12 rfl rfl
theorem dX10_chance_36 : decode cX10_chance 36 = .ok (.invokevirtual 185, 3) := de182 hX10_chance_23 13 rfl rfl rfl
theorem dX10_chance_39 : decode cX10_chance 39 = .ok (.ifCond .ne 6, 3) := de154 hX10_chance_23 16 rfl rfl (by decide +kernel)
theorem dX10_chance_42 : decode cX10_chance 42 = .ok (.bipush (-5), 2) := de16 hX10_chance_23 19 rfl rfl rfl
theorem dX10_chance_44 : decode cX10_chance 44 = .ok (.ireturn, 1) := de172 hX10_chance_23 21 rfl rfl
theorem dX10_chance_45 : decode cX10_chance 45 = .ok (.aload_n 0, 1) := de42 hX10_chance_23 22 rfl rfl
theorem hX10_chance_46 : bHas cX10_chance 46 [180, 0, 44, 28, 182, 0, 195, 172] := bH_c (n := 8) (by decide +kernel)
theorem dX10_chance_46 : decode cX10_chance 46 = .ok (.getfield 44, 3) := de180 hX10_chance_46 0 rfl rfl rfl
theorem dX10_chance_49 : decode cX10_chance 49 = .ok (.iload_n 2, 1) := de28 hX10_chance_46 3 rfl rfl
theorem dX10_chance_50 : decode cX10_chance 50 = .ok (.invokevirtual 195, 3) := de182 hX10_chance_46 4 rfl rfl rfl
theorem dX10_chance_53 : decode cX10_chance 53 = .ok (.ireturn, 1) := de172 hX10_chance_46 7 rfl rfl
theorem hX10_radar_0 : bHas cX10_radar 0 [27, 184, 0, 105, 154, 0, 5, 2, 172, 28, 29, 184, 0, 77, 153, 0, 28, 21, 4, 3, 17, 3, 231] := bH_c (n := 23) (by decide +kernel)
theorem dX10_radar_0 : decode cX10_radar 0 = .ok (.iload_n 1, 1) := de27 hX10_radar_0 0 rfl rfl
theorem dX10_radar_1 : decode cX10_radar 1 = .ok (.invokestatic 105, 3) := de184 hX10_radar_0 1 rfl rfl rfl
theorem dX10_radar_4 : decode cX10_radar 4 = .ok (.ifCond .ne 5, 3) := de154 hX10_radar_0 4 rfl rfl (by decide +kernel)
theorem dX10_radar_7 : decode cX10_radar 7 = .ok (.iconst (-1), 1) := de2 hX10_radar_0 7 rfl rfl
theorem dX10_radar_8 : decode cX10_radar 8 = .ok (.ireturn, 1) := de172 hX10_radar_0 8 rfl rfl
theorem dX10_radar_9 : decode cX10_radar 9 = .ok (.iload_n 2, 1) := de28 hX10_radar_0 9 rfl rfl
theorem dX10_radar_10 : decode cX10_radar 10 = .ok (.iload_n 3, 1) := de29 hX10_radar_0 10 rfl rfl
theorem dX10_radar_11 : decode cX10_radar 11 = .ok (.invokestatic 77, 3) := de184 hX10_radar_0 11 rfl rfl rfl
theorem dX10_radar_14 : decode cX10_radar 14 = .ok (.ifCond .eq 28, 3) := de153 hX10_radar_0 14 rfl rfl (by decide +kernel)
theorem dX10_radar_17 : decode cX10_radar 17 = .ok (.iload 4, 2) := de21 hX10_radar_0 17 rfl rfl rfl
theorem dX10_radar_19 : decode cX10_radar 19 = .ok (.iconst 0, 1) := de3 hX10_radar_0 19 rfl rfl
theorem dX10_radar_20 : decode cX10_radar 20 = .ok (.sipush 999, 3) := de17 hX10_radar_0 20 rfl rfl (by decide +kernel)
theorem hX10_radar_23 : bHas cX10_radar 23 [184, 0, 97, 153, 0, 16, 21, 5, 21, 4, 17, 3, 231, 184, 0, 97, 154, 0, 6, 16, 254, 172, 42, 180, 0, 10, 180, 0, 198] := bH_c (n := 29) (by decide +kernel)
theorem dX10_radar_23 : decode cX10_radar 23 = .ok (.invokestatic 97, 3) := de184 hX10_radar_23 0 rfl rfl rfl
theorem dX10_radar_26 : decode cX10_radar 26 = .ok (.ifCond .eq 16, 3) := de153 hX10_radar_23 3 rfl rfl (by decide +kernel)
theorem dX10_radar_29 : decode cX10_radar 29 = .ok (.iload 5, 2) := de21 hX10_radar_23 6 rfl rfl rfl
theorem dX10_radar_31 : decode cX10_radar 31 = .ok (.iload 4, 2) := de21 hX10_radar_23 8 rfl rfl rfl
theorem dX10_radar_33 : decode cX10_radar 33 = .ok (.sipush 999, 3) := de17 hX10_radar_23 10 rfl rfl (by decide +kernel)
theorem dX10_radar_36 : decode cX10_radar 36 = .ok (.invokestatic 97, 3) := de184 hX10_radar_23 13 rfl rfl rfl
theorem dX10_radar_39 : decode cX10_radar 39 = .ok (.ifCond .ne 6, 3) := de154 hX10_radar_23 16 rfl rfl (by decide +kernel)
theorem dX10_radar_42 : decode cX10_radar 42 = .ok (.bipush (-2), 2) := de16 hX10_radar_23 19 rfl rfl rfl
theorem dX10_radar_44 : decode cX10_radar 44 = .ok (.ireturn, 1) := de172 hX10_radar_23 21 rfl rfl
theorem dX10_radar_45 : decode cX10_radar 45 = .ok (.aload_n 0, 1) := de42 hX10_radar_23 22 rfl rfl
theorem dX10_radar_46 : decode cX10_radar 46 = .ok (.getfield 10, 3) := de180 hX10_radar_23 23 rfl rfl rfl
theorem dX10_radar_49 : decode cX10_radar 49 = .ok (.getfield 198, 3) := de180 hX10_radar_23 26 rfl rfl rfl
theorem hX10_radar_52 : bHas cX10_radar 52 [180, 0, 202, 16, 6, 161, 0, 6, 16, 252, 172, 42, 180, 0, 10, 180, 0, 198, 27, 28, 29, 21, 4] := bH_c (n := 23) (by decide +kernel)
theorem dX10_radar_52 : decode cX10_radar 52 = .ok (.getfield 202, 3) := de180 hX10_radar_52 0 rfl rfl rfl
theorem dX10_radar_55 : decode cX10_radar 55 = .ok (.bipush 6, 2) := de16 hX10_radar_52 3 rfl rfl rfl
theorem dX10_radar_57 : decode cX10_radar 57 = .ok (.if_icmp .lt 6, 3) := de161 hX10_radar_52 5 rfl rfl (by decide +kernel)
theorem dX10_radar_60 : decode cX10_radar 60 = .ok (.bipush (-4), 2) := de16 hX10_radar_52 8 rfl rfl rfl
theorem dX10_radar_62 : decode cX10_radar 62 = .ok (.ireturn, 1) := de172 hX10_radar_52 10 rfl rfl
theorem dX10_radar_63 : decode cX10_radar 63 = .ok (.aload_n 0, 1) := de42 hX10_radar_52 11 rfl rfl
theorem dX10_radar_64 : decode cX10_radar 64 = .ok (.getfield 10, 3) := de180 hX10_radar_52 12 rfl rfl rfl
theorem dX10_radar_67 : decode cX10_radar 67 = .ok (.getfield 198, 3) := de180 hX10_radar_52 15 rfl rfl rfl
theorem dX10_radar_70 : decode cX10_radar 70 = .ok (.iload_n 1, 1) := de27 hX10_radar_52 18 rfl rfl
theorem dX10_radar_71 : decode cX10_radar 71 = .ok (.iload_n 2, 1) := de28 hX10_radar_52 19 rfl rfl
theorem dX10_radar_72 : decode cX10_radar 72 = .ok (.iload_n 3, 1) := de29 hX10_radar_52 20 rfl rfl
theorem dX10_radar_73 : decode cX10_radar 73 = .ok (.iload 4, 2) := de21 hX10_radar_52 21 rfl rfl rfl
theorem hX10_radar_75 : bHas cX10_radar 75 [21, 5, 182, 0, 205, 172] := bH_c (n := 6) (by decide +kernel)
theorem dX10_radar_75 : decode cX10_radar 75 = .ok (.iload 5, 2) := de21 hX10_radar_75 0 rfl rfl rfl
theorem dX10_radar_77 : decode cX10_radar 77 = .ok (.invokevirtual 205, 3) := de182 hX10_radar_75 2 rfl rfl rfl
theorem dX10_radar_80 : decode cX10_radar 80 = .ok (.ireturn, 1) := de172 hX10_radar_75 5 rfl rfl
theorem hX10_blind_0 : bHas cX10_blind 0 [42, 180, 0, 10, 180, 0, 198, 180, 0, 202, 60, 42, 180, 0, 10, 180, 0, 198, 3, 181, 0, 202, 27, 172] := bH_c (n := 24) (by decide +kernel)
theorem dX10_blind_0 : decode cX10_blind 0 = .ok (.aload_n 0, 1) := de42 hX10_blind_0 0 rfl rfl
theorem dX10_blind_1 : decode cX10_blind 1 = .ok (.getfield 10, 3) := de180 hX10_blind_0 1 rfl rfl rfl
theorem dX10_blind_4 : decode cX10_blind 4 = .ok (.getfield 198, 3) := de180 hX10_blind_0 4 rfl rfl rfl
theorem dX10_blind_7 : decode cX10_blind 7 = .ok (.getfield 202, 3) := de180 hX10_blind_0 7 rfl rfl rfl
theorem dX10_blind_10 : decode cX10_blind 10 = .ok (.istore_n 1, 1) := de60 hX10_blind_0 10 rfl rfl
theorem dX10_blind_11 : decode cX10_blind 11 = .ok (.aload_n 0, 1) := de42 hX10_blind_0 11 rfl rfl
theorem dX10_blind_12 : decode cX10_blind 12 = .ok (.getfield 10, 3) := de180 hX10_blind_0 12 rfl rfl rfl
theorem dX10_blind_15 : decode cX10_blind 15 = .ok (.getfield 198, 3) := de180 hX10_blind_0 15 rfl rfl rfl
theorem dX10_blind_18 : decode cX10_blind 18 = .ok (.iconst 0, 1) := de3 hX10_blind_0 18 rfl rfl
theorem dX10_blind_19 : decode cX10_blind 19 = .ok (.putfield 202, 3) := de181 hX10_blind_0 19 rfl rfl rfl
theorem dX10_blind_22 : decode cX10_blind 22 = .ok (.iload_n 1, 1) := de27 hX10_blind_0 22 rfl rfl
theorem dX10_blind_23 : decode cX10_blind 23 = .ok (.ireturn, 1) := de172 hX10_blind_0 23 rfl rfl
theorem hX10_bound_0 : bHas cX10_bound 0 [27, 184, 0, 105, 154, 0, 5, 2, 172, 28, 29, 184, 0, 77, 153, 0, 13, 21, 4, 3, 4] := bH_c (n := 21) (by decide +kernel)
theorem dX10_bound_0 : decode cX10_bound 0 = .ok (.iload_n 1, 1) := de27 hX10_bound_0 0 rfl rfl
theorem dX10_bound_1 : decode cX10_bound 1 = .ok (.invokestatic 105, 3) := de184 hX10_bound_0 1 rfl rfl rfl
theorem dX10_bound_4 : decode cX10_bound 4 = .ok (.ifCond .ne 5, 3) := de154 hX10_bound_0 4 rfl rfl (by decide +kernel)
theorem dX10_bound_7 : decode cX10_bound 7 = .ok (.iconst (-1), 1) := de2 hX10_bound_0 7 rfl rfl
theorem dX10_bound_8 : decode cX10_bound 8 = .ok (.ireturn, 1) := de172 hX10_bound_0 8 rfl rfl
theorem dX10_bound_9 : decode cX10_bound 9 = .ok (.iload_n 2, 1) := de28 hX10_bound_0 9 rfl rfl
theorem dX10_bound_10 : decode cX10_bound 10 = .ok (.iload_n 3, 1) := de29 hX10_bound_0 10 rfl rfl
theorem dX10_bound_11 : decode cX10_bound 11 = .ok (.invokestatic 77, 3) := de184 hX10_bound_0 11 rfl rfl rfl
theorem dX10_bound_14 : decode cX10_bound 14 = .ok (.ifCond .eq 13, 3) := de153 hX10_bound_0 14 rfl rfl (by decide +kernel)
theorem dX10_bound_17 : decode cX10_bound 17 = .ok (.iload 4, 2) := de21 hX10_bound_0 17 rfl rfl rfl
theorem dX10_bound_19 : decode cX10_bound 19 = .ok (.iconst 0, 1) := de3 hX10_bound_0 19 rfl rfl
theorem dX10_bound_20 : decode cX10_bound 20 = .ok (.iconst 1, 1) := de4 hX10_bound_0 20 rfl rfl
theorem hX10_bound_21 : bHas cX10_bound 21 [184, 0, 97, 154, 0, 6, 16, 254, 172, 42, 180, 0, 28, 182, 0, 154, 42, 180, 0, 51, 27, 182, 0, 208, 42] := bH_c (n := 25) (by decide +kernel)
theorem dX10_bound_21 : decode cX10_bound 21 = .ok (.invokestatic 97, 3) := de184 hX10_bound_21 0 rfl rfl rfl
theorem dX10_bound_24 : decode cX10_bound 24 = .ok (.ifCond .ne 6, 3) := de154 hX10_bound_21 3 rfl rfl (by decide +kernel)
theorem dX10_bound_27 : decode cX10_bound 27 = .ok (.bipush (-2), 2) := de16 hX10_bound_21 6 rfl rfl rfl
theorem dX10_bound_29 : decode cX10_bound 29 = .ok (.ireturn, 1) := de172 hX10_bound_21 8 rfl rfl
theorem dX10_bound_30 : decode cX10_bound 30 = .ok (.aload_n 0, 1) := de42 hX10_bound_21 9 rfl rfl
theorem dX10_bound_31 : decode cX10_bound 31 = .ok (.getfield 28, 3) := de180 hX10_bound_21 10 rfl rfl rfl
theorem dX10_bound_34 : decode cX10_bound 34 = .ok (.invokevirtual 154, 3) := de182 hX10_bound_21 13 rfl rfl rfl
theorem dX10_bound_37 : decode cX10_bound 37 = .ok (.aload_n 0, 1) := de42 hX10_bound_21 16 rfl rfl
theorem dX10_bound_38 : decode cX10_bound 38 = .ok (.getfield 51, 3) := de180 hX10_bound_21 17 rfl rfl rfl
theorem dX10_bound_41 : decode cX10_bound 41 = .ok (.iload_n 1, 1) := de27 hX10_bound_21 20 rfl rfl
theorem dX10_bound_42 : decode cX10_bound 42 = .ok (.invokevirtual 208, 3) := de182 hX10_bound_21 21 rfl rfl rfl
theorem dX10_bound_45 : decode cX10_bound 45 = .ok (.aload_n 0, 1) := de42 hX10_bound_21 24 rfl rfl
theorem hX10_bound_46 : bHas cX10_bound 46 [180, 0, 51, 28, 29, 182, 0, 211, 154, 0, 6, 16, 251, 172, 21, 4, 154, 0, 13, 42, 180, 0, 51, 180, 0, 214] := bH_c (n := 26) (by decide +kernel)
theorem dX10_bound_46 : decode cX10_bound 46 = .ok (.getfield 51, 3) := de180 hX10_bound_46 0 rfl rfl rfl
theorem dX10_bound_49 : decode cX10_bound 49 = .ok (.iload_n 2, 1) := de28 hX10_bound_46 3 rfl rfl
theorem dX10_bound_50 : decode cX10_bound 50 = .ok (.iload_n 3, 1) := de29 hX10_bound_46 4 rfl rfl
theorem dX10_bound_51 : decode cX10_bound 51 = .ok (.invokevirtual 211, 3) := de182 hX10_bound_46 5 rfl rfl rfl
theorem dX10_bound_54 : decode cX10_bound 54 = .ok (.ifCond .ne 6, 3) := de154 hX10_bound_46 8 rfl rfl (by decide +kernel)
theorem dX10_bound_57 : decode cX10_bound 57 = .ok (.bipush (-5), 2) := de16 hX10_bound_46 11 rfl rfl rfl
theorem dX10_bound_59 : decode cX10_bound 59 = .ok (.ireturn, 1) := de172 hX10_bound_46 13 rfl rfl
theorem dX10_bound_60 : decode cX10_bound 60 = .ok (.iload 4, 2) := de21 hX10_bound_46 14 rfl rfl rfl
theorem dX10_bound_62 : decode cX10_bound 62 = .ok (.ifCond .ne 13, 3) := de154 hX10_bound_46 16 rfl rfl (by decide +kernel)
theorem dX10_bound_65 : decode cX10_bound 65 = .ok (.aload_n 0, 1) := de42 hX10_bound_46 19 rfl rfl
theorem dX10_bound_66 : decode cX10_bound 66 = .ok (.getfield 51, 3) := de180 hX10_bound_46 20 rfl rfl rfl
theorem dX10_bound_69 : decode cX10_bound 69 = .ok (.getfield 214, 3) := de180 hX10_bound_46 23 rfl rfl rfl
theorem hX10_bound_72 : bHas cX10_bound 72 [167, 0, 10, 42, 180, 0, 51, 180, 0, 217, 172] := bH_c (n := 11) (by decide +kernel)
theorem dX10_bound_72 : decode cX10_bound 72 = .ok (.goto 10, 3) := de167 hX10_bound_72 0 rfl rfl (by decide +kernel)
theorem dX10_bound_75 : decode cX10_bound 75 = .ok (.aload_n 0, 1) := de42 hX10_bound_72 3 rfl rfl
theorem dX10_bound_76 : decode cX10_bound 76 = .ok (.getfield 51, 3) := de180 hX10_bound_72 4 rfl rfl rfl
theorem dX10_bound_79 : decode cX10_bound 79 = .ok (.getfield 217, 3) := de180 hX10_bound_72 7 rfl rfl rfl
theorem dX10_bound_82 : decode cX10_bound 82 = .ok (.ireturn, 1) := de172 hX10_bound_72 10 rfl rfl
theorem hX10_over_0 : bHas cX10_over 0 [27, 184, 0, 105, 154, 0, 5, 2, 172, 28, 29, 21, 4, 21, 5, 184, 0, 220, 153, 0, 13, 21, 6] := bH_c (n := 23) (by decide +kernel)
theorem dX10_over_0 : decode cX10_over 0 = .ok (.iload_n 1, 1) := de27 hX10_over_0 0 rfl rfl
theorem dX10_over_1 : decode cX10_over 1 = .ok (.invokestatic 105, 3) := de184 hX10_over_0 1 rfl rfl rfl
theorem dX10_over_4 : decode cX10_over 4 = .ok (.ifCond .ne 5, 3) := de154 hX10_over_0 4 rfl rfl (by decide +kernel)
theorem dX10_over_7 : decode cX10_over 7 = .ok (.iconst (-1), 1) := de2 hX10_over_0 7 rfl rfl
theorem dX10_over_8 : decode cX10_over 8 = .ok (.ireturn, 1) := de172 hX10_over_0 8 rfl rfl
theorem dX10_over_9 : decode cX10_over 9 = .ok (.iload_n 2, 1) := de28 hX10_over_0 9 rfl rfl
theorem dX10_over_10 : decode cX10_over 10 = .ok (.iload_n 3, 1) := de29 hX10_over_0 10 rfl rfl
theorem dX10_over_11 : decode cX10_over 11 = .ok (.iload 4, 2) := de21 hX10_over_0 11 rfl rfl rfl
theorem dX10_over_13 : decode cX10_over 13 = .ok (.iload 5, 2) := de21 hX10_over_0 13 rfl rfl rfl
theorem dX10_over_15 : decode cX10_over 15 = .ok (.invokestatic 220, 3) := de184 hX10_over_0 15 rfl rfl rfl
theorem dX10_over_18 : decode cX10_over 18 = .ok (.ifCond .eq 13, 3) := de153 hX10_over_0 18 rfl rfl (by decide +kernel)
theorem dX10_over_21 : decode cX10_over 21 = .ok (.iload 6, 2) := de21 hX10_over_0 21 rfl rfl rfl
theorem hX10_over_23 : bHas cX10_over 23 [3, 4, 184, 0, 97, 154, 0, 6, 16, 254, 172, 42, 180, 0, 28, 182, 0, 154, 42, 180, 0, 51, 27] := bH_c (n := 23) (by decide +kernel)
theorem dX10_over_23 : decode cX10_over 23 = .ok (.iconst 0, 1) := de3 hX10_over_23 0 rfl rfl
theorem dX10_over_24 : decode cX10_over 24 = .ok (.iconst 1, 1) := de4 hX10_over_23 1 rfl rfl
theorem dX10_over_25 : decode cX10_over 25 = .ok (.invokestatic 97, 3) := de184 hX10_over_23 2 rfl rfl rfl
theorem dX10_over_28 : decode cX10_over 28 = .ok (.ifCond .ne 6, 3) := de154 hX10_over_23 5 rfl rfl (by decide +kernel)
theorem dX10_over_31 : decode cX10_over 31 = .ok (.bipush (-2), 2) := de16 hX10_over_23 8 rfl rfl rfl
theorem dX10_over_33 : decode cX10_over 33 = .ok (.ireturn, 1) := de172 hX10_over_23 10 rfl rfl
theorem dX10_over_34 : decode cX10_over 34 = .ok (.aload_n 0, 1) := de42 hX10_over_23 11 rfl rfl
theorem dX10_over_35 : decode cX10_over 35 = .ok (.getfield 28, 3) := de180 hX10_over_23 12 rfl rfl rfl
theorem dX10_over_38 : decode cX10_over 38 = .ok (.invokevirtual 154, 3) := de182 hX10_over_23 15 rfl rfl rfl
theorem dX10_over_41 : decode cX10_over 41 = .ok (.aload_n 0, 1) := de42 hX10_over_23 18 rfl rfl
theorem dX10_over_42 : decode cX10_over 42 = .ok (.getfield 51, 3) := de180 hX10_over_23 19 rfl rfl rfl
theorem dX10_over_45 : decode cX10_over 45 = .ok (.iload_n 1, 1) := de27 hX10_over_23 22 rfl rfl
theorem hX10_over_46 : bHas cX10_over 46 [182, 0, 208, 42, 180, 0, 51, 28, 29, 21, 4, 21, 5, 182, 0, 224, 154, 0, 6, 16, 251, 172, 21, 6] := bH_c (n := 24) (by decide +kernel)
theorem dX10_over_46 : decode cX10_over 46 = .ok (.invokevirtual 208, 3) := de182 hX10_over_46 0 rfl rfl rfl
theorem dX10_over_49 : decode cX10_over 49 = .ok (.aload_n 0, 1) := de42 hX10_over_46 3 rfl rfl
theorem dX10_over_50 : decode cX10_over 50 = .ok (.getfield 51, 3) := de180 hX10_over_46 4 rfl rfl rfl
theorem dX10_over_53 : decode cX10_over 53 = .ok (.iload_n 2, 1) := de28 hX10_over_46 7 rfl rfl
theorem dX10_over_54 : decode cX10_over 54 = .ok (.iload_n 3, 1) := de29 hX10_over_46 8 rfl rfl
theorem dX10_over_55 : decode cX10_over 55 = .ok (.iload 4, 2) := de21 hX10_over_46 9 rfl rfl rfl
theorem dX10_over_57 : decode cX10_over 57 = .ok (.iload 5, 2) := de21 hX10_over_46 11 rfl rfl rfl
theorem dX10_over_59 : decode cX10_over 59 = .ok (.invokevirtual 224, 3) := de182 hX10_over_46 13 rfl rfl rfl
theorem dX10_over_62 : decode cX10_over 62 = .ok (.ifCond .ne 6, 3) := de154 hX10_over_46 16 rfl rfl (by decide +kernel)
theorem dX10_over_65 : decode cX10_over 65 = .ok (.bipush (-5), 2) := de16 hX10_over_46 19 rfl rfl rfl
theorem dX10_over_67 : decode cX10_over 67 = .ok (.ireturn, 1) := de172 hX10_over_46 21 rfl rfl
theorem dX10_over_68 : decode cX10_over 68 = .ok (.iload 6, 2) := de21 hX10_over_46 22 rfl rfl rfl
theorem hX10_over_70 : bHas cX10_over 70 [154, 0, 13, 42, 180, 0, 51, 180, 0, 227, 167, 0, 10, 42, 180, 0, 51, 180, 0, 230, 172] := bH_c (n := 21) (by decide +kernel)
theorem dX10_over_70 : decode cX10_over 70 = .ok (.ifCond .ne 13, 3) := de154 hX10_over_70 0 rfl rfl (by decide +kernel)
theorem dX10_over_73 : decode cX10_over 73 = .ok (.aload_n 0, 1) := de42 hX10_over_70 3 rfl rfl
theorem dX10_over_74 : decode cX10_over 74 = .ok (.getfield 51, 3) := de180 hX10_over_70 4 rfl rfl rfl
theorem dX10_over_77 : decode cX10_over 77 = .ok (.getfield 227, 3) := de180 hX10_over_70 7 rfl rfl rfl
theorem dX10_over_80 : decode cX10_over 80 = .ok (.goto 10, 3) := de167 hX10_over_70 10 rfl rfl (by decide +kernel)
theorem dX10_over_83 : decode cX10_over 83 = .ok (.aload_n 0, 1) := de42 hX10_over_70 13 rfl rfl
theorem dX10_over_84 : decode cX10_over 84 = .ok (.getfield 51, 3) := de180 hX10_over_70 14 rfl rfl rfl
theorem dX10_over_87 : decode cX10_over 87 = .ok (.getfield 230, 3) := de180 hX10_over_70 17 rfl rfl rfl
theorem dX10_over_90 : decode cX10_over 90 = .ok (.ireturn, 1) := de172 hX10_over_70 20 rfl rfl
theorem hX10_flow_0 : bHas cX10_flow 0 [27, 184, 0, 105, 154, 0, 6, 18, 183, 172, 28, 29, 21, 4, 21, 5, 184, 0, 220, 153, 0, 25, 21, 6] := bH_c (n := 24) (by decide +kernel)
theorem dX10_flow_0 : decode cX10_flow 0 = .ok (.iload_n 1, 1) := de27 hX10_flow_0 0 rfl rfl
theorem dX10_flow_1 : decode cX10_flow 1 = .ok (.invokestatic 105, 3) := de184 hX10_flow_0 1 rfl rfl rfl
theorem dX10_flow_4 : decode cX10_flow 4 = .ok (.ifCond .ne 6, 3) := de154 hX10_flow_0 4 rfl rfl (by decide +kernel)
theorem dX10_flow_7 : decode cX10_flow 7 = .ok (.ldc 183, 2) := de18 hX10_flow_0 7 rfl rfl rfl
theorem dX10_flow_9 : decode cX10_flow 9 = .ok (.ireturn, 1) := de172 hX10_flow_0 9 rfl rfl
theorem dX10_flow_10 : decode cX10_flow 10 = .ok (.iload_n 2, 1) := de28 hX10_flow_0 10 rfl rfl
theorem dX10_flow_11 : decode cX10_flow 11 = .ok (.iload_n 3, 1) := de29 hX10_flow_0 11 rfl rfl
theorem dX10_flow_12 : decode cX10_flow 12 = .ok (.iload 4, 2) := de21 hX10_flow_0 12 rfl rfl rfl
theorem dX10_flow_14 : decode cX10_flow 14 = .ok (.iload 5, 2) := de21 hX10_flow_0 14 rfl rfl rfl
theorem dX10_flow_16 : decode cX10_flow 16 = .ok (.invokestatic 220, 3) := de184 hX10_flow_0 16 rfl rfl rfl
theorem dX10_flow_19 : decode cX10_flow 19 = .ok (.ifCond .eq 25, 3) := de153 hX10_flow_0 19 rfl rfl (by decide +kernel)
theorem dX10_flow_22 : decode cX10_flow 22 = .ok (.iload 6, 2) := de21 hX10_flow_0 22 rfl rfl rfl
theorem hX10_flow_24 : bHas cX10_flow 24 [3, 16, 100, 184, 0, 97, 153, 0, 14, 21, 7, 3, 18, 233, 184, 0, 97, 154, 0, 6, 18, 184, 172, 42] := bH_c (n := 24) (by decide +kernel)
theorem dX10_flow_24 : decode cX10_flow 24 = .ok (.iconst 0, 1) := de3 hX10_flow_24 0 rfl rfl
theorem dX10_flow_25 : decode cX10_flow 25 = .ok (.bipush 100, 2) := de16 hX10_flow_24 1 rfl rfl rfl
theorem dX10_flow_27 : decode cX10_flow 27 = .ok (.invokestatic 97, 3) := de184 hX10_flow_24 3 rfl rfl rfl
theorem dX10_flow_30 : decode cX10_flow 30 = .ok (.ifCond .eq 14, 3) := de153 hX10_flow_24 6 rfl rfl (by decide +kernel)
theorem dX10_flow_33 : decode cX10_flow 33 = .ok (.iload 7, 2) := de21 hX10_flow_24 9 rfl rfl rfl
theorem dX10_flow_35 : decode cX10_flow 35 = .ok (.iconst 0, 1) := de3 hX10_flow_24 11 rfl rfl
theorem dX10_flow_36 : decode cX10_flow 36 = .ok (.ldc 233, 2) := de18 hX10_flow_24 12 rfl rfl rfl
theorem dX10_flow_38 : decode cX10_flow 38 = .ok (.invokestatic 97, 3) := de184 hX10_flow_24 14 rfl rfl rfl
theorem dX10_flow_41 : decode cX10_flow 41 = .ok (.ifCond .ne 6, 3) := de154 hX10_flow_24 17 rfl rfl (by decide +kernel)
theorem dX10_flow_44 : decode cX10_flow 44 = .ok (.ldc 184, 2) := de18 hX10_flow_24 20 rfl rfl rfl
theorem dX10_flow_46 : decode cX10_flow 46 = .ok (.ireturn, 1) := de172 hX10_flow_24 22 rfl rfl
theorem dX10_flow_47 : decode cX10_flow 47 = .ok (.aload_n 0, 1) := de42 hX10_flow_24 23 rfl rfl
theorem hX10_flow_48 : bHas cX10_flow 48 [180, 0, 28, 182, 0, 154, 42, 180, 0, 51, 27, 182, 0, 208, 42, 180, 0, 51, 28, 29, 21, 4, 21, 5] := bH_c (n := 24) (by decide +kernel)
theorem dX10_flow_48 : decode cX10_flow 48 = .ok (.getfield 28, 3) := de180 hX10_flow_48 0 rfl rfl rfl
theorem dX10_flow_51 : decode cX10_flow 51 = .ok (.invokevirtual 154, 3) := de182 hX10_flow_48 3 rfl rfl rfl
theorem dX10_flow_54 : decode cX10_flow 54 = .ok (.aload_n 0, 1) := de42 hX10_flow_48 6 rfl rfl
theorem dX10_flow_55 : decode cX10_flow 55 = .ok (.getfield 51, 3) := de180 hX10_flow_48 7 rfl rfl rfl
theorem dX10_flow_58 : decode cX10_flow 58 = .ok (.iload_n 1, 1) := de27 hX10_flow_48 10 rfl rfl
theorem dX10_flow_59 : decode cX10_flow 59 = .ok (.invokevirtual 208, 3) := de182 hX10_flow_48 11 rfl rfl rfl
theorem dX10_flow_62 : decode cX10_flow 62 = .ok (.aload_n 0, 1) := de42 hX10_flow_48 14 rfl rfl
theorem dX10_flow_63 : decode cX10_flow 63 = .ok (.getfield 51, 3) := de180 hX10_flow_48 15 rfl rfl rfl
theorem dX10_flow_66 : decode cX10_flow 66 = .ok (.iload_n 2, 1) := de28 hX10_flow_48 18 rfl rfl
theorem dX10_flow_67 : decode cX10_flow 67 = .ok (.iload_n 3, 1) := de29 hX10_flow_48 19 rfl rfl
theorem dX10_flow_68 : decode cX10_flow 68 = .ok (.iload 4, 2) := de21 hX10_flow_48 20 rfl rfl rfl
theorem dX10_flow_70 : decode cX10_flow 70 = .ok (.iload 5, 2) := de21 hX10_flow_48 22 rfl rfl rfl
theorem hX10_flow_72 : bHas cX10_flow 72 [182, 0, 224, 154, 0, 6, 18, 188, 172, 42, 180, 0, 51, 21, 6, 21, 7, 182, 0, 234, 172] := bH_c (n := 21) (by decide +kernel)
theorem dX10_flow_72 : decode cX10_flow 72 = .ok (.invokevirtual 224, 3) := de182 hX10_flow_72 0 rfl rfl rfl
theorem dX10_flow_75 : decode cX10_flow 75 = .ok (.ifCond .ne 6, 3) := de154 hX10_flow_72 3 rfl rfl (by decide +kernel)
theorem dX10_flow_78 : decode cX10_flow 78 = .ok (.ldc 188, 2) := de18 hX10_flow_72 6 rfl rfl rfl
theorem dX10_flow_80 : decode cX10_flow 80 = .ok (.ireturn, 1) := de172 hX10_flow_72 8 rfl rfl
theorem dX10_flow_81 : decode cX10_flow 81 = .ok (.aload_n 0, 1) := de42 hX10_flow_72 9 rfl rfl
theorem dX10_flow_82 : decode cX10_flow 82 = .ok (.getfield 51, 3) := de180 hX10_flow_72 10 rfl rfl rfl
theorem dX10_flow_85 : decode cX10_flow 85 = .ok (.iload 6, 2) := de21 hX10_flow_72 13 rfl rfl rfl
theorem dX10_flow_87 : decode cX10_flow 87 = .ok (.iload 7, 2) := de21 hX10_flow_72 15 rfl rfl rfl
theorem dX10_flow_89 : decode cX10_flow 89 = .ok (.invokevirtual 234, 3) := de182 hX10_flow_72 17 rfl rfl rfl
theorem dX10_flow_92 : decode cX10_flow 92 = .ok (.ireturn, 1) := de172 hX10_flow_72 20 rfl rfl
theorem hX10_fill_0 : bHas cX10_fill 0 [42, 27, 182, 0, 93, 153, 0, 10, 28, 184, 0, 105, 154, 0, 5, 2, 172, 29, 3, 4] := bH_c (n := 20) (by decide +kernel)
theorem dX10_fill_0 : decode cX10_fill 0 = .ok (.aload_n 0, 1) := de42 hX10_fill_0 0 rfl rfl
theorem dX10_fill_1 : decode cX10_fill 1 = .ok (.iload_n 1, 1) := de27 hX10_fill_0 1 rfl rfl
theorem dX10_fill_2 : decode cX10_fill 2 = .ok (.invokevirtual 93, 3) := de182 hX10_fill_0 2 rfl rfl rfl
theorem dX10_fill_5 : decode cX10_fill 5 = .ok (.ifCond .eq 10, 3) := de153 hX10_fill_0 5 rfl rfl (by decide +kernel)
theorem dX10_fill_8 : decode cX10_fill 8 = .ok (.iload_n 2, 1) := de28 hX10_fill_0 8 rfl rfl
theorem dX10_fill_9 : decode cX10_fill 9 = .ok (.invokestatic 105, 3) := de184 hX10_fill_0 9 rfl rfl rfl
theorem dX10_fill_12 : decode cX10_fill 12 = .ok (.ifCond .ne 5, 3) := de154 hX10_fill_0 12 rfl rfl (by decide +kernel)
theorem dX10_fill_15 : decode cX10_fill 15 = .ok (.iconst (-1), 1) := de2 hX10_fill_0 15 rfl rfl
theorem dX10_fill_16 : decode cX10_fill 16 = .ok (.ireturn, 1) := de172 hX10_fill_0 16 rfl rfl
theorem dX10_fill_17 : decode cX10_fill 17 = .ok (.iload_n 3, 1) := de29 hX10_fill_0 17 rfl rfl
theorem dX10_fill_18 : decode cX10_fill 18 = .ok (.iconst 0, 1) := de3 hX10_fill_0 18 rfl rfl
theorem dX10_fill_19 : decode cX10_fill 19 = .ok (.iconst 1, 1) := de4 hX10_fill_0 19 rfl rfl
theorem hX10_fill_20 : bHas cX10_fill 20 [184, 0, 97, 154, 0, 6, 16, 254, 172, 42, 180, 0, 28, 182, 0, 154, 42, 180, 0, 28, 180, 0, 237, 27, 16, 28] := bH_c (n := 26) (by decide +kernel)
theorem dX10_fill_20 : decode cX10_fill 20 = .ok (.invokestatic 97, 3) := de184 hX10_fill_20 0 rfl rfl rfl
theorem dX10_fill_23 : decode cX10_fill 23 = .ok (.ifCond .ne 6, 3) := de154 hX10_fill_20 3 rfl rfl (by decide +kernel)
theorem dX10_fill_26 : decode cX10_fill 26 = .ok (.bipush (-2), 2) := de16 hX10_fill_20 6 rfl rfl rfl
theorem dX10_fill_28 : decode cX10_fill 28 = .ok (.ireturn, 1) := de172 hX10_fill_20 8 rfl rfl
theorem dX10_fill_29 : decode cX10_fill 29 = .ok (.aload_n 0, 1) := de42 hX10_fill_20 9 rfl rfl
theorem dX10_fill_30 : decode cX10_fill 30 = .ok (.getfield 28, 3) := de180 hX10_fill_20 10 rfl rfl rfl
theorem dX10_fill_33 : decode cX10_fill 33 = .ok (.invokevirtual 154, 3) := de182 hX10_fill_20 13 rfl rfl rfl
theorem dX10_fill_36 : decode cX10_fill 36 = .ok (.aload_n 0, 1) := de42 hX10_fill_20 16 rfl rfl
theorem dX10_fill_37 : decode cX10_fill 37 = .ok (.getfield 28, 3) := de180 hX10_fill_20 17 rfl rfl rfl
theorem dX10_fill_40 : decode cX10_fill 40 = .ok (.getfield 237, 3) := de180 hX10_fill_20 20 rfl rfl rfl
theorem dX10_fill_43 : decode cX10_fill 43 = .ok (.iload_n 1, 1) := de27 hX10_fill_20 23 rfl rfl
theorem dX10_fill_44 : decode cX10_fill 44 = .ok (.bipush 28, 2) := de16 hX10_fill_20 24 rfl rfl rfl
theorem hX10_fill_46 : bHas cX10_fill 46 [104, 28, 96, 46, 2, 159, 0, 6, 16, 253, 172, 42, 180, 0, 51, 28, 182, 0, 208] := bH_c (n := 19) (by decide +kernel)
theorem dX10_fill_46 : decode cX10_fill 46 = .ok (.imul, 1) := de104 hX10_fill_46 0 rfl rfl
theorem dX10_fill_47 : decode cX10_fill 47 = .ok (.iload_n 2, 1) := de28 hX10_fill_46 1 rfl rfl
theorem dX10_fill_48 : decode cX10_fill 48 = .ok (.iadd, 1) := de96 hX10_fill_46 2 rfl rfl
theorem dX10_fill_49 : decode cX10_fill 49 = .ok (.iaload, 1) := de46 hX10_fill_46 3 rfl rfl
theorem dX10_fill_50 : decode cX10_fill 50 = .ok (.iconst (-1), 1) := de2 hX10_fill_46 4 rfl rfl
theorem dX10_fill_51 : decode cX10_fill 51 = .ok (.if_icmp .eq 6, 3) := de159 hX10_fill_46 5 rfl rfl (by decide +kernel)
theorem dX10_fill_54 : decode cX10_fill 54 = .ok (.bipush (-3), 2) := de16 hX10_fill_46 8 rfl rfl rfl
theorem dX10_fill_56 : decode cX10_fill 56 = .ok (.ireturn, 1) := de172 hX10_fill_46 10 rfl rfl
theorem dX10_fill_57 : decode cX10_fill 57 = .ok (.aload_n 0, 1) := de42 hX10_fill_46 11 rfl rfl
theorem dX10_fill_58 : decode cX10_fill 58 = .ok (.getfield 51, 3) := de180 hX10_fill_46 12 rfl rfl rfl
theorem dX10_fill_61 : decode cX10_fill 61 = .ok (.iload_n 2, 1) := de28 hX10_fill_46 15 rfl rfl
theorem dX10_fill_62 : decode cX10_fill 62 = .ok (.invokevirtual 208, 3) := de182 hX10_fill_46 16 rfl rfl rfl
theorem hX10_fill_65 : bHas cX10_fill 65 [42, 180, 0, 51, 42, 180, 0, 10, 180, 0, 240, 27, 46, 42, 180, 0, 10, 180, 0, 243, 27, 46] := bH_c (n := 22) (by decide +kernel)
theorem dX10_fill_65 : decode cX10_fill 65 = .ok (.aload_n 0, 1) := de42 hX10_fill_65 0 rfl rfl
theorem dX10_fill_66 : decode cX10_fill 66 = .ok (.getfield 51, 3) := de180 hX10_fill_65 1 rfl rfl rfl
theorem dX10_fill_69 : decode cX10_fill 69 = .ok (.aload_n 0, 1) := de42 hX10_fill_65 4 rfl rfl
theorem dX10_fill_70 : decode cX10_fill 70 = .ok (.getfield 10, 3) := de180 hX10_fill_65 5 rfl rfl rfl
theorem dX10_fill_73 : decode cX10_fill 73 = .ok (.getfield 240, 3) := de180 hX10_fill_65 8 rfl rfl rfl
theorem dX10_fill_76 : decode cX10_fill 76 = .ok (.iload_n 1, 1) := de27 hX10_fill_65 11 rfl rfl
theorem dX10_fill_77 : decode cX10_fill 77 = .ok (.iaload, 1) := de46 hX10_fill_65 12 rfl rfl
theorem dX10_fill_78 : decode cX10_fill 78 = .ok (.aload_n 0, 1) := de42 hX10_fill_65 13 rfl rfl
theorem dX10_fill_79 : decode cX10_fill 79 = .ok (.getfield 10, 3) := de180 hX10_fill_65 14 rfl rfl rfl
theorem dX10_fill_82 : decode cX10_fill 82 = .ok (.getfield 243, 3) := de180 hX10_fill_65 17 rfl rfl rfl
theorem dX10_fill_85 : decode cX10_fill 85 = .ok (.iload_n 1, 1) := de27 hX10_fill_65 20 rfl rfl
theorem dX10_fill_86 : decode cX10_fill 86 = .ok (.iaload, 1) := de46 hX10_fill_65 21 rfl rfl
theorem hX10_fill_87 : bHas cX10_fill 87 [182, 0, 211, 154, 0, 6, 16, 251, 172, 29, 154, 0, 23, 42, 180, 0, 51, 180, 0, 214, 42, 180, 0, 51, 180, 0, 217] := bH_c (n := 27) (by decide +kernel)
theorem dX10_fill_87 : decode cX10_fill 87 = .ok (.invokevirtual 211, 3) := de182 hX10_fill_87 0 rfl rfl rfl
theorem dX10_fill_90 : decode cX10_fill 90 = .ok (.ifCond .ne 6, 3) := de154 hX10_fill_87 3 rfl rfl (by decide +kernel)
theorem dX10_fill_93 : decode cX10_fill 93 = .ok (.bipush (-5), 2) := de16 hX10_fill_87 6 rfl rfl rfl
theorem dX10_fill_95 : decode cX10_fill 95 = .ok (.ireturn, 1) := de172 hX10_fill_87 8 rfl rfl
theorem dX10_fill_96 : decode cX10_fill 96 = .ok (.iload_n 3, 1) := de29 hX10_fill_87 9 rfl rfl
theorem dX10_fill_97 : decode cX10_fill 97 = .ok (.ifCond .ne 23, 3) := de154 hX10_fill_87 10 rfl rfl (by decide +kernel)
theorem dX10_fill_100 : decode cX10_fill 100 = .ok (.aload_n 0, 1) := de42 hX10_fill_87 13 rfl rfl
theorem dX10_fill_101 : decode cX10_fill 101 = .ok (.getfield 51, 3) := de180 hX10_fill_87 14 rfl rfl rfl
theorem dX10_fill_104 : decode cX10_fill 104 = .ok (.getfield 214, 3) := de180 hX10_fill_87 17 rfl rfl rfl
theorem dX10_fill_107 : decode cX10_fill 107 = .ok (.aload_n 0, 1) := de42 hX10_fill_87 20 rfl rfl
theorem dX10_fill_108 : decode cX10_fill 108 = .ok (.getfield 51, 3) := de180 hX10_fill_87 21 rfl rfl rfl
theorem dX10_fill_111 : decode cX10_fill 111 = .ok (.getfield 217, 3) := de180 hX10_fill_87 24 rfl rfl rfl
theorem hX10_fill_114 : bHas cX10_fill 114 [96, 5, 108, 167, 0, 22, 42, 180, 0, 51, 180, 0, 217, 42, 180, 0, 51, 180, 0, 214, 100, 5] := bH_c (n := 22) (by decide +kernel)
theorem dX10_fill_114 : decode cX10_fill 114 = .ok (.iadd, 1) := de96 hX10_fill_114 0 rfl rfl
theorem dX10_fill_115 : decode cX10_fill 115 = .ok (.iconst 2, 1) := de5 hX10_fill_114 1 rfl rfl
theorem dX10_fill_116 : decode cX10_fill 116 = .ok (.idiv, 1) := de108 hX10_fill_114 2 rfl rfl
theorem dX10_fill_117 : decode cX10_fill 117 = .ok (.goto 22, 3) := de167 hX10_fill_114 3 rfl rfl (by decide +kernel)
theorem dX10_fill_120 : decode cX10_fill 120 = .ok (.aload_n 0, 1) := de42 hX10_fill_114 6 rfl rfl
theorem dX10_fill_121 : decode cX10_fill 121 = .ok (.getfield 51, 3) := de180 hX10_fill_114 7 rfl rfl rfl
theorem dX10_fill_124 : decode cX10_fill 124 = .ok (.getfield 217, 3) := de180 hX10_fill_114 10 rfl rfl rfl
theorem dX10_fill_127 : decode cX10_fill 127 = .ok (.aload_n 0, 1) := de42 hX10_fill_114 13 rfl rfl
theorem dX10_fill_128 : decode cX10_fill 128 = .ok (.getfield 51, 3) := de180 hX10_fill_114 14 rfl rfl rfl
theorem dX10_fill_131 : decode cX10_fill 131 = .ok (.getfield 214, 3) := de180 hX10_fill_114 17 rfl rfl rfl
theorem dX10_fill_134 : decode cX10_fill 134 = .ok (.isub, 1) := de100 hX10_fill_114 20 rfl rfl
theorem dX10_fill_135 : decode cX10_fill 135 = .ok (.iconst 2, 1) := de5 hX10_fill_114 21 rfl rfl
theorem hX10_fill_136 : bHas cX10_fill 136 [108, 4, 96, 172] := bH_c (n := 4) (by decide +kernel)
theorem dX10_fill_136 : decode cX10_fill 136 = .ok (.idiv, 1) := de108 hX10_fill_136 0 rfl rfl
theorem dX10_fill_137 : decode cX10_fill 137 = .ok (.iconst 1, 1) := de4 hX10_fill_136 1 rfl rfl
theorem dX10_fill_138 : decode cX10_fill 138 = .ok (.iadd, 1) := de96 hX10_fill_136 2 rfl rfl
theorem dX10_fill_139 : decode cX10_fill 139 = .ok (.ireturn, 1) := de172 hX10_fill_136 3 rfl rfl
theorem hX10_place_0 : bHas cX10_place 0 [27, 28, 29, 21, 4, 184, 0, 220, 154, 0, 6, 16, 254, 172, 42, 180, 0, 51, 27, 28] := bH_c (n := 20) (by decide +kernel)
theorem dX10_place_0 : decode cX10_place 0 = .ok (.iload_n 1, 1) := de27 hX10_place_0 0 rfl rfl
theorem dX10_place_1 : decode cX10_place 1 = .ok (.iload_n 2, 1) := de28 hX10_place_0 1 rfl rfl
theorem dX10_place_2 : decode cX10_place 2 = .ok (.iload_n 3, 1) := de29 hX10_place_0 2 rfl rfl
theorem dX10_place_3 : decode cX10_place 3 = .ok (.iload 4, 2) := de21 hX10_place_0 3 rfl rfl rfl
theorem dX10_place_5 : decode cX10_place 5 = .ok (.invokestatic 220, 3) := de184 hX10_place_0 5 rfl rfl rfl
theorem dX10_place_8 : decode cX10_place 8 = .ok (.ifCond .ne 6, 3) := de154 hX10_place_0 8 rfl rfl (by decide +kernel)
theorem dX10_place_11 : decode cX10_place 11 = .ok (.bipush (-2), 2) := de16 hX10_place_0 11 rfl rfl rfl
theorem dX10_place_13 : decode cX10_place 13 = .ok (.ireturn, 1) := de172 hX10_place_0 13 rfl rfl
theorem dX10_place_14 : decode cX10_place 14 = .ok (.aload_n 0, 1) := de42 hX10_place_0 14 rfl rfl
theorem dX10_place_15 : decode cX10_place 15 = .ok (.getfield 51, 3) := de180 hX10_place_0 15 rfl rfl rfl
theorem dX10_place_18 : decode cX10_place 18 = .ok (.iload_n 1, 1) := de27 hX10_place_0 18 rfl rfl
theorem dX10_place_19 : decode cX10_place 19 = .ok (.iload_n 2, 1) := de28 hX10_place_0 19 rfl rfl
theorem hX10_place_20 : bHas cX10_place 20 [29, 21, 4, 182, 0, 246, 42, 180, 0, 51, 182, 0, 250, 172] := bH_c (n := 14) (by decide +kernel)
theorem dX10_place_20 : decode cX10_place 20 = .ok (.iload_n 3, 1) := de29 hX10_place_20 0 rfl rfl
theorem dX10_place_21 : decode cX10_place 21 = .ok (.iload 4, 2) := de21 hX10_place_20 1 rfl rfl rfl
theorem dX10_place_23 : decode cX10_place 23 = .ok (.invokevirtual 246, 3) := de182 hX10_place_20 3 rfl rfl rfl
theorem dX10_place_26 : decode cX10_place 26 = .ok (.aload_n 0, 1) := de42 hX10_place_20 6 rfl rfl
theorem dX10_place_27 : decode cX10_place 27 = .ok (.getfield 51, 3) := de180 hX10_place_20 7 rfl rfl rfl
theorem dX10_place_30 : decode cX10_place 30 = .ok (.invokevirtual 250, 3) := de182 hX10_place_20 10 rfl rfl rfl
theorem dX10_place_33 : decode cX10_place 33 = .ok (.ireturn, 1) := de172 hX10_place_20 13 rfl rfl
theorem hX10_record_0 : bHas cX10_record 0 [27, 184, 0, 253, 153, 0, 12, 29, 3, 4, 184, 0, 97, 154, 0, 6, 16, 254, 172, 28, 184, 0, 105] := bH_c (n := 23) (by decide +kernel)
theorem dX10_record_0 : decode cX10_record 0 = .ok (.iload_n 1, 1) := de27 hX10_record_0 0 rfl rfl
theorem dX10_record_1 : decode cX10_record 1 = .ok (.invokestatic 253, 3) := de184 hX10_record_0 1 rfl rfl rfl
theorem dX10_record_4 : decode cX10_record 4 = .ok (.ifCond .eq 12, 3) := de153 hX10_record_0 4 rfl rfl (by decide +kernel)
theorem dX10_record_7 : decode cX10_record 7 = .ok (.iload_n 3, 1) := de29 hX10_record_0 7 rfl rfl
theorem dX10_record_8 : decode cX10_record 8 = .ok (.iconst 0, 1) := de3 hX10_record_0 8 rfl rfl
theorem dX10_record_9 : decode cX10_record 9 = .ok (.iconst 1, 1) := de4 hX10_record_0 9 rfl rfl
theorem dX10_record_10 : decode cX10_record 10 = .ok (.invokestatic 97, 3) := de184 hX10_record_0 10 rfl rfl rfl
theorem dX10_record_13 : decode cX10_record 13 = .ok (.ifCond .ne 6, 3) := de154 hX10_record_0 13 rfl rfl (by decide +kernel)
theorem dX10_record_16 : decode cX10_record 16 = .ok (.bipush (-2), 2) := de16 hX10_record_0 16 rfl rfl rfl
theorem dX10_record_18 : decode cX10_record 18 = .ok (.ireturn, 1) := de172 hX10_record_0 18 rfl rfl
theorem dX10_record_19 : decode cX10_record 19 = .ok (.iload_n 2, 1) := de28 hX10_record_0 19 rfl rfl
theorem dX10_record_20 : decode cX10_record 20 = .ok (.invokestatic 105, 3) := de184 hX10_record_0 20 rfl rfl rfl
theorem hX10_record_23 : bHas cX10_record 23 [154, 0, 5, 2, 172, 42, 180, 0, 28, 182, 0, 154, 42, 180, 0, 58, 27, 182, 1, 0, 42, 180, 0, 58] := bH_c (n := 24) (by decide +kernel)
theorem dX10_record_23 : decode cX10_record 23 = .ok (.ifCond .ne 5, 3) := de154 hX10_record_23 0 rfl rfl (by decide +kernel)
theorem dX10_record_26 : decode cX10_record 26 = .ok (.iconst (-1), 1) := de2 hX10_record_23 3 rfl rfl
theorem dX10_record_27 : decode cX10_record 27 = .ok (.ireturn, 1) := de172 hX10_record_23 4 rfl rfl
theorem dX10_record_28 : decode cX10_record 28 = .ok (.aload_n 0, 1) := de42 hX10_record_23 5 rfl rfl
theorem dX10_record_29 : decode cX10_record 29 = .ok (.getfield 28, 3) := de180 hX10_record_23 6 rfl rfl rfl
theorem dX10_record_32 : decode cX10_record 32 = .ok (.invokevirtual 154, 3) := de182 hX10_record_23 9 rfl rfl rfl
theorem dX10_record_35 : decode cX10_record 35 = .ok (.aload_n 0, 1) := de42 hX10_record_23 12 rfl rfl
theorem dX10_record_36 : decode cX10_record 36 = .ok (.getfield 58, 3) := de180 hX10_record_23 13 rfl rfl rfl
theorem dX10_record_39 : decode cX10_record 39 = .ok (.iload_n 1, 1) := de27 hX10_record_23 16 rfl rfl
theorem dX10_record_40 : decode cX10_record 40 = .ok (.invokevirtual 256, 3) := de182 hX10_record_23 17 rfl rfl rfl
theorem dX10_record_43 : decode cX10_record 43 = .ok (.aload_n 0, 1) := de42 hX10_record_23 20 rfl rfl
theorem dX10_record_44 : decode cX10_record 44 = .ok (.getfield 58, 3) := de180 hX10_record_23 21 rfl rfl rfl
theorem hX10_record_47 : bHas cX10_record 47 [28, 182, 1, 1, 54, 4, 21, 4, 2, 160, 0, 6, 16, 250, 172, 29, 154, 0, 21, 42, 180, 0, 28] := bH_c (n := 23) (by decide +kernel)
theorem dX10_record_47 : decode cX10_record 47 = .ok (.iload_n 2, 1) := de28 hX10_record_47 0 rfl rfl
theorem dX10_record_48 : decode cX10_record 48 = .ok (.invokevirtual 257, 3) := de182 hX10_record_47 1 rfl rfl rfl
theorem dX10_record_51 : decode cX10_record 51 = .ok (.istore 4, 2) := de54 hX10_record_47 4 rfl rfl rfl
theorem dX10_record_53 : decode cX10_record 53 = .ok (.iload 4, 2) := de21 hX10_record_47 6 rfl rfl rfl
theorem dX10_record_55 : decode cX10_record 55 = .ok (.iconst (-1), 1) := de2 hX10_record_47 8 rfl rfl
theorem dX10_record_56 : decode cX10_record 56 = .ok (.if_icmp .ne 6, 3) := de160 hX10_record_47 9 rfl rfl (by decide +kernel)
theorem dX10_record_59 : decode cX10_record 59 = .ok (.bipush (-6), 2) := de16 hX10_record_47 12 rfl rfl rfl
theorem dX10_record_61 : decode cX10_record 61 = .ok (.ireturn, 1) := de172 hX10_record_47 14 rfl rfl
theorem dX10_record_62 : decode cX10_record 62 = .ok (.iload_n 3, 1) := de29 hX10_record_47 15 rfl rfl
theorem dX10_record_63 : decode cX10_record 63 = .ok (.ifCond .ne 21, 3) := de154 hX10_record_47 16 rfl rfl (by decide +kernel)
theorem dX10_record_66 : decode cX10_record 66 = .ok (.aload_n 0, 1) := de42 hX10_record_47 19 rfl rfl
theorem dX10_record_67 : decode cX10_record 67 = .ok (.getfield 28, 3) := de180 hX10_record_47 20 rfl rfl rfl
theorem hX10_record_70 : bHas cX10_record 70 [180, 0, 237, 21, 4, 16, 28, 104, 28, 96, 46, 167, 0, 5, 21, 4, 172] := bH_c (n := 17) (by decide +kernel)
theorem dX10_record_70 : decode cX10_record 70 = .ok (.getfield 237, 3) := de180 hX10_record_70 0 rfl rfl rfl
theorem dX10_record_73 : decode cX10_record 73 = .ok (.iload 4, 2) := de21 hX10_record_70 3 rfl rfl rfl
theorem dX10_record_75 : decode cX10_record 75 = .ok (.bipush 28, 2) := de16 hX10_record_70 5 rfl rfl rfl
theorem dX10_record_77 : decode cX10_record 77 = .ok (.imul, 1) := de104 hX10_record_70 7 rfl rfl
theorem dX10_record_78 : decode cX10_record 78 = .ok (.iload_n 2, 1) := de28 hX10_record_70 8 rfl rfl
theorem dX10_record_79 : decode cX10_record 79 = .ok (.iadd, 1) := de96 hX10_record_70 9 rfl rfl
theorem dX10_record_80 : decode cX10_record 80 = .ok (.iaload, 1) := de46 hX10_record_70 10 rfl rfl
theorem dX10_record_81 : decode cX10_record 81 = .ok (.goto 5, 3) := de167 hX10_record_70 11 rfl rfl (by decide +kernel)
theorem dX10_record_84 : decode cX10_record 84 = .ok (.iload 4, 2) := de21 hX10_record_70 14 rfl rfl rfl
theorem dX10_record_86 : decode cX10_record 86 = .ok (.ireturn, 1) := de172 hX10_record_70 16 rfl rfl
theorem hX10_seam_0 : bHas cX10_seam 0 [27, 184, 0, 253, 154, 0, 6, 16, 254, 172, 42, 180, 0, 28, 182, 0, 154, 42, 180, 0, 58, 27, 182, 1, 0] := bH_c (n := 25) (by decide +kernel)
theorem dX10_seam_0 : decode cX10_seam 0 = .ok (.iload_n 1, 1) := de27 hX10_seam_0 0 rfl rfl
theorem dX10_seam_1 : decode cX10_seam 1 = .ok (.invokestatic 253, 3) := de184 hX10_seam_0 1 rfl rfl rfl
theorem dX10_seam_4 : decode cX10_seam 4 = .ok (.ifCond .ne 6, 3) := de154 hX10_seam_0 4 rfl rfl (by decide +kernel)
theorem dX10_seam_7 : decode cX10_seam 7 = .ok (.bipush (-2), 2) := de16 hX10_seam_0 7 rfl rfl rfl
theorem dX10_seam_9 : decode cX10_seam 9 = .ok (.ireturn, 1) := de172 hX10_seam_0 9 rfl rfl
theorem dX10_seam_10 : decode cX10_seam 10 = .ok (.aload_n 0, 1) := de42 hX10_seam_0 10 rfl rfl
theorem dX10_seam_11 : decode cX10_seam 11 = .ok (.getfield 28, 3) := de180 hX10_seam_0 11 rfl rfl rfl
theorem dX10_seam_14 : decode cX10_seam 14 = .ok (.invokevirtual 154, 3) := de182 hX10_seam_0 14 rfl rfl rfl
theorem dX10_seam_17 : decode cX10_seam 17 = .ok (.aload_n 0, 1) := de42 hX10_seam_0 17 rfl rfl
theorem dX10_seam_18 : decode cX10_seam 18 = .ok (.getfield 58, 3) := de180 hX10_seam_0 18 rfl rfl rfl
theorem dX10_seam_21 : decode cX10_seam 21 = .ok (.iload_n 1, 1) := de27 hX10_seam_0 21 rfl rfl
theorem dX10_seam_22 : decode cX10_seam 22 = .ok (.invokevirtual 256, 3) := de182 hX10_seam_0 22 rfl rfl rfl
theorem hX10_seam_25 : bHas cX10_seam 25 [42, 180, 0, 58, 182, 1, 4, 28, 16, 254, 160, 0, 11, 42, 180, 0, 58, 180, 1, 7, 172, 28, 2] := bH_c (n := 23) (by decide +kernel)
theorem dX10_seam_25 : decode cX10_seam 25 = .ok (.aload_n 0, 1) := de42 hX10_seam_25 0 rfl rfl
theorem dX10_seam_26 : decode cX10_seam 26 = .ok (.getfield 58, 3) := de180 hX10_seam_25 1 rfl rfl rfl
theorem dX10_seam_29 : decode cX10_seam 29 = .ok (.invokevirtual 260, 3) := de182 hX10_seam_25 4 rfl rfl rfl
theorem dX10_seam_32 : decode cX10_seam 32 = .ok (.iload_n 2, 1) := de28 hX10_seam_25 7 rfl rfl
theorem dX10_seam_33 : decode cX10_seam 33 = .ok (.bipush (-2), 2) := de16 hX10_seam_25 8 rfl rfl rfl
theorem dX10_seam_35 : decode cX10_seam 35 = .ok (.if_icmp .ne 11, 3) := de160 hX10_seam_25 10 rfl rfl (by decide +kernel)
theorem dX10_seam_38 : decode cX10_seam 38 = .ok (.aload_n 0, 1) := de42 hX10_seam_25 13 rfl rfl
theorem dX10_seam_39 : decode cX10_seam 39 = .ok (.getfield 58, 3) := de180 hX10_seam_25 14 rfl rfl rfl
theorem dX10_seam_42 : decode cX10_seam 42 = .ok (.getfield 263, 3) := de180 hX10_seam_25 17 rfl rfl rfl
theorem dX10_seam_45 : decode cX10_seam 45 = .ok (.ireturn, 1) := de172 hX10_seam_25 20 rfl rfl
theorem dX10_seam_46 : decode cX10_seam 46 = .ok (.iload_n 2, 1) := de28 hX10_seam_25 21 rfl rfl
theorem dX10_seam_47 : decode cX10_seam 47 = .ok (.iconst (-1), 1) := de2 hX10_seam_25 22 rfl rfl
theorem hX10_seam_48 : bHas cX10_seam 48 [160, 0, 11, 42, 180, 0, 58, 180, 1, 9, 172, 28, 155, 0, 26, 28, 42, 180, 0, 58, 180, 1, 9, 162, 0, 15] := bH_c (n := 26) (by decide +kernel)
theorem dX10_seam_48 : decode cX10_seam 48 = .ok (.if_icmp .ne 11, 3) := de160 hX10_seam_48 0 rfl rfl (by decide +kernel)
theorem dX10_seam_51 : decode cX10_seam 51 = .ok (.aload_n 0, 1) := de42 hX10_seam_48 3 rfl rfl
theorem dX10_seam_52 : decode cX10_seam 52 = .ok (.getfield 58, 3) := de180 hX10_seam_48 4 rfl rfl rfl
theorem dX10_seam_55 : decode cX10_seam 55 = .ok (.getfield 265, 3) := de180 hX10_seam_48 7 rfl rfl rfl
theorem dX10_seam_58 : decode cX10_seam 58 = .ok (.ireturn, 1) := de172 hX10_seam_48 10 rfl rfl
theorem dX10_seam_59 : decode cX10_seam 59 = .ok (.iload_n 2, 1) := de28 hX10_seam_48 11 rfl rfl
theorem dX10_seam_60 : decode cX10_seam 60 = .ok (.ifCond .lt 26, 3) := de155 hX10_seam_48 12 rfl rfl (by decide +kernel)
theorem dX10_seam_63 : decode cX10_seam 63 = .ok (.iload_n 2, 1) := de28 hX10_seam_48 15 rfl rfl
theorem dX10_seam_64 : decode cX10_seam 64 = .ok (.aload_n 0, 1) := de42 hX10_seam_48 16 rfl rfl
theorem dX10_seam_65 : decode cX10_seam 65 = .ok (.getfield 58, 3) := de180 hX10_seam_48 17 rfl rfl rfl
theorem dX10_seam_68 : decode cX10_seam 68 = .ok (.getfield 265, 3) := de180 hX10_seam_48 20 rfl rfl rfl
theorem dX10_seam_71 : decode cX10_seam 71 = .ok (.if_icmp .ge 15, 3) := de162 hX10_seam_48 23 rfl rfl (by decide +kernel)
theorem hX10_seam_74 : bHas cX10_seam 74 [42, 180, 0, 58, 180, 1, 12, 28, 46, 167, 0, 5, 16, 250, 172] := bH_c (n := 15) (by decide +kernel)
theorem dX10_seam_74 : decode cX10_seam 74 = .ok (.aload_n 0, 1) := de42 hX10_seam_74 0 rfl rfl
theorem dX10_seam_75 : decode cX10_seam 75 = .ok (.getfield 58, 3) := de180 hX10_seam_74 1 rfl rfl rfl
theorem dX10_seam_78 : decode cX10_seam 78 = .ok (.getfield 268, 3) := de180 hX10_seam_74 4 rfl rfl rfl
theorem dX10_seam_81 : decode cX10_seam 81 = .ok (.iload_n 2, 1) := de28 hX10_seam_74 7 rfl rfl
theorem dX10_seam_82 : decode cX10_seam 82 = .ok (.iaload, 1) := de46 hX10_seam_74 8 rfl rfl
theorem dX10_seam_83 : decode cX10_seam 83 = .ok (.goto 5, 3) := de167 hX10_seam_74 9 rfl rfl (by decide +kernel)
theorem dX10_seam_86 : decode cX10_seam 86 = .ok (.bipush (-6), 2) := de16 hX10_seam_74 12 rfl rfl rfl
theorem dX10_seam_88 : decode cX10_seam 88 = .ok (.ireturn, 1) := de172 hX10_seam_74 14 rfl rfl
theorem hX10_claim_0 : bHas cX10_claim 0 [42, 27, 182, 0, 93, 153, 0, 10, 28, 184, 0, 105, 154, 0, 5, 2, 172, 42, 180, 0, 28, 182, 0, 154] := bH_c (n := 24) (by decide +kernel)
theorem dX10_claim_0 : decode cX10_claim 0 = .ok (.aload_n 0, 1) := de42 hX10_claim_0 0 rfl rfl
theorem dX10_claim_1 : decode cX10_claim 1 = .ok (.iload_n 1, 1) := de27 hX10_claim_0 1 rfl rfl
theorem dX10_claim_2 : decode cX10_claim 2 = .ok (.invokevirtual 93, 3) := de182 hX10_claim_0 2 rfl rfl rfl
theorem dX10_claim_5 : decode cX10_claim 5 = .ok (.ifCond .eq 10, 3) := de153 hX10_claim_0 5 rfl rfl (by decide +kernel)
theorem dX10_claim_8 : decode cX10_claim 8 = .ok (.iload_n 2, 1) := de28 hX10_claim_0 8 rfl rfl
theorem dX10_claim_9 : decode cX10_claim 9 = .ok (.invokestatic 105, 3) := de184 hX10_claim_0 9 rfl rfl rfl
theorem dX10_claim_12 : decode cX10_claim 12 = .ok (.ifCond .ne 5, 3) := de154 hX10_claim_0 12 rfl rfl (by decide +kernel)
theorem dX10_claim_15 : decode cX10_claim 15 = .ok (.iconst (-1), 1) := de2 hX10_claim_0 15 rfl rfl
theorem dX10_claim_16 : decode cX10_claim 16 = .ok (.ireturn, 1) := de172 hX10_claim_0 16 rfl rfl
theorem dX10_claim_17 : decode cX10_claim 17 = .ok (.aload_n 0, 1) := de42 hX10_claim_0 17 rfl rfl
theorem dX10_claim_18 : decode cX10_claim 18 = .ok (.getfield 28, 3) := de180 hX10_claim_0 18 rfl rfl rfl
theorem dX10_claim_21 : decode cX10_claim 21 = .ok (.invokevirtual 154, 3) := de182 hX10_claim_0 21 rfl rfl rfl
theorem hX10_claim_24 : bHas cX10_claim 24 [27, 16, 28, 104, 28, 96, 62, 42, 180, 0, 28, 180, 0, 237, 29, 46, 2] := bH_c (n := 17) (by decide +kernel)
theorem dX10_claim_24 : decode cX10_claim 24 = .ok (.iload_n 1, 1) := de27 hX10_claim_24 0 rfl rfl
theorem dX10_claim_25 : decode cX10_claim 25 = .ok (.bipush 28, 2) := de16 hX10_claim_24 1 rfl rfl rfl
theorem dX10_claim_27 : decode cX10_claim 27 = .ok (.imul, 1) := de104 hX10_claim_24 3 rfl rfl
theorem dX10_claim_28 : decode cX10_claim 28 = .ok (.iload_n 2, 1) := de28 hX10_claim_24 4 rfl rfl
theorem dX10_claim_29 : decode cX10_claim 29 = .ok (.iadd, 1) := de96 hX10_claim_24 5 rfl rfl
theorem dX10_claim_30 : decode cX10_claim 30 = .ok (.istore_n 3, 1) := de62 hX10_claim_24 6 rfl rfl
theorem dX10_claim_31 : decode cX10_claim 31 = .ok (.aload_n 0, 1) := de42 hX10_claim_24 7 rfl rfl
theorem dX10_claim_32 : decode cX10_claim 32 = .ok (.getfield 28, 3) := de180 hX10_claim_24 8 rfl rfl rfl
theorem dX10_claim_35 : decode cX10_claim 35 = .ok (.getfield 237, 3) := de180 hX10_claim_24 11 rfl rfl rfl
theorem dX10_claim_38 : decode cX10_claim 38 = .ok (.iload_n 3, 1) := de29 hX10_claim_24 14 rfl rfl
theorem dX10_claim_39 : decode cX10_claim 39 = .ok (.iaload, 1) := de46 hX10_claim_24 15 rfl rfl
theorem dX10_claim_40 : decode cX10_claim 40 = .ok (.iconst (-1), 1) := de2 hX10_claim_24 16 rfl rfl
theorem hX10_claim_41 : bHas cX10_claim 41 [160, 0, 6, 16, 253, 172, 42, 180, 0, 58, 29, 182, 1, 15, 172] := bH_c (n := 15) (by decide +kernel)
theorem dX10_claim_41 : decode cX10_claim 41 = .ok (.if_icmp .ne 6, 3) := de160 hX10_claim_41 0 rfl rfl (by decide +kernel)
theorem dX10_claim_44 : decode cX10_claim 44 = .ok (.bipush (-3), 2) := de16 hX10_claim_41 3 rfl rfl rfl
theorem dX10_claim_46 : decode cX10_claim 46 = .ok (.ireturn, 1) := de172 hX10_claim_41 5 rfl rfl
theorem dX10_claim_47 : decode cX10_claim 47 = .ok (.aload_n 0, 1) := de42 hX10_claim_41 6 rfl rfl
theorem dX10_claim_48 : decode cX10_claim 48 = .ok (.getfield 58, 3) := de180 hX10_claim_41 7 rfl rfl rfl
theorem dX10_claim_51 : decode cX10_claim 51 = .ok (.iload_n 3, 1) := de29 hX10_claim_41 10 rfl rfl
theorem dX10_claim_52 : decode cX10_claim 52 = .ok (.invokevirtual 271, 3) := de182 hX10_claim_41 11 rfl rfl rfl
theorem dX10_claim_55 : decode cX10_claim 55 = .ok (.ireturn, 1) := de172 hX10_claim_41 14 rfl rfl
theorem hX10_fives_0 : bHas cX10_fives 0 [42, 27, 182, 0, 93, 154, 0, 5, 2, 172, 28, 3, 4, 184, 0, 97, 154, 0, 6, 16, 254] := bH_c (n := 21) (by decide +kernel)
theorem dX10_fives_0 : decode cX10_fives 0 = .ok (.aload_n 0, 1) := de42 hX10_fives_0 0 rfl rfl
theorem dX10_fives_1 : decode cX10_fives 1 = .ok (.iload_n 1, 1) := de27 hX10_fives_0 1 rfl rfl
theorem dX10_fives_2 : decode cX10_fives 2 = .ok (.invokevirtual 93, 3) := de182 hX10_fives_0 2 rfl rfl rfl
theorem dX10_fives_5 : decode cX10_fives 5 = .ok (.ifCond .ne 5, 3) := de154 hX10_fives_0 5 rfl rfl (by decide +kernel)
theorem dX10_fives_8 : decode cX10_fives 8 = .ok (.iconst (-1), 1) := de2 hX10_fives_0 8 rfl rfl
theorem dX10_fives_9 : decode cX10_fives 9 = .ok (.ireturn, 1) := de172 hX10_fives_0 9 rfl rfl
theorem dX10_fives_10 : decode cX10_fives 10 = .ok (.iload_n 2, 1) := de28 hX10_fives_0 10 rfl rfl
theorem dX10_fives_11 : decode cX10_fives 11 = .ok (.iconst 0, 1) := de3 hX10_fives_0 11 rfl rfl
theorem dX10_fives_12 : decode cX10_fives 12 = .ok (.iconst 1, 1) := de4 hX10_fives_0 12 rfl rfl
theorem dX10_fives_13 : decode cX10_fives 13 = .ok (.invokestatic 97, 3) := de184 hX10_fives_0 13 rfl rfl rfl
theorem dX10_fives_16 : decode cX10_fives 16 = .ok (.ifCond .ne 6, 3) := de154 hX10_fives_0 16 rfl rfl (by decide +kernel)
theorem dX10_fives_19 : decode cX10_fives 19 = .ok (.bipush (-2), 2) := de16 hX10_fives_0 19 rfl rfl rfl
theorem hX10_fives_21 : bHas cX10_fives 21 [172, 42, 180, 0, 65, 27, 182, 1, 18, 28, 154, 0, 13, 42, 180, 0, 65, 180, 1, 21, 167, 0, 10, 42] := bH_c (n := 24) (by decide +kernel)
theorem dX10_fives_21 : decode cX10_fives 21 = .ok (.ireturn, 1) := de172 hX10_fives_21 0 rfl rfl
theorem dX10_fives_22 : decode cX10_fives 22 = .ok (.aload_n 0, 1) := de42 hX10_fives_21 1 rfl rfl
theorem dX10_fives_23 : decode cX10_fives 23 = .ok (.getfield 65, 3) := de180 hX10_fives_21 2 rfl rfl rfl
theorem dX10_fives_26 : decode cX10_fives 26 = .ok (.iload_n 1, 1) := de27 hX10_fives_21 5 rfl rfl
theorem dX10_fives_27 : decode cX10_fives 27 = .ok (.invokevirtual 274, 3) := de182 hX10_fives_21 6 rfl rfl rfl
theorem dX10_fives_30 : decode cX10_fives 30 = .ok (.iload_n 2, 1) := de28 hX10_fives_21 9 rfl rfl
theorem dX10_fives_31 : decode cX10_fives 31 = .ok (.ifCond .ne 13, 3) := de154 hX10_fives_21 10 rfl rfl (by decide +kernel)
theorem dX10_fives_34 : decode cX10_fives 34 = .ok (.aload_n 0, 1) := de42 hX10_fives_21 13 rfl rfl
theorem dX10_fives_35 : decode cX10_fives 35 = .ok (.getfield 65, 3) := de180 hX10_fives_21 14 rfl rfl rfl
theorem dX10_fives_38 : decode cX10_fives 38 = .ok (.getfield 277, 3) := de180 hX10_fives_21 17 rfl rfl rfl
theorem dX10_fives_41 : decode cX10_fives 41 = .ok (.goto 10, 3) := de167 hX10_fives_21 20 rfl rfl (by decide +kernel)
theorem dX10_fives_44 : decode cX10_fives 44 = .ok (.aload_n 0, 1) := de42 hX10_fives_21 23 rfl rfl
theorem hX10_fives_45 : bHas cX10_fives 45 [180, 0, 65, 180, 1, 24, 172] := bH_c (n := 7) (by decide +kernel)
theorem dX10_fives_45 : decode cX10_fives 45 = .ok (.getfield 65, 3) := de180 hX10_fives_45 0 rfl rfl rfl
theorem dX10_fives_48 : decode cX10_fives 48 = .ok (.getfield 280, 3) := de180 hX10_fives_45 3 rfl rfl rfl
theorem dX10_fives_51 : decode cX10_fives 51 = .ok (.ireturn, 1) := de172 hX10_fives_45 6 rfl rfl
theorem hX10_odds_0 : bHas cX10_odds 0 [42, 27, 182, 0, 93, 154, 0, 7, 20, 1, 27, 173, 28, 3, 4, 184, 0, 97, 154, 0, 7, 20, 1, 29] := bH_c (n := 24) (by decide +kernel)
theorem dX10_odds_0 : decode cX10_odds 0 = .ok (.aload_n 0, 1) := de42 hX10_odds_0 0 rfl rfl
theorem dX10_odds_1 : decode cX10_odds 1 = .ok (.iload_n 1, 1) := de27 hX10_odds_0 1 rfl rfl
theorem dX10_odds_2 : decode cX10_odds 2 = .ok (.invokevirtual 93, 3) := de182 hX10_odds_0 2 rfl rfl rfl
theorem dX10_odds_5 : decode cX10_odds 5 = .ok (.ifCond .ne 7, 3) := de154 hX10_odds_0 5 rfl rfl (by decide +kernel)
theorem dX10_odds_8 : decode cX10_odds 8 = .ok (.ldc2_w 283, 3) := de20 hX10_odds_0 8 rfl rfl rfl
theorem dX10_odds_11 : decode cX10_odds 11 = .ok (.lreturn, 1) := de173 hX10_odds_0 11 rfl rfl
theorem dX10_odds_12 : decode cX10_odds 12 = .ok (.iload_n 2, 1) := de28 hX10_odds_0 12 rfl rfl
theorem dX10_odds_13 : decode cX10_odds 13 = .ok (.iconst 0, 1) := de3 hX10_odds_0 13 rfl rfl
theorem dX10_odds_14 : decode cX10_odds 14 = .ok (.iconst 1, 1) := de4 hX10_odds_0 14 rfl rfl
theorem dX10_odds_15 : decode cX10_odds 15 = .ok (.invokestatic 97, 3) := de184 hX10_odds_0 15 rfl rfl rfl
theorem dX10_odds_18 : decode cX10_odds 18 = .ok (.ifCond .ne 7, 3) := de154 hX10_odds_0 18 rfl rfl (by decide +kernel)
theorem dX10_odds_21 : decode cX10_odds 21 = .ok (.ldc2_w 285, 3) := de20 hX10_odds_0 21 rfl rfl rfl
theorem hX10_odds_24 : bHas cX10_odds 24 [173, 42, 180, 0, 65, 27, 182, 1, 18, 42, 180, 0, 65, 182, 1, 31, 28, 154, 0, 13, 42, 180, 0, 65] := bH_c (n := 24) (by decide +kernel)
theorem dX10_odds_24 : decode cX10_odds 24 = .ok (.lreturn, 1) := de173 hX10_odds_24 0 rfl rfl
theorem dX10_odds_25 : decode cX10_odds 25 = .ok (.aload_n 0, 1) := de42 hX10_odds_24 1 rfl rfl
theorem dX10_odds_26 : decode cX10_odds 26 = .ok (.getfield 65, 3) := de180 hX10_odds_24 2 rfl rfl rfl
theorem dX10_odds_29 : decode cX10_odds 29 = .ok (.iload_n 1, 1) := de27 hX10_odds_24 5 rfl rfl
theorem dX10_odds_30 : decode cX10_odds 30 = .ok (.invokevirtual 274, 3) := de182 hX10_odds_24 6 rfl rfl rfl
theorem dX10_odds_33 : decode cX10_odds 33 = .ok (.aload_n 0, 1) := de42 hX10_odds_24 9 rfl rfl
theorem dX10_odds_34 : decode cX10_odds 34 = .ok (.getfield 65, 3) := de180 hX10_odds_24 10 rfl rfl rfl
theorem dX10_odds_37 : decode cX10_odds 37 = .ok (.invokevirtual 287, 3) := de182 hX10_odds_24 13 rfl rfl rfl
theorem dX10_odds_40 : decode cX10_odds 40 = .ok (.iload_n 2, 1) := de28 hX10_odds_24 16 rfl rfl
theorem dX10_odds_41 : decode cX10_odds 41 = .ok (.ifCond .ne 13, 3) := de154 hX10_odds_24 17 rfl rfl (by decide +kernel)
theorem dX10_odds_44 : decode cX10_odds 44 = .ok (.aload_n 0, 1) := de42 hX10_odds_24 20 rfl rfl
theorem dX10_odds_45 : decode cX10_odds 45 = .ok (.getfield 65, 3) := de180 hX10_odds_24 21 rfl rfl rfl
theorem hX10_odds_48 : bHas cX10_odds 48 [180, 1, 34, 167, 0, 10, 42, 180, 0, 65, 180, 1, 38, 173] := bH_c (n := 14) (by decide +kernel)
theorem dX10_odds_48 : decode cX10_odds 48 = .ok (.getfield 290, 3) := de180 hX10_odds_48 0 rfl rfl rfl
theorem dX10_odds_51 : decode cX10_odds 51 = .ok (.goto 10, 3) := de167 hX10_odds_48 3 rfl rfl (by decide +kernel)
theorem dX10_odds_54 : decode cX10_odds 54 = .ok (.aload_n 0, 1) := de42 hX10_odds_48 6 rfl rfl
theorem dX10_odds_55 : decode cX10_odds 55 = .ok (.getfield 65, 3) := de180 hX10_odds_48 7 rfl rfl rfl
theorem dX10_odds_58 : decode cX10_odds 58 = .ok (.getfield 294, 3) := de180 hX10_odds_48 10 rfl rfl rfl
theorem dX10_odds_61 : decode cX10_odds 61 = .ok (.lreturn, 1) := de173 hX10_odds_48 13 rfl rfl
theorem hX10_forgets_0 : bHas cX10_forgets 0 [42, 27, 182, 0, 93, 154, 0, 5, 2, 172, 28, 3, 4, 184, 0, 97, 154, 0, 6, 16, 254] := bH_c (n := 21) (by decide +kernel)
theorem dX10_forgets_0 : decode cX10_forgets 0 = .ok (.aload_n 0, 1) := de42 hX10_forgets_0 0 rfl rfl
theorem dX10_forgets_1 : decode cX10_forgets 1 = .ok (.iload_n 1, 1) := de27 hX10_forgets_0 1 rfl rfl
theorem dX10_forgets_2 : decode cX10_forgets 2 = .ok (.invokevirtual 93, 3) := de182 hX10_forgets_0 2 rfl rfl rfl
theorem dX10_forgets_5 : decode cX10_forgets 5 = .ok (.ifCond .ne 5, 3) := de154 hX10_forgets_0 5 rfl rfl (by decide +kernel)
theorem dX10_forgets_8 : decode cX10_forgets 8 = .ok (.iconst (-1), 1) := de2 hX10_forgets_0 8 rfl rfl
theorem dX10_forgets_9 : decode cX10_forgets 9 = .ok (.ireturn, 1) := de172 hX10_forgets_0 9 rfl rfl
theorem dX10_forgets_10 : decode cX10_forgets 10 = .ok (.iload_n 2, 1) := de28 hX10_forgets_0 10 rfl rfl
theorem dX10_forgets_11 : decode cX10_forgets 11 = .ok (.iconst 0, 1) := de3 hX10_forgets_0 11 rfl rfl
theorem dX10_forgets_12 : decode cX10_forgets 12 = .ok (.iconst 1, 1) := de4 hX10_forgets_0 12 rfl rfl
theorem dX10_forgets_13 : decode cX10_forgets 13 = .ok (.invokestatic 97, 3) := de184 hX10_forgets_0 13 rfl rfl rfl
theorem dX10_forgets_16 : decode cX10_forgets 16 = .ok (.ifCond .ne 6, 3) := de154 hX10_forgets_0 16 rfl rfl (by decide +kernel)
theorem dX10_forgets_19 : decode cX10_forgets 19 = .ok (.bipush (-2), 2) := de16 hX10_forgets_0 19 rfl rfl rfl
theorem hX10_forgets_21 : bHas cX10_forgets 21 [172, 42, 180, 0, 65, 27, 182, 1, 41, 28, 154, 0, 13, 42, 180, 0, 65, 180, 1, 44, 167, 0, 10, 42] := bH_c (n := 24) (by decide +kernel)
theorem dX10_forgets_21 : decode cX10_forgets 21 = .ok (.ireturn, 1) := de172 hX10_forgets_21 0 rfl rfl
theorem dX10_forgets_22 : decode cX10_forgets 22 = .ok (.aload_n 0, 1) := de42 hX10_forgets_21 1 rfl rfl
theorem dX10_forgets_23 : decode cX10_forgets 23 = .ok (.getfield 65, 3) := de180 hX10_forgets_21 2 rfl rfl rfl
theorem dX10_forgets_26 : decode cX10_forgets 26 = .ok (.iload_n 1, 1) := de27 hX10_forgets_21 5 rfl rfl
theorem dX10_forgets_27 : decode cX10_forgets 27 = .ok (.invokevirtual 297, 3) := de182 hX10_forgets_21 6 rfl rfl rfl
theorem dX10_forgets_30 : decode cX10_forgets 30 = .ok (.iload_n 2, 1) := de28 hX10_forgets_21 9 rfl rfl
theorem dX10_forgets_31 : decode cX10_forgets 31 = .ok (.ifCond .ne 13, 3) := de154 hX10_forgets_21 10 rfl rfl (by decide +kernel)
theorem dX10_forgets_34 : decode cX10_forgets 34 = .ok (.aload_n 0, 1) := de42 hX10_forgets_21 13 rfl rfl
theorem dX10_forgets_35 : decode cX10_forgets 35 = .ok (.getfield 65, 3) := de180 hX10_forgets_21 14 rfl rfl rfl
theorem dX10_forgets_38 : decode cX10_forgets 38 = .ok (.getfield 300, 3) := de180 hX10_forgets_21 17 rfl rfl rfl
theorem dX10_forgets_41 : decode cX10_forgets 41 = .ok (.goto 10, 3) := de167 hX10_forgets_21 20 rfl rfl (by decide +kernel)
theorem dX10_forgets_44 : decode cX10_forgets 44 = .ok (.aload_n 0, 1) := de42 hX10_forgets_21 23 rfl rfl
theorem hX10_forgets_45 : bHas cX10_forgets 45 [180, 0, 65, 180, 1, 47, 172] := bH_c (n := 7) (by decide +kernel)
theorem dX10_forgets_45 : decode cX10_forgets 45 = .ok (.getfield 65, 3) := de180 hX10_forgets_45 0 rfl rfl rfl
theorem dX10_forgets_48 : decode cX10_forgets 48 = .ok (.getfield 303, 3) := de180 hX10_forgets_45 3 rfl rfl rfl
theorem dX10_forgets_51 : decode cX10_forgets 51 = .ok (.ireturn, 1) := de172 hX10_forgets_45 6 rfl rfl
theorem hX10_image_0 : bHas cX10_image 0 [27, 3, 4, 184, 0, 97, 154, 0, 6, 16, 254, 172, 42, 180, 0, 69, 27, 50, 42] := bH_c (n := 19) (by decide +kernel)
theorem dX10_image_0 : decode cX10_image 0 = .ok (.iload_n 1, 1) := de27 hX10_image_0 0 rfl rfl
theorem dX10_image_1 : decode cX10_image 1 = .ok (.iconst 0, 1) := de3 hX10_image_0 1 rfl rfl
theorem dX10_image_2 : decode cX10_image 2 = .ok (.iconst 1, 1) := de4 hX10_image_0 2 rfl rfl
theorem dX10_image_3 : decode cX10_image 3 = .ok (.invokestatic 97, 3) := de184 hX10_image_0 3 rfl rfl rfl
theorem dX10_image_6 : decode cX10_image 6 = .ok (.ifCond .ne 6, 3) := de154 hX10_image_0 6 rfl rfl (by decide +kernel)
theorem dX10_image_9 : decode cX10_image 9 = .ok (.bipush (-2), 2) := de16 hX10_image_0 9 rfl rfl rfl
theorem dX10_image_11 : decode cX10_image 11 = .ok (.ireturn, 1) := de172 hX10_image_0 11 rfl rfl
theorem dX10_image_12 : decode cX10_image 12 = .ok (.aload_n 0, 1) := de42 hX10_image_0 12 rfl rfl
theorem dX10_image_13 : decode cX10_image 13 = .ok (.getfield 69, 3) := de180 hX10_image_0 13 rfl rfl rfl
theorem dX10_image_16 : decode cX10_image 16 = .ok (.iload_n 1, 1) := de27 hX10_image_0 16 rfl rfl
theorem dX10_image_17 : decode cX10_image 17 = .ok (.aaload, 1) := de50 hX10_image_0 17 rfl rfl
theorem dX10_image_18 : decode cX10_image 18 = .ok (.aload_n 0, 1) := de42 hX10_image_0 18 rfl rfl
theorem hX10_image_19 : bHas cX10_image 19 [180, 0, 10, 182, 1, 50, 42, 180, 0, 73, 27, 4, 84, 4, 172] := bH_c (n := 15) (by decide +kernel)
theorem dX10_image_19 : decode cX10_image 19 = .ok (.getfield 10, 3) := de180 hX10_image_19 0 rfl rfl rfl
theorem dX10_image_22 : decode cX10_image 22 = .ok (.invokevirtual 306, 3) := de182 hX10_image_19 3 rfl rfl rfl
theorem dX10_image_25 : decode cX10_image 25 = .ok (.aload_n 0, 1) := de42 hX10_image_19 6 rfl rfl
theorem dX10_image_26 : decode cX10_image 26 = .ok (.getfield 73, 3) := de180 hX10_image_19 7 rfl rfl rfl
theorem dX10_image_29 : decode cX10_image 29 = .ok (.iload_n 1, 1) := de27 hX10_image_19 10 rfl rfl
theorem dX10_image_30 : decode cX10_image 30 = .ok (.iconst 1, 1) := de4 hX10_image_19 11 rfl rfl
theorem dX10_image_31 : decode cX10_image 31 = .ok (.bastore, 1) := de84 hX10_image_19 12 rfl rfl
theorem dX10_image_32 : decode cX10_image 32 = .ok (.iconst 1, 1) := de4 hX10_image_19 13 rfl rfl
theorem dX10_image_33 : decode cX10_image 33 = .ok (.ireturn, 1) := de172 hX10_image_19 14 rfl rfl
theorem hX10_restore_0 : bHas cX10_restore 0 [27, 3, 4, 184, 0, 97, 154, 0, 6, 16, 254, 172, 42, 180, 0, 73, 27, 51, 154, 0, 6] := bH_c (n := 21) (by decide +kernel)
theorem dX10_restore_0 : decode cX10_restore 0 = .ok (.iload_n 1, 1) := de27 hX10_restore_0 0 rfl rfl
theorem dX10_restore_1 : decode cX10_restore 1 = .ok (.iconst 0, 1) := de3 hX10_restore_0 1 rfl rfl
theorem dX10_restore_2 : decode cX10_restore 2 = .ok (.iconst 1, 1) := de4 hX10_restore_0 2 rfl rfl
theorem dX10_restore_3 : decode cX10_restore 3 = .ok (.invokestatic 97, 3) := de184 hX10_restore_0 3 rfl rfl rfl
theorem dX10_restore_6 : decode cX10_restore 6 = .ok (.ifCond .ne 6, 3) := de154 hX10_restore_0 6 rfl rfl (by decide +kernel)
theorem dX10_restore_9 : decode cX10_restore 9 = .ok (.bipush (-2), 2) := de16 hX10_restore_0 9 rfl rfl rfl
theorem dX10_restore_11 : decode cX10_restore 11 = .ok (.ireturn, 1) := de172 hX10_restore_0 11 rfl rfl
theorem dX10_restore_12 : decode cX10_restore 12 = .ok (.aload_n 0, 1) := de42 hX10_restore_0 12 rfl rfl
theorem dX10_restore_13 : decode cX10_restore 13 = .ok (.getfield 73, 3) := de180 hX10_restore_0 13 rfl rfl rfl
theorem dX10_restore_16 : decode cX10_restore 16 = .ok (.iload_n 1, 1) := de27 hX10_restore_0 16 rfl rfl
theorem dX10_restore_17 : decode cX10_restore 17 = .ok (.baload, 1) := de51 hX10_restore_0 17 rfl rfl
theorem dX10_restore_18 : decode cX10_restore 18 = .ok (.ifCond .ne 6, 3) := de154 hX10_restore_0 18 rfl rfl (by decide +kernel)
theorem hX10_restore_21 : bHas cX10_restore 21 [16, 253, 172, 42, 180, 0, 10, 42, 180, 0, 69, 27, 50, 182, 1, 50, 42, 180, 0, 28, 4] := bH_c (n := 21) (by decide +kernel)
theorem dX10_restore_21 : decode cX10_restore 21 = .ok (.bipush (-3), 2) := de16 hX10_restore_21 0 rfl rfl rfl
theorem dX10_restore_23 : decode cX10_restore 23 = .ok (.ireturn, 1) := de172 hX10_restore_21 2 rfl rfl
theorem dX10_restore_24 : decode cX10_restore 24 = .ok (.aload_n 0, 1) := de42 hX10_restore_21 3 rfl rfl
theorem dX10_restore_25 : decode cX10_restore 25 = .ok (.getfield 10, 3) := de180 hX10_restore_21 4 rfl rfl rfl
theorem dX10_restore_28 : decode cX10_restore 28 = .ok (.aload_n 0, 1) := de42 hX10_restore_21 7 rfl rfl
theorem dX10_restore_29 : decode cX10_restore 29 = .ok (.getfield 69, 3) := de180 hX10_restore_21 8 rfl rfl rfl
theorem dX10_restore_32 : decode cX10_restore 32 = .ok (.iload_n 1, 1) := de27 hX10_restore_21 11 rfl rfl
theorem dX10_restore_33 : decode cX10_restore 33 = .ok (.aaload, 1) := de50 hX10_restore_21 12 rfl rfl
theorem dX10_restore_34 : decode cX10_restore 34 = .ok (.invokevirtual 306, 3) := de182 hX10_restore_21 13 rfl rfl rfl
theorem dX10_restore_37 : decode cX10_restore 37 = .ok (.aload_n 0, 1) := de42 hX10_restore_21 16 rfl rfl
theorem dX10_restore_38 : decode cX10_restore 38 = .ok (.getfield 28, 3) := de180 hX10_restore_21 17 rfl rfl rfl
theorem dX10_restore_41 : decode cX10_restore 41 = .ok (.iconst 1, 1) := de4 hX10_restore_21 20 rfl rfl
theorem hX10_restore_42 : bHas cX10_restore 42 [181, 0, 85, 4, 172] := bH_c (n := 5) (by decide +kernel)
theorem dX10_restore_42 : decode cX10_restore 42 = .ok (.putfield 85, 3) := de181 hX10_restore_42 0 rfl rfl rfl
theorem dX10_restore_45 : decode cX10_restore 45 = .ok (.iconst 1, 1) := de4 hX10_restore_42 3 rfl rfl
theorem dX10_restore_46 : decode cX10_restore 46 = .ok (.ireturn, 1) := de172 hX10_restore_42 4 rfl rfl
theorem hX10_told_0 : bHas cX10_told 0 [27, 7, 16, 7, 184, 0, 97, 153, 0, 15, 42, 180, 0, 10, 180, 0, 166, 27, 7, 100, 46] := bH_c (n := 21) (by decide +kernel)
theorem dX10_told_0 : decode cX10_told 0 = .ok (.iload_n 1, 1) := de27 hX10_told_0 0 rfl rfl
theorem dX10_told_1 : decode cX10_told 1 = .ok (.iconst 4, 1) := de7 hX10_told_0 1 rfl rfl
theorem dX10_told_2 : decode cX10_told 2 = .ok (.bipush 7, 2) := de16 hX10_told_0 2 rfl rfl rfl
theorem dX10_told_4 : decode cX10_told 4 = .ok (.invokestatic 97, 3) := de184 hX10_told_0 4 rfl rfl rfl
theorem dX10_told_7 : decode cX10_told 7 = .ok (.ifCond .eq 15, 3) := de153 hX10_told_0 7 rfl rfl (by decide +kernel)
theorem dX10_told_10 : decode cX10_told 10 = .ok (.aload_n 0, 1) := de42 hX10_told_0 10 rfl rfl
theorem dX10_told_11 : decode cX10_told 11 = .ok (.getfield 10, 3) := de180 hX10_told_0 11 rfl rfl rfl
theorem dX10_told_14 : decode cX10_told 14 = .ok (.getfield 166, 3) := de180 hX10_told_0 14 rfl rfl rfl
theorem dX10_told_17 : decode cX10_told 17 = .ok (.iload_n 1, 1) := de27 hX10_told_0 17 rfl rfl
theorem dX10_told_18 : decode cX10_told 18 = .ok (.iconst 4, 1) := de7 hX10_told_0 18 rfl rfl
theorem dX10_told_19 : decode cX10_told 19 = .ok (.isub, 1) := de100 hX10_told_0 19 rfl rfl
theorem dX10_told_20 : decode cX10_told 20 = .ok (.iaload, 1) := de46 hX10_told_0 20 rfl rfl
theorem hX10_told_21 : bHas cX10_told 21 [172, 27, 16, 10, 16, 37, 184, 0, 97, 153, 0, 16, 42, 180, 0, 10, 180, 0, 108, 27, 16, 10, 100] := bH_c (n := 23) (by decide +kernel)
theorem dX10_told_21 : decode cX10_told 21 = .ok (.ireturn, 1) := de172 hX10_told_21 0 rfl rfl
theorem dX10_told_22 : decode cX10_told 22 = .ok (.iload_n 1, 1) := de27 hX10_told_21 1 rfl rfl
theorem dX10_told_23 : decode cX10_told 23 = .ok (.bipush 10, 2) := de16 hX10_told_21 2 rfl rfl rfl
theorem dX10_told_25 : decode cX10_told 25 = .ok (.bipush 37, 2) := de16 hX10_told_21 4 rfl rfl rfl
theorem dX10_told_27 : decode cX10_told 27 = .ok (.invokestatic 97, 3) := de184 hX10_told_21 6 rfl rfl rfl
theorem dX10_told_30 : decode cX10_told 30 = .ok (.ifCond .eq 16, 3) := de153 hX10_told_21 9 rfl rfl (by decide +kernel)
theorem dX10_told_33 : decode cX10_told 33 = .ok (.aload_n 0, 1) := de42 hX10_told_21 12 rfl rfl
theorem dX10_told_34 : decode cX10_told 34 = .ok (.getfield 10, 3) := de180 hX10_told_21 13 rfl rfl rfl
theorem dX10_told_37 : decode cX10_told 37 = .ok (.getfield 108, 3) := de180 hX10_told_21 16 rfl rfl rfl
theorem dX10_told_40 : decode cX10_told 40 = .ok (.iload_n 1, 1) := de27 hX10_told_21 19 rfl rfl
theorem dX10_told_41 : decode cX10_told 41 = .ok (.bipush 10, 2) := de16 hX10_told_21 20 rfl rfl rfl
theorem dX10_told_43 : decode cX10_told 43 = .ok (.isub, 1) := de100 hX10_told_21 22 rfl rfl
theorem hX10_told_44 : bHas cX10_told 44 [46, 172, 27] := bH_c (n := 3) (by decide +kernel)
theorem dX10_told_44 : decode cX10_told 44 = .ok (.iaload, 1) := de46 hX10_told_44 0 rfl rfl
theorem dX10_told_45 : decode cX10_told 45 = .ok (.ireturn, 1) := de172 hX10_told_44 1 rfl rfl
theorem dX10_told_46 : decode cX10_told 46 = .ok (.iload_n 1, 1) := de27 hX10_told_44 2 rfl rfl
theorem dX10_told_47 : decode cX10_told 47 = .ok (.tableswitch 67 0 3 #[29, 37, 48, 56], 29) := by decide +kernel
theorem hX10_told_76 : bHas cX10_told 76 [42, 180, 0, 10, 180, 0, 81, 172, 42, 180, 0, 10, 180, 0, 118, 180, 0, 122, 172, 42, 180, 0, 19, 180, 0, 134] := bH_c (n := 26) (by decide +kernel)
theorem dX10_told_76 : decode cX10_told 76 = .ok (.aload_n 0, 1) := de42 hX10_told_76 0 rfl rfl
theorem dX10_told_77 : decode cX10_told 77 = .ok (.getfield 10, 3) := de180 hX10_told_76 1 rfl rfl rfl
theorem dX10_told_80 : decode cX10_told 80 = .ok (.getfield 81, 3) := de180 hX10_told_76 4 rfl rfl rfl
theorem dX10_told_83 : decode cX10_told 83 = .ok (.ireturn, 1) := de172 hX10_told_76 7 rfl rfl
theorem dX10_told_84 : decode cX10_told 84 = .ok (.aload_n 0, 1) := de42 hX10_told_76 8 rfl rfl
theorem dX10_told_85 : decode cX10_told 85 = .ok (.getfield 10, 3) := de180 hX10_told_76 9 rfl rfl rfl
theorem dX10_told_88 : decode cX10_told 88 = .ok (.getfield 118, 3) := de180 hX10_told_76 12 rfl rfl rfl
theorem dX10_told_91 : decode cX10_told 91 = .ok (.getfield 122, 3) := de180 hX10_told_76 15 rfl rfl rfl
theorem dX10_told_94 : decode cX10_told 94 = .ok (.ireturn, 1) := de172 hX10_told_76 18 rfl rfl
theorem dX10_told_95 : decode cX10_told 95 = .ok (.aload_n 0, 1) := de42 hX10_told_76 19 rfl rfl
theorem dX10_told_96 : decode cX10_told 96 = .ok (.getfield 19, 3) := de180 hX10_told_76 20 rfl rfl rfl
theorem dX10_told_99 : decode cX10_told 99 = .ok (.getfield 134, 3) := de180 hX10_told_76 23 rfl rfl rfl
theorem hX10_told_102 : bHas cX10_told 102 [172, 42, 180, 0, 10, 180, 0, 198, 180, 0, 202, 172, 16, 254, 172] := bH_c (n := 15) (by decide +kernel)
theorem dX10_told_102 : decode cX10_told 102 = .ok (.ireturn, 1) := de172 hX10_told_102 0 rfl rfl
theorem dX10_told_103 : decode cX10_told 103 = .ok (.aload_n 0, 1) := de42 hX10_told_102 1 rfl rfl
theorem dX10_told_104 : decode cX10_told 104 = .ok (.getfield 10, 3) := de180 hX10_told_102 2 rfl rfl rfl
theorem dX10_told_107 : decode cX10_told 107 = .ok (.getfield 198, 3) := de180 hX10_told_102 5 rfl rfl rfl
theorem dX10_told_110 : decode cX10_told 110 = .ok (.getfield 202, 3) := de180 hX10_told_102 8 rfl rfl rfl
theorem dX10_told_113 : decode cX10_told 113 = .ok (.ireturn, 1) := de172 hX10_told_102 11 rfl rfl
theorem dX10_told_114 : decode cX10_told 114 = .ok (.bipush (-2), 2) := de16 hX10_told_102 12 rfl rfl rfl
theorem dX10_told_116 : decode cX10_told 116 = .ok (.ireturn, 1) := de172 hX10_told_102 14 rfl rfl
theorem hX10_isCan_0 : bHas cX10_isCan 0 [27, 155, 0, 18, 27, 42, 180, 0, 10, 180, 0, 81, 162, 0, 7, 4, 167, 0, 4, 3, 172] := bH_c (n := 21) (by decide +kernel)
theorem dX10_isCan_0 : decode cX10_isCan 0 = .ok (.iload_n 1, 1) := de27 hX10_isCan_0 0 rfl rfl
theorem dX10_isCan_1 : decode cX10_isCan 1 = .ok (.ifCond .lt 18, 3) := de155 hX10_isCan_0 1 rfl rfl (by decide +kernel)
theorem dX10_isCan_4 : decode cX10_isCan 4 = .ok (.iload_n 1, 1) := de27 hX10_isCan_0 4 rfl rfl
theorem dX10_isCan_5 : decode cX10_isCan 5 = .ok (.aload_n 0, 1) := de42 hX10_isCan_0 5 rfl rfl
theorem dX10_isCan_6 : decode cX10_isCan 6 = .ok (.getfield 10, 3) := de180 hX10_isCan_0 6 rfl rfl rfl
theorem dX10_isCan_9 : decode cX10_isCan 9 = .ok (.getfield 81, 3) := de180 hX10_isCan_0 9 rfl rfl rfl
theorem dX10_isCan_12 : decode cX10_isCan 12 = .ok (.if_icmp .ge 7, 3) := de162 hX10_isCan_0 12 rfl rfl (by decide +kernel)
theorem dX10_isCan_15 : decode cX10_isCan 15 = .ok (.iconst 1, 1) := de4 hX10_isCan_0 15 rfl rfl
theorem dX10_isCan_16 : decode cX10_isCan 16 = .ok (.goto 4, 3) := de167 hX10_isCan_0 16 rfl rfl (by decide +kernel)
theorem dX10_isCan_19 : decode cX10_isCan 19 = .ok (.iconst 0, 1) := de3 hX10_isCan_0 19 rfl rfl
theorem dX10_isCan_20 : decode cX10_isCan 20 = .ok (.ireturn, 1) := de172 hX10_isCan_0 20 rfl rfl
theorem hX10_isDay_0 : bHas cX10_isDay 0 [26, 3, 16, 27, 184, 0, 97, 172] := bH_c (n := 8) (by decide +kernel)
theorem dX10_isDay_0 : decode cX10_isDay 0 = .ok (.iload_n 0, 1) := de26 hX10_isDay_0 0 rfl rfl
theorem dX10_isDay_1 : decode cX10_isDay 1 = .ok (.iconst 0, 1) := de3 hX10_isDay_0 1 rfl rfl
theorem dX10_isDay_2 : decode cX10_isDay 2 = .ok (.bipush 27, 2) := de16 hX10_isDay_0 2 rfl rfl rfl
theorem dX10_isDay_4 : decode cX10_isDay 4 = .ok (.invokestatic 97, 3) := de184 hX10_isDay_0 4 rfl rfl rfl
theorem dX10_isDay_7 : decode cX10_isDay 7 = .ok (.ireturn, 1) := de172 hX10_isDay_0 7 rfl rfl
theorem hX10_isPlace_0 : bHas cX10_isPlace 0 [26, 3, 16, 20, 184, 0, 97, 153, 0, 17, 27, 3, 16, 20, 184, 0, 97, 153, 0, 7, 4, 167, 0, 4] := bH_c (n := 24) (by decide +kernel)
theorem dX10_isPlace_0 : decode cX10_isPlace 0 = .ok (.iload_n 0, 1) := de26 hX10_isPlace_0 0 rfl rfl
theorem dX10_isPlace_1 : decode cX10_isPlace 1 = .ok (.iconst 0, 1) := de3 hX10_isPlace_0 1 rfl rfl
theorem dX10_isPlace_2 : decode cX10_isPlace 2 = .ok (.bipush 20, 2) := de16 hX10_isPlace_0 2 rfl rfl rfl
theorem dX10_isPlace_4 : decode cX10_isPlace 4 = .ok (.invokestatic 97, 3) := de184 hX10_isPlace_0 4 rfl rfl rfl
theorem dX10_isPlace_7 : decode cX10_isPlace 7 = .ok (.ifCond .eq 17, 3) := de153 hX10_isPlace_0 7 rfl rfl (by decide +kernel)
theorem dX10_isPlace_10 : decode cX10_isPlace 10 = .ok (.iload_n 1, 1) := de27 hX10_isPlace_0 10 rfl rfl
theorem dX10_isPlace_11 : decode cX10_isPlace 11 = .ok (.iconst 0, 1) := de3 hX10_isPlace_0 11 rfl rfl
theorem dX10_isPlace_12 : decode cX10_isPlace 12 = .ok (.bipush 20, 2) := de16 hX10_isPlace_0 12 rfl rfl rfl
theorem dX10_isPlace_14 : decode cX10_isPlace 14 = .ok (.invokestatic 97, 3) := de184 hX10_isPlace_0 14 rfl rfl rfl
theorem dX10_isPlace_17 : decode cX10_isPlace 17 = .ok (.ifCond .eq 7, 3) := de153 hX10_isPlace_0 17 rfl rfl (by decide +kernel)
theorem dX10_isPlace_20 : decode cX10_isPlace 20 = .ok (.iconst 1, 1) := de4 hX10_isPlace_0 20 rfl rfl
theorem dX10_isPlace_21 : decode cX10_isPlace 21 = .ok (.goto 4, 3) := de167 hX10_isPlace_0 21 rfl rfl (by decide +kernel)
theorem hX10_isPlace_24 : bHas cX10_isPlace 24 [3, 172] := bH_c (n := 2) (by decide +kernel)
theorem dX10_isPlace_24 : decode cX10_isPlace 24 = .ok (.iconst 0, 1) := de3 hX10_isPlace_24 0 rfl rfl
theorem dX10_isPlace_25 : decode cX10_isPlace 25 = .ok (.ireturn, 1) := de172 hX10_isPlace_24 1 rfl rfl
theorem hX10_isLand_0 : bHas cX10_isLand 0 [26, 28, 184, 0, 77, 153, 0, 25, 27, 29, 184, 0, 77, 153, 0, 17, 26, 27, 163, 0, 12, 28] := bH_c (n := 22) (by decide +kernel)
theorem dX10_isLand_0 : decode cX10_isLand 0 = .ok (.iload_n 0, 1) := de26 hX10_isLand_0 0 rfl rfl
theorem dX10_isLand_1 : decode cX10_isLand 1 = .ok (.iload_n 2, 1) := de28 hX10_isLand_0 1 rfl rfl
theorem dX10_isLand_2 : decode cX10_isLand 2 = .ok (.invokestatic 77, 3) := de184 hX10_isLand_0 2 rfl rfl rfl
theorem dX10_isLand_5 : decode cX10_isLand 5 = .ok (.ifCond .eq 25, 3) := de153 hX10_isLand_0 5 rfl rfl (by decide +kernel)
theorem dX10_isLand_8 : decode cX10_isLand 8 = .ok (.iload_n 1, 1) := de27 hX10_isLand_0 8 rfl rfl
theorem dX10_isLand_9 : decode cX10_isLand 9 = .ok (.iload_n 3, 1) := de29 hX10_isLand_0 9 rfl rfl
theorem dX10_isLand_10 : decode cX10_isLand 10 = .ok (.invokestatic 77, 3) := de184 hX10_isLand_0 10 rfl rfl rfl
theorem dX10_isLand_13 : decode cX10_isLand 13 = .ok (.ifCond .eq 17, 3) := de153 hX10_isLand_0 13 rfl rfl (by decide +kernel)
theorem dX10_isLand_16 : decode cX10_isLand 16 = .ok (.iload_n 0, 1) := de26 hX10_isLand_0 16 rfl rfl
theorem dX10_isLand_17 : decode cX10_isLand 17 = .ok (.iload_n 1, 1) := de27 hX10_isLand_0 17 rfl rfl
theorem dX10_isLand_18 : decode cX10_isLand 18 = .ok (.if_icmp .gt 12, 3) := de163 hX10_isLand_0 18 rfl rfl (by decide +kernel)
theorem dX10_isLand_21 : decode cX10_isLand 21 = .ok (.iload_n 2, 1) := de28 hX10_isLand_0 21 rfl rfl
theorem hX10_isLand_22 : bHas cX10_isLand 22 [29, 163, 0, 7, 4, 167, 0, 4, 3, 172] := bH_c (n := 10) (by decide +kernel)
theorem dX10_isLand_22 : decode cX10_isLand 22 = .ok (.iload_n 3, 1) := de29 hX10_isLand_22 0 rfl rfl
theorem dX10_isLand_23 : decode cX10_isLand 23 = .ok (.if_icmp .gt 7, 3) := de163 hX10_isLand_22 1 rfl rfl (by decide +kernel)
theorem dX10_isLand_26 : decode cX10_isLand 26 = .ok (.iconst 1, 1) := de4 hX10_isLand_22 4 rfl rfl
theorem dX10_isLand_27 : decode cX10_isLand 27 = .ok (.goto 4, 3) := de167 hX10_isLand_22 5 rfl rfl (by decide +kernel)
theorem dX10_isLand_30 : decode cX10_isLand 30 = .ok (.iconst 0, 1) := de3 hX10_isLand_22 8 rfl rfl
theorem dX10_isLand_31 : decode cX10_isLand 31 = .ok (.ireturn, 1) := de172 hX10_isLand_22 9 rfl rfl
theorem hX10_isRow_0 : bHas cX10_isRow 0 [26, 4, 19, 1, 53, 184, 0, 97, 154, 0, 5, 3, 172, 26, 60, 3, 61, 28] := bH_c (n := 18) (by decide +kernel)
theorem dX10_isRow_0 : decode cX10_isRow 0 = .ok (.iload_n 0, 1) := de26 hX10_isRow_0 0 rfl rfl
theorem dX10_isRow_1 : decode cX10_isRow 1 = .ok (.iconst 1, 1) := de4 hX10_isRow_0 1 rfl rfl
theorem dX10_isRow_2 : decode cX10_isRow 2 = .ok (.ldc_w 309, 3) := de19 hX10_isRow_0 2 rfl rfl rfl
theorem dX10_isRow_5 : decode cX10_isRow 5 = .ok (.invokestatic 97, 3) := de184 hX10_isRow_0 5 rfl rfl rfl
theorem dX10_isRow_8 : decode cX10_isRow 8 = .ok (.ifCond .ne 5, 3) := de154 hX10_isRow_0 8 rfl rfl (by decide +kernel)
theorem dX10_isRow_11 : decode cX10_isRow 11 = .ok (.iconst 0, 1) := de3 hX10_isRow_0 11 rfl rfl
theorem dX10_isRow_12 : decode cX10_isRow 12 = .ok (.ireturn, 1) := de172 hX10_isRow_0 12 rfl rfl
theorem dX10_isRow_13 : decode cX10_isRow 13 = .ok (.iload_n 0, 1) := de26 hX10_isRow_0 13 rfl rfl
theorem dX10_isRow_14 : decode cX10_isRow 14 = .ok (.istore_n 1, 1) := de60 hX10_isRow_0 14 rfl rfl
theorem dX10_isRow_15 : decode cX10_isRow 15 = .ok (.iconst 0, 1) := de3 hX10_isRow_0 15 rfl rfl
theorem dX10_isRow_16 : decode cX10_isRow 16 = .ok (.istore_n 2, 1) := de61 hX10_isRow_0 16 rfl rfl
theorem dX10_isRow_17 : decode cX10_isRow 17 = .ok (.iload_n 2, 1) := de28 hX10_isRow_0 17 rfl rfl
theorem hX10_isRow_18 : bHas cX10_isRow 18 [16, 6, 162, 0, 25, 27, 16, 10, 112, 16, 6, 164, 0, 5, 3, 172, 27, 16, 10, 108] := bH_c (n := 20) (by decide +kernel)
theorem dX10_isRow_18 : decode cX10_isRow 18 = .ok (.bipush 6, 2) := de16 hX10_isRow_18 0 rfl rfl rfl
theorem dX10_isRow_20 : decode cX10_isRow 20 = .ok (.if_icmp .ge 25, 3) := de162 hX10_isRow_18 2 rfl rfl (by decide +kernel)
theorem dX10_isRow_23 : decode cX10_isRow 23 = .ok (.iload_n 1, 1) := de27 hX10_isRow_18 5 rfl rfl
theorem dX10_isRow_24 : decode cX10_isRow 24 = .ok (.bipush 10, 2) := de16 hX10_isRow_18 6 rfl rfl rfl
theorem dX10_isRow_26 : decode cX10_isRow 26 = .ok (.irem, 1) := de112 hX10_isRow_18 8 rfl rfl
theorem dX10_isRow_27 : decode cX10_isRow 27 = .ok (.bipush 6, 2) := de16 hX10_isRow_18 9 rfl rfl rfl
theorem dX10_isRow_29 : decode cX10_isRow 29 = .ok (.if_icmp .le 5, 3) := de164 hX10_isRow_18 11 rfl rfl (by decide +kernel)
theorem dX10_isRow_32 : decode cX10_isRow 32 = .ok (.iconst 0, 1) := de3 hX10_isRow_18 14 rfl rfl
theorem dX10_isRow_33 : decode cX10_isRow 33 = .ok (.ireturn, 1) := de172 hX10_isRow_18 15 rfl rfl
theorem dX10_isRow_34 : decode cX10_isRow 34 = .ok (.iload_n 1, 1) := de27 hX10_isRow_18 16 rfl rfl
theorem dX10_isRow_35 : decode cX10_isRow 35 = .ok (.bipush 10, 2) := de16 hX10_isRow_18 17 rfl rfl rfl
theorem dX10_isRow_37 : decode cX10_isRow 37 = .ok (.idiv, 1) := de108 hX10_isRow_18 19 rfl rfl
theorem hX10_isRow_38 : bHas cX10_isRow 38 [60, 132, 2, 1, 167, 255, 231, 4, 172] := bH_c (n := 9) (by decide +kernel)
theorem dX10_isRow_38 : decode cX10_isRow 38 = .ok (.istore_n 1, 1) := de60 hX10_isRow_38 0 rfl rfl
theorem dX10_isRow_39 : decode cX10_isRow 39 = .ok (.iinc 2 1, 3) := de132 hX10_isRow_38 1 rfl rfl rfl rfl
theorem dX10_isRow_42 : decode cX10_isRow 42 = .ok (.goto (-25), 3) := de167 hX10_isRow_38 4 rfl rfl (by decide +kernel)
theorem dX10_isRow_45 : decode cX10_isRow 45 = .ok (.iconst 1, 1) := de4 hX10_isRow_38 7 rfl rfl
theorem dX10_isRow_46 : decode cX10_isRow 46 = .ok (.ireturn, 1) := de172 hX10_isRow_38 8 rfl rfl
theorem hX10_isWithin_0 : bHas cX10_isWithin 0 [26, 27, 161, 0, 12, 26, 28, 163, 0, 7, 4, 167, 0, 4, 3, 172] := bH_c (n := 16) (by decide +kernel)
theorem dX10_isWithin_0 : decode cX10_isWithin 0 = .ok (.iload_n 0, 1) := de26 hX10_isWithin_0 0 rfl rfl
theorem dX10_isWithin_1 : decode cX10_isWithin 1 = .ok (.iload_n 1, 1) := de27 hX10_isWithin_0 1 rfl rfl
theorem dX10_isWithin_2 : decode cX10_isWithin 2 = .ok (.if_icmp .lt 12, 3) := de161 hX10_isWithin_0 2 rfl rfl (by decide +kernel)
theorem dX10_isWithin_5 : decode cX10_isWithin 5 = .ok (.iload_n 0, 1) := de26 hX10_isWithin_0 5 rfl rfl
theorem dX10_isWithin_6 : decode cX10_isWithin 6 = .ok (.iload_n 2, 1) := de28 hX10_isWithin_0 6 rfl rfl
theorem dX10_isWithin_7 : decode cX10_isWithin 7 = .ok (.if_icmp .gt 7, 3) := de163 hX10_isWithin_0 7 rfl rfl (by decide +kernel)
theorem dX10_isWithin_10 : decode cX10_isWithin 10 = .ok (.iconst 1, 1) := de4 hX10_isWithin_0 10 rfl rfl
theorem dX10_isWithin_11 : decode cX10_isWithin 11 = .ok (.goto 4, 3) := de167 hX10_isWithin_0 11 rfl rfl (by decide +kernel)
theorem dX10_isWithin_14 : decode cX10_isWithin 14 = .ok (.iconst 0, 1) := de3 hX10_isWithin_0 14 rfl rfl
theorem dX10_isWithin_15 : decode cX10_isWithin 15 = .ok (.ireturn, 1) := de172 hX10_isWithin_0 15 rfl rfl
theorem hX10_orNone_0 : bHas cX10_orNone 0 [26, 2, 160, 0, 8, 16, 250, 167, 0, 4, 26, 172] := bH_c (n := 12) (by decide +kernel)
theorem dX10_orNone_0 : decode cX10_orNone 0 = .ok (.iload_n 0, 1) := de26 hX10_orNone_0 0 rfl rfl
theorem dX10_orNone_1 : decode cX10_orNone 1 = .ok (.iconst (-1), 1) := de2 hX10_orNone_0 1 rfl rfl
theorem dX10_orNone_2 : decode cX10_orNone 2 = .ok (.if_icmp .ne 8, 3) := de160 hX10_orNone_0 2 rfl rfl (by decide +kernel)
theorem dX10_orNone_5 : decode cX10_orNone 5 = .ok (.bipush (-6), 2) := de16 hX10_orNone_0 5 rfl rfl rfl
theorem dX10_orNone_7 : decode cX10_orNone 7 = .ok (.goto 4, 3) := de167 hX10_orNone_0 7 rfl rfl (by decide +kernel)
theorem dX10_orNone_10 : decode cX10_orNone 10 = .ok (.iload_n 0, 1) := de26 hX10_orNone_0 10 rfl rfl
theorem dX10_orNone_11 : decode cX10_orNone 11 = .ok (.ireturn, 1) := de172 hX10_orNone_0 11 rfl rfl
theorem hX10_far_0 : bHas cX10_far 0 [26, 28, 100, 184, 1, 54, 27, 29, 100, 184, 1, 54, 96, 172] := bH_c (n := 14) (by decide +kernel)
theorem dX10_far_0 : decode cX10_far 0 = .ok (.iload_n 0, 1) := de26 hX10_far_0 0 rfl rfl
theorem dX10_far_1 : decode cX10_far 1 = .ok (.iload_n 2, 1) := de28 hX10_far_0 1 rfl rfl
theorem dX10_far_2 : decode cX10_far 2 = .ok (.isub, 1) := de100 hX10_far_0 2 rfl rfl
theorem dX10_far_3 : decode cX10_far 3 = .ok (.invokestatic 310, 3) := de184 hX10_far_0 3 rfl rfl rfl
theorem dX10_far_6 : decode cX10_far 6 = .ok (.iload_n 1, 1) := de27 hX10_far_0 6 rfl rfl
theorem dX10_far_7 : decode cX10_far 7 = .ok (.iload_n 3, 1) := de29 hX10_far_0 7 rfl rfl
theorem dX10_far_8 : decode cX10_far 8 = .ok (.isub, 1) := de100 hX10_far_0 8 rfl rfl
theorem dX10_far_9 : decode cX10_far 9 = .ok (.invokestatic 310, 3) := de184 hX10_far_0 9 rfl rfl rfl
theorem dX10_far_12 : decode cX10_far 12 = .ok (.iadd, 1) := de96 hX10_far_0 12 rfl rfl
theorem dX10_far_13 : decode cX10_far 13 = .ok (.ireturn, 1) := de172 hX10_far_0 13 rfl rfl
theorem hX10_part_0 : bHas cX10_part 0 [3, 54, 5, 27, 54, 6, 21, 6, 28, 163, 0, 23, 21, 5, 3, 25, 4, 21, 6, 46] := bH_c (n := 20) (by decide +kernel)
theorem dX10_part_0 : decode cX10_part 0 = .ok (.iconst 0, 1) := de3 hX10_part_0 0 rfl rfl
theorem dX10_part_1 : decode cX10_part 1 = .ok (.istore 5, 2) := de54 hX10_part_0 1 rfl rfl rfl
theorem dX10_part_3 : decode cX10_part 3 = .ok (.iload_n 1, 1) := de27 hX10_part_0 3 rfl rfl
theorem dX10_part_4 : decode cX10_part 4 = .ok (.istore 6, 2) := de54 hX10_part_0 4 rfl rfl rfl
theorem dX10_part_6 : decode cX10_part 6 = .ok (.iload 6, 2) := de21 hX10_part_0 6 rfl rfl rfl
theorem dX10_part_8 : decode cX10_part 8 = .ok (.iload_n 2, 1) := de28 hX10_part_0 8 rfl rfl
theorem dX10_part_9 : decode cX10_part 9 = .ok (.if_icmp .gt 23, 3) := de163 hX10_part_0 9 rfl rfl (by decide +kernel)
theorem dX10_part_12 : decode cX10_part 12 = .ok (.iload 5, 2) := de21 hX10_part_0 12 rfl rfl rfl
theorem dX10_part_14 : decode cX10_part 14 = .ok (.iconst 0, 1) := de3 hX10_part_0 14 rfl rfl
theorem dX10_part_15 : decode cX10_part 15 = .ok (.aload 4, 2) := de25 hX10_part_0 15 rfl rfl rfl
theorem dX10_part_17 : decode cX10_part 17 = .ok (.iload 6, 2) := de21 hX10_part_0 17 rfl rfl rfl
theorem dX10_part_19 : decode cX10_part 19 = .ok (.iaload, 1) := de46 hX10_part_0 19 rfl rfl
theorem hX10_part_20 : bHas cX10_part 20 [184, 1, 59, 96, 54, 5, 132, 6, 1, 167, 255, 233, 29, 54, 6, 27, 54, 7, 21, 7, 28, 162, 0, 45] := bH_c (n := 24) (by decide +kernel)
theorem dX10_part_20 : decode cX10_part 20 = .ok (.invokestatic 315, 3) := de184 hX10_part_20 0 rfl rfl rfl
theorem dX10_part_23 : decode cX10_part 23 = .ok (.iadd, 1) := de96 hX10_part_20 3 rfl rfl
theorem dX10_part_24 : decode cX10_part 24 = .ok (.istore 5, 2) := de54 hX10_part_20 4 rfl rfl rfl
theorem dX10_part_26 : decode cX10_part 26 = .ok (.iinc 6 1, 3) := de132 hX10_part_20 6 rfl rfl rfl rfl
theorem dX10_part_29 : decode cX10_part 29 = .ok (.goto (-23), 3) := de167 hX10_part_20 9 rfl rfl (by decide +kernel)
theorem dX10_part_32 : decode cX10_part 32 = .ok (.iload_n 3, 1) := de29 hX10_part_20 12 rfl rfl
theorem dX10_part_33 : decode cX10_part 33 = .ok (.istore 6, 2) := de54 hX10_part_20 13 rfl rfl rfl
theorem dX10_part_35 : decode cX10_part 35 = .ok (.iload_n 1, 1) := de27 hX10_part_20 15 rfl rfl
theorem dX10_part_36 : decode cX10_part 36 = .ok (.istore 7, 2) := de54 hX10_part_20 16 rfl rfl rfl
theorem dX10_part_38 : decode cX10_part 38 = .ok (.iload 7, 2) := de21 hX10_part_20 18 rfl rfl rfl
theorem dX10_part_40 : decode cX10_part 40 = .ok (.iload_n 2, 1) := de28 hX10_part_20 20 rfl rfl
theorem dX10_part_41 : decode cX10_part 41 = .ok (.if_icmp .ge 45, 3) := de162 hX10_part_20 21 rfl rfl (by decide +kernel)
theorem hX10_part_44 : bHas cX10_part 44 [42, 21, 7, 21, 5, 154, 0, 7, 3, 167, 0, 17, 29, 3, 25, 4, 21, 7, 46, 184, 1, 59] := bH_c (n := 22) (by decide +kernel)
theorem dX10_part_44 : decode cX10_part 44 = .ok (.aload_n 0, 1) := de42 hX10_part_44 0 rfl rfl
theorem dX10_part_45 : decode cX10_part 45 = .ok (.iload 7, 2) := de21 hX10_part_44 1 rfl rfl rfl
theorem dX10_part_47 : decode cX10_part 47 = .ok (.iload 5, 2) := de21 hX10_part_44 3 rfl rfl rfl
theorem dX10_part_49 : decode cX10_part 49 = .ok (.ifCond .ne 7, 3) := de154 hX10_part_44 5 rfl rfl (by decide +kernel)
theorem dX10_part_52 : decode cX10_part 52 = .ok (.iconst 0, 1) := de3 hX10_part_44 8 rfl rfl
theorem dX10_part_53 : decode cX10_part 53 = .ok (.goto 17, 3) := de167 hX10_part_44 9 rfl rfl (by decide +kernel)
theorem dX10_part_56 : decode cX10_part 56 = .ok (.iload_n 3, 1) := de29 hX10_part_44 12 rfl rfl
theorem dX10_part_57 : decode cX10_part 57 = .ok (.iconst 0, 1) := de3 hX10_part_44 13 rfl rfl
theorem dX10_part_58 : decode cX10_part 58 = .ok (.aload 4, 2) := de25 hX10_part_44 14 rfl rfl rfl
theorem dX10_part_60 : decode cX10_part 60 = .ok (.iload 7, 2) := de21 hX10_part_44 16 rfl rfl rfl
theorem dX10_part_62 : decode cX10_part 62 = .ok (.iaload, 1) := de46 hX10_part_44 18 rfl rfl
theorem dX10_part_63 : decode cX10_part 63 = .ok (.invokestatic 315, 3) := de184 hX10_part_44 19 rfl rfl rfl
theorem hX10_part_66 : bHas cX10_part 66 [104, 21, 5, 108, 79, 21, 6, 42, 21, 7, 46, 100, 54, 6, 132, 7, 1, 167, 255, 211] := bH_c (n := 20) (by decide +kernel)
theorem dX10_part_66 : decode cX10_part 66 = .ok (.imul, 1) := de104 hX10_part_66 0 rfl rfl
theorem dX10_part_67 : decode cX10_part 67 = .ok (.iload 5, 2) := de21 hX10_part_66 1 rfl rfl rfl
theorem dX10_part_69 : decode cX10_part 69 = .ok (.idiv, 1) := de108 hX10_part_66 3 rfl rfl
theorem dX10_part_70 : decode cX10_part 70 = .ok (.iastore, 1) := de79 hX10_part_66 4 rfl rfl
theorem dX10_part_71 : decode cX10_part 71 = .ok (.iload 6, 2) := de21 hX10_part_66 5 rfl rfl rfl
theorem dX10_part_73 : decode cX10_part 73 = .ok (.aload_n 0, 1) := de42 hX10_part_66 7 rfl rfl
theorem dX10_part_74 : decode cX10_part 74 = .ok (.iload 7, 2) := de21 hX10_part_66 8 rfl rfl rfl
theorem dX10_part_76 : decode cX10_part 76 = .ok (.iaload, 1) := de46 hX10_part_66 10 rfl rfl
theorem dX10_part_77 : decode cX10_part 77 = .ok (.isub, 1) := de100 hX10_part_66 11 rfl rfl
theorem dX10_part_78 : decode cX10_part 78 = .ok (.istore 6, 2) := de54 hX10_part_66 12 rfl rfl rfl
theorem dX10_part_80 : decode cX10_part 80 = .ok (.iinc 7 1, 3) := de132 hX10_part_66 14 rfl rfl rfl rfl
theorem dX10_part_83 : decode cX10_part 83 = .ok (.goto (-45), 3) := de167 hX10_part_66 17 rfl rfl (by decide +kernel)
theorem hX10_part_86 : bHas cX10_part 86 [42, 28, 21, 6, 79, 177] := bH_c (n := 6) (by decide +kernel)
theorem dX10_part_86 : decode cX10_part 86 = .ok (.aload_n 0, 1) := de42 hX10_part_86 0 rfl rfl
theorem dX10_part_87 : decode cX10_part 87 = .ok (.iload_n 2, 1) := de28 hX10_part_86 1 rfl rfl
theorem dX10_part_88 : decode cX10_part 88 = .ok (.iload 6, 2) := de21 hX10_part_86 2 rfl rfl rfl
theorem dX10_part_90 : decode cX10_part 90 = .ok (.iastore, 1) := de79 hX10_part_86 4 rfl rfl
theorem dX10_part_91 : decode cX10_part 91 = .ok (.return_, 1) := de177 hX10_part_86 5 rfl rfl
theorem hJ9_abs_0f7a4_0 : bHas cJ9_abs_0f7a4 0 [26, 156, 0, 8, 26, 116, 167, 0, 4, 26, 172] := bH_c (n := 11) (by decide +kernel)
theorem dJ9_abs_0f7a4_0 : decode cJ9_abs_0f7a4 0 = .ok (.iload_n 0, 1) := de26 hJ9_abs_0f7a4_0 0 rfl rfl
theorem dJ9_abs_0f7a4_1 : decode cJ9_abs_0f7a4 1 = .ok (.ifCond .ge 8, 3) := de156 hJ9_abs_0f7a4_0 1 rfl rfl (by decide +kernel)
theorem dJ9_abs_0f7a4_4 : decode cJ9_abs_0f7a4 4 = .ok (.iload_n 0, 1) := de26 hJ9_abs_0f7a4_0 4 rfl rfl
theorem dJ9_abs_0f7a4_5 : decode cJ9_abs_0f7a4 5 = .ok (.ineg, 1) := de116 hJ9_abs_0f7a4_0 5 rfl rfl
theorem dJ9_abs_0f7a4_6 : decode cJ9_abs_0f7a4 6 = .ok (.goto 4, 3) := de167 hJ9_abs_0f7a4_0 6 rfl rfl (by decide +kernel)
theorem dJ9_abs_0f7a4_9 : decode cJ9_abs_0f7a4 9 = .ok (.iload_n 0, 1) := de26 hJ9_abs_0f7a4_0 9 rfl rfl
theorem dJ9_abs_0f7a4_10 : decode cJ9_abs_0f7a4 10 = .ok (.ireturn, 1) := de172 hJ9_abs_0f7a4_0 10 rfl rfl
theorem hJ9_max_7cf53_0 : bHas cJ9_max_7cf53 0 [26, 27, 161, 0, 7, 26, 167, 0, 4, 27, 172] := bH_c (n := 11) (by decide +kernel)
theorem dJ9_max_7cf53_0 : decode cJ9_max_7cf53 0 = .ok (.iload_n 0, 1) := de26 hJ9_max_7cf53_0 0 rfl rfl
theorem dJ9_max_7cf53_1 : decode cJ9_max_7cf53 1 = .ok (.iload_n 1, 1) := de27 hJ9_max_7cf53_0 1 rfl rfl
theorem dJ9_max_7cf53_2 : decode cJ9_max_7cf53 2 = .ok (.if_icmp .lt 7, 3) := de161 hJ9_max_7cf53_0 2 rfl rfl (by decide +kernel)
theorem dJ9_max_7cf53_5 : decode cJ9_max_7cf53 5 = .ok (.iload_n 0, 1) := de26 hJ9_max_7cf53_0 5 rfl rfl
theorem dJ9_max_7cf53_6 : decode cJ9_max_7cf53 6 = .ok (.goto 4, 3) := de167 hJ9_max_7cf53_0 6 rfl rfl (by decide +kernel)
theorem dJ9_max_7cf53_9 : decode cJ9_max_7cf53 9 = .ok (.iload_n 1, 1) := de27 hJ9_max_7cf53_0 9 rfl rfl
theorem dJ9_max_7cf53_10 : decode cJ9_max_7cf53 10 = .ok (.ireturn, 1) := de172 hJ9_max_7cf53_0 10 rfl rfl
theorem hJ9_min_7cf53_0 : bHas cJ9_min_7cf53 0 [26, 27, 163, 0, 7, 26, 167, 0, 4, 27, 172] := bH_c (n := 11) (by decide +kernel)
theorem dJ9_min_7cf53_0 : decode cJ9_min_7cf53 0 = .ok (.iload_n 0, 1) := de26 hJ9_min_7cf53_0 0 rfl rfl
theorem dJ9_min_7cf53_1 : decode cJ9_min_7cf53 1 = .ok (.iload_n 1, 1) := de27 hJ9_min_7cf53_0 1 rfl rfl
theorem dJ9_min_7cf53_2 : decode cJ9_min_7cf53 2 = .ok (.if_icmp .gt 7, 3) := de163 hJ9_min_7cf53_0 2 rfl rfl (by decide +kernel)
theorem dJ9_min_7cf53_5 : decode cJ9_min_7cf53 5 = .ok (.iload_n 0, 1) := de26 hJ9_min_7cf53_0 5 rfl rfl
theorem dJ9_min_7cf53_6 : decode cJ9_min_7cf53 6 = .ok (.goto 4, 3) := de167 hJ9_min_7cf53_0 6 rfl rfl (by decide +kernel)
theorem dJ9_min_7cf53_9 : decode cJ9_min_7cf53 9 = .ok (.iload_n 1, 1) := de27 hJ9_min_7cf53_0 9 rfl rfl
theorem dJ9_min_7cf53_10 : decode cJ9_min_7cf53 10 = .ok (.ireturn, 1) := de172 hJ9_min_7cf53_0 10 rfl rfl
theorem hJ7_fill_53178_0 : bHas cJ7_fill_53178 0 [3, 61, 42, 190, 62, 28, 29, 162, 0, 13, 42, 28, 27, 79] := bH_c (n := 14) (by decide +kernel)
theorem dJ7_fill_53178_0 : decode cJ7_fill_53178 0 = .ok (.iconst 0, 1) := de3 hJ7_fill_53178_0 0 rfl rfl
theorem dJ7_fill_53178_1 : decode cJ7_fill_53178 1 = .ok (.istore_n 2, 1) := de61 hJ7_fill_53178_0 1 rfl rfl
theorem dJ7_fill_53178_2 : decode cJ7_fill_53178 2 = .ok (.aload_n 0, 1) := de42 hJ7_fill_53178_0 2 rfl rfl
theorem dJ7_fill_53178_3 : decode cJ7_fill_53178 3 = .ok (.arraylength, 1) := de190 hJ7_fill_53178_0 3 rfl rfl
theorem dJ7_fill_53178_4 : decode cJ7_fill_53178 4 = .ok (.istore_n 3, 1) := de62 hJ7_fill_53178_0 4 rfl rfl
theorem dJ7_fill_53178_5 : decode cJ7_fill_53178 5 = .ok (.iload_n 2, 1) := de28 hJ7_fill_53178_0 5 rfl rfl
theorem dJ7_fill_53178_6 : decode cJ7_fill_53178 6 = .ok (.iload_n 3, 1) := de29 hJ7_fill_53178_0 6 rfl rfl
theorem dJ7_fill_53178_7 : decode cJ7_fill_53178 7 = .ok (.if_icmp .ge 13, 3) := de162 hJ7_fill_53178_0 7 rfl rfl (by decide +kernel)
theorem dJ7_fill_53178_10 : decode cJ7_fill_53178 10 = .ok (.aload_n 0, 1) := de42 hJ7_fill_53178_0 10 rfl rfl
theorem dJ7_fill_53178_11 : decode cJ7_fill_53178 11 = .ok (.iload_n 2, 1) := de28 hJ7_fill_53178_0 11 rfl rfl
theorem dJ7_fill_53178_12 : decode cJ7_fill_53178 12 = .ok (.iload_n 1, 1) := de27 hJ7_fill_53178_0 12 rfl rfl
theorem dJ7_fill_53178_13 : decode cJ7_fill_53178 13 = .ok (.iastore, 1) := de79 hJ7_fill_53178_0 13 rfl rfl
theorem hJ7_fill_53178_14 : bHas cJ7_fill_53178 14 [132, 2, 1, 167, 255, 244, 177] := bH_c (n := 7) (by decide +kernel)
theorem dJ7_fill_53178_14 : decode cJ7_fill_53178 14 = .ok (.iinc 2 1, 3) := de132 hJ7_fill_53178_14 0 rfl rfl rfl rfl
theorem dJ7_fill_53178_17 : decode cJ7_fill_53178 17 = .ok (.goto (-12), 3) := de167 hJ7_fill_53178_14 3 rfl rfl (by decide +kernel)
theorem dJ7_fill_53178_20 : decode cJ7_fill_53178 20 = .ok (.return_, 1) := de177 hJ7_fill_53178_14 6 rfl rfl
