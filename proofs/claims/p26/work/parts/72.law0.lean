/-! the law over two objects -/
theorem y_cutG {p : Program} {l : Launch} {e : Env} {R : Room} {s : State} {m : MethodId} {args : Array Value} {below : List Frame} {meth : Method} {c : Code} {H0 : Heap} {locs0 : List Loc} {cells0 slots0 : Nat} {Q : State → Prop} {g : JFrame} (fin : Nat) (I : Heap → List Loc → Array Slot → Nat → Nat → Prop)
    (k : ∀ (H : Heap) (locs : List Loc) (ls : Array Slot) (cells slots : Nat), I H locs ls cells slots → W p l e R s m args below meth c H locs cells slots Q (F0 m fin ls []))
    (h : (∀ (H : Heap) (locs : List Loc) (ls : Array Slot) (cells slots : Nat), I H locs ls cells slots → W p l e R s m args below meth c H locs cells slots Q (F0 m fin ls [])) → W p l e R s m args below meth c H0 locs0 cells0 slots0 Q g) : W p l e R s m args below meth c H0 locs0 cells0 slots0 Q g := h k
theorem kSel_y {a : yA} (hB : okB a) {z : Nat} (hz : z < nn (a 0 0)) : kSel a (nI z) = 0 := by
  have hl := hB 0 0 8 rfl
  have h8 := hl.2
  refine if_pos ⟨(nI_leI (a := 0) (by decide) (by omega)).mpr (Nat.zero_le _), ?_⟩
  rw [hl.1]
  exact (nI_ltI (by omega) (by omega)).mpr hz
theorem kSel_n {a : yA} (hB : okB a) {z : Nat} (h8 : z ≤ 8) (hz : nn (a 0 0) ≤ z) : ¬ kSel a (nI z) = 0 := by
  have hl := hB 0 0 8 rfl
  have h9 := hl.2
  intro q
  have h : ¬ selOK a (nI z) := fun w => by
    have w2 := w.2
    rw [hl.1] at w2
    have := (nI_ltI (by omega) (by omega)).mp w2
    omega
  unfold kSel at q
  rw [if_neg h] at q
  exact absurd q (by decide)
theorem nnI {z : Nat} (h : z ≤ 2000) : nn (nI z) = z := nn_nI (by omega)
theorem bA_in {a : yA} (hB : okB a) {z : Nat} (hz : z < nn (a 0 0)) : bA a (nI z) = a 7 z := by
  have h8 := (hB 0 0 8 rfl).2
  rw [bA_y (kSel_y hB hz), nnI (by omega)]
theorem bA_out {a : yA} (hB : okB a) {z : Nat} (h8 : z ≤ 8) (hz : nn (a 0 0) ≤ z) : bA a (nI z) = -2000000001 := bA_n (kSel_n hB h8 hz)
theorem kPay_y {a : yA} (hB : okB a) {z : Nat} (hz : z < nn (a 0 4)) : kPay a (nI z) = 0 := by
  have hl := hB 0 4 1024 rfl
  have h8 := hl.2
  refine if_pos ⟨(nI_leI (a := 0) (by decide) (by omega)).mpr (Nat.zero_le _), ?_⟩
  rw [hl.1]
  exact (nI_ltI (by omega) (by omega)).mpr hz
theorem a04_nI {a : yA} (hB : okB a) : a 0 4 = nI (nn (a 0 4)) := (hB 0 4 1024 rfl).1
theorem ge8 {z : Nat} (h : z ≤ 8) (c : (8 : Int32) ≤ nI z) : z = 8 := by
  have := (nI_leI (a := 8) (by decide) (by omega)).mp c
  omega
theorem lt8 {z : Nat} (h : z ≤ 8) (c : ¬ (8 : Int32) ≤ nI z) : z < 8 := by
  by_cases q : z = 8
  · exact absurd (by rw [q]; exact Int32.le_refl _) c
  · omega
theorem pays400 {a : yA} {n : Nat} (h : okA a n) (hn : n ≤ 200) : nn (a 0 4) ≤ 400 := by
  have h3 := okA_3 h
  have hp := h.2.2.2
  unfold phi at hp
  omega
/-- two objects of the class -/
abbrev WB (cI cF : ClassId) (h0 : Nat) (q : Nat → Nat) (a : yA) (jc js jv : Nat → Int32) (k n h1 : Nat) (q2 : Nat → Nat) (a2 : yA) (jc2 js2 jv2 : Nat → Int32) (k2 n2 : Nat) : va_W := [(h0, .inr (4, [.ref (q 1), .ref (q 10), .ref (q 18), .ref (q 22), .ref (q 26), .int (a 0 2), .int (a 0 1), .int (a 0 5), .int (a 0 6), .int (a 0 7), .int (a 0 8)])), (q 1, .inr (3, [.ref (q 2), .ref (q 3), .ref (q 4), .ref (q 5), .ref (q 6), .ref (q 7), .ref (q 8), .ref (q 9), .int (a 0 0)])), (q 2, .inl (cI, 8, .inl (a 1))), (q 3, .inl (cI, 8, .inl (a 2))), (q 4, .inl (cI, 8, .inl (a 3))), (q 5, .inl (cI, 8, .inl (a 4))), (q 6, .inl (cI, 8, .inl (a 5))), (q 7, .inl (cI, 8, .inl (a 6))), (q 8, .inl (cI, 8, .inl (a 7))), (q 9, .inl (cI, 8, .inl (a 8))), (q 10, .inr (2, [.ref (q 11), .ref (q 12), .ref (q 13), .ref (q 14), .ref (q 15), .ref (q 16), .ref (q 17), .int (a 0 3)])), (q 11, .inl (cI, 100, .inl (a 10))), (q 12, .inl (cF, 100, .inr (.inr (.inl (fun j => shF (a 13 j)))))), (q 13, .inl (cI, 100, .inl (a 14))), (q 14, .inl (cI, 100, .inl (fun j => a 11 j - a 12 j))), (q 15, .inl (cI, 100, .inl (fun j => a 15 j - a 16 j))), (q 16, .inl (cI, 100, .inl (a 17))), (q 17, .inl (cI, 100, .inl (a 18))), (q 18, .inr (1, [.ref (q 19), .ref (q 20), .ref (q 21), .int (a 0 4)])), (q 19, .inl (cI, n, .inl (a 20))), (q 20, .inl (cI, n, .inl (a 19))), (q 21, .inl (cI, n, .inl (a 21))), (q 22, .inr (0, [.ref (q 23), .ref (q 24), .ref (q 25), .int (nI k)])), (q 23, .inl (cI, 8, .inl (jc))), (q 24, .inl (cI, 256, .inl (js))), (q 25, .inl (cI, 256, .inl (jv))), (q 26, .inl (cF, 4, .inr (.inr (.inl (fun j => shF (a 9 j)))))), (h1, .inr (4, [.ref (q2 1), .ref (q2 10), .ref (q2 18), .ref (q2 22), .ref (q2 26), .int (a2 0 2), .int (a2 0 1), .int (a2 0 5), .int (a2 0 6), .int (a2 0 7), .int (a2 0 8)])), (q2 1, .inr (3, [.ref (q2 2), .ref (q2 3), .ref (q2 4), .ref (q2 5), .ref (q2 6), .ref (q2 7), .ref (q2 8), .ref (q2 9), .int (a2 0 0)])), (q2 2, .inl (cI, 8, .inl (a2 1))), (q2 3, .inl (cI, 8, .inl (a2 2))), (q2 4, .inl (cI, 8, .inl (a2 3))), (q2 5, .inl (cI, 8, .inl (a2 4))), (q2 6, .inl (cI, 8, .inl (a2 5))), (q2 7, .inl (cI, 8, .inl (a2 6))), (q2 8, .inl (cI, 8, .inl (a2 7))), (q2 9, .inl (cI, 8, .inl (a2 8))), (q2 10, .inr (2, [.ref (q2 11), .ref (q2 12), .ref (q2 13), .ref (q2 14), .ref (q2 15), .ref (q2 16), .ref (q2 17), .int (a2 0 3)])), (q2 11, .inl (cI, 100, .inl (a2 10))), (q2 12, .inl (cF, 100, .inr (.inr (.inl (fun j => shF (a2 13 j)))))), (q2 13, .inl (cI, 100, .inl (a2 14))), (q2 14, .inl (cI, 100, .inl (fun j => a2 11 j - a2 12 j))), (q2 15, .inl (cI, 100, .inl (fun j => a2 15 j - a2 16 j))), (q2 16, .inl (cI, 100, .inl (a2 17))), (q2 17, .inl (cI, 100, .inl (a2 18))), (q2 18, .inr (1, [.ref (q2 19), .ref (q2 20), .ref (q2 21), .int (a2 0 4)])), (q2 19, .inl (cI, n2, .inl (a2 20))), (q2 20, .inl (cI, n2, .inl (a2 19))), (q2 21, .inl (cI, n2, .inl (a2 21))), (q2 22, .inr (0, [.ref (q2 23), .ref (q2 24), .ref (q2 25), .int (nI k2)])), (q2 23, .inl (cI, 8, .inl (jc2))), (q2 24, .inl (cI, 256, .inl (js2))), (q2 25, .inl (cI, 256, .inl (jv2))), (q2 26, .inl (cF, 4, .inr (.inr (.inl (fun j => shF (a2 9 j))))))]
def atB (dC : Nat → ClassId) (dI : Nat → Nat → Nat) (cI cF : ClassId) (A : Nat → Prop) (h0 h1 : Nat) (a : yA) (t : State) : Prop :=
  ∃ (q : Nat → Nat) (jc js jv : Nat → Int32) (k : Nat) (q2 : Nat → Nat) (jc2 js2 jv2 : Nat → Int32) (k2 : Nat), okC a jc js jv k ∧ okC a jc2 js2 jv2 k2 ∧ atW dC dI [(cI, .int), (cF, .float)] A (WB cI cF h0 q a jc js jv k (capOf (nn (a 0 4))) h1 q2 a jc2 js2 jv2 k2 (capOf (nn (a 0 4)))) t
theorem atB_e {dC : Nat → ClassId} {dI : Nat → Nat → Nat} {cI cF : ClassId} {A : Nat → Prop} {h0 h1 : Nat} {a b : yA} {t : State} {q : Nat → Nat} {jc js jv : Nat → Int32} {k : Nat} {q2 : Nat → Nat} {jc2 js2 jv2 : Nat → Int32} {k2 : Nat} (e : b = a) (hC : okC a jc js jv k) (hC2 : okC a jc2 js2 jv2 k2) (h : atW dC dI [(cI, .int), (cF, .float)] A (WB cI cF h0 q a jc js jv k (capOf (nn (a 0 4))) h1 q2 a jc2 js2 jv2 k2 (capOf (nn (a 0 4)))) t) : atB dC dI cI cF A h0 h1 b t := by
  rw [e]; exact ⟨q, jc, js, jv, k, q2, jc2, js2, jv2, k2, hC, hC2, h⟩
