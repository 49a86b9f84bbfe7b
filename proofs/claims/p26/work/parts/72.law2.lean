set_option maxHeartbeats 4000000 in
set_option maxRecDepth 100000 in
theorem c_L_areAlike (l : Launch) (dC : Nat → ClassId) (dI : Nat → Nat → Nat) (cI cF : ClassId) (h0 h1 : Nat) (q q2 : Nat → Nat) (sz : Nat) (a : yA) (jc js jv : Nat → Int32) (k : Nat) (jc2 js2 jv2 : Nat → Int32) (k2 : Nat) (hst : l.stackTraces = false) (hC : okC a jc js jv k) (hC2 : okC a jc2 js2 jv2 k2)  {n : Nat} {m9 t9 : Int} (hI : okX a n m9 t9) : Met l yL_areAlike wsL_areAlike ({ frames := 9, cells := 60, slots := 360, locals := 154 } : Room) (va_Pc [.ref h0, .ref h1] (pcH dC dI [(cI, .int), (cF, .float)] (WB cI cF h0 q a jc js jv k (capOf (nn (a 0 4))) h1 q2 a jc2 js2 jv2 k2 (capOf (nn (a 0 4)))) sz)) (va_Qi (fun (r : Int32) (_ : Unit) => r = 1) (fun _ t => atB dC dI cI cF (va_A (WB cI cF h0 q a jc js jv k (capOf (nn (a 0 4))) h1 q2 a jc2 js2 jv2 k2 (capOf (nn (a 0 4)))) sz) h0 h1 (a) t) (va_A (WB cI cF h0 q a jc js jv k (capOf (nn (a 0 4))) h1 q2 a jc2 js2 jv2 k2 (capOf (nn (a 0 4)))) sz)) (60) (360) (va_A (WB cI cF h0 q a jc js jv k (capOf (nn (a 0 4))) h1 q2 a jc2 js2 jv2 k2 (capOf (nn (a 0 4)))) sz) := by
  refine Met.ofW (cc := cL_areAlike) (maxL := 5) (ret := (some .boolean)) (by decide) rfl ?_
  intro p e s m args below meth c s₁ B hml hv
  obtain ⟨rfl, ⟨⟨hsz, hP, hK, hD0⟩, hV⟩, hN⟩ := hv
  have hx := B.exec
  have hb := B.bytes
  have hr := B.returns
  have hts := atoms_spec (ws := wsL_areAlike) B.pre
  have hown : s.vm.findClass RL = some m.cls := findClass_of_methodNamed B.named
  have hlocks := B.notSynchronized
  subst hsz
  have hD := hD0.self (sz := s.heap.size)
  generalize hAe : va_A [(h0, .inr (4, [.ref (q 1), .ref (q 10), .ref (q 18), .ref (q 22), .ref (q 26), .int (a 0 2), .int (a 0 1), .int (a 0 5), .int (a 0 6), .int (a 0 7), .int (a 0 8)])), (q 1, .inr (3, [.ref (q 2), .ref (q 3), .ref (q 4), .ref (q 5), .ref (q 6), .ref (q 7), .ref (q 8), .ref (q 9), .int (a 0 0)])), (q 2, .inl (cI, 8, .inl (a 1))), (q 3, .inl (cI, 8, .inl (a 2))), (q 4, .inl (cI, 8, .inl (a 3))), (q 5, .inl (cI, 8, .inl (a 4))), (q 6, .inl (cI, 8, .inl (a 5))), (q 7, .inl (cI, 8, .inl (a 6))), (q 8, .inl (cI, 8, .inl (a 7))), (q 9, .inl (cI, 8, .inl (a 8))), (q 10, .inr (2, [.ref (q 11), .ref (q 12), .ref (q 13), .ref (q 14), .ref (q 15), .ref (q 16), .ref (q 17), .int (a 0 3)])), (q 11, .inl (cI, 100, .inl (a 10))), (q 12, .inl (cF, 100, .inr (.inr (.inl (fun j => shF (a 13 j)))))), (q 13, .inl (cI, 100, .inl (a 14))), (q 14, .inl (cI, 100, .inl (fun j => a 11 j - a 12 j))), (q 15, .inl (cI, 100, .inl (fun j => a 15 j - a 16 j))), (q 16, .inl (cI, 100, .inl (a 17))), (q 17, .inl (cI, 100, .inl (a 18))), (q 18, .inr (1, [.ref (q 19), .ref (q 20), .ref (q 21), .int (a 0 4)])), (q 19, .inl (cI, capOf (nn (a 0 4)), .inl (a 20))), (q 20, .inl (cI, capOf (nn (a 0 4)), .inl (a 19))), (q 21, .inl (cI, capOf (nn (a 0 4)), .inl (a 21))), (q 22, .inr (0, [.ref (q 23), .ref (q 24), .ref (q 25), .int (nI k)])), (q 23, .inl (cI, 8, .inl (jc))), (q 24, .inl (cI, 256, .inl (js))), (q 25, .inl (cI, 256, .inl (jv))), (q 26, .inl (cF, 4, .inr (.inr (.inl (fun j => shF (a 9 j)))))), (h1, .inr (4, [.ref (q2 1), .ref (q2 10), .ref (q2 18), .ref (q2 22), .ref (q2 26), .int (a 0 2), .int (a 0 1), .int (a 0 5), .int (a 0 6), .int (a 0 7), .int (a 0 8)])), (q2 1, .inr (3, [.ref (q2 2), .ref (q2 3), .ref (q2 4), .ref (q2 5), .ref (q2 6), .ref (q2 7), .ref (q2 8), .ref (q2 9), .int (a 0 0)])), (q2 2, .inl (cI, 8, .inl (a 1))), (q2 3, .inl (cI, 8, .inl (a 2))), (q2 4, .inl (cI, 8, .inl (a 3))), (q2 5, .inl (cI, 8, .inl (a 4))), (q2 6, .inl (cI, 8, .inl (a 5))), (q2 7, .inl (cI, 8, .inl (a 6))), (q2 8, .inl (cI, 8, .inl (a 7))), (q2 9, .inl (cI, 8, .inl (a 8))), (q2 10, .inr (2, [.ref (q2 11), .ref (q2 12), .ref (q2 13), .ref (q2 14), .ref (q2 15), .ref (q2 16), .ref (q2 17), .int (a 0 3)])), (q2 11, .inl (cI, 100, .inl (a 10))), (q2 12, .inl (cF, 100, .inr (.inr (.inl (fun j => shF (a 13 j)))))), (q2 13, .inl (cI, 100, .inl (a 14))), (q2 14, .inl (cI, 100, .inl (fun j => a 11 j - a 12 j))), (q2 15, .inl (cI, 100, .inl (fun j => a 15 j - a 16 j))), (q2 16, .inl (cI, 100, .inl (a 17))), (q2 17, .inl (cI, 100, .inl (a 18))), (q2 18, .inr (1, [.ref (q2 19), .ref (q2 20), .ref (q2 21), .int (a 0 4)])), (q2 19, .inl (cI, capOf (nn (a 0 4)), .inl (a 20))), (q2 20, .inl (cI, capOf (nn (a 0 4)), .inl (a 19))), (q2 21, .inl (cI, capOf (nn (a 0 4)), .inl (a 21))), (q2 22, .inr (0, [.ref (q2 23), .ref (q2 24), .ref (q2 25), .int (nI k2)])), (q2 23, .inl (cI, 8, .inl (jc2))), (q2 24, .inl (cI, 256, .inl (js2))), (q2 25, .inl (cI, 256, .inl (jv2))), (q2 26, .inl (cF, 4, .inr (.inr (.inl (fun j => shF (a 9 j))))))] s.heap.size = A at hD hV ⊢
  have hA : ∀ q : Nat, s.heap.size ≤ q → A q := fun q h => by rw [← hAe]; exact Or.inr h
  have hS : va_S A s.heap s.heap [] := va_S.rf
  have hl := lv_entry ([.ref h0, .ref h1]) (n := 5) (Nat.le_of_ble_eq_true rfl)
  rw [lg_entry_eq]
  generalize (lg_sl ([.ref h0, .ref h1]) ++ List.replicate (5 - (lg_sl ([.ref h0, .ref h1])).length) Slot.unset).toArray = ls at hl ⊢
  have hl : lv_has ls 5 [(0, .ref h0), (1, .ref h1)] := hl
  have hP : va_P (dC, dI) vwCl [(h0, .inr (4, [.ref (q 1), .ref (q 10), .ref (q 18), .ref (q 22), .ref (q 26), .int (a 0 2), .int (a 0 1), .int (a 0 5), .int (a 0 6), .int (a 0 7), .int (a 0 8)])), (q 1, .inr (3, [.ref (q 2), .ref (q 3), .ref (q 4), .ref (q 5), .ref (q 6), .ref (q 7), .ref (q 8), .ref (q 9), .int (a 0 0)])), (q 2, .inl (cI, 8, .inl (a 1))), (q 3, .inl (cI, 8, .inl (a 2))), (q 4, .inl (cI, 8, .inl (a 3))), (q 5, .inl (cI, 8, .inl (a 4))), (q 6, .inl (cI, 8, .inl (a 5))), (q 7, .inl (cI, 8, .inl (a 6))), (q 8, .inl (cI, 8, .inl (a 7))), (q 9, .inl (cI, 8, .inl (a 8))), (q 10, .inr (2, [.ref (q 11), .ref (q 12), .ref (q 13), .ref (q 14), .ref (q 15), .ref (q 16), .ref (q 17), .int (a 0 3)])), (q 11, .inl (cI, 100, .inl (a 10))), (q 12, .inl (cF, 100, .inr (.inr (.inl (fun j => shF (a 13 j)))))), (q 13, .inl (cI, 100, .inl (a 14))), (q 14, .inl (cI, 100, .inl (fun j => a 11 j - a 12 j))), (q 15, .inl (cI, 100, .inl (fun j => a 15 j - a 16 j))), (q 16, .inl (cI, 100, .inl (a 17))), (q 17, .inl (cI, 100, .inl (a 18))), (q 18, .inr (1, [.ref (q 19), .ref (q 20), .ref (q 21), .int (a 0 4)])), (q 19, .inl (cI, capOf (nn (a 0 4)), .inl (a 20))), (q 20, .inl (cI, capOf (nn (a 0 4)), .inl (a 19))), (q 21, .inl (cI, capOf (nn (a 0 4)), .inl (a 21))), (q 22, .inr (0, [.ref (q 23), .ref (q 24), .ref (q 25), .int (nI k)])), (q 23, .inl (cI, 8, .inl (jc))), (q 24, .inl (cI, 256, .inl (js))), (q 25, .inl (cI, 256, .inl (jv))), (q 26, .inl (cF, 4, .inr (.inr (.inl (fun j => shF (a 9 j)))))), (h1, .inr (4, [.ref (q2 1), .ref (q2 10), .ref (q2 18), .ref (q2 22), .ref (q2 26), .int (a 0 2), .int (a 0 1), .int (a 0 5), .int (a 0 6), .int (a 0 7), .int (a 0 8)])), (q2 1, .inr (3, [.ref (q2 2), .ref (q2 3), .ref (q2 4), .ref (q2 5), .ref (q2 6), .ref (q2 7), .ref (q2 8), .ref (q2 9), .int (a 0 0)])), (q2 2, .inl (cI, 8, .inl (a 1))), (q2 3, .inl (cI, 8, .inl (a 2))), (q2 4, .inl (cI, 8, .inl (a 3))), (q2 5, .inl (cI, 8, .inl (a 4))), (q2 6, .inl (cI, 8, .inl (a 5))), (q2 7, .inl (cI, 8, .inl (a 6))), (q2 8, .inl (cI, 8, .inl (a 7))), (q2 9, .inl (cI, 8, .inl (a 8))), (q2 10, .inr (2, [.ref (q2 11), .ref (q2 12), .ref (q2 13), .ref (q2 14), .ref (q2 15), .ref (q2 16), .ref (q2 17), .int (a 0 3)])), (q2 11, .inl (cI, 100, .inl (a 10))), (q2 12, .inl (cF, 100, .inr (.inr (.inl (fun j => shF (a 13 j)))))), (q2 13, .inl (cI, 100, .inl (a 14))), (q2 14, .inl (cI, 100, .inl (fun j => a 11 j - a 12 j))), (q2 15, .inl (cI, 100, .inl (fun j => a 15 j - a 16 j))), (q2 16, .inl (cI, 100, .inl (a 17))), (q2 17, .inl (cI, 100, .inl (a 18))), (q2 18, .inr (1, [.ref (q2 19), .ref (q2 20), .ref (q2 21), .int (a 0 4)])), (q2 19, .inl (cI, capOf (nn (a 0 4)), .inl (a 20))), (q2 20, .inl (cI, capOf (nn (a 0 4)), .inl (a 19))), (q2 21, .inl (cI, capOf (nn (a 0 4)), .inl (a 21))), (q2 22, .inr (0, [.ref (q2 23), .ref (q2 24), .ref (q2 25), .int (nI k2)])), (q2 23, .inl (cI, 8, .inl (jc2))), (q2 24, .inl (cI, 256, .inl (js2))), (q2 25, .inl (cI, 256, .inl (jv2))), (q2 26, .inl (cF, 4, .inr (.inr (.inl (fun j => shF (a 9 j))))))] s.heap := hP
  refine y_enter (A := A) hP (fun H hP hS => ?_)
  have hB := okA_B hI.1
  have h8 := (hB 0 0 8 rfl).2
  refine lv_aload_n hx hb dL_areAlike_0 rfl (lv_at hl 0 rfl) ?_
  have hP : va_P (dC, dI) vwCl (WB cI cF h0 q a jc js jv k (capOf (nn (a 0 4))) h1 q2 a jc2 js2 jv2 k2 (capOf (nn (a 0 4)))) H := hP
  have hD : va_D A (WB cI cF h0 q a jc js jv k (capOf (nn (a 0 4))) h1 q2 a jc2 js2 jv2 k2 (capOf (nn (a 0 4)))) := hD
  have hPc := hP.sub (ws' := WC cI cF h0 q a jc js jv k (capOf (nn (a 0 4)))) [0, 1, 2, 3, 4, 5, 6, 7, 8, 9, 10, 11, 12, 13, 14, 15, 16, 17, 18, 19, 20, 21, 22, 23, 24, 25, 26] rfl
  have hDc := hD.sub (ws' := WC cI cF h0 q a jc js jv k (capOf (nn (a 0 4)))) [0, 1, 2, 3, 4, 5, 6, 7, 8, 9, 10, 11, 12, 13, 14, 15, 16, 17, 18, 19, 20, 21, 22, 23, 24, 25, 26] (by decide) rfl
  have hFc := va_free (wc := WC cI cF h0 q a jc js jv k (capOf (nn (a 0 4)))) hD hS hA [0, 1, 2, 3, 4, 5, 6, 7, 8, 9, 10, 11, 12, 13, 14, 15, 16, 17, 18, 19, 20, 21, 22, 23, 24, 25, 26] rfl
  refine va_calli (va_runV (As := []) (rest := []) ⟨hx, hb, hml, hown, hts⟩ (c_X4_today l dC dI cI cF h0 q H.size a jc js jv k hC hB) (cwV 0 hts gL_areAlike_X4_today rfl rfl rfl (by decide +kernel) ⟨Nat.le_of_ble_eq_true rfl, Nat.le_of_ble_eq_true rfl⟩) ⟨pcW_blind, va_recv hK hPc (ci := 4) (q0 := 0) rfl rfl, fun U hU hW => pcW_pre hPc hDc hK hU hW⟩ rfl rfl hl.1 rfl (lv_room (Nat.le_of_ble_eq_true rfl)) dL_areAlike_1 ⟨(by show 0 + 0 ≤ 60; omega), (by show 0 + 0 ≤ 360; omega)⟩) hS (fun q _ h => hFc q h) hFc (fun r u t H1 locs ht hvm hw hB1 hz1 hk1 hS => ?_)
  obtain ⟨qn1, jcn1, jsn1, jvn1, kn1, hCn1, hPy, hKy, hDy⟩ := hB1
  rw [ht] at hPy
  obtain ⟨hP, hD⟩ := va_join (wr := WC cI cF h1 q2 a jc2 js2 jv2 k2 (capOf (nn (a 0 4)))) (w1 := WC cI cF h0 qn1 a jcn1 jsn1 jvn1 kn1 (capOf (nn (a 0 4)))) hP hD [0, 1, 2, 3, 4, 5, 6, 7, 8, 9, 10, 11, 12, 13, 14, 15, 16, 17, 18, 19, 20, 21, 22, 23, 24, 25, 26] [27, 28, 29, 30, 31, 32, 33, 34, 35, 36, 37, 38, 39, 40, 41, 42, 43, 44, 45, 46, 47, 48, 49, 50, 51, 52, 53] rfl rfl (by decide) (by decide) hk1 hFc hPy hDy
  have hP := hP.sub (ws' := WB cI cF h0 qn1 a jcn1 jsn1 jvn1 kn1 (capOf (nn (a 0 4))) h1 q2 a jc2 js2 jv2 k2 (capOf (nn (a 0 4)))) [27, 28, 29, 30, 31, 32, 33, 34, 35, 36, 37, 38, 39, 40, 41, 42, 43, 44, 45, 46, 47, 48, 49, 50, 51, 52, 53, 0, 1, 2, 3, 4, 5, 6, 7, 8, 9, 10, 11, 12, 13, 14, 15, 16, 17, 18, 19, 20, 21, 22, 23, 24, 25, 26] rfl
  have hD := hD.sub (ws' := WB cI cF h0 qn1 a jcn1 jsn1 jvn1 kn1 (capOf (nn (a 0 4))) h1 q2 a jc2 js2 jv2 k2 (capOf (nn (a 0 4)))) [27, 28, 29, 30, 31, 32, 33, 34, 35, 36, 37, 38, 39, 40, 41, 42, 43, 44, 45, 46, 47, 48, 49, 50, 51, 52, 53, 0, 1, 2, 3, 4, 5, 6, 7, 8, 9, 10, 11, 12, 13, 14, 15, 16, 17, 18, 19, 20, 21, 22, 23, 24, 25, 26] (by decide) rfl
  generalize H1 = H at hP hS ⊢
  have hCn1 : okC a jcn1 jsn1 jvn1 kn1 := hCn1
  refine y_topi (y := a 0 1) hw ?_
  refine lv_aload_n hx hb dL_areAlike_4 rfl (lv_at hl 1 rfl) ?_
  have hP : va_P (dC, dI) vwCl (WB cI cF h0 qn1 a jcn1 jsn1 jvn1 kn1 (capOf (nn (a 0 4))) h1 q2 a jc2 js2 jv2 k2 (capOf (nn (a 0 4)))) H := hP
  have hD : va_D A (WB cI cF h0 qn1 a jcn1 jsn1 jvn1 kn1 (capOf (nn (a 0 4))) h1 q2 a jc2 js2 jv2 k2 (capOf (nn (a 0 4)))) := hD
  have hPc := hP.sub (ws' := WC cI cF h1 q2 a jc2 js2 jv2 k2 (capOf (nn (a 0 4)))) [27, 28, 29, 30, 31, 32, 33, 34, 35, 36, 37, 38, 39, 40, 41, 42, 43, 44, 45, 46, 47, 48, 49, 50, 51, 52, 53] rfl
  have hDc := hD.sub (ws' := WC cI cF h1 q2 a jc2 js2 jv2 k2 (capOf (nn (a 0 4)))) [27, 28, 29, 30, 31, 32, 33, 34, 35, 36, 37, 38, 39, 40, 41, 42, 43, 44, 45, 46, 47, 48, 49, 50, 51, 52, 53] (by decide) rfl
  have hFc := va_free (wc := WC cI cF h1 q2 a jc2 js2 jv2 k2 (capOf (nn (a 0 4)))) hD hS hA [27, 28, 29, 30, 31, 32, 33, 34, 35, 36, 37, 38, 39, 40, 41, 42, 43, 44, 45, 46, 47, 48, 49, 50, 51, 52, 53] rfl
  refine va_calli (va_runV (As := []) (rest := [.int (a 0 1)]) ⟨hx, hb, hml, hown, hts⟩ (c_X4_today l dC dI cI cF h1 q2 H.size a jc2 js2 jv2 k2 hC2 hB) (cwV 0 hts gL_areAlike_X4_today rfl rfl rfl (by decide +kernel) ⟨Nat.le_of_ble_eq_true rfl, Nat.le_of_ble_eq_true rfl⟩) ⟨pcW_blind, va_recv hK hPc (ci := 4) (q0 := 0) rfl rfl, fun U hU hW => pcW_pre hPc hDc hK hU hW⟩ rfl rfl hl.1 rfl (lv_room (Nat.le_of_ble_eq_true rfl)) dL_areAlike_5 ⟨(by show 0 + 0 + 0 ≤ 60; omega), (by show 0 + 0 + 0 ≤ 360; omega)⟩) hS (fun q _ h => hFc q h) hFc (fun r u t H1 locs ht hvm hw hB1 hz1 hk1 hS => ?_)
  obtain ⟨qn2, jcn2, jsn2, jvn2, kn2, hCn2, hPy, hKy, hDy⟩ := hB1
  rw [ht] at hPy
  obtain ⟨hP, hD⟩ := va_join (wr := WC cI cF h0 qn1 a jcn1 jsn1 jvn1 kn1 (capOf (nn (a 0 4)))) (w1 := WC cI cF h1 qn2 a jcn2 jsn2 jvn2 kn2 (capOf (nn (a 0 4)))) hP hD [27, 28, 29, 30, 31, 32, 33, 34, 35, 36, 37, 38, 39, 40, 41, 42, 43, 44, 45, 46, 47, 48, 49, 50, 51, 52, 53] [0, 1, 2, 3, 4, 5, 6, 7, 8, 9, 10, 11, 12, 13, 14, 15, 16, 17, 18, 19, 20, 21, 22, 23, 24, 25, 26] rfl rfl (by decide) (by decide) hk1 hFc hPy hDy
  have hP := hP.sub (ws' := WB cI cF h0 qn1 a jcn1 jsn1 jvn1 kn1 (capOf (nn (a 0 4))) h1 qn2 a jcn2 jsn2 jvn2 kn2 (capOf (nn (a 0 4)))) [0, 1, 2, 3, 4, 5, 6, 7, 8, 9, 10, 11, 12, 13, 14, 15, 16, 17, 18, 19, 20, 21, 22, 23, 24, 25, 26, 27, 28, 29, 30, 31, 32, 33, 34, 35, 36, 37, 38, 39, 40, 41, 42, 43, 44, 45, 46, 47, 48, 49, 50, 51, 52, 53] rfl
  have hD := hD.sub (ws' := WB cI cF h0 qn1 a jcn1 jsn1 jvn1 kn1 (capOf (nn (a 0 4))) h1 qn2 a jcn2 jsn2 jvn2 kn2 (capOf (nn (a 0 4)))) [0, 1, 2, 3, 4, 5, 6, 7, 8, 9, 10, 11, 12, 13, 14, 15, 16, 17, 18, 19, 20, 21, 22, 23, 24, 25, 26, 27, 28, 29, 30, 31, 32, 33, 34, 35, 36, 37, 38, 39, 40, 41, 42, 43, 44, 45, 46, 47, 48, 49, 50, 51, 52, 53] (by decide) rfl
  generalize H1 = H at hP hS ⊢
  have hCn2 : okC a jcn2 jsn2 jvn2 kn2 := hCn2
  refine y_topi (y := a 0 1) hw ?_
  refine lv_icmp_ne (tgt := 70) hx hb dL_areAlike_8 (by decide) (fun c_3 => ?_) (fun c_3 => ?_)
  · exact absurd rfl c_3
  · refine lv_aload_n hx hb dL_areAlike_11 rfl (lv_at hl 0 rfl) ?_
    have hP : va_P (dC, dI) vwCl (WB cI cF h0 qn1 a jcn1 jsn1 jvn1 kn1 (capOf (nn (a 0 4))) h1 qn2 a jcn2 jsn2 jvn2 kn2 (capOf (nn (a 0 4)))) H := hP
    have hD : va_D A (WB cI cF h0 qn1 a jcn1 jsn1 jvn1 kn1 (capOf (nn (a 0 4))) h1 qn2 a jcn2 jsn2 jvn2 kn2 (capOf (nn (a 0 4)))) := hD
    have hPc := hP.sub (ws' := WC cI cF h0 qn1 a jcn1 jsn1 jvn1 kn1 (capOf (nn (a 0 4)))) [0, 1, 2, 3, 4, 5, 6, 7, 8, 9, 10, 11, 12, 13, 14, 15, 16, 17, 18, 19, 20, 21, 22, 23, 24, 25, 26] rfl
    have hDc := hD.sub (ws' := WC cI cF h0 qn1 a jcn1 jsn1 jvn1 kn1 (capOf (nn (a 0 4)))) [0, 1, 2, 3, 4, 5, 6, 7, 8, 9, 10, 11, 12, 13, 14, 15, 16, 17, 18, 19, 20, 21, 22, 23, 24, 25, 26] (by decide) rfl
    have hFc := va_free (wc := WC cI cF h0 qn1 a jcn1 jsn1 jvn1 kn1 (capOf (nn (a 0 4)))) hD hS hA [0, 1, 2, 3, 4, 5, 6, 7, 8, 9, 10, 11, 12, 13, 14, 15, 16, 17, 18, 19, 20, 21, 22, 23, 24, 25, 26] rfl
    refine va_calli (va_runV (As := []) (rest := []) ⟨hx, hb, hml, hown, hts⟩ (c_X4_payouts l dC dI cI cF h0 qn1 H.size a jcn1 jsn1 jvn1 kn1 hCn1 hB) (cwV 0 hts gL_areAlike_X4_payouts rfl rfl rfl (by decide +kernel) ⟨Nat.le_of_ble_eq_true rfl, Nat.le_of_ble_eq_true rfl⟩) ⟨pcW_blind, va_recv hK hPc (ci := 4) (q0 := 0) rfl rfl, fun U hU hW => pcW_pre hPc hDc hK hU hW⟩ rfl rfl hl.1 rfl (lv_room (Nat.le_of_ble_eq_true rfl)) dL_areAlike_12 ⟨(by show 0 + 0 + 0 + 0 ≤ 60; omega), (by show 0 + 0 + 0 + 0 ≤ 360; omega)⟩) hS (fun q _ h => hFc q h) hFc (fun r u t H1 locs ht hvm hw hB1 hz1 hk1 hS => ?_)
    obtain ⟨qn4, jcn4, jsn4, jvn4, kn4, hCn4, hPy, hKy, hDy⟩ := hB1
    rw [ht] at hPy
    obtain ⟨hP, hD⟩ := va_join (wr := WC cI cF h1 qn2 a jcn2 jsn2 jvn2 kn2 (capOf (nn (a 0 4)))) (w1 := WC cI cF h0 qn4 a jcn4 jsn4 jvn4 kn4 (capOf (nn (a 0 4)))) hP hD [0, 1, 2, 3, 4, 5, 6, 7, 8, 9, 10, 11, 12, 13, 14, 15, 16, 17, 18, 19, 20, 21, 22, 23, 24, 25, 26] [27, 28, 29, 30, 31, 32, 33, 34, 35, 36, 37, 38, 39, 40, 41, 42, 43, 44, 45, 46, 47, 48, 49, 50, 51, 52, 53] rfl rfl (by decide) (by decide) hk1 hFc hPy hDy
    have hP := hP.sub (ws' := WB cI cF h0 qn4 a jcn4 jsn4 jvn4 kn4 (capOf (nn (a 0 4))) h1 qn2 a jcn2 jsn2 jvn2 kn2 (capOf (nn (a 0 4)))) [27, 28, 29, 30, 31, 32, 33, 34, 35, 36, 37, 38, 39, 40, 41, 42, 43, 44, 45, 46, 47, 48, 49, 50, 51, 52, 53, 0, 1, 2, 3, 4, 5, 6, 7, 8, 9, 10, 11, 12, 13, 14, 15, 16, 17, 18, 19, 20, 21, 22, 23, 24, 25, 26] rfl
    have hD := hD.sub (ws' := WB cI cF h0 qn4 a jcn4 jsn4 jvn4 kn4 (capOf (nn (a 0 4))) h1 qn2 a jcn2 jsn2 jvn2 kn2 (capOf (nn (a 0 4)))) [27, 28, 29, 30, 31, 32, 33, 34, 35, 36, 37, 38, 39, 40, 41, 42, 43, 44, 45, 46, 47, 48, 49, 50, 51, 52, 53, 0, 1, 2, 3, 4, 5, 6, 7, 8, 9, 10, 11, 12, 13, 14, 15, 16, 17, 18, 19, 20, 21, 22, 23, 24, 25, 26] (by decide) rfl
    generalize H1 = H at hP hS ⊢
    have hCn4 : okC a jcn4 jsn4 jvn4 kn4 := hCn4
    refine y_topi (y := a 0 4) hw ?_
    refine lv_aload_n hx hb dL_areAlike_15 rfl (lv_at hl 1 rfl) ?_
    have hP : va_P (dC, dI) vwCl (WB cI cF h0 qn4 a jcn4 jsn4 jvn4 kn4 (capOf (nn (a 0 4))) h1 qn2 a jcn2 jsn2 jvn2 kn2 (capOf (nn (a 0 4)))) H := hP
    have hD : va_D A (WB cI cF h0 qn4 a jcn4 jsn4 jvn4 kn4 (capOf (nn (a 0 4))) h1 qn2 a jcn2 jsn2 jvn2 kn2 (capOf (nn (a 0 4)))) := hD
    have hPc := hP.sub (ws' := WC cI cF h1 qn2 a jcn2 jsn2 jvn2 kn2 (capOf (nn (a 0 4)))) [27, 28, 29, 30, 31, 32, 33, 34, 35, 36, 37, 38, 39, 40, 41, 42, 43, 44, 45, 46, 47, 48, 49, 50, 51, 52, 53] rfl
    have hDc := hD.sub (ws' := WC cI cF h1 qn2 a jcn2 jsn2 jvn2 kn2 (capOf (nn (a 0 4)))) [27, 28, 29, 30, 31, 32, 33, 34, 35, 36, 37, 38, 39, 40, 41, 42, 43, 44, 45, 46, 47, 48, 49, 50, 51, 52, 53] (by decide) rfl
    have hFc := va_free (wc := WC cI cF h1 qn2 a jcn2 jsn2 jvn2 kn2 (capOf (nn (a 0 4)))) hD hS hA [27, 28, 29, 30, 31, 32, 33, 34, 35, 36, 37, 38, 39, 40, 41, 42, 43, 44, 45, 46, 47, 48, 49, 50, 51, 52, 53] rfl
    refine va_calli (va_runV (As := []) (rest := [.int (a 0 4)]) ⟨hx, hb, hml, hown, hts⟩ (c_X4_payouts l dC dI cI cF h1 qn2 H.size a jcn2 jsn2 jvn2 kn2 hCn2 hB) (cwV 0 hts gL_areAlike_X4_payouts rfl rfl rfl (by decide +kernel) ⟨Nat.le_of_ble_eq_true rfl, Nat.le_of_ble_eq_true rfl⟩) ⟨pcW_blind, va_recv hK hPc (ci := 4) (q0 := 0) rfl rfl, fun U hU hW => pcW_pre hPc hDc hK hU hW⟩ rfl rfl hl.1 rfl (lv_room (Nat.le_of_ble_eq_true rfl)) dL_areAlike_16 ⟨(by show 0 + 0 + 0 + 0 + 0 ≤ 60; omega), (by show 0 + 0 + 0 + 0 + 0 ≤ 360; omega)⟩) hS (fun q _ h => hFc q h) hFc (fun r u t H1 locs ht hvm hw hB1 hz1 hk1 hS => ?_)
    obtain ⟨qn5, jcn5, jsn5, jvn5, kn5, hCn5, hPy, hKy, hDy⟩ := hB1
    rw [ht] at hPy
    obtain ⟨hP, hD⟩ := va_join (wr := WC cI cF h0 qn4 a jcn4 jsn4 jvn4 kn4 (capOf (nn (a 0 4)))) (w1 := WC cI cF h1 qn5 a jcn5 jsn5 jvn5 kn5 (capOf (nn (a 0 4)))) hP hD [27, 28, 29, 30, 31, 32, 33, 34, 35, 36, 37, 38, 39, 40, 41, 42, 43, 44, 45, 46, 47, 48, 49, 50, 51, 52, 53] [0, 1, 2, 3, 4, 5, 6, 7, 8, 9, 10, 11, 12, 13, 14, 15, 16, 17, 18, 19, 20, 21, 22, 23, 24, 25, 26] rfl rfl (by decide) (by decide) hk1 hFc hPy hDy
    have hP := hP.sub (ws' := WB cI cF h0 qn4 a jcn4 jsn4 jvn4 kn4 (capOf (nn (a 0 4))) h1 qn5 a jcn5 jsn5 jvn5 kn5 (capOf (nn (a 0 4)))) [0, 1, 2, 3, 4, 5, 6, 7, 8, 9, 10, 11, 12, 13, 14, 15, 16, 17, 18, 19, 20, 21, 22, 23, 24, 25, 26, 27, 28, 29, 30, 31, 32, 33, 34, 35, 36, 37, 38, 39, 40, 41, 42, 43, 44, 45, 46, 47, 48, 49, 50, 51, 52, 53] rfl
    have hD := hD.sub (ws' := WB cI cF h0 qn4 a jcn4 jsn4 jvn4 kn4 (capOf (nn (a 0 4))) h1 qn5 a jcn5 jsn5 jvn5 kn5 (capOf (nn (a 0 4)))) [0, 1, 2, 3, 4, 5, 6, 7, 8, 9, 10, 11, 12, 13, 14, 15, 16, 17, 18, 19, 20, 21, 22, 23, 24, 25, 26, 27, 28, 29, 30, 31, 32, 33, 34, 35, 36, 37, 38, 39, 40, 41, 42, 43, 44, 45, 46, 47, 48, 49, 50, 51, 52, 53] (by decide) rfl
    generalize H1 = H at hP hS ⊢
    have hCn5 : okC a jcn5 jsn5 jvn5 kn5 := hCn5
    refine y_topi (y := a 0 4) hw ?_
    refine lv_icmp_ne (tgt := 70) hx hb dL_areAlike_19 (by decide) (fun c_6 => ?_) (fun c_6 => ?_)
    · exact absurd rfl c_6
    · refine lv_aload_n hx hb dL_areAlike_22 rfl (lv_at hl 0 rfl) ?_
      have hP : va_P (dC, dI) vwCl (WB cI cF h0 qn4 a jcn4 jsn4 jvn4 kn4 (capOf (nn (a 0 4))) h1 qn5 a jcn5 jsn5 jvn5 kn5 (capOf (nn (a 0 4)))) H := hP
      have hD : va_D A (WB cI cF h0 qn4 a jcn4 jsn4 jvn4 kn4 (capOf (nn (a 0 4))) h1 qn5 a jcn5 jsn5 jvn5 kn5 (capOf (nn (a 0 4)))) := hD
      have hPc := hP.sub (ws' := WC cI cF h0 qn4 a jcn4 jsn4 jvn4 kn4 (capOf (nn (a 0 4)))) [0, 1, 2, 3, 4, 5, 6, 7, 8, 9, 10, 11, 12, 13, 14, 15, 16, 17, 18, 19, 20, 21, 22, 23, 24, 25, 26] rfl
      have hDc := hD.sub (ws' := WC cI cF h0 qn4 a jcn4 jsn4 jvn4 kn4 (capOf (nn (a 0 4)))) [0, 1, 2, 3, 4, 5, 6, 7, 8, 9, 10, 11, 12, 13, 14, 15, 16, 17, 18, 19, 20, 21, 22, 23, 24, 25, 26] (by decide) rfl
      have hFc := va_free (wc := WC cI cF h0 qn4 a jcn4 jsn4 jvn4 kn4 (capOf (nn (a 0 4)))) hD hS hA [0, 1, 2, 3, 4, 5, 6, 7, 8, 9, 10, 11, 12, 13, 14, 15, 16, 17, 18, 19, 20, 21, 22, 23, 24, 25, 26] rfl
      refine va_calli (va_runV (As := []) (rest := []) ⟨hx, hb, hml, hown, hts⟩ (c_X4_received l dC dI cI cF h0 qn4 H.size a jcn4 jsn4 jvn4 kn4 hCn4 hB) (cwV 0 hts gL_areAlike_X4_received rfl rfl rfl (by decide +kernel) ⟨Nat.le_of_ble_eq_true rfl, Nat.le_of_ble_eq_true rfl⟩) ⟨pcW_blind, va_recv hK hPc (ci := 4) (q0 := 0) rfl rfl, fun U hU hW => pcW_pre hPc hDc hK hU hW⟩ rfl rfl hl.1 rfl (lv_room (Nat.le_of_ble_eq_true rfl)) dL_areAlike_23 ⟨(by show 0 + 0 + 0 + 0 + 0 + 0 ≤ 60; omega), (by show 0 + 0 + 0 + 0 + 0 + 0 ≤ 360; omega)⟩) hS (fun q _ h => hFc q h) hFc (fun r u t H1 locs ht hvm hw hB1 hz1 hk1 hS => ?_)
      obtain ⟨qn7, jcn7, jsn7, jvn7, kn7, hCn7, hPy, hKy, hDy⟩ := hB1
      rw [ht] at hPy
      obtain ⟨hP, hD⟩ := va_join (wr := WC cI cF h1 qn5 a jcn5 jsn5 jvn5 kn5 (capOf (nn (a 0 4)))) (w1 := WC cI cF h0 qn7 a jcn7 jsn7 jvn7 kn7 (capOf (nn (a 0 4)))) hP hD [0, 1, 2, 3, 4, 5, 6, 7, 8, 9, 10, 11, 12, 13, 14, 15, 16, 17, 18, 19, 20, 21, 22, 23, 24, 25, 26] [27, 28, 29, 30, 31, 32, 33, 34, 35, 36, 37, 38, 39, 40, 41, 42, 43, 44, 45, 46, 47, 48, 49, 50, 51, 52, 53] rfl rfl (by decide) (by decide) hk1 hFc hPy hDy
      have hP := hP.sub (ws' := WB cI cF h0 qn7 a jcn7 jsn7 jvn7 kn7 (capOf (nn (a 0 4))) h1 qn5 a jcn5 jsn5 jvn5 kn5 (capOf (nn (a 0 4)))) [27, 28, 29, 30, 31, 32, 33, 34, 35, 36, 37, 38, 39, 40, 41, 42, 43, 44, 45, 46, 47, 48, 49, 50, 51, 52, 53, 0, 1, 2, 3, 4, 5, 6, 7, 8, 9, 10, 11, 12, 13, 14, 15, 16, 17, 18, 19, 20, 21, 22, 23, 24, 25, 26] rfl
      have hD := hD.sub (ws' := WB cI cF h0 qn7 a jcn7 jsn7 jvn7 kn7 (capOf (nn (a 0 4))) h1 qn5 a jcn5 jsn5 jvn5 kn5 (capOf (nn (a 0 4)))) [27, 28, 29, 30, 31, 32, 33, 34, 35, 36, 37, 38, 39, 40, 41, 42, 43, 44, 45, 46, 47, 48, 49, 50, 51, 52, 53, 0, 1, 2, 3, 4, 5, 6, 7, 8, 9, 10, 11, 12, 13, 14, 15, 16, 17, 18, 19, 20, 21, 22, 23, 24, 25, 26] (by decide) rfl
      generalize H1 = H at hP hS ⊢
      have hCn7 : okC a jcn7 jsn7 jvn7 kn7 := hCn7
      refine y_topi (y := a 0 5) hw ?_
      refine lv_aload_n hx hb dL_areAlike_26 rfl (lv_at hl 1 rfl) ?_
      have hP : va_P (dC, dI) vwCl (WB cI cF h0 qn7 a jcn7 jsn7 jvn7 kn7 (capOf (nn (a 0 4))) h1 qn5 a jcn5 jsn5 jvn5 kn5 (capOf (nn (a 0 4)))) H := hP
      have hD : va_D A (WB cI cF h0 qn7 a jcn7 jsn7 jvn7 kn7 (capOf (nn (a 0 4))) h1 qn5 a jcn5 jsn5 jvn5 kn5 (capOf (nn (a 0 4)))) := hD
      have hPc := hP.sub (ws' := WC cI cF h1 qn5 a jcn5 jsn5 jvn5 kn5 (capOf (nn (a 0 4)))) [27, 28, 29, 30, 31, 32, 33, 34, 35, 36, 37, 38, 39, 40, 41, 42, 43, 44, 45, 46, 47, 48, 49, 50, 51, 52, 53] rfl
      have hDc := hD.sub (ws' := WC cI cF h1 qn5 a jcn5 jsn5 jvn5 kn5 (capOf (nn (a 0 4)))) [27, 28, 29, 30, 31, 32, 33, 34, 35, 36, 37, 38, 39, 40, 41, 42, 43, 44, 45, 46, 47, 48, 49, 50, 51, 52, 53] (by decide) rfl
      have hFc := va_free (wc := WC cI cF h1 qn5 a jcn5 jsn5 jvn5 kn5 (capOf (nn (a 0 4)))) hD hS hA [27, 28, 29, 30, 31, 32, 33, 34, 35, 36, 37, 38, 39, 40, 41, 42, 43, 44, 45, 46, 47, 48, 49, 50, 51, 52, 53] rfl
      refine va_calli (va_runV (As := []) (rest := [.int (a 0 5)]) ⟨hx, hb, hml, hown, hts⟩ (c_X4_received l dC dI cI cF h1 qn5 H.size a jcn5 jsn5 jvn5 kn5 hCn5 hB) (cwV 0 hts gL_areAlike_X4_received rfl rfl rfl (by decide +kernel) ⟨Nat.le_of_ble_eq_true rfl, Nat.le_of_ble_eq_true rfl⟩) ⟨pcW_blind, va_recv hK hPc (ci := 4) (q0 := 0) rfl rfl, fun U hU hW => pcW_pre hPc hDc hK hU hW⟩ rfl rfl hl.1 rfl (lv_room (Nat.le_of_ble_eq_true rfl)) dL_areAlike_27 ⟨(by show 0 + 0 + 0 + 0 + 0 + 0 + 0 ≤ 60; omega), (by show 0 + 0 + 0 + 0 + 0 + 0 + 0 ≤ 360; omega)⟩) hS (fun q _ h => hFc q h) hFc (fun r u t H1 locs ht hvm hw hB1 hz1 hk1 hS => ?_)
      obtain ⟨qn8, jcn8, jsn8, jvn8, kn8, hCn8, hPy, hKy, hDy⟩ := hB1
      rw [ht] at hPy
      obtain ⟨hP, hD⟩ := va_join (wr := WC cI cF h0 qn7 a jcn7 jsn7 jvn7 kn7 (capOf (nn (a 0 4)))) (w1 := WC cI cF h1 qn8 a jcn8 jsn8 jvn8 kn8 (capOf (nn (a 0 4)))) hP hD [27, 28, 29, 30, 31, 32, 33, 34, 35, 36, 37, 38, 39, 40, 41, 42, 43, 44, 45, 46, 47, 48, 49, 50, 51, 52, 53] [0, 1, 2, 3, 4, 5, 6, 7, 8, 9, 10, 11, 12, 13, 14, 15, 16, 17, 18, 19, 20, 21, 22, 23, 24, 25, 26] rfl rfl (by decide) (by decide) hk1 hFc hPy hDy
      have hP := hP.sub (ws' := WB cI cF h0 qn7 a jcn7 jsn7 jvn7 kn7 (capOf (nn (a 0 4))) h1 qn8 a jcn8 jsn8 jvn8 kn8 (capOf (nn (a 0 4)))) [0, 1, 2, 3, 4, 5, 6, 7, 8, 9, 10, 11, 12, 13, 14, 15, 16, 17, 18, 19, 20, 21, 22, 23, 24, 25, 26, 27, 28, 29, 30, 31, 32, 33, 34, 35, 36, 37, 38, 39, 40, 41, 42, 43, 44, 45, 46, 47, 48, 49, 50, 51, 52, 53] rfl
      have hD := hD.sub (ws' := WB cI cF h0 qn7 a jcn7 jsn7 jvn7 kn7 (capOf (nn (a 0 4))) h1 qn8 a jcn8 jsn8 jvn8 kn8 (capOf (nn (a 0 4)))) [0, 1, 2, 3, 4, 5, 6, 7, 8, 9, 10, 11, 12, 13, 14, 15, 16, 17, 18, 19, 20, 21, 22, 23, 24, 25, 26, 27, 28, 29, 30, 31, 32, 33, 34, 35, 36, 37, 38, 39, 40, 41, 42, 43, 44, 45, 46, 47, 48, 49, 50, 51, 52, 53] (by decide) rfl
      generalize H1 = H at hP hS ⊢
      have hCn8 : okC a jcn8 jsn8 jvn8 kn8 := hCn8
      refine y_topi (y := a 0 5) hw ?_
      refine lv_icmp_ne (tgt := 70) hx hb dL_areAlike_30 (by decide) (fun c_9 => ?_) (fun c_9 => ?_)
      · exact absurd rfl c_9
      · refine lv_aload_n hx hb dL_areAlike_33 rfl (lv_at hl 0 rfl) ?_
        have hP : va_P (dC, dI) vwCl (WB cI cF h0 qn7 a jcn7 jsn7 jvn7 kn7 (capOf (nn (a 0 4))) h1 qn8 a jcn8 jsn8 jvn8 kn8 (capOf (nn (a 0 4)))) H := hP
        have hD : va_D A (WB cI cF h0 qn7 a jcn7 jsn7 jvn7 kn7 (capOf (nn (a 0 4))) h1 qn8 a jcn8 jsn8 jvn8 kn8 (capOf (nn (a 0 4)))) := hD
        have hPc := hP.sub (ws' := WC cI cF h0 qn7 a jcn7 jsn7 jvn7 kn7 (capOf (nn (a 0 4)))) [0, 1, 2, 3, 4, 5, 6, 7, 8, 9, 10, 11, 12, 13, 14, 15, 16, 17, 18, 19, 20, 21, 22, 23, 24, 25, 26] rfl
        have hDc := hD.sub (ws' := WC cI cF h0 qn7 a jcn7 jsn7 jvn7 kn7 (capOf (nn (a 0 4)))) [0, 1, 2, 3, 4, 5, 6, 7, 8, 9, 10, 11, 12, 13, 14, 15, 16, 17, 18, 19, 20, 21, 22, 23, 24, 25, 26] (by decide) rfl
        have hFc := va_free (wc := WC cI cF h0 qn7 a jcn7 jsn7 jvn7 kn7 (capOf (nn (a 0 4)))) hD hS hA [0, 1, 2, 3, 4, 5, 6, 7, 8, 9, 10, 11, 12, 13, 14, 15, 16, 17, 18, 19, 20, 21, 22, 23, 24, 25, 26] rfl
        refine va_calli (va_runV (As := []) (rest := []) ⟨hx, hb, hml, hown, hts⟩ (c_X4_refunded l dC dI cI cF h0 qn7 H.size a jcn7 jsn7 jvn7 kn7 hCn7 hB) (cwV 0 hts gL_areAlike_X4_refunded rfl rfl rfl (by decide +kernel) ⟨Nat.le_of_ble_eq_true rfl, Nat.le_of_ble_eq_true rfl⟩) ⟨pcW_blind, va_recv hK hPc (ci := 4) (q0 := 0) rfl rfl, fun U hU hW => pcW_pre hPc hDc hK hU hW⟩ rfl rfl hl.1 rfl (lv_room (Nat.le_of_ble_eq_true rfl)) dL_areAlike_34 ⟨(by show 0 + 0 + 0 + 0 + 0 + 0 + 0 + 0 ≤ 60; omega), (by show 0 + 0 + 0 + 0 + 0 + 0 + 0 + 0 ≤ 360; omega)⟩) hS (fun q _ h => hFc q h) hFc (fun r u t H1 locs ht hvm hw hB1 hz1 hk1 hS => ?_)
        obtain ⟨qn10, jcn10, jsn10, jvn10, kn10, hCn10, hPy, hKy, hDy⟩ := hB1
        rw [ht] at hPy
        obtain ⟨hP, hD⟩ := va_join (wr := WC cI cF h1 qn8 a jcn8 jsn8 jvn8 kn8 (capOf (nn (a 0 4)))) (w1 := WC cI cF h0 qn10 a jcn10 jsn10 jvn10 kn10 (capOf (nn (a 0 4)))) hP hD [0, 1, 2, 3, 4, 5, 6, 7, 8, 9, 10, 11, 12, 13, 14, 15, 16, 17, 18, 19, 20, 21, 22, 23, 24, 25, 26] [27, 28, 29, 30, 31, 32, 33, 34, 35, 36, 37, 38, 39, 40, 41, 42, 43, 44, 45, 46, 47, 48, 49, 50, 51, 52, 53] rfl rfl (by decide) (by decide) hk1 hFc hPy hDy
        have hP := hP.sub (ws' := WB cI cF h0 qn10 a jcn10 jsn10 jvn10 kn10 (capOf (nn (a 0 4))) h1 qn8 a jcn8 jsn8 jvn8 kn8 (capOf (nn (a 0 4)))) [27, 28, 29, 30, 31, 32, 33, 34, 35, 36, 37, 38, 39, 40, 41, 42, 43, 44, 45, 46, 47, 48, 49, 50, 51, 52, 53, 0, 1, 2, 3, 4, 5, 6, 7, 8, 9, 10, 11, 12, 13, 14, 15, 16, 17, 18, 19, 20, 21, 22, 23, 24, 25, 26] rfl
        have hD := hD.sub (ws' := WB cI cF h0 qn10 a jcn10 jsn10 jvn10 kn10 (capOf (nn (a 0 4))) h1 qn8 a jcn8 jsn8 jvn8 kn8 (capOf (nn (a 0 4)))) [27, 28, 29, 30, 31, 32, 33, 34, 35, 36, 37, 38, 39, 40, 41, 42, 43, 44, 45, 46, 47, 48, 49, 50, 51, 52, 53, 0, 1, 2, 3, 4, 5, 6, 7, 8, 9, 10, 11, 12, 13, 14, 15, 16, 17, 18, 19, 20, 21, 22, 23, 24, 25, 26] (by decide) rfl
        generalize H1 = H at hP hS ⊢
        have hCn10 : okC a jcn10 jsn10 jvn10 kn10 := hCn10
        refine y_topi (y := a 0 6) hw ?_
        refine lv_aload_n hx hb dL_areAlike_37 rfl (lv_at hl 1 rfl) ?_
        have hP : va_P (dC, dI) vwCl (WB cI cF h0 qn10 a jcn10 jsn10 jvn10 kn10 (capOf (nn (a 0 4))) h1 qn8 a jcn8 jsn8 jvn8 kn8 (capOf (nn (a 0 4)))) H := hP
        have hD : va_D A (WB cI cF h0 qn10 a jcn10 jsn10 jvn10 kn10 (capOf (nn (a 0 4))) h1 qn8 a jcn8 jsn8 jvn8 kn8 (capOf (nn (a 0 4)))) := hD
        have hPc := hP.sub (ws' := WC cI cF h1 qn8 a jcn8 jsn8 jvn8 kn8 (capOf (nn (a 0 4)))) [27, 28, 29, 30, 31, 32, 33, 34, 35, 36, 37, 38, 39, 40, 41, 42, 43, 44, 45, 46, 47, 48, 49, 50, 51, 52, 53] rfl
        have hDc := hD.sub (ws' := WC cI cF h1 qn8 a jcn8 jsn8 jvn8 kn8 (capOf (nn (a 0 4)))) [27, 28, 29, 30, 31, 32, 33, 34, 35, 36, 37, 38, 39, 40, 41, 42, 43, 44, 45, 46, 47, 48, 49, 50, 51, 52, 53] (by decide) rfl
        have hFc := va_free (wc := WC cI cF h1 qn8 a jcn8 jsn8 jvn8 kn8 (capOf (nn (a 0 4)))) hD hS hA [27, 28, 29, 30, 31, 32, 33, 34, 35, 36, 37, 38, 39, 40, 41, 42, 43, 44, 45, 46, 47, 48, 49, 50, 51, 52, 53] rfl
        refine va_calli (va_runV (As := []) (rest := [.int (a 0 6)]) ⟨hx, hb, hml, hown, hts⟩ (c_X4_refunded l dC dI cI cF h1 qn8 H.size a jcn8 jsn8 jvn8 kn8 hCn8 hB) (cwV 0 hts gL_areAlike_X4_refunded rfl rfl rfl (by decide +kernel) ⟨Nat.le_of_ble_eq_true rfl, Nat.le_of_ble_eq_true rfl⟩) ⟨pcW_blind, va_recv hK hPc (ci := 4) (q0 := 0) rfl rfl, fun U hU hW => pcW_pre hPc hDc hK hU hW⟩ rfl rfl hl.1 rfl (lv_room (Nat.le_of_ble_eq_true rfl)) dL_areAlike_38 ⟨(by show 0 + 0 + 0 + 0 + 0 + 0 + 0 + 0 + 0 ≤ 60; omega), (by show 0 + 0 + 0 + 0 + 0 + 0 + 0 + 0 + 0 ≤ 360; omega)⟩) hS (fun q _ h => hFc q h) hFc (fun r u t H1 locs ht hvm hw hB1 hz1 hk1 hS => ?_)
        obtain ⟨qn11, jcn11, jsn11, jvn11, kn11, hCn11, hPy, hKy, hDy⟩ := hB1
        rw [ht] at hPy
        obtain ⟨hP, hD⟩ := va_join (wr := WC cI cF h0 qn10 a jcn10 jsn10 jvn10 kn10 (capOf (nn (a 0 4)))) (w1 := WC cI cF h1 qn11 a jcn11 jsn11 jvn11 kn11 (capOf (nn (a 0 4)))) hP hD [27, 28, 29, 30, 31, 32, 33, 34, 35, 36, 37, 38, 39, 40, 41, 42, 43, 44, 45, 46, 47, 48, 49, 50, 51, 52, 53] [0, 1, 2, 3, 4, 5, 6, 7, 8, 9, 10, 11, 12, 13, 14, 15, 16, 17, 18, 19, 20, 21, 22, 23, 24, 25, 26] rfl rfl (by decide) (by decide) hk1 hFc hPy hDy
        have hP := hP.sub (ws' := WB cI cF h0 qn10 a jcn10 jsn10 jvn10 kn10 (capOf (nn (a 0 4))) h1 qn11 a jcn11 jsn11 jvn11 kn11 (capOf (nn (a 0 4)))) [0, 1, 2, 3, 4, 5, 6, 7, 8, 9, 10, 11, 12, 13, 14, 15, 16, 17, 18, 19, 20, 21, 22, 23, 24, 25, 26, 27, 28, 29, 30, 31, 32, 33, 34, 35, 36, 37, 38, 39, 40, 41, 42, 43, 44, 45, 46, 47, 48, 49, 50, 51, 52, 53] rfl
        have hD := hD.sub (ws' := WB cI cF h0 qn10 a jcn10 jsn10 jvn10 kn10 (capOf (nn (a 0 4))) h1 qn11 a jcn11 jsn11 jvn11 kn11 (capOf (nn (a 0 4)))) [0, 1, 2, 3, 4, 5, 6, 7, 8, 9, 10, 11, 12, 13, 14, 15, 16, 17, 18, 19, 20, 21, 22, 23, 24, 25, 26, 27, 28, 29, 30, 31, 32, 33, 34, 35, 36, 37, 38, 39, 40, 41, 42, 43, 44, 45, 46, 47, 48, 49, 50, 51, 52, 53] (by decide) rfl
        generalize H1 = H at hP hS ⊢
        have hCn11 : okC a jcn11 jsn11 jvn11 kn11 := hCn11
        refine y_topi (y := a 0 6) hw ?_
        refine lv_icmp_ne (tgt := 70) hx hb dL_areAlike_41 (by decide) (fun c_12 => ?_) (fun c_12 => ?_)
        · exact absurd rfl c_12
        · refine lv_aload_n hx hb dL_areAlike_44 rfl (lv_at hl 0 rfl) ?_
          have hP : va_P (dC, dI) vwCl (WB cI cF h0 qn10 a jcn10 jsn10 jvn10 kn10 (capOf (nn (a 0 4))) h1 qn11 a jcn11 jsn11 jvn11 kn11 (capOf (nn (a 0 4)))) H := hP
          have hD : va_D A (WB cI cF h0 qn10 a jcn10 jsn10 jvn10 kn10 (capOf (nn (a 0 4))) h1 qn11 a jcn11 jsn11 jvn11 kn11 (capOf (nn (a 0 4)))) := hD
          have hPc := hP.sub (ws' := WC cI cF h0 qn10 a jcn10 jsn10 jvn10 kn10 (capOf (nn (a 0 4)))) [0, 1, 2, 3, 4, 5, 6, 7, 8, 9, 10, 11, 12, 13, 14, 15, 16, 17, 18, 19, 20, 21, 22, 23, 24, 25, 26] rfl
          have hDc := hD.sub (ws' := WC cI cF h0 qn10 a jcn10 jsn10 jvn10 kn10 (capOf (nn (a 0 4)))) [0, 1, 2, 3, 4, 5, 6, 7, 8, 9, 10, 11, 12, 13, 14, 15, 16, 17, 18, 19, 20, 21, 22, 23, 24, 25, 26] (by decide) rfl
          have hFc := va_free (wc := WC cI cF h0 qn10 a jcn10 jsn10 jvn10 kn10 (capOf (nn (a 0 4)))) hD hS hA [0, 1, 2, 3, 4, 5, 6, 7, 8, 9, 10, 11, 12, 13, 14, 15, 16, 17, 18, 19, 20, 21, 22, 23, 24, 25, 26] rfl
          refine va_calli (va_runV (As := []) (rest := []) ⟨hx, hb, hml, hown, hts⟩ (c_X4_fees l dC dI cI cF h0 qn10 H.size a jcn10 jsn10 jvn10 kn10 hCn10 hB) (cwV 0 hts gL_areAlike_X4_fees rfl rfl rfl (by decide +kernel) ⟨Nat.le_of_ble_eq_true rfl, Nat.le_of_ble_eq_true rfl⟩) ⟨pcW_blind, va_recv hK hPc (ci := 4) (q0 := 0) rfl rfl, fun U hU hW => pcW_pre hPc hDc hK hU hW⟩ rfl rfl hl.1 rfl (lv_room (Nat.le_of_ble_eq_true rfl)) dL_areAlike_45 ⟨(by show 0 + 0 + 0 + 0 + 0 + 0 + 0 + 0 + 0 + 0 ≤ 60; omega), (by show 0 + 0 + 0 + 0 + 0 + 0 + 0 + 0 + 0 + 0 ≤ 360; omega)⟩) hS (fun q _ h => hFc q h) hFc (fun r u t H1 locs ht hvm hw hB1 hz1 hk1 hS => ?_)
          obtain ⟨qn13, jcn13, jsn13, jvn13, kn13, hCn13, hPy, hKy, hDy⟩ := hB1
          rw [ht] at hPy
          obtain ⟨hP, hD⟩ := va_join (wr := WC cI cF h1 qn11 a jcn11 jsn11 jvn11 kn11 (capOf (nn (a 0 4)))) (w1 := WC cI cF h0 qn13 a jcn13 jsn13 jvn13 kn13 (capOf (nn (a 0 4)))) hP hD [0, 1, 2, 3, 4, 5, 6, 7, 8, 9, 10, 11, 12, 13, 14, 15, 16, 17, 18, 19, 20, 21, 22, 23, 24, 25, 26] [27, 28, 29, 30, 31, 32, 33, 34, 35, 36, 37, 38, 39, 40, 41, 42, 43, 44, 45, 46, 47, 48, 49, 50, 51, 52, 53] rfl rfl (by decide) (by decide) hk1 hFc hPy hDy
          have hP := hP.sub (ws' := WB cI cF h0 qn13 a jcn13 jsn13 jvn13 kn13 (capOf (nn (a 0 4))) h1 qn11 a jcn11 jsn11 jvn11 kn11 (capOf (nn (a 0 4)))) [27, 28, 29, 30, 31, 32, 33, 34, 35, 36, 37, 38, 39, 40, 41, 42, 43, 44, 45, 46, 47, 48, 49, 50, 51, 52, 53, 0, 1, 2, 3, 4, 5, 6, 7, 8, 9, 10, 11, 12, 13, 14, 15, 16, 17, 18, 19, 20, 21, 22, 23, 24, 25, 26] rfl
          have hD := hD.sub (ws' := WB cI cF h0 qn13 a jcn13 jsn13 jvn13 kn13 (capOf (nn (a 0 4))) h1 qn11 a jcn11 jsn11 jvn11 kn11 (capOf (nn (a 0 4)))) [27, 28, 29, 30, 31, 32, 33, 34, 35, 36, 37, 38, 39, 40, 41, 42, 43, 44, 45, 46, 47, 48, 49, 50, 51, 52, 53, 0, 1, 2, 3, 4, 5, 6, 7, 8, 9, 10, 11, 12, 13, 14, 15, 16, 17, 18, 19, 20, 21, 22, 23, 24, 25, 26] (by decide) rfl
          generalize H1 = H at hP hS ⊢
          have hCn13 : okC a jcn13 jsn13 jvn13 kn13 := hCn13
          refine y_topi (y := a 0 7) hw ?_
          refine lv_aload_n hx hb dL_areAlike_48 rfl (lv_at hl 1 rfl) ?_
          have hP : va_P (dC, dI) vwCl (WB cI cF h0 qn13 a jcn13 jsn13 jvn13 kn13 (capOf (nn (a 0 4))) h1 qn11 a jcn11 jsn11 jvn11 kn11 (capOf (nn (a 0 4)))) H := hP
          have hD : va_D A (WB cI cF h0 qn13 a jcn13 jsn13 jvn13 kn13 (capOf (nn (a 0 4))) h1 qn11 a jcn11 jsn11 jvn11 kn11 (capOf (nn (a 0 4)))) := hD
          have hPc := hP.sub (ws' := WC cI cF h1 qn11 a jcn11 jsn11 jvn11 kn11 (capOf (nn (a 0 4)))) [27, 28, 29, 30, 31, 32, 33, 34, 35, 36, 37, 38, 39, 40, 41, 42, 43, 44, 45, 46, 47, 48, 49, 50, 51, 52, 53] rfl
          have hDc := hD.sub (ws' := WC cI cF h1 qn11 a jcn11 jsn11 jvn11 kn11 (capOf (nn (a 0 4)))) [27, 28, 29, 30, 31, 32, 33, 34, 35, 36, 37, 38, 39, 40, 41, 42, 43, 44, 45, 46, 47, 48, 49, 50, 51, 52, 53] (by decide) rfl
          have hFc := va_free (wc := WC cI cF h1 qn11 a jcn11 jsn11 jvn11 kn11 (capOf (nn (a 0 4)))) hD hS hA [27, 28, 29, 30, 31, 32, 33, 34, 35, 36, 37, 38, 39, 40, 41, 42, 43, 44, 45, 46, 47, 48, 49, 50, 51, 52, 53] rfl
          refine va_calli (va_runV (As := []) (rest := [.int (a 0 7)]) ⟨hx, hb, hml, hown, hts⟩ (c_X4_fees l dC dI cI cF h1 qn11 H.size a jcn11 jsn11 jvn11 kn11 hCn11 hB) (cwV 0 hts gL_areAlike_X4_fees rfl rfl rfl (by decide +kernel) ⟨Nat.le_of_ble_eq_true rfl, Nat.le_of_ble_eq_true rfl⟩) ⟨pcW_blind, va_recv hK hPc (ci := 4) (q0 := 0) rfl rfl, fun U hU hW => pcW_pre hPc hDc hK hU hW⟩ rfl rfl hl.1 rfl (lv_room (Nat.le_of_ble_eq_true rfl)) dL_areAlike_49 ⟨(by show 0 + 0 + 0 + 0 + 0 + 0 + 0 + 0 + 0 + 0 + 0 ≤ 60; omega), (by show 0 + 0 + 0 + 0 + 0 + 0 + 0 + 0 + 0 + 0 + 0 ≤ 360; omega)⟩) hS (fun q _ h => hFc q h) hFc (fun r u t H1 locs ht hvm hw hB1 hz1 hk1 hS => ?_)
          obtain ⟨qn14, jcn14, jsn14, jvn14, kn14, hCn14, hPy, hKy, hDy⟩ := hB1
          rw [ht] at hPy
          obtain ⟨hP, hD⟩ := va_join (wr := WC cI cF h0 qn13 a jcn13 jsn13 jvn13 kn13 (capOf (nn (a 0 4)))) (w1 := WC cI cF h1 qn14 a jcn14 jsn14 jvn14 kn14 (capOf (nn (a 0 4)))) hP hD [27, 28, 29, 30, 31, 32, 33, 34, 35, 36, 37, 38, 39, 40, 41, 42, 43, 44, 45, 46, 47, 48, 49, 50, 51, 52, 53] [0, 1, 2, 3, 4, 5, 6, 7, 8, 9, 10, 11, 12, 13, 14, 15, 16, 17, 18, 19, 20, 21, 22, 23, 24, 25, 26] rfl rfl (by decide) (by decide) hk1 hFc hPy hDy
          have hP := hP.sub (ws' := WB cI cF h0 qn13 a jcn13 jsn13 jvn13 kn13 (capOf (nn (a 0 4))) h1 qn14 a jcn14 jsn14 jvn14 kn14 (capOf (nn (a 0 4)))) [0, 1, 2, 3, 4, 5, 6, 7, 8, 9, 10, 11, 12, 13, 14, 15, 16, 17, 18, 19, 20, 21, 22, 23, 24, 25, 26, 27, 28, 29, 30, 31, 32, 33, 34, 35, 36, 37, 38, 39, 40, 41, 42, 43, 44, 45, 46, 47, 48, 49, 50, 51, 52, 53] rfl
          have hD := hD.sub (ws' := WB cI cF h0 qn13 a jcn13 jsn13 jvn13 kn13 (capOf (nn (a 0 4))) h1 qn14 a jcn14 jsn14 jvn14 kn14 (capOf (nn (a 0 4)))) [0, 1, 2, 3, 4, 5, 6, 7, 8, 9, 10, 11, 12, 13, 14, 15, 16, 17, 18, 19, 20, 21, 22, 23, 24, 25, 26, 27, 28, 29, 30, 31, 32, 33, 34, 35, 36, 37, 38, 39, 40, 41, 42, 43, 44, 45, 46, 47, 48, 49, 50, 51, 52, 53] (by decide) rfl
          generalize H1 = H at hP hS ⊢
          have hCn14 : okC a jcn14 jsn14 jvn14 kn14 := hCn14
          refine y_topi (y := a 0 7) hw ?_
          refine lv_icmp_ne (tgt := 70) hx hb dL_areAlike_52 (by decide) (fun c_15 => ?_) (fun c_15 => ?_)
          · exact absurd rfl c_15
          · refine lv_aload_n hx hb dL_areAlike_55 rfl (lv_at hl 0 rfl) ?_
            have hP : va_P (dC, dI) vwCl (WB cI cF h0 qn13 a jcn13 jsn13 jvn13 kn13 (capOf (nn (a 0 4))) h1 qn14 a jcn14 jsn14 jvn14 kn14 (capOf (nn (a 0 4)))) H := hP
            have hD : va_D A (WB cI cF h0 qn13 a jcn13 jsn13 jvn13 kn13 (capOf (nn (a 0 4))) h1 qn14 a jcn14 jsn14 jvn14 kn14 (capOf (nn (a 0 4)))) := hD
            have hPc := hP.sub (ws' := WC cI cF h0 qn13 a jcn13 jsn13 jvn13 kn13 (capOf (nn (a 0 4)))) [0, 1, 2, 3, 4, 5, 6, 7, 8, 9, 10, 11, 12, 13, 14, 15, 16, 17, 18, 19, 20, 21, 22, 23, 24, 25, 26] rfl
            have hDc := hD.sub (ws' := WC cI cF h0 qn13 a jcn13 jsn13 jvn13 kn13 (capOf (nn (a 0 4)))) [0, 1, 2, 3, 4, 5, 6, 7, 8, 9, 10, 11, 12, 13, 14, 15, 16, 17, 18, 19, 20, 21, 22, 23, 24, 25, 26] (by decide) rfl
            have hFc := va_free (wc := WC cI cF h0 qn13 a jcn13 jsn13 jvn13 kn13 (capOf (nn (a 0 4)))) hD hS hA [0, 1, 2, 3, 4, 5, 6, 7, 8, 9, 10, 11, 12, 13, 14, 15, 16, 17, 18, 19, 20, 21, 22, 23, 24, 25, 26] rfl
            refine va_calli (va_runV (As := []) (rest := []) ⟨hx, hb, hml, hown, hts⟩ (c_X4_taxes l dC dI cI cF h0 qn13 H.size a jcn13 jsn13 jvn13 kn13 hCn13 hB) (cwV 0 hts gL_areAlike_X4_taxes rfl rfl rfl (by decide +kernel) ⟨Nat.le_of_ble_eq_true rfl, Nat.le_of_ble_eq_true rfl⟩) ⟨pcW_blind, va_recv hK hPc (ci := 4) (q0 := 0) rfl rfl, fun U hU hW => pcW_pre hPc hDc hK hU hW⟩ rfl rfl hl.1 rfl (lv_room (Nat.le_of_ble_eq_true rfl)) dL_areAlike_56 ⟨(by show 0 + 0 + 0 + 0 + 0 + 0 + 0 + 0 + 0 + 0 + 0 + 0 ≤ 60; omega), (by show 0 + 0 + 0 + 0 + 0 + 0 + 0 + 0 + 0 + 0 + 0 + 0 ≤ 360; omega)⟩) hS (fun q _ h => hFc q h) hFc (fun r u t H1 locs ht hvm hw hB1 hz1 hk1 hS => ?_)
            obtain ⟨qn16, jcn16, jsn16, jvn16, kn16, hCn16, hPy, hKy, hDy⟩ := hB1
            rw [ht] at hPy
            obtain ⟨hP, hD⟩ := va_join (wr := WC cI cF h1 qn14 a jcn14 jsn14 jvn14 kn14 (capOf (nn (a 0 4)))) (w1 := WC cI cF h0 qn16 a jcn16 jsn16 jvn16 kn16 (capOf (nn (a 0 4)))) hP hD [0, 1, 2, 3, 4, 5, 6, 7, 8, 9, 10, 11, 12, 13, 14, 15, 16, 17, 18, 19, 20, 21, 22, 23, 24, 25, 26] [27, 28, 29, 30, 31, 32, 33, 34, 35, 36, 37, 38, 39, 40, 41, 42, 43, 44, 45, 46, 47, 48, 49, 50, 51, 52, 53] rfl rfl (by decide) (by decide) hk1 hFc hPy hDy
            have hP := hP.sub (ws' := WB cI cF h0 qn16 a jcn16 jsn16 jvn16 kn16 (capOf (nn (a 0 4))) h1 qn14 a jcn14 jsn14 jvn14 kn14 (capOf (nn (a 0 4)))) [27, 28, 29, 30, 31, 32, 33, 34, 35, 36, 37, 38, 39, 40, 41, 42, 43, 44, 45, 46, 47, 48, 49, 50, 51, 52, 53, 0, 1, 2, 3, 4, 5, 6, 7, 8, 9, 10, 11, 12, 13, 14, 15, 16, 17, 18, 19, 20, 21, 22, 23, 24, 25, 26] rfl
            have hD := hD.sub (ws' := WB cI cF h0 qn16 a jcn16 jsn16 jvn16 kn16 (capOf (nn (a 0 4))) h1 qn14 a jcn14 jsn14 jvn14 kn14 (capOf (nn (a 0 4)))) [27, 28, 29, 30, 31, 32, 33, 34, 35, 36, 37, 38, 39, 40, 41, 42, 43, 44, 45, 46, 47, 48, 49, 50, 51, 52, 53, 0, 1, 2, 3, 4, 5, 6, 7, 8, 9, 10, 11, 12, 13, 14, 15, 16, 17, 18, 19, 20, 21, 22, 23, 24, 25, 26] (by decide) rfl
            generalize H1 = H at hP hS ⊢
            have hCn16 : okC a jcn16 jsn16 jvn16 kn16 := hCn16
            refine y_topi (y := a 0 8) hw ?_
            refine lv_aload_n hx hb dL_areAlike_59 rfl (lv_at hl 1 rfl) ?_
            have hP : va_P (dC, dI) vwCl (WB cI cF h0 qn16 a jcn16 jsn16 jvn16 kn16 (capOf (nn (a 0 4))) h1 qn14 a jcn14 jsn14 jvn14 kn14 (capOf (nn (a 0 4)))) H := hP
            have hD : va_D A (WB cI cF h0 qn16 a jcn16 jsn16 jvn16 kn16 (capOf (nn (a 0 4))) h1 qn14 a jcn14 jsn14 jvn14 kn14 (capOf (nn (a 0 4)))) := hD
            have hPc := hP.sub (ws' := WC cI cF h1 qn14 a jcn14 jsn14 jvn14 kn14 (capOf (nn (a 0 4)))) [27, 28, 29, 30, 31, 32, 33, 34, 35, 36, 37, 38, 39, 40, 41, 42, 43, 44, 45, 46, 47, 48, 49, 50, 51, 52, 53] rfl
            have hDc := hD.sub (ws' := WC cI cF h1 qn14 a jcn14 jsn14 jvn14 kn14 (capOf (nn (a 0 4)))) [27, 28, 29, 30, 31, 32, 33, 34, 35, 36, 37, 38, 39, 40, 41, 42, 43, 44, 45, 46, 47, 48, 49, 50, 51, 52, 53] (by decide) rfl
            have hFc := va_free (wc := WC cI cF h1 qn14 a jcn14 jsn14 jvn14 kn14 (capOf (nn (a 0 4)))) hD hS hA [27, 28, 29, 30, 31, 32, 33, 34, 35, 36, 37, 38, 39, 40, 41, 42, 43, 44, 45, 46, 47, 48, 49, 50, 51, 52, 53] rfl
            refine va_calli (va_runV (As := []) (rest := [.int (a 0 8)]) ⟨hx, hb, hml, hown, hts⟩ (c_X4_taxes l dC dI cI cF h1 qn14 H.size a jcn14 jsn14 jvn14 kn14 hCn14 hB) (cwV 0 hts gL_areAlike_X4_taxes rfl rfl rfl (by decide +kernel) ⟨Nat.le_of_ble_eq_true rfl, Nat.le_of_ble_eq_true rfl⟩) ⟨pcW_blind, va_recv hK hPc (ci := 4) (q0 := 0) rfl rfl, fun U hU hW => pcW_pre hPc hDc hK hU hW⟩ rfl rfl hl.1 rfl (lv_room (Nat.le_of_ble_eq_true rfl)) dL_areAlike_60 ⟨(by show 0 + 0 + 0 + 0 + 0 + 0 + 0 + 0 + 0 + 0 + 0 + 0 + 0 ≤ 60; omega), (by show 0 + 0 + 0 + 0 + 0 + 0 + 0 + 0 + 0 + 0 + 0 + 0 + 0 ≤ 360; omega)⟩) hS (fun q _ h => hFc q h) hFc (fun r u t H1 locs ht hvm hw hB1 hz1 hk1 hS => ?_)
            obtain ⟨qn17, jcn17, jsn17, jvn17, kn17, hCn17, hPy, hKy, hDy⟩ := hB1
            rw [ht] at hPy
            obtain ⟨hP, hD⟩ := va_join (wr := WC cI cF h0 qn16 a jcn16 jsn16 jvn16 kn16 (capOf (nn (a 0 4)))) (w1 := WC cI cF h1 qn17 a jcn17 jsn17 jvn17 kn17 (capOf (nn (a 0 4)))) hP hD [27, 28, 29, 30, 31, 32, 33, 34, 35, 36, 37, 38, 39, 40, 41, 42, 43, 44, 45, 46, 47, 48, 49, 50, 51, 52, 53] [0, 1, 2, 3, 4, 5, 6, 7, 8, 9, 10, 11, 12, 13, 14, 15, 16, 17, 18, 19, 20, 21, 22, 23, 24, 25, 26] rfl rfl (by decide) (by decide) hk1 hFc hPy hDy
            have hP := hP.sub (ws' := WB cI cF h0 qn16 a jcn16 jsn16 jvn16 kn16 (capOf (nn (a 0 4))) h1 qn17 a jcn17 jsn17 jvn17 kn17 (capOf (nn (a 0 4)))) [0, 1, 2, 3, 4, 5, 6, 7, 8, 9, 10, 11, 12, 13, 14, 15, 16, 17, 18, 19, 20, 21, 22, 23, 24, 25, 26, 27, 28, 29, 30, 31, 32, 33, 34, 35, 36, 37, 38, 39, 40, 41, 42, 43, 44, 45, 46, 47, 48, 49, 50, 51, 52, 53] rfl
            have hD := hD.sub (ws' := WB cI cF h0 qn16 a jcn16 jsn16 jvn16 kn16 (capOf (nn (a 0 4))) h1 qn17 a jcn17 jsn17 jvn17 kn17 (capOf (nn (a 0 4)))) [0, 1, 2, 3, 4, 5, 6, 7, 8, 9, 10, 11, 12, 13, 14, 15, 16, 17, 18, 19, 20, 21, 22, 23, 24, 25, 26, 27, 28, 29, 30, 31, 32, 33, 34, 35, 36, 37, 38, 39, 40, 41, 42, 43, 44, 45, 46, 47, 48, 49, 50, 51, 52, 53] (by decide) rfl
            generalize H1 = H at hP hS ⊢
            have hCn17 : okC a jcn17 jsn17 jvn17 kn17 := hCn17
            refine y_topi (y := a 0 8) hw ?_
            refine lv_icmp_ne (tgt := 70) hx hb dL_areAlike_63 (by decide) (fun c_18 => ?_) (fun c_18 => ?_)
            · exact absurd rfl c_18
            · refine lv_iconst (v := 1) hx hb dL_areAlike_66 (by decide) ?_
              refine lv_goto (tgt := 71) hx hb dL_areAlike_67 (by decide) ?_
              refine lv_istore_n (lv' := [(2, .int 1), (0, .ref h0), (1, .ref h1)]) hx hb dL_areAlike_71 rfl hl (by decide) rfl (fun ls hl => ?_)
              refine lv_iconst (v := 0) hx hb dL_areAlike_72 (by decide) ?_
              refine lv_istore_n (lv' := [(3, .int 0), (2, .int 1), (0, .ref h0), (1, .ref h1)]) hx hb dL_areAlike_73 rfl hl (by decide) rfl (fun ls hl => ?_)
              have hl : lv_has ls 5 [(3, .int (nI 0)), (2, .int 1), (0, .ref h0), (1, .ref h1)] := hl
              have hP : va_P (dC, dI) vwCl (WB cI cF h0 qn16 a jcn16 jsn16 jvn16 kn16 (capOf (nn (a 0 4))) h1 qn17 a jcn17 jsn17 jvn17 kn17 (capOf (nn (a 0 4)))) H := hP
              have hD : va_D A (WB cI cF h0 qn16 a jcn16 jsn16 jvn16 kn16 (capOf (nn (a 0 4))) h1 qn17 a jcn17 jsn17 jvn17 kn17 (capOf (nn (a 0 4)))) := hD
              refine y_loopC (fun k9 H locs ls cells slots => ∃ (z : Nat) (q : Nat → Nat) (jc js jv : Nat → Int32) (k : Nat) (q2 : Nat → Nat) (jc2 js2 jv2 : Nat → Int32) (k2 : Nat), k9 + z = 8 ∧ cells ≤ 6 * z ∧ slots ≤ 36 * z ∧ okC a jc js jv k ∧ okC a jc2 js2 jv2 k2 ∧ va_P (dC, dI) vwCl (WB cI cF h0 q a jc js jv k (capOf (nn (a 0 4))) h1 q2 a jc2 js2 jv2 k2 (capOf (nn (a 0 4)))) H ∧ va_D A (WB cI cF h0 q a jc js jv k (capOf (nn (a 0 4))) h1 q2 a jc2 js2 jv2 k2 (capOf (nn (a 0 4)))) ∧ va_S A s.heap H locs ∧ lv_has ls 5 [(3, .int (nI z)), (2, .int 1), (1, .ref h1), (0, .ref h0)]) (8) ⟨0, qn16, jcn16, jsn16, jvn16, kn16, qn17, jcn17, jsn17, jvn17, kn17, by omega, by omega, by omega, hCn16, hCn17, hP, hD, hS, lv_sub hl [0, 1, 3, 2] rfl⟩ (fun k9 H locs ls cells slots hI9 ih => ?_)
              obtain ⟨z, q, jc, js, jv, k, q2, jc2, js2, jv2, k2, hf0, hf1, hf2, hCq, hCq2, hP, hD, hS, hl⟩ := hI9
              refine lv_iload_n hx hb dL_areAlike_74 rfl (lv_at hl 0 rfl) ?_
              refine lv_bipush (v := 8) hx hb dL_areAlike_75 (by decide) ?_
              refine lv_icmp_ge (tgt := 146) hx hb dL_areAlike_77 (by decide) (fun c_19 => ?_) (fun c_19 => ?_)
              · refine lv_iload_n hx hb dL_areAlike_146 rfl (lv_at hl 1 rfl) ?_
                have hP : va_P (dC, dI) vwCl (WB cI cF h0 q a jc js jv k (capOf (nn (a 0 4))) h1 q2 a jc2 js2 jv2 k2 (capOf (nn (a 0 4)))) H := hP
                have hD : va_D A (WB cI cF h0 q a jc js jv k (capOf (nn (a 0 4))) h1 q2 a jc2 js2 jv2 k2 (capOf (nn (a 0 4)))) := hD
                refine W.widen (k := 60) (n := 360) (by show cells ≤ 60; omega) (by show slots ≤ 360; omega) ?_
                have hP9 := hP
                have hD9 := hD
                have hK9 := hK
                exact W.zret (v := 1) (ty := .boolean) hx hb hr rfl (fun t ht hW => ⟨⟨1, (), rfl, rfl, atB_e rfl hCq hCq2 (atW_end hP9 hD9 hK9 ht hW)⟩, hS.F ht⟩) hS.2.2 dL_areAlike_147
              · have hz8 := lt8 (by omega) c_19
                refine lv_iload_n hx hb dL_areAlike_80 rfl (lv_at hl 1 rfl) ?_
                refine lv_if_eq (tgt := 146) hx hb dL_areAlike_81 (by decide) (fun c_20 => ?_) (fun c_20 => ?_)
                · exact absurd c_20 (by decide)
                · refine lv_aload_n hx hb dL_areAlike_84 rfl (lv_at hl 3 rfl) ?_
                  refine lv_iload_n hx hb dL_areAlike_85 rfl (lv_at hl 0 rfl) ?_
                  have hP : va_P (dC, dI) vwCl (WB cI cF h0 q a jc js jv k (capOf (nn (a 0 4))) h1 q2 a jc2 js2 jv2 k2 (capOf (nn (a 0 4)))) H := hP
                  have hD : va_D A (WB cI cF h0 q a jc js jv k (capOf (nn (a 0 4))) h1 q2 a jc2 js2 jv2 k2 (capOf (nn (a 0 4)))) := hD
                  have hPc := hP.sub (ws' := WC cI cF h0 q a jc js jv k (capOf (nn (a 0 4)))) [0, 1, 2, 3, 4, 5, 6, 7, 8, 9, 10, 11, 12, 13, 14, 15, 16, 17, 18, 19, 20, 21, 22, 23, 24, 25, 26] rfl
                  have hDc := hD.sub (ws' := WC cI cF h0 q a jc js jv k (capOf (nn (a 0 4)))) [0, 1, 2, 3, 4, 5, 6, 7, 8, 9, 10, 11, 12, 13, 14, 15, 16, 17, 18, 19, 20, 21, 22, 23, 24, 25, 26] (by decide) rfl
                  have hFc := va_free (wc := WC cI cF h0 q a jc js jv k (capOf (nn (a 0 4)))) hD hS hA [0, 1, 2, 3, 4, 5, 6, 7, 8, 9, 10, 11, 12, 13, 14, 15, 16, 17, 18, 19, 20, 21, 22, 23, 24, 25, 26] rfl
                  refine va_calli (vx_runSW (As := [.ref h0, .int (nI z)]) (rest := []) ⟨hx, hb, hml, hown, hts⟩ (c_L_balance l dC dI cI cF h0 q H.size a jc js jv k hst hCq hB (nI z)) (vx_cwSW 2 hts gL_areAlike_L_balance rfl rfl rfl (by decide +kernel) ⟨Nat.le_of_ble_eq_true rfl, Nat.le_of_ble_eq_true rfl⟩) ⟨pcH_blind, fun U hU hW => pcH_pre hPc hDc hK hV hN hS hFc hU hW⟩ rfl rfl hl.1 rfl (lv_room (Nat.le_of_ble_eq_true rfl)) dL_areAlike_86 ⟨(by show cells + 1 ≤ 60; omega), (by show slots + 6 ≤ 360; omega)⟩) hS (fun q _ h => hFc q h) hFc (fun r u t H1 locs ht hvm hw hB1 hz1 hk1 hS => ?_)
                  obtain ⟨qn21, jcn21, jsn21, jvn21, kn21, hCn21, hPy, hKy, hDy⟩ := hB1
                  rw [ht] at hPy
                  obtain ⟨hP, hD⟩ := va_join (wr := WC cI cF h1 q2 a jc2 js2 jv2 k2 (capOf (nn (a 0 4)))) (w1 := WC cI cF h0 qn21 a jcn21 jsn21 jvn21 kn21 (capOf (nn (a 0 4)))) hP hD [0, 1, 2, 3, 4, 5, 6, 7, 8, 9, 10, 11, 12, 13, 14, 15, 16, 17, 18, 19, 20, 21, 22, 23, 24, 25, 26] [27, 28, 29, 30, 31, 32, 33, 34, 35, 36, 37, 38, 39, 40, 41, 42, 43, 44, 45, 46, 47, 48, 49, 50, 51, 52, 53] rfl rfl (by decide) (by decide) hk1 hFc hPy hDy
                  have hP := hP.sub (ws' := WB cI cF h0 qn21 a jcn21 jsn21 jvn21 kn21 (capOf (nn (a 0 4))) h1 q2 a jc2 js2 jv2 k2 (capOf (nn (a 0 4)))) [27, 28, 29, 30, 31, 32, 33, 34, 35, 36, 37, 38, 39, 40, 41, 42, 43, 44, 45, 46, 47, 48, 49, 50, 51, 52, 53, 0, 1, 2, 3, 4, 5, 6, 7, 8, 9, 10, 11, 12, 13, 14, 15, 16, 17, 18, 19, 20, 21, 22, 23, 24, 25, 26] rfl
                  have hD := hD.sub (ws' := WB cI cF h0 qn21 a jcn21 jsn21 jvn21 kn21 (capOf (nn (a 0 4))) h1 q2 a jc2 js2 jv2 k2 (capOf (nn (a 0 4)))) [27, 28, 29, 30, 31, 32, 33, 34, 35, 36, 37, 38, 39, 40, 41, 42, 43, 44, 45, 46, 47, 48, 49, 50, 51, 52, 53, 0, 1, 2, 3, 4, 5, 6, 7, 8, 9, 10, 11, 12, 13, 14, 15, 16, 17, 18, 19, 20, 21, 22, 23, 24, 25, 26] (by decide) rfl
                  generalize H1 = H at hP hS ⊢
                  have hCn21 : okC a jcn21 jsn21 jvn21 kn21 := hCn21
                  refine y_topi (y := bA a (nI z)) hw ?_
                  refine lv_istore (lv' := [(4, .int (bA a (nI z))), (3, .int (nI z)), (2, .int 1), (1, .ref h1), (0, .ref h0)]) hx hb dL_areAlike_89 hl (by decide) rfl (fun ls hl => ?_)
                  refine lv_iload hx hb dL_areAlike_91 (lv_at hl 0 rfl) ?_
                  refine lv_aload_n hx hb dL_areAlike_93 rfl (lv_at hl 3 rfl) ?_
                  refine lv_iload_n hx hb dL_areAlike_94 rfl (lv_at hl 1 rfl) ?_
                  have hP : va_P (dC, dI) vwCl (WB cI cF h0 qn21 a jcn21 jsn21 jvn21 kn21 (capOf (nn (a 0 4))) h1 q2 a jc2 js2 jv2 k2 (capOf (nn (a 0 4)))) H := hP
                  have hD : va_D A (WB cI cF h0 qn21 a jcn21 jsn21 jvn21 kn21 (capOf (nn (a 0 4))) h1 q2 a jc2 js2 jv2 k2 (capOf (nn (a 0 4)))) := hD
                  have hPc := hP.sub (ws' := WC cI cF h1 q2 a jc2 js2 jv2 k2 (capOf (nn (a 0 4)))) [27, 28, 29, 30, 31, 32, 33, 34, 35, 36, 37, 38, 39, 40, 41, 42, 43, 44, 45, 46, 47, 48, 49, 50, 51, 52, 53] rfl
                  have hDc := hD.sub (ws' := WC cI cF h1 q2 a jc2 js2 jv2 k2 (capOf (nn (a 0 4)))) [27, 28, 29, 30, 31, 32, 33, 34, 35, 36, 37, 38, 39, 40, 41, 42, 43, 44, 45, 46, 47, 48, 49, 50, 51, 52, 53] (by decide) rfl
                  have hFc := va_free (wc := WC cI cF h1 q2 a jc2 js2 jv2 k2 (capOf (nn (a 0 4)))) hD hS hA [27, 28, 29, 30, 31, 32, 33, 34, 35, 36, 37, 38, 39, 40, 41, 42, 43, 44, 45, 46, 47, 48, 49, 50, 51, 52, 53] rfl
                  refine va_calli (vx_runSW (As := [.ref h1, .int (nI z)]) (rest := [.int (bA a (nI z))]) ⟨hx, hb, hml, hown, hts⟩ (c_L_balance l dC dI cI cF h1 q2 H.size a jc2 js2 jv2 k2 hst hCq2 hB (nI z)) (vx_cwSW 2 hts gL_areAlike_L_balance rfl rfl rfl (by decide +kernel) ⟨Nat.le_of_ble_eq_true rfl, Nat.le_of_ble_eq_true rfl⟩) ⟨pcH_blind, fun U hU hW => pcH_pre hPc hDc hK hV hN hS hFc hU hW⟩ rfl rfl hl.1 rfl (lv_room (Nat.le_of_ble_eq_true rfl)) dL_areAlike_95 ⟨(by show cells + 1 + 1 ≤ 60; omega), (by show slots + 6 + 6 ≤ 360; omega)⟩) hS (fun q _ h => hFc q h) hFc (fun r u t H1 locs ht hvm hw hB1 hz1 hk1 hS => ?_)
                  obtain ⟨qn22, jcn22, jsn22, jvn22, kn22, hCn22, hPy, hKy, hDy⟩ := hB1
                  rw [ht] at hPy
                  obtain ⟨hP, hD⟩ := va_join (wr := WC cI cF h0 qn21 a jcn21 jsn21 jvn21 kn21 (capOf (nn (a 0 4)))) (w1 := WC cI cF h1 qn22 a jcn22 jsn22 jvn22 kn22 (capOf (nn (a 0 4)))) hP hD [27, 28, 29, 30, 31, 32, 33, 34, 35, 36, 37, 38, 39, 40, 41, 42, 43, 44, 45, 46, 47, 48, 49, 50, 51, 52, 53] [0, 1, 2, 3, 4, 5, 6, 7, 8, 9, 10, 11, 12, 13, 14, 15, 16, 17, 18, 19, 20, 21, 22, 23, 24, 25, 26] rfl rfl (by decide) (by decide) hk1 hFc hPy hDy
                  have hP := hP.sub (ws' := WB cI cF h0 qn21 a jcn21 jsn21 jvn21 kn21 (capOf (nn (a 0 4))) h1 qn22 a jcn22 jsn22 jvn22 kn22 (capOf (nn (a 0 4)))) [0, 1, 2, 3, 4, 5, 6, 7, 8, 9, 10, 11, 12, 13, 14, 15, 16, 17, 18, 19, 20, 21, 22, 23, 24, 25, 26, 27, 28, 29, 30, 31, 32, 33, 34, 35, 36, 37, 38, 39, 40, 41, 42, 43, 44, 45, 46, 47, 48, 49, 50, 51, 52, 53] rfl
                  have hD := hD.sub (ws' := WB cI cF h0 qn21 a jcn21 jsn21 jvn21 kn21 (capOf (nn (a 0 4))) h1 qn22 a jcn22 jsn22 jvn22 kn22 (capOf (nn (a 0 4)))) [0, 1, 2, 3, 4, 5, 6, 7, 8, 9, 10, 11, 12, 13, 14, 15, 16, 17, 18, 19, 20, 21, 22, 23, 24, 25, 26, 27, 28, 29, 30, 31, 32, 33, 34, 35, 36, 37, 38, 39, 40, 41, 42, 43, 44, 45, 46, 47, 48, 49, 50, 51, 52, 53] (by decide) rfl
                  generalize H1 = H at hP hS ⊢
                  have hCn22 : okC a jcn22 jsn22 jvn22 kn22 := hCn22
                  refine y_topi (y := bA a (nI z)) hw ?_
                  refine lv_icmp_ne (tgt := 138) hx hb dL_areAlike_98 (by decide) (fun c_23 => ?_) (fun c_23 => ?_)
                  · exact absurd rfl c_23
                  · refine lv_iload hx hb dL_areAlike_101 (lv_at hl 0 rfl) ?_
                    refine lv_ldc hx hb hown (hts (.constant RL 45 (-2000000001)) (List.mem_of_getElem? (i := 1) rfl)) dL_areAlike_103 ?_
                    refine lv_icmp_eq (tgt := 134) hx hb dL_areAlike_105 (by decide) (fun c_24 => ?_) (fun c_24 => ?_)
                    · refine lv_iconst (v := 1) hx hb dL_areAlike_134 (by decide) ?_
                      refine lv_goto (tgt := 139) hx hb dL_areAlike_135 (by decide) ?_
                      refine lv_istore_n (lv' := [(2, .int 1), (4, .int (bA a (nI z))), (3, .int (nI z)), (1, .ref h1), (0, .ref h0)]) hx hb dL_areAlike_139 rfl hl (by decide) rfl (fun ls hl => ?_)
                      refine lv_iinc (v := nI (z + 1)) (lv' := [(3, .int (nI (z + 1))), (2, .int 1), (4, .int (bA a (nI z))), (1, .ref h1), (0, .ref h0)]) hx hb dL_areAlike_140 hl (k := 2) rfl (nI_1 z) (by decide) rfl (fun ls hl => ?_)
                      refine lv_goto (tgt := 74) hx hb dL_areAlike_143 (by decide) ?_
                      have hP : va_P (dC, dI) vwCl (WB cI cF h0 qn21 a jcn21 jsn21 jvn21 kn21 (capOf (nn (a 0 4))) h1 qn22 a jcn22 jsn22 jvn22 kn22 (capOf (nn (a 0 4)))) H := hP
                      have hD : va_D A (WB cI cF h0 qn21 a jcn21 jsn21 jvn21 kn21 (capOf (nn (a 0 4))) h1 qn22 a jcn22 jsn22 jvn22 kn22 (capOf (nn (a 0 4)))) := hD
                      exact ih (k9 - 1) H locs ls _ _ (by omega) ⟨z + 1, qn21, jcn21, jsn21, jvn21, kn21, qn22, jcn22, jsn22, jvn22, kn22, by omega, by omega, by omega, hCn21, hCn22, hP, hD, hS, lv_sub hl [0, 1, 3, 4] rfl⟩
                    · have hk0 : kSel a (nI z) = 0 := by
                        by_cases q : kSel a (nI z) = 0
                        · exact q
                        · exact absurd (bA_n q) c_24
                      refine lv_aload_n hx hb dL_areAlike_108 rfl (lv_at hl 4 rfl) ?_
                      refine lv_iload_n hx hb dL_areAlike_109 rfl (lv_at hl 1 rfl) ?_
                      have hP : va_P (dC, dI) vwCl (WB cI cF h0 qn21 a jcn21 jsn21 jvn21 kn21 (capOf (nn (a 0 4))) h1 qn22 a jcn22 jsn22 jvn22 kn22 (capOf (nn (a 0 4)))) H := hP
                      have hD : va_D A (WB cI cF h0 qn21 a jcn21 jsn21 jvn21 kn21 (capOf (nn (a 0 4))) h1 qn22 a jcn22 jsn22 jvn22 kn22 (capOf (nn (a 0 4)))) := hD
                      have hPc := hP.sub (ws' := WC cI cF h0 qn21 a jcn21 jsn21 jvn21 kn21 (capOf (nn (a 0 4)))) [0, 1, 2, 3, 4, 5, 6, 7, 8, 9, 10, 11, 12, 13, 14, 15, 16, 17, 18, 19, 20, 21, 22, 23, 24, 25, 26] rfl
                      have hDc := hD.sub (ws' := WC cI cF h0 qn21 a jcn21 jsn21 jvn21 kn21 (capOf (nn (a 0 4)))) [0, 1, 2, 3, 4, 5, 6, 7, 8, 9, 10, 11, 12, 13, 14, 15, 16, 17, 18, 19, 20, 21, 22, 23, 24, 25, 26] (by decide) rfl
                      have hFc := va_free (wc := WC cI cF h0 qn21 a jcn21 jsn21 jvn21 kn21 (capOf (nn (a 0 4)))) hD hS hA [0, 1, 2, 3, 4, 5, 6, 7, 8, 9, 10, 11, 12, 13, 14, 15, 16, 17, 18, 19, 20, 21, 22, 23, 24, 25, 26] rfl
                      refine vx_calli (vx_runV (As := [.int (nI z)]) (rest := []) ⟨hx, hb, hml, hown, hts⟩ (c_X4_reserve l dC dI cI cF h0 qn21 H.size a jcn21 jsn21 jvn21 kn21 hst hCn21 hB (nI z)) (cwV 1 hts gL_areAlike_X4_reserve rfl rfl rfl (by decide +kernel) ⟨Nat.le_of_ble_eq_true rfl, Nat.le_of_ble_eq_true rfl⟩) ⟨pcV_blind, va_recv hK hPc (ci := 4) (q0 := 0) rfl rfl, fun U hU hW => pcV_pre hPc hDc hK hV hS hFc hU hW⟩ rfl rfl hl.1 rfl (lv_room (Nat.le_of_ble_eq_true rfl)) dL_areAlike_110 ⟨(by show cells + 1 + 1 + 1 ≤ 60; omega), (by show slots + 6 + 6 + 6 ≤ 360; omega)⟩) hS (fun q _ h => hFc q h) hFc (fun q _ h => hFc q h) (fun E ce q9 u t H1 locs ht hvm hw hBx hz1 hk1 hS hce hcv hcl => absurd hk0 hw) (fun r u t H1 locs ht hvm hw hB1 hz1 hk1 hS => ?_)
                      obtain ⟨qn25, jcn25, jsn25, jvn25, kn25, hCn25, hPy, hKy, hDy⟩ := hB1
                      rw [ht] at hPy
                      obtain ⟨hP, hD⟩ := va_join (wr := WC cI cF h1 qn22 a jcn22 jsn22 jvn22 kn22 (capOf (nn (a 0 4)))) (w1 := WC cI cF h0 qn25 a jcn25 jsn25 jvn25 kn25 (capOf (nn (a 0 4)))) hP hD [0, 1, 2, 3, 4, 5, 6, 7, 8, 9, 10, 11, 12, 13, 14, 15, 16, 17, 18, 19, 20, 21, 22, 23, 24, 25, 26] [27, 28, 29, 30, 31, 32, 33, 34, 35, 36, 37, 38, 39, 40, 41, 42, 43, 44, 45, 46, 47, 48, 49, 50, 51, 52, 53] rfl rfl (by decide) (by decide) hk1 hFc hPy hDy
                      have hP := hP.sub (ws' := WB cI cF h0 qn25 a jcn25 jsn25 jvn25 kn25 (capOf (nn (a 0 4))) h1 qn22 a jcn22 jsn22 jvn22 kn22 (capOf (nn (a 0 4)))) [27, 28, 29, 30, 31, 32, 33, 34, 35, 36, 37, 38, 39, 40, 41, 42, 43, 44, 45, 46, 47, 48, 49, 50, 51, 52, 53, 0, 1, 2, 3, 4, 5, 6, 7, 8, 9, 10, 11, 12, 13, 14, 15, 16, 17, 18, 19, 20, 21, 22, 23, 24, 25, 26] rfl
                      have hD := hD.sub (ws' := WB cI cF h0 qn25 a jcn25 jsn25 jvn25 kn25 (capOf (nn (a 0 4))) h1 qn22 a jcn22 jsn22 jvn22 kn22 (capOf (nn (a 0 4)))) [27, 28, 29, 30, 31, 32, 33, 34, 35, 36, 37, 38, 39, 40, 41, 42, 43, 44, 45, 46, 47, 48, 49, 50, 51, 52, 53, 0, 1, 2, 3, 4, 5, 6, 7, 8, 9, 10, 11, 12, 13, 14, 15, 16, 17, 18, 19, 20, 21, 22, 23, 24, 25, 26] (by decide) rfl
                      generalize H1 = H at hP hS ⊢
                      have hCn25 : okC a jcn25 jsn25 jvn25 kn25 := hCn25
                      refine y_topi (y := sHsum a z (nn (a 0 3))) (by rw [hw.2, nnI (by omega)]) ?_
                      refine lv_aload_n hx hb dL_areAlike_113 rfl (lv_at hl 3 rfl) ?_
                      refine lv_iload_n hx hb dL_areAlike_114 rfl (lv_at hl 1 rfl) ?_
                      have hP : va_P (dC, dI) vwCl (WB cI cF h0 qn25 a jcn25 jsn25 jvn25 kn25 (capOf (nn (a 0 4))) h1 qn22 a jcn22 jsn22 jvn22 kn22 (capOf (nn (a 0 4)))) H := hP
                      have hD : va_D A (WB cI cF h0 qn25 a jcn25 jsn25 jvn25 kn25 (capOf (nn (a 0 4))) h1 qn22 a jcn22 jsn22 jvn22 kn22 (capOf (nn (a 0 4)))) := hD
                      have hPc := hP.sub (ws' := WC cI cF h1 qn22 a jcn22 jsn22 jvn22 kn22 (capOf (nn (a 0 4)))) [27, 28, 29, 30, 31, 32, 33, 34, 35, 36, 37, 38, 39, 40, 41, 42, 43, 44, 45, 46, 47, 48, 49, 50, 51, 52, 53] rfl
                      have hDc := hD.sub (ws' := WC cI cF h1 qn22 a jcn22 jsn22 jvn22 kn22 (capOf (nn (a 0 4)))) [27, 28, 29, 30, 31, 32, 33, 34, 35, 36, 37, 38, 39, 40, 41, 42, 43, 44, 45, 46, 47, 48, 49, 50, 51, 52, 53] (by decide) rfl
                      have hFc := va_free (wc := WC cI cF h1 qn22 a jcn22 jsn22 jvn22 kn22 (capOf (nn (a 0 4)))) hD hS hA [27, 28, 29, 30, 31, 32, 33, 34, 35, 36, 37, 38, 39, 40, 41, 42, 43, 44, 45, 46, 47, 48, 49, 50, 51, 52, 53] rfl
                      refine vx_calli (vx_runV (As := [.int (nI z)]) (rest := [.int (sHsum a z (nn (a 0 3)))]) ⟨hx, hb, hml, hown, hts⟩ (c_X4_reserve l dC dI cI cF h1 qn22 H.size a jcn22 jsn22 jvn22 kn22 hst hCn22 hB (nI z)) (cwV 1 hts gL_areAlike_X4_reserve rfl rfl rfl (by decide +kernel) ⟨Nat.le_of_ble_eq_true rfl, Nat.le_of_ble_eq_true rfl⟩) ⟨pcV_blind, va_recv hK hPc (ci := 4) (q0 := 0) rfl rfl, fun U hU hW => pcV_pre hPc hDc hK hV hS hFc hU hW⟩ rfl rfl hl.1 rfl (lv_room (Nat.le_of_ble_eq_true rfl)) dL_areAlike_115 ⟨(by show cells + 1 + 1 + 1 + 1 ≤ 60; omega), (by show slots + 6 + 6 + 6 + 6 ≤ 360; omega)⟩) hS (fun q _ h => hFc q h) hFc (fun q _ h => hFc q h) (fun E ce q9 u t H1 locs ht hvm hw hBx hz1 hk1 hS hce hcv hcl => absurd hk0 hw) (fun r u t H1 locs ht hvm hw hB1 hz1 hk1 hS => ?_)
                      obtain ⟨qn26, jcn26, jsn26, jvn26, kn26, hCn26, hPy, hKy, hDy⟩ := hB1
                      rw [ht] at hPy
                      obtain ⟨hP, hD⟩ := va_join (wr := WC cI cF h0 qn25 a jcn25 jsn25 jvn25 kn25 (capOf (nn (a 0 4)))) (w1 := WC cI cF h1 qn26 a jcn26 jsn26 jvn26 kn26 (capOf (nn (a 0 4)))) hP hD [27, 28, 29, 30, 31, 32, 33, 34, 35, 36, 37, 38, 39, 40, 41, 42, 43, 44, 45, 46, 47, 48, 49, 50, 51, 52, 53] [0, 1, 2, 3, 4, 5, 6, 7, 8, 9, 10, 11, 12, 13, 14, 15, 16, 17, 18, 19, 20, 21, 22, 23, 24, 25, 26] rfl rfl (by decide) (by decide) hk1 hFc hPy hDy
                      have hP := hP.sub (ws' := WB cI cF h0 qn25 a jcn25 jsn25 jvn25 kn25 (capOf (nn (a 0 4))) h1 qn26 a jcn26 jsn26 jvn26 kn26 (capOf (nn (a 0 4)))) [0, 1, 2, 3, 4, 5, 6, 7, 8, 9, 10, 11, 12, 13, 14, 15, 16, 17, 18, 19, 20, 21, 22, 23, 24, 25, 26, 27, 28, 29, 30, 31, 32, 33, 34, 35, 36, 37, 38, 39, 40, 41, 42, 43, 44, 45, 46, 47, 48, 49, 50, 51, 52, 53] rfl
                      have hD := hD.sub (ws' := WB cI cF h0 qn25 a jcn25 jsn25 jvn25 kn25 (capOf (nn (a 0 4))) h1 qn26 a jcn26 jsn26 jvn26 kn26 (capOf (nn (a 0 4)))) [0, 1, 2, 3, 4, 5, 6, 7, 8, 9, 10, 11, 12, 13, 14, 15, 16, 17, 18, 19, 20, 21, 22, 23, 24, 25, 26, 27, 28, 29, 30, 31, 32, 33, 34, 35, 36, 37, 38, 39, 40, 41, 42, 43, 44, 45, 46, 47, 48, 49, 50, 51, 52, 53] (by decide) rfl
                      generalize H1 = H at hP hS ⊢
                      have hCn26 : okC a jcn26 jsn26 jvn26 kn26 := hCn26
                      refine y_topi (y := sHsum a z (nn (a 0 3))) (by rw [hw.2, nnI (by omega)]) ?_
                      refine lv_icmp_ne (tgt := 138) hx hb dL_areAlike_118 (by decide) (fun c_27 => ?_) (fun c_27 => ?_)
                      · exact absurd rfl c_27
                      · refine lv_aload_n hx hb dL_areAlike_121 rfl (lv_at hl 4 rfl) ?_
                        refine lv_iload_n hx hb dL_areAlike_122 rfl (lv_at hl 1 rfl) ?_
                        have hP : va_P (dC, dI) vwCl (WB cI cF h0 qn25 a jcn25 jsn25 jvn25 kn25 (capOf (nn (a 0 4))) h1 qn26 a jcn26 jsn26 jvn26 kn26 (capOf (nn (a 0 4)))) H := hP
                        have hD : va_D A (WB cI cF h0 qn25 a jcn25 jsn25 jvn25 kn25 (capOf (nn (a 0 4))) h1 qn26 a jcn26 jsn26 jvn26 kn26 (capOf (nn (a 0 4)))) := hD
                        have hPc := hP.sub (ws' := WC cI cF h0 qn25 a jcn25 jsn25 jvn25 kn25 (capOf (nn (a 0 4)))) [0, 1, 2, 3, 4, 5, 6, 7, 8, 9, 10, 11, 12, 13, 14, 15, 16, 17, 18, 19, 20, 21, 22, 23, 24, 25, 26] rfl
                        have hDc := hD.sub (ws' := WC cI cF h0 qn25 a jcn25 jsn25 jvn25 kn25 (capOf (nn (a 0 4)))) [0, 1, 2, 3, 4, 5, 6, 7, 8, 9, 10, 11, 12, 13, 14, 15, 16, 17, 18, 19, 20, 21, 22, 23, 24, 25, 26] (by decide) rfl
                        have hFc := va_free (wc := WC cI cF h0 qn25 a jcn25 jsn25 jvn25 kn25 (capOf (nn (a 0 4)))) hD hS hA [0, 1, 2, 3, 4, 5, 6, 7, 8, 9, 10, 11, 12, 13, 14, 15, 16, 17, 18, 19, 20, 21, 22, 23, 24, 25, 26] rfl
                        refine vx_calli (vx_runV (As := [.int (nI z)]) (rest := []) ⟨hx, hb, hml, hown, hts⟩ (c_X4_paidTo l dC dI cI cF h0 qn25 H.size a jcn25 jsn25 jvn25 kn25 hst hCn25 hB (nI z)) (cwV 1 hts gL_areAlike_X4_paidTo rfl rfl rfl (by decide +kernel) ⟨Nat.le_of_ble_eq_true rfl, Nat.le_of_ble_eq_true rfl⟩) ⟨pcV_blind, va_recv hK hPc (ci := 4) (q0 := 0) rfl rfl, fun U hU hW => pcV_pre hPc hDc hK hV hS hFc hU hW⟩ rfl rfl hl.1 rfl (lv_room (Nat.le_of_ble_eq_true rfl)) dL_areAlike_123 ⟨(by show cells + 1 + 1 + 1 + 1 + 1 ≤ 60; omega), (by show slots + 6 + 6 + 6 + 6 + 6 ≤ 360; omega)⟩) hS (fun q _ h => hFc q h) hFc (fun q _ h => hFc q h) (fun E ce q9 u t H1 locs ht hvm hw hBx hz1 hk1 hS hce hcv hcl => absurd hk0 hw) (fun r u t H1 locs ht hvm hw hB1 hz1 hk1 hS => ?_)
                        obtain ⟨qn28, jcn28, jsn28, jvn28, kn28, hCn28, hPy, hKy, hDy⟩ := hB1
                        rw [ht] at hPy
                        obtain ⟨hP, hD⟩ := va_join (wr := WC cI cF h1 qn26 a jcn26 jsn26 jvn26 kn26 (capOf (nn (a 0 4)))) (w1 := WC cI cF h0 qn28 a jcn28 jsn28 jvn28 kn28 (capOf (nn (a 0 4)))) hP hD [0, 1, 2, 3, 4, 5, 6, 7, 8, 9, 10, 11, 12, 13, 14, 15, 16, 17, 18, 19, 20, 21, 22, 23, 24, 25, 26] [27, 28, 29, 30, 31, 32, 33, 34, 35, 36, 37, 38, 39, 40, 41, 42, 43, 44, 45, 46, 47, 48, 49, 50, 51, 52, 53] rfl rfl (by decide) (by decide) hk1 hFc hPy hDy
                        have hP := hP.sub (ws' := WB cI cF h0 qn28 a jcn28 jsn28 jvn28 kn28 (capOf (nn (a 0 4))) h1 qn26 a jcn26 jsn26 jvn26 kn26 (capOf (nn (a 0 4)))) [27, 28, 29, 30, 31, 32, 33, 34, 35, 36, 37, 38, 39, 40, 41, 42, 43, 44, 45, 46, 47, 48, 49, 50, 51, 52, 53, 0, 1, 2, 3, 4, 5, 6, 7, 8, 9, 10, 11, 12, 13, 14, 15, 16, 17, 18, 19, 20, 21, 22, 23, 24, 25, 26] rfl
                        have hD := hD.sub (ws' := WB cI cF h0 qn28 a jcn28 jsn28 jvn28 kn28 (capOf (nn (a 0 4))) h1 qn26 a jcn26 jsn26 jvn26 kn26 (capOf (nn (a 0 4)))) [27, 28, 29, 30, 31, 32, 33, 34, 35, 36, 37, 38, 39, 40, 41, 42, 43, 44, 45, 46, 47, 48, 49, 50, 51, 52, 53, 0, 1, 2, 3, 4, 5, 6, 7, 8, 9, 10, 11, 12, 13, 14, 15, 16, 17, 18, 19, 20, 21, 22, 23, 24, 25, 26] (by decide) rfl
                        generalize H1 = H at hP hS ⊢
                        have hCn28 : okC a jcn28 jsn28 jvn28 kn28 := hCn28
                        refine y_topi (y := a 8 z) (by rw [hw.2, nnI (by omega)]) ?_
                        refine lv_aload_n hx hb dL_areAlike_126 rfl (lv_at hl 3 rfl) ?_
                        refine lv_iload_n hx hb dL_areAlike_127 rfl (lv_at hl 1 rfl) ?_
                        have hP : va_P (dC, dI) vwCl (WB cI cF h0 qn28 a jcn28 jsn28 jvn28 kn28 (capOf (nn (a 0 4))) h1 qn26 a jcn26 jsn26 jvn26 kn26 (capOf (nn (a 0 4)))) H := hP
                        have hD : va_D A (WB cI cF h0 qn28 a jcn28 jsn28 jvn28 kn28 (capOf (nn (a 0 4))) h1 qn26 a jcn26 jsn26 jvn26 kn26 (capOf (nn (a 0 4)))) := hD
                        have hPc := hP.sub (ws' := WC cI cF h1 qn26 a jcn26 jsn26 jvn26 kn26 (capOf (nn (a 0 4)))) [27, 28, 29, 30, 31, 32, 33, 34, 35, 36, 37, 38, 39, 40, 41, 42, 43, 44, 45, 46, 47, 48, 49, 50, 51, 52, 53] rfl
                        have hDc := hD.sub (ws' := WC cI cF h1 qn26 a jcn26 jsn26 jvn26 kn26 (capOf (nn (a 0 4)))) [27, 28, 29, 30, 31, 32, 33, 34, 35, 36, 37, 38, 39, 40, 41, 42, 43, 44, 45, 46, 47, 48, 49, 50, 51, 52, 53] (by decide) rfl
                        have hFc := va_free (wc := WC cI cF h1 qn26 a jcn26 jsn26 jvn26 kn26 (capOf (nn (a 0 4)))) hD hS hA [27, 28, 29, 30, 31, 32, 33, 34, 35, 36, 37, 38, 39, 40, 41, 42, 43, 44, 45, 46, 47, 48, 49, 50, 51, 52, 53] rfl
                        refine vx_calli (vx_runV (As := [.int (nI z)]) (rest := [.int (a 8 z)]) ⟨hx, hb, hml, hown, hts⟩ (c_X4_paidTo l dC dI cI cF h1 qn26 H.size a jcn26 jsn26 jvn26 kn26 hst hCn26 hB (nI z)) (cwV 1 hts gL_areAlike_X4_paidTo rfl rfl rfl (by decide +kernel) ⟨Nat.le_of_ble_eq_true rfl, Nat.le_of_ble_eq_true rfl⟩) ⟨pcV_blind, va_recv hK hPc (ci := 4) (q0 := 0) rfl rfl, fun U hU hW => pcV_pre hPc hDc hK hV hS hFc hU hW⟩ rfl rfl hl.1 rfl (lv_room (Nat.le_of_ble_eq_true rfl)) dL_areAlike_128 ⟨(by show cells + 1 + 1 + 1 + 1 + 1 + 1 ≤ 60; omega), (by show slots + 6 + 6 + 6 + 6 + 6 + 6 ≤ 360; omega)⟩) hS (fun q _ h => hFc q h) hFc (fun q _ h => hFc q h) (fun E ce q9 u t H1 locs ht hvm hw hBx hz1 hk1 hS hce hcv hcl => absurd hk0 hw) (fun r u t H1 locs ht hvm hw hB1 hz1 hk1 hS => ?_)
                        obtain ⟨qn29, jcn29, jsn29, jvn29, kn29, hCn29, hPy, hKy, hDy⟩ := hB1
                        rw [ht] at hPy
                        obtain ⟨hP, hD⟩ := va_join (wr := WC cI cF h0 qn28 a jcn28 jsn28 jvn28 kn28 (capOf (nn (a 0 4)))) (w1 := WC cI cF h1 qn29 a jcn29 jsn29 jvn29 kn29 (capOf (nn (a 0 4)))) hP hD [27, 28, 29, 30, 31, 32, 33, 34, 35, 36, 37, 38, 39, 40, 41, 42, 43, 44, 45, 46, 47, 48, 49, 50, 51, 52, 53] [0, 1, 2, 3, 4, 5, 6, 7, 8, 9, 10, 11, 12, 13, 14, 15, 16, 17, 18, 19, 20, 21, 22, 23, 24, 25, 26] rfl rfl (by decide) (by decide) hk1 hFc hPy hDy
                        have hP := hP.sub (ws' := WB cI cF h0 qn28 a jcn28 jsn28 jvn28 kn28 (capOf (nn (a 0 4))) h1 qn29 a jcn29 jsn29 jvn29 kn29 (capOf (nn (a 0 4)))) [0, 1, 2, 3, 4, 5, 6, 7, 8, 9, 10, 11, 12, 13, 14, 15, 16, 17, 18, 19, 20, 21, 22, 23, 24, 25, 26, 27, 28, 29, 30, 31, 32, 33, 34, 35, 36, 37, 38, 39, 40, 41, 42, 43, 44, 45, 46, 47, 48, 49, 50, 51, 52, 53] rfl
                        have hD := hD.sub (ws' := WB cI cF h0 qn28 a jcn28 jsn28 jvn28 kn28 (capOf (nn (a 0 4))) h1 qn29 a jcn29 jsn29 jvn29 kn29 (capOf (nn (a 0 4)))) [0, 1, 2, 3, 4, 5, 6, 7, 8, 9, 10, 11, 12, 13, 14, 15, 16, 17, 18, 19, 20, 21, 22, 23, 24, 25, 26, 27, 28, 29, 30, 31, 32, 33, 34, 35, 36, 37, 38, 39, 40, 41, 42, 43, 44, 45, 46, 47, 48, 49, 50, 51, 52, 53] (by decide) rfl
                        generalize H1 = H at hP hS ⊢
                        have hCn29 : okC a jcn29 jsn29 jvn29 kn29 := hCn29
                        refine y_topi (y := a 8 z) (by rw [hw.2, nnI (by omega)]) ?_
                        refine lv_icmp_ne (tgt := 138) hx hb dL_areAlike_131 (by decide) (fun c_30 => ?_) (fun c_30 => ?_)
                        · exact absurd rfl c_30
                        · refine lv_iconst (v := 1) hx hb dL_areAlike_134 (by decide) ?_
                          refine lv_goto (tgt := 139) hx hb dL_areAlike_135 (by decide) ?_
                          refine lv_istore_n (lv' := [(2, .int 1), (4, .int (bA a (nI z))), (3, .int (nI z)), (1, .ref h1), (0, .ref h0)]) hx hb dL_areAlike_139 rfl hl (by decide) rfl (fun ls hl => ?_)
                          refine lv_iinc (v := nI (z + 1)) (lv' := [(3, .int (nI (z + 1))), (2, .int 1), (4, .int (bA a (nI z))), (1, .ref h1), (0, .ref h0)]) hx hb dL_areAlike_140 hl (k := 2) rfl (nI_1 z) (by decide) rfl (fun ls hl => ?_)
                          refine lv_goto (tgt := 74) hx hb dL_areAlike_143 (by decide) ?_
                          have hP : va_P (dC, dI) vwCl (WB cI cF h0 qn28 a jcn28 jsn28 jvn28 kn28 (capOf (nn (a 0 4))) h1 qn29 a jcn29 jsn29 jvn29 kn29 (capOf (nn (a 0 4)))) H := hP
                          have hD : va_D A (WB cI cF h0 qn28 a jcn28 jsn28 jvn28 kn28 (capOf (nn (a 0 4))) h1 qn29 a jcn29 jsn29 jvn29 kn29 (capOf (nn (a 0 4)))) := hD
                          exact ih (k9 - 1) H locs ls _ _ (by omega) ⟨z + 1, qn28, jcn28, jsn28, jvn28, kn28, qn29, jcn29, jsn29, jvn29, kn29, by omega, by omega, by omega, hCn28, hCn29, hP, hD, hS, lv_sub hl [0, 1, 3, 4] rfl⟩
