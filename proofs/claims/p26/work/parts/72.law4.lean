set_option maxHeartbeats 4000000 in
set_option maxRecDepth 100000 in
theorem c_L_isRefundedSo (l : Launch) (dC : Nat → ClassId) (dI : Nat → Nat → Nat) (cI cF : ClassId) (h0 h1 : Nat) (q q2 : Nat → Nat) (sz : Nat) (a : yA) (jc js jv : Nat → Int32) (k : Nat) (jc2 js2 jv2 : Nat → Int32) (k2 : Nat) (hst : l.stackTraces = false) (hC : okC a jc js jv k) (hC2 : okC a jc2 js2 jv2 k2) {n : Nat} {m9 t9 : Int} (hI : okX a n m9 t9) (hn : n + 3 < 512) (x kd am : Int32) (ham : nn am ≤ 100000) : Met l yL_isRefundedSo wsL_isRefundedSo ({ frames := 10, cells := 2100, slots := 12600, locals := 196 } : Room) (va_Pc [.ref h0, .ref h1, .int x, .int kd, .int am] (pcH dC dI [(cI, .int), (cF, .float)] (WB cI cF h0 q a jc js jv k (capOf (nn (a 0 4))) h1 q2 a jc2 js2 jv2 k2 (capOf (nn (a 0 4)))) sz)) (va_Qi (fun (r : Int32) (_ : Unit) => r = 1) (fun _ t => atB dC dI cI cF (va_A (WB cI cF h0 q a jc js jv k (capOf (nn (a 0 4))) h1 q2 a jc2 js2 jv2 k2 (capOf (nn (a 0 4)))) sz) h0 h1 (zT a x kd am) t) (va_A (WB cI cF h0 q a jc js jv k (capOf (nn (a 0 4))) h1 q2 a jc2 js2 jv2 k2 (capOf (nn (a 0 4)))) sz)) (2100) (12600) (va_A (WB cI cF h0 q a jc js jv k (capOf (nn (a 0 4))) h1 q2 a jc2 js2 jv2 k2 (capOf (nn (a 0 4)))) sz) := by
  refine Met.ofW (cc := cL_isRefundedSo) (maxL := 12) (ret := (some .boolean)) (by decide) rfl ?_
  intro p e s m args below meth c s₁ B hml hv
  obtain ⟨rfl, ⟨⟨hsz, hP, hK, hD0⟩, hV⟩, hN⟩ := hv
  have hx := B.exec
  have hb := B.bytes
  have hr := B.returns
  have hts := atoms_spec (ws := wsL_isRefundedSo) B.pre
  have hown : s.vm.findClass RL = some m.cls := findClass_of_methodNamed B.named
  have hlocks := B.notSynchronized
  subst hsz
  have hD := hD0.self (sz := s.heap.size)
  generalize hAe : va_A [(h0, .inr (4, [.ref (q 1), .ref (q 10), .ref (q 18), .ref (q 22), .ref (q 26), .int (a 0 2), .int (a 0 1), .int (a 0 5), .int (a 0 6), .int (a 0 7), .int (a 0 8)])), (q 1, .inr (3, [.ref (q 2), .ref (q 3), .ref (q 4), .ref (q 5), .ref (q 6), .ref (q 7), .ref (q 8), .ref (q 9), .int (a 0 0)])), (q 2, .inl (cI, 8, .inl (a 1))), (q 3, .inl (cI, 8, .inl (a 2))), (q 4, .inl (cI, 8, .inl (a 3))), (q 5, .inl (cI, 8, .inl (a 4))), (q 6, .inl (cI, 8, .inl (a 5))), (q 7, .inl (cI, 8, .inl (a 6))), (q 8, .inl (cI, 8, .inl (a 7))), (q 9, .inl (cI, 8, .inl (a 8))), (q 10, .inr (2, [.ref (q 11), .ref (q 12), .ref (q 13), .ref (q 14), .ref (q 15), .ref (q 16), .ref (q 17), .int (a 0 3)])), (q 11, .inl (cI, 100, .inl (a 10))), (q 12, .inl (cF, 100, .inr (.inr (.inl (fun j => shF (a 13 j)))))), (q 13, .inl (cI, 100, .inl (a 14))), (q 14, .inl (cI, 100, .inl (fun j => a 11 j - a 12 j))), (q 15, .inl (cI, 100, .inl (fun j => a 15 j - a 16 j))), (q 16, .inl (cI, 100, .inl (a 17))), (q 17, .inl (cI, 100, .inl (a 18))), (q 18, .inr (1, [.ref (q 19), .ref (q 20), .ref (q 21), .int (a 0 4)])), (q 19, .inl (cI, capOf (nn (a 0 4)), .inl (a 20))), (q 20, .inl (cI, capOf (nn (a 0 4)), .inl (a 19))), (q 21, .inl (cI, capOf (nn (a 0 4)), .inl (a 21))), (q 22, .inr (0, [.ref (q 23), .ref (q 24), .ref (q 25), .int (nI k)])), (q 23, .inl (cI, 8, .inl (jc))), (q 24, .inl (cI, 256, .inl (js))), (q 25, .inl (cI, 256, .inl (jv))), (q 26, .inl (cF, 4, .inr (.inr (.inl (fun j => shF (a 9 j)))))), (h1, .inr (4, [.ref (q2 1), .ref (q2 10), .ref (q2 18), .ref (q2 22), .ref (q2 26), .int (a 0 2), .int (a 0 1), .int (a 0 5), .int (a 0 6), .int (a 0 7), .int (a 0 8)])), (q2 1, .inr (3, [.ref (q2 2), .ref (q2 3), .ref (q2 4), .ref (q2 5), .ref (q2 6), .ref (q2 7), .ref (q2 8), .ref (q2 9), .int (a 0 0)])), (q2 2, .inl (cI, 8, .inl (a 1))), (q2 3, .inl (cI, 8, .inl (a 2))), (q2 4, .inl (cI, 8, .inl (a 3))), (q2 5, .inl (cI, 8, .inl (a 4))), (q2 6, .inl (cI, 8, .inl (a 5))), (q2 7, .inl (cI, 8, .inl (a 6))), (q2 8, .inl (cI, 8, .inl (a 7))), (q2 9, .inl (cI, 8, .inl (a 8))), (q2 10, .inr (2, [.ref (q2 11), .ref (q2 12), .ref (q2 13), .ref (q2 14), .ref (q2 15), .ref (q2 16), .ref (q2 17), .int (a 0 3)])), (q2 11, .inl (cI, 100, .inl (a 10))), (q2 12, .inl (cF, 100, .inr (.inr (.inl (fun j => shF (a 13 j)))))), (q2 13, .inl (cI, 100, .inl (a 14))), (q2 14, .inl (cI, 100, .inl (fun j => a 11 j - a 12 j))), (q2 15, .inl (cI, 100, .inl (fun j => a 15 j - a 16 j))), (q2 16, .inl (cI, 100, .inl (a 17))), (q2 17, .inl (cI, 100, .inl (a 18))), (q2 18, .inr (1, [.ref (q2 19), .ref (q2 20), .ref (q2 21), .int (a 0 4)])), (q2 19, .inl (cI, capOf (nn (a 0 4)), .inl (a 20))), (q2 20, .inl (cI, capOf (nn (a 0 4)), .inl (a 19))), (q2 21, .inl (cI, capOf (nn (a 0 4)), .inl (a 21))), (q2 22, .inr (0, [.ref (q2 23), .ref (q2 24), .ref (q2 25), .int (nI k2)])), (q2 23, .inl (cI, 8, .inl (jc2))), (q2 24, .inl (cI, 256, .inl (js2))), (q2 25, .inl (cI, 256, .inl (jv2))), (q2 26, .inl (cF, 4, .inr (.inr (.inl (fun j => shF (a 9 j))))))] s.heap.size = A at hD hV ⊢
  have hA : ∀ q : Nat, s.heap.size ≤ q → A q := fun q h => by rw [← hAe]; exact Or.inr h
  have hS : va_S A s.heap s.heap [] := va_S.rf
  have hl := lv_entry ([.ref h0, .ref h1, .int x, .int kd, .int am]) (n := 12) (Nat.le_of_ble_eq_true rfl)
  rw [lg_entry_eq]
  generalize (lg_sl ([.ref h0, .ref h1, .int x, .int kd, .int am]) ++ List.replicate (12 - (lg_sl ([.ref h0, .ref h1, .int x, .int kd, .int am])).length) Slot.unset).toArray = ls at hl ⊢
  have hl : lv_has ls 12 [(0, .ref h0), (1, .ref h1), (2, .int x), (3, .int kd), (4, .int am)] := hl
  have hP : va_P (dC, dI) vwCl [(h0, .inr (4, [.ref (q 1), .ref (q 10), .ref (q 18), .ref (q 22), .ref (q 26), .int (a 0 2), .int (a 0 1), .int (a 0 5), .int (a 0 6), .int (a 0 7), .int (a 0 8)])), (q 1, .inr (3, [.ref (q 2), .ref (q 3), .ref (q 4), .ref (q 5), .ref (q 6), .ref (q 7), .ref (q 8), .ref (q 9), .int (a 0 0)])), (q 2, .inl (cI, 8, .inl (a 1))), (q 3, .inl (cI, 8, .inl (a 2))), (q 4, .inl (cI, 8, .inl (a 3))), (q 5, .inl (cI, 8, .inl (a 4))), (q 6, .inl (cI, 8, .inl (a 5))), (q 7, .inl (cI, 8, .inl (a 6))), (q 8, .inl (cI, 8, .inl (a 7))), (q 9, .inl (cI, 8, .inl (a 8))), (q 10, .inr (2, [.ref (q 11), .ref (q 12), .ref (q 13), .ref (q 14), .ref (q 15), .ref (q 16), .ref (q 17), .int (a 0 3)])), (q 11, .inl (cI, 100, .inl (a 10))), (q 12, .inl (cF, 100, .inr (.inr (.inl (fun j => shF (a 13 j)))))), (q 13, .inl (cI, 100, .inl (a 14))), (q 14, .inl (cI, 100, .inl (fun j => a 11 j - a 12 j))), (q 15, .inl (cI, 100, .inl (fun j => a 15 j - a 16 j))), (q 16, .inl (cI, 100, .inl (a 17))), (q 17, .inl (cI, 100, .inl (a 18))), (q 18, .inr (1, [.ref (q 19), .ref (q 20), .ref (q 21), .int (a 0 4)])), (q 19, .inl (cI, capOf (nn (a 0 4)), .inl (a 20))), (q 20, .inl (cI, capOf (nn (a 0 4)), .inl (a 19))), (q 21, .inl (cI, capOf (nn (a 0 4)), .inl (a 21))), (q 22, .inr (0, [.ref (q 23), .ref (q 24), .ref (q 25), .int (nI k)])), (q 23, .inl (cI, 8, .inl (jc))), (q 24, .inl (cI, 256, .inl (js))), (q 25, .inl (cI, 256, .inl (jv))), (q 26, .inl (cF, 4, .inr (.inr (.inl (fun j => shF (a 9 j)))))), (h1, .inr (4, [.ref (q2 1), .ref (q2 10), .ref (q2 18), .ref (q2 22), .ref (q2 26), .int (a 0 2), .int (a 0 1), .int (a 0 5), .int (a 0 6), .int (a 0 7), .int (a 0 8)])), (q2 1, .inr (3, [.ref (q2 2), .ref (q2 3), .ref (q2 4), .ref (q2 5), .ref (q2 6), .ref (q2 7), .ref (q2 8), .ref (q2 9), .int (a 0 0)])), (q2 2, .inl (cI, 8, .inl (a 1))), (q2 3, .inl (cI, 8, .inl (a 2))), (q2 4, .inl (cI, 8, .inl (a 3))), (q2 5, .inl (cI, 8, .inl (a 4))), (q2 6, .inl (cI, 8, .inl (a 5))), (q2 7, .inl (cI, 8, .inl (a 6))), (q2 8, .inl (cI, 8, .inl (a 7))), (q2 9, .inl (cI, 8, .inl (a 8))), (q2 10, .inr (2, [.ref (q2 11), .ref (q2 12), .ref (q2 13), .ref (q2 14), .ref (q2 15), .ref (q2 16), .ref (q2 17), .int (a 0 3)])), (q2 11, .inl (cI, 100, .inl (a 10))), (q2 12, .inl (cF, 100, .inr (.inr (.inl (fun j => shF (a 13 j)))))), (q2 13, .inl (cI, 100, .inl (a 14))), (q2 14, .inl (cI, 100, .inl (fun j => a 11 j - a 12 j))), (q2 15, .inl (cI, 100, .inl (fun j => a 15 j - a 16 j))), (q2 16, .inl (cI, 100, .inl (a 17))), (q2 17, .inl (cI, 100, .inl (a 18))), (q2 18, .inr (1, [.ref (q2 19), .ref (q2 20), .ref (q2 21), .int (a 0 4)])), (q2 19, .inl (cI, capOf (nn (a 0 4)), .inl (a 20))), (q2 20, .inl (cI, capOf (nn (a 0 4)), .inl (a 19))), (q2 21, .inl (cI, capOf (nn (a 0 4)), .inl (a 21))), (q2 22, .inr (0, [.ref (q2 23), .ref (q2 24), .ref (q2 25), .int (nI k2)])), (q2 23, .inl (cI, 8, .inl (jc2))), (q2 24, .inl (cI, 256, .inl (js2))), (q2 25, .inl (cI, 256, .inl (jv2))), (q2 26, .inl (cF, 4, .inr (.inr (.inl (fun j => shF (a 9 j))))))] s.heap := hP
  refine y_enter (A := A) hP (fun H hP hS => ?_)
  have hB := okA_B hI.1
  have h8 := (hB 0 0 8 rfl).2
  refine lv_aload_n hx hb dL_isRefundedSo_0 rfl (lv_at hl 0 rfl) ?_
  have hP : va_P (dC, dI) vwCl (WB cI cF h0 q a jc js jv k (capOf (nn (a 0 4))) h1 q2 a jc2 js2 jv2 k2 (capOf (nn (a 0 4)))) H := hP
  have hD : va_D A (WB cI cF h0 q a jc js jv k (capOf (nn (a 0 4))) h1 q2 a jc2 js2 jv2 k2 (capOf (nn (a 0 4)))) := hD
  have hPc := hP.sub (ws' := WC cI cF h0 q a jc js jv k (capOf (nn (a 0 4)))) [0, 1, 2, 3, 4, 5, 6, 7, 8, 9, 10, 11, 12, 13, 14, 15, 16, 17, 18, 19, 20, 21, 22, 23, 24, 25, 26] rfl
  have hDc := hD.sub (ws' := WC cI cF h0 q a jc js jv k (capOf (nn (a 0 4)))) [0, 1, 2, 3, 4, 5, 6, 7, 8, 9, 10, 11, 12, 13, 14, 15, 16, 17, 18, 19, 20, 21, 22, 23, 24, 25, 26] (by decide) rfl
  have hFc := va_free (wc := WC cI cF h0 q a jc js jv k (capOf (nn (a 0 4)))) hD hS hA [0, 1, 2, 3, 4, 5, 6, 7, 8, 9, 10, 11, 12, 13, 14, 15, 16, 17, 18, 19, 20, 21, 22, 23, 24, 25, 26] rfl
  refine va_calli (va_runV (As := []) (rest := []) ⟨hx, hb, hml, hown, hts⟩ (c_X4_fees l dC dI cI cF h0 q H.size a jc js jv k hC hB) (cwV 0 hts gL_isRefundedSo_X4_fees rfl rfl rfl (by decide +kernel) ⟨Nat.le_of_ble_eq_true rfl, Nat.le_of_ble_eq_true rfl⟩) ⟨pcW_blind, va_recv hK hPc (ci := 4) (q0 := 0) rfl rfl, fun U hU hW => pcW_pre hPc hDc hK hU hW⟩ rfl rfl hl.1 rfl (lv_room (Nat.le_of_ble_eq_true rfl)) dL_isRefundedSo_1 ⟨(by show 0 + 0 ≤ 2100; omega), (by show 0 + 0 ≤ 12600; omega)⟩) hS (fun q _ h => hFc q h) hFc (fun r u t H1 locs ht hvm hw hB1 hz1 hk1 hS => ?_)
  obtain ⟨qn1, jcn1, jsn1, jvn1, kn1, hCn1, hPy, hKy, hDy⟩ := hB1
  rw [ht] at hPy
  obtain ⟨hP, hD⟩ := va_join (wr := WC cI cF h1 q2 a jc2 js2 jv2 k2 (capOf (nn (a 0 4)))) (w1 := WC cI cF h0 qn1 a jcn1 jsn1 jvn1 kn1 (capOf (nn (a 0 4)))) hP hD [0, 1, 2, 3, 4, 5, 6, 7, 8, 9, 10, 11, 12, 13, 14, 15, 16, 17, 18, 19, 20, 21, 22, 23, 24, 25, 26] [27, 28, 29, 30, 31, 32, 33, 34, 35, 36, 37, 38, 39, 40, 41, 42, 43, 44, 45, 46, 47, 48, 49, 50, 51, 52, 53] rfl rfl (by decide) (by decide) hk1 hFc hPy hDy
  have hP := hP.sub (ws' := WB cI cF h0 qn1 a jcn1 jsn1 jvn1 kn1 (capOf (nn (a 0 4))) h1 q2 a jc2 js2 jv2 k2 (capOf (nn (a 0 4)))) [27, 28, 29, 30, 31, 32, 33, 34, 35, 36, 37, 38, 39, 40, 41, 42, 43, 44, 45, 46, 47, 48, 49, 50, 51, 52, 53, 0, 1, 2, 3, 4, 5, 6, 7, 8, 9, 10, 11, 12, 13, 14, 15, 16, 17, 18, 19, 20, 21, 22, 23, 24, 25, 26] rfl
  have hD := hD.sub (ws' := WB cI cF h0 qn1 a jcn1 jsn1 jvn1 kn1 (capOf (nn (a 0 4))) h1 q2 a jc2 js2 jv2 k2 (capOf (nn (a 0 4)))) [27, 28, 29, 30, 31, 32, 33, 34, 35, 36, 37, 38, 39, 40, 41, 42, 43, 44, 45, 46, 47, 48, 49, 50, 51, 52, 53, 0, 1, 2, 3, 4, 5, 6, 7, 8, 9, 10, 11, 12, 13, 14, 15, 16, 17, 18, 19, 20, 21, 22, 23, 24, 25, 26] (by decide) rfl
  generalize H1 = H at hP hS ⊢
  have hCn1 : okC a jcn1 jsn1 jvn1 kn1 := hCn1
  refine y_topi (y := a 0 7) hw ?_
  refine lv_istore (lv' := [(5, .int (a 0 7)), (0, .ref h0), (1, .ref h1), (2, .int x), (3, .int kd), (4, .int am)]) hx hb dL_isRefundedSo_4 hl (by decide) rfl (fun ls hl => ?_)
  refine lv_aload_n hx hb dL_isRefundedSo_6 rfl (lv_at hl 1 rfl) ?_
  have hP : va_P (dC, dI) vwCl (WB cI cF h0 qn1 a jcn1 jsn1 jvn1 kn1 (capOf (nn (a 0 4))) h1 q2 a jc2 js2 jv2 k2 (capOf (nn (a 0 4)))) H := hP
  have hD : va_D A (WB cI cF h0 qn1 a jcn1 jsn1 jvn1 kn1 (capOf (nn (a 0 4))) h1 q2 a jc2 js2 jv2 k2 (capOf (nn (a 0 4)))) := hD
  have hPc := hP.sub (ws' := WC cI cF h0 qn1 a jcn1 jsn1 jvn1 kn1 (capOf (nn (a 0 4)))) [0, 1, 2, 3, 4, 5, 6, 7, 8, 9, 10, 11, 12, 13, 14, 15, 16, 17, 18, 19, 20, 21, 22, 23, 24, 25, 26] rfl
  have hDc := hD.sub (ws' := WC cI cF h0 qn1 a jcn1 jsn1 jvn1 kn1 (capOf (nn (a 0 4)))) [0, 1, 2, 3, 4, 5, 6, 7, 8, 9, 10, 11, 12, 13, 14, 15, 16, 17, 18, 19, 20, 21, 22, 23, 24, 25, 26] (by decide) rfl
  have hFc := va_free (wc := WC cI cF h0 qn1 a jcn1 jsn1 jvn1 kn1 (capOf (nn (a 0 4)))) hD hS hA [0, 1, 2, 3, 4, 5, 6, 7, 8, 9, 10, 11, 12, 13, 14, 15, 16, 17, 18, 19, 20, 21, 22, 23, 24, 25, 26] rfl
  refine va_calli (va_runV (As := []) (rest := []) ⟨hx, hb, hml, hown, hts⟩ (c_X4_taxes l dC dI cI cF h0 qn1 H.size a jcn1 jsn1 jvn1 kn1 hCn1 hB) (cwV 0 hts gL_isRefundedSo_X4_taxes rfl rfl rfl (by decide +kernel) ⟨Nat.le_of_ble_eq_true rfl, Nat.le_of_ble_eq_true rfl⟩) ⟨pcW_blind, va_recv hK hPc (ci := 4) (q0 := 0) rfl rfl, fun U hU hW => pcW_pre hPc hDc hK hU hW⟩ rfl rfl hl.1 rfl (lv_room (Nat.le_of_ble_eq_true rfl)) dL_isRefundedSo_7 ⟨(by show 0 + 0 + 0 ≤ 2100; omega), (by show 0 + 0 + 0 ≤ 12600; omega)⟩) hS (fun q _ h => hFc q h) hFc (fun r u t H1 locs ht hvm hw hB1 hz1 hk1 hS => ?_)
  obtain ⟨qn2, jcn2, jsn2, jvn2, kn2, hCn2, hPy, hKy, hDy⟩ := hB1
  rw [ht] at hPy
  obtain ⟨hP, hD⟩ := va_join (wr := WC cI cF h1 q2 a jc2 js2 jv2 k2 (capOf (nn (a 0 4)))) (w1 := WC cI cF h0 qn2 a jcn2 jsn2 jvn2 kn2 (capOf (nn (a 0 4)))) hP hD [0, 1, 2, 3, 4, 5, 6, 7, 8, 9, 10, 11, 12, 13, 14, 15, 16, 17, 18, 19, 20, 21, 22, 23, 24, 25, 26] [27, 28, 29, 30, 31, 32, 33, 34, 35, 36, 37, 38, 39, 40, 41, 42, 43, 44, 45, 46, 47, 48, 49, 50, 51, 52, 53] rfl rfl (by decide) (by decide) hk1 hFc hPy hDy
  have hP := hP.sub (ws' := WB cI cF h0 qn2 a jcn2 jsn2 jvn2 kn2 (capOf (nn (a 0 4))) h1 q2 a jc2 js2 jv2 k2 (capOf (nn (a 0 4)))) [27, 28, 29, 30, 31, 32, 33, 34, 35, 36, 37, 38, 39, 40, 41, 42, 43, 44, 45, 46, 47, 48, 49, 50, 51, 52, 53, 0, 1, 2, 3, 4, 5, 6, 7, 8, 9, 10, 11, 12, 13, 14, 15, 16, 17, 18, 19, 20, 21, 22, 23, 24, 25, 26] rfl
  have hD := hD.sub (ws' := WB cI cF h0 qn2 a jcn2 jsn2 jvn2 kn2 (capOf (nn (a 0 4))) h1 q2 a jc2 js2 jv2 k2 (capOf (nn (a 0 4)))) [27, 28, 29, 30, 31, 32, 33, 34, 35, 36, 37, 38, 39, 40, 41, 42, 43, 44, 45, 46, 47, 48, 49, 50, 51, 52, 53, 0, 1, 2, 3, 4, 5, 6, 7, 8, 9, 10, 11, 12, 13, 14, 15, 16, 17, 18, 19, 20, 21, 22, 23, 24, 25, 26] (by decide) rfl
  generalize H1 = H at hP hS ⊢
  have hCn2 : okC a jcn2 jsn2 jvn2 kn2 := hCn2
  refine y_topi (y := a 0 8) hw ?_
  refine lv_istore (lv' := [(6, .int (a 0 8)), (5, .int (a 0 7)), (0, .ref h0), (1, .ref h1), (2, .int x), (3, .int kd), (4, .int am)]) hx hb dL_isRefundedSo_10 hl (by decide) rfl (fun ls hl => ?_)
  refine lv_aload_n hx hb dL_isRefundedSo_12 rfl (lv_at hl 2 rfl) ?_
  refine lv_iload_n hx hb dL_isRefundedSo_13 rfl (lv_at hl 4 rfl) ?_
  have hP : va_P (dC, dI) vwCl (WB cI cF h0 qn2 a jcn2 jsn2 jvn2 kn2 (capOf (nn (a 0 4))) h1 q2 a jc2 js2 jv2 k2 (capOf (nn (a 0 4)))) H := hP
  have hD : va_D A (WB cI cF h0 qn2 a jcn2 jsn2 jvn2 kn2 (capOf (nn (a 0 4))) h1 q2 a jc2 js2 jv2 k2 (capOf (nn (a 0 4)))) := hD
  have hPc := hP.sub (ws' := WC cI cF h0 qn2 a jcn2 jsn2 jvn2 kn2 (capOf (nn (a 0 4)))) [0, 1, 2, 3, 4, 5, 6, 7, 8, 9, 10, 11, 12, 13, 14, 15, 16, 17, 18, 19, 20, 21, 22, 23, 24, 25, 26] rfl
  have hDc := hD.sub (ws' := WC cI cF h0 qn2 a jcn2 jsn2 jvn2 kn2 (capOf (nn (a 0 4)))) [0, 1, 2, 3, 4, 5, 6, 7, 8, 9, 10, 11, 12, 13, 14, 15, 16, 17, 18, 19, 20, 21, 22, 23, 24, 25, 26] (by decide) rfl
  have hFc := va_free (wc := WC cI cF h0 qn2 a jcn2 jsn2 jvn2 kn2 (capOf (nn (a 0 4)))) hD hS hA [0, 1, 2, 3, 4, 5, 6, 7, 8, 9, 10, 11, 12, 13, 14, 15, 16, 17, 18, 19, 20, 21, 22, 23, 24, 25, 26] rfl
  refine va_calli (vx_runSW (As := [.ref h0, .int x]) (rest := []) ⟨hx, hb, hml, hown, hts⟩ (c_L_balance l dC dI cI cF h0 qn2 H.size a jcn2 jsn2 jvn2 kn2 hst hCn2 hB x) (vx_cwSW 2 hts gL_isRefundedSo_L_balance rfl rfl rfl (by decide +kernel) ⟨Nat.le_of_ble_eq_true rfl, Nat.le_of_ble_eq_true rfl⟩) ⟨pcH_blind, fun U hU hW => pcH_pre hPc hDc hK hV hN hS hFc hU hW⟩ rfl rfl hl.1 rfl (lv_room (Nat.le_of_ble_eq_true rfl)) dL_isRefundedSo_14 ⟨(by show 0 + 0 + 0 + 1 ≤ 2100; omega), (by show 0 + 0 + 0 + 6 ≤ 12600; omega)⟩) hS (fun q _ h => hFc q h) hFc (fun r u t H1 locs ht hvm hw hB1 hz1 hk1 hS => ?_)
  obtain ⟨qn3, jcn3, jsn3, jvn3, kn3, hCn3, hPy, hKy, hDy⟩ := hB1
  rw [ht] at hPy
  obtain ⟨hP, hD⟩ := va_join (wr := WC cI cF h1 q2 a jc2 js2 jv2 k2 (capOf (nn (a 0 4)))) (w1 := WC cI cF h0 qn3 a jcn3 jsn3 jvn3 kn3 (capOf (nn (a 0 4)))) hP hD [0, 1, 2, 3, 4, 5, 6, 7, 8, 9, 10, 11, 12, 13, 14, 15, 16, 17, 18, 19, 20, 21, 22, 23, 24, 25, 26] [27, 28, 29, 30, 31, 32, 33, 34, 35, 36, 37, 38, 39, 40, 41, 42, 43, 44, 45, 46, 47, 48, 49, 50, 51, 52, 53] rfl rfl (by decide) (by decide) hk1 hFc hPy hDy
  have hP := hP.sub (ws' := WB cI cF h0 qn3 a jcn3 jsn3 jvn3 kn3 (capOf (nn (a 0 4))) h1 q2 a jc2 js2 jv2 k2 (capOf (nn (a 0 4)))) [27, 28, 29, 30, 31, 32, 33, 34, 35, 36, 37, 38, 39, 40, 41, 42, 43, 44, 45, 46, 47, 48, 49, 50, 51, 52, 53, 0, 1, 2, 3, 4, 5, 6, 7, 8, 9, 10, 11, 12, 13, 14, 15, 16, 17, 18, 19, 20, 21, 22, 23, 24, 25, 26] rfl
  have hD := hD.sub (ws' := WB cI cF h0 qn3 a jcn3 jsn3 jvn3 kn3 (capOf (nn (a 0 4))) h1 q2 a jc2 js2 jv2 k2 (capOf (nn (a 0 4)))) [27, 28, 29, 30, 31, 32, 33, 34, 35, 36, 37, 38, 39, 40, 41, 42, 43, 44, 45, 46, 47, 48, 49, 50, 51, 52, 53, 0, 1, 2, 3, 4, 5, 6, 7, 8, 9, 10, 11, 12, 13, 14, 15, 16, 17, 18, 19, 20, 21, 22, 23, 24, 25, 26] (by decide) rfl
  generalize H1 = H at hP hS ⊢
  have hCn3 : okC a jcn3 jsn3 jvn3 kn3 := hCn3
  refine y_topi (y := bA a x) hw ?_
  refine lv_istore (lv' := [(7, .int (bA a x)), (6, .int (a 0 8)), (5, .int (a 0 7)), (0, .ref h0), (1, .ref h1), (2, .int x), (3, .int kd), (4, .int am)]) hx hb dL_isRefundedSo_17 hl (by decide) rfl (fun ls hl => ?_)
  refine lv_iload hx hb dL_isRefundedSo_19 (lv_at hl 0 rfl) ?_
  refine lv_ldc hx hb hown (hts (.constant RL 45 (-2000000001)) (List.mem_of_getElem? (i := 1) rfl)) dL_isRefundedSo_21 ?_
  refine lv_icmp_ne (tgt := 42) hx hb dL_isRefundedSo_23 (by decide) (fun c_4 => ?_) (fun c_4 => ?_)
  · have hs : kSel a x = 0 := by
      by_cases q : kSel a x = 0
      · exact q
      · exact absurd (bA_n q) c_4
    refine lv_aload_n hx hb dL_isRefundedSo_42 rfl (lv_at hl 3 rfl) ?_
    refine lv_iload_n hx hb dL_isRefundedSo_43 rfl (lv_at hl 5 rfl) ?_
    have hP : va_P (dC, dI) vwCl (WB cI cF h0 qn3 a jcn3 jsn3 jvn3 kn3 (capOf (nn (a 0 4))) h1 q2 a jc2 js2 jv2 k2 (capOf (nn (a 0 4)))) H := hP
    have hD : va_D A (WB cI cF h0 qn3 a jcn3 jsn3 jvn3 kn3 (capOf (nn (a 0 4))) h1 q2 a jc2 js2 jv2 k2 (capOf (nn (a 0 4)))) := hD
    have hPc := hP.sub (ws' := WC cI cF h0 qn3 a jcn3 jsn3 jvn3 kn3 (capOf (nn (a 0 4)))) [0, 1, 2, 3, 4, 5, 6, 7, 8, 9, 10, 11, 12, 13, 14, 15, 16, 17, 18, 19, 20, 21, 22, 23, 24, 25, 26] rfl
    have hDc := hD.sub (ws' := WC cI cF h0 qn3 a jcn3 jsn3 jvn3 kn3 (capOf (nn (a 0 4)))) [0, 1, 2, 3, 4, 5, 6, 7, 8, 9, 10, 11, 12, 13, 14, 15, 16, 17, 18, 19, 20, 21, 22, 23, 24, 25, 26] (by decide) rfl
    have hFc := va_free (wc := WC cI cF h0 qn3 a jcn3 jsn3 jvn3 kn3 (capOf (nn (a 0 4)))) hD hS hA [0, 1, 2, 3, 4, 5, 6, 7, 8, 9, 10, 11, 12, 13, 14, 15, 16, 17, 18, 19, 20, 21, 22, 23, 24, 25, 26] rfl
    refine vx_calli (vx_runV (As := [.int x]) (rest := []) ⟨hx, hb, hml, hown, hts⟩ (c_X4_reserve l dC dI cI cF h0 qn3 H.size a jcn3 jsn3 jvn3 kn3 hst hCn3 hB x) (cwV 1 hts gL_isRefundedSo_X4_reserve rfl rfl rfl (by decide +kernel) ⟨Nat.le_of_ble_eq_true rfl, Nat.le_of_ble_eq_true rfl⟩) ⟨pcV_blind, va_recv hK hPc (ci := 4) (q0 := 0) rfl rfl, fun U hU hW => pcV_pre hPc hDc hK hV hS hFc hU hW⟩ rfl rfl hl.1 rfl (lv_room (Nat.le_of_ble_eq_true rfl)) dL_isRefundedSo_44 ⟨(by show 0 + 0 + 0 + 1 + 1 ≤ 2100; omega), (by show 0 + 0 + 0 + 6 + 6 ≤ 12600; omega)⟩) hS (fun q _ h => hFc q h) hFc (fun q _ h => hFc q h) (fun E ce q9 u t H1 locs ht hvm hw hBx hz1 hk1 hS hce hcv hcl => absurd hs hw) (fun r u t H1 locs ht hvm hw hB1 hz1 hk1 hS => ?_)
    obtain ⟨qn5, jcn5, jsn5, jvn5, kn5, hCn5, hPy, hKy, hDy⟩ := hB1
    rw [ht] at hPy
    obtain ⟨hP, hD⟩ := va_join (wr := WC cI cF h1 q2 a jc2 js2 jv2 k2 (capOf (nn (a 0 4)))) (w1 := WC cI cF h0 qn5 a jcn5 jsn5 jvn5 kn5 (capOf (nn (a 0 4)))) hP hD [0, 1, 2, 3, 4, 5, 6, 7, 8, 9, 10, 11, 12, 13, 14, 15, 16, 17, 18, 19, 20, 21, 22, 23, 24, 25, 26] [27, 28, 29, 30, 31, 32, 33, 34, 35, 36, 37, 38, 39, 40, 41, 42, 43, 44, 45, 46, 47, 48, 49, 50, 51, 52, 53] rfl rfl (by decide) (by decide) hk1 hFc hPy hDy
    have hP := hP.sub (ws' := WB cI cF h0 qn5 a jcn5 jsn5 jvn5 kn5 (capOf (nn (a 0 4))) h1 q2 a jc2 js2 jv2 k2 (capOf (nn (a 0 4)))) [27, 28, 29, 30, 31, 32, 33, 34, 35, 36, 37, 38, 39, 40, 41, 42, 43, 44, 45, 46, 47, 48, 49, 50, 51, 52, 53, 0, 1, 2, 3, 4, 5, 6, 7, 8, 9, 10, 11, 12, 13, 14, 15, 16, 17, 18, 19, 20, 21, 22, 23, 24, 25, 26] rfl
    have hD := hD.sub (ws' := WB cI cF h0 qn5 a jcn5 jsn5 jvn5 kn5 (capOf (nn (a 0 4))) h1 q2 a jc2 js2 jv2 k2 (capOf (nn (a 0 4)))) [27, 28, 29, 30, 31, 32, 33, 34, 35, 36, 37, 38, 39, 40, 41, 42, 43, 44, 45, 46, 47, 48, 49, 50, 51, 52, 53, 0, 1, 2, 3, 4, 5, 6, 7, 8, 9, 10, 11, 12, 13, 14, 15, 16, 17, 18, 19, 20, 21, 22, 23, 24, 25, 26] (by decide) rfl
    generalize H1 = H at hP hS ⊢
    have hCn5 : okC a jcn5 jsn5 jvn5 kn5 := hCn5
    refine y_topi (y := sHsum a (nn x) (nn (a 0 3))) hw.2 ?_
    refine lv_istore (lv' := [(8, .int (sHsum a (nn x) (nn (a 0 3)))), (7, .int (bA a x)), (6, .int (a 0 8)), (5, .int (a 0 7)), (0, .ref h0), (1, .ref h1), (2, .int x), (3, .int kd), (4, .int am)]) hx hb dL_isRefundedSo_47 hl (by decide) rfl (fun ls hl => ?_)
    refine lv_aload_n hx hb dL_isRefundedSo_49 rfl (lv_at hl 4 rfl) ?_
    refine lv_bipush (v := 6) hx hb dL_isRefundedSo_50 (by decide) ?_
    refine lv_iload_n hx hb dL_isRefundedSo_52 rfl (lv_at hl 6 rfl) ?_
    refine lv_iload_n hx hb dL_isRefundedSo_53 rfl (lv_at hl 7 rfl) ?_
    refine lv_iload hx hb dL_isRefundedSo_54 (lv_at hl 8 rfl) ?_
    have hP : va_P (dC, dI) vwCl (WB cI cF h0 qn5 a jcn5 jsn5 jvn5 kn5 (capOf (nn (a 0 4))) h1 q2 a jc2 js2 jv2 k2 (capOf (nn (a 0 4)))) H := hP
    have hD : va_D A (WB cI cF h0 qn5 a jcn5 jsn5 jvn5 kn5 (capOf (nn (a 0 4))) h1 q2 a jc2 js2 jv2 k2 (capOf (nn (a 0 4)))) := hD
    have hPc := hP.sub (ws' := WC cI cF h0 qn5 a jcn5 jsn5 jvn5 kn5 (capOf (nn (a 0 4)))) [0, 1, 2, 3, 4, 5, 6, 7, 8, 9, 10, 11, 12, 13, 14, 15, 16, 17, 18, 19, 20, 21, 22, 23, 24, 25, 26] rfl
    have hDc := hD.sub (ws' := WC cI cF h0 qn5 a jcn5 jsn5 jvn5 kn5 (capOf (nn (a 0 4)))) [0, 1, 2, 3, 4, 5, 6, 7, 8, 9, 10, 11, 12, 13, 14, 15, 16, 17, 18, 19, 20, 21, 22, 23, 24, 25, 26] (by decide) rfl
    have hFc := va_free (wc := WC cI cF h0 qn5 a jcn5 jsn5 jvn5 kn5 (capOf (nn (a 0 4)))) hD hS hA [0, 1, 2, 3, 4, 5, 6, 7, 8, 9, 10, 11, 12, 13, 14, 15, 16, 17, 18, 19, 20, 21, 22, 23, 24, 25, 26] rfl
    refine va_calli (vx_runSW (As := [.ref h0, .int 6, .int x, .int kd, .int am]) (rest := []) ⟨hx, hb, hml, hown, hts⟩ (c_L_does l dC dI cI cF h0 qn5 H.size a jcn5 jsn5 jvn5 kn5 hst hCn5 hI.1 (by omega) 6 x kd am) (vx_cwSW 5 hts gL_isRefundedSo_L_does rfl rfl rfl (by decide +kernel) ⟨Nat.le_of_ble_eq_true rfl, Nat.le_of_ble_eq_true rfl⟩) ⟨pcH_blind, fun U hU hW => pcH_pre hPc hDc hK hV hN hS hFc hU hW⟩ rfl rfl hl.1 rfl (lv_room (Nat.le_of_ble_eq_true rfl)) dL_isRefundedSo_56 ⟨(by show 0 + 0 + 0 + 1 + 1 + 1026 ≤ 2100; omega), (by show 0 + 0 + 0 + 6 + 6 + 6156 ≤ 12600; omega)⟩) hS (fun q _ h => hFc q h) hFc (fun r u t H1 locs ht hvm hw hB1 hz1 hk1 hS => ?_)
    obtain ⟨qn6, jcn6, jsn6, jvn6, kn6, hCn6, hPy, hKy, hDy⟩ := hB1
    rw [ht] at hPy
    obtain ⟨hP, hD⟩ := va_join (wr := WC cI cF h1 q2 a jc2 js2 jv2 k2 (capOf (nn (a 0 4)))) (w1 := WC cI cF h0 qn6 (dT a 6 x kd am) jcn6 jsn6 jvn6 kn6 (capOf (nn ((dT a 6 x kd am) 0 4)))) hP hD [0, 1, 2, 3, 4, 5, 6, 7, 8, 9, 10, 11, 12, 13, 14, 15, 16, 17, 18, 19, 20, 21, 22, 23, 24, 25, 26] [27, 28, 29, 30, 31, 32, 33, 34, 35, 36, 37, 38, 39, 40, 41, 42, 43, 44, 45, 46, 47, 48, 49, 50, 51, 52, 53] rfl rfl (by decide) (by decide) hk1 hFc hPy hDy
    have hP := hP.sub (ws' := WB cI cF h0 qn6 (dT a 6 x kd am) jcn6 jsn6 jvn6 kn6 (capOf (nn ((dT a 6 x kd am) 0 4))) h1 q2 a jc2 js2 jv2 k2 (capOf (nn (a 0 4)))) [27, 28, 29, 30, 31, 32, 33, 34, 35, 36, 37, 38, 39, 40, 41, 42, 43, 44, 45, 46, 47, 48, 49, 50, 51, 52, 53, 0, 1, 2, 3, 4, 5, 6, 7, 8, 9, 10, 11, 12, 13, 14, 15, 16, 17, 18, 19, 20, 21, 22, 23, 24, 25, 26] rfl
    have hD := hD.sub (ws' := WB cI cF h0 qn6 (dT a 6 x kd am) jcn6 jsn6 jvn6 kn6 (capOf (nn ((dT a 6 x kd am) 0 4))) h1 q2 a jc2 js2 jv2 k2 (capOf (nn (a 0 4)))) [27, 28, 29, 30, 31, 32, 33, 34, 35, 36, 37, 38, 39, 40, 41, 42, 43, 44, 45, 46, 47, 48, 49, 50, 51, 52, 53, 0, 1, 2, 3, 4, 5, 6, 7, 8, 9, 10, 11, 12, 13, 14, 15, 16, 17, 18, 19, 20, 21, 22, 23, 24, 25, 26] (by decide) rfl
    generalize H1 = H at hP hS ⊢
    have hCn6 : okC (dT a 6 x kd am) jcn6 jsn6 jvn6 kn6 := hCn6
    refine y_topi (y := dA a 6 x kd am) hw ?_
    refine lv_istore (lv' := [(9, .int (dA a 6 x kd am)), (8, .int (sHsum a (nn x) (nn (a 0 3)))), (7, .int (bA a x)), (6, .int (a 0 8)), (5, .int (a 0 7)), (0, .ref h0), (1, .ref h1), (2, .int x), (3, .int kd), (4, .int am)]) hx hb dL_isRefundedSo_59 hl (by decide) rfl (fun ls hl => ?_)
    refine lv_aload_n hx hb dL_isRefundedSo_61 rfl (lv_at hl 6 rfl) ?_
    refine lv_bipush (v := 6) hx hb dL_isRefundedSo_62 (by decide) ?_
    refine lv_iload_n hx hb dL_isRefundedSo_64 rfl (lv_at hl 7 rfl) ?_
    refine lv_iload_n hx hb dL_isRefundedSo_65 rfl (lv_at hl 8 rfl) ?_
    refine lv_iload hx hb dL_isRefundedSo_66 (lv_at hl 9 rfl) ?_
    have hP : va_P (dC, dI) vwCl (WB cI cF h0 qn6 (dT a 6 x kd am) jcn6 jsn6 jvn6 kn6 (capOf (nn ((dT a 6 x kd am) 0 4))) h1 q2 a jc2 js2 jv2 k2 (capOf (nn (a 0 4)))) H := hP
    have hD : va_D A (WB cI cF h0 qn6 (dT a 6 x kd am) jcn6 jsn6 jvn6 kn6 (capOf (nn ((dT a 6 x kd am) 0 4))) h1 q2 a jc2 js2 jv2 k2 (capOf (nn (a 0 4)))) := hD
    have hPc := hP.sub (ws' := WC cI cF h1 q2 a jc2 js2 jv2 k2 (capOf (nn (a 0 4)))) [27, 28, 29, 30, 31, 32, 33, 34, 35, 36, 37, 38, 39, 40, 41, 42, 43, 44, 45, 46, 47, 48, 49, 50, 51, 52, 53] rfl
    have hDc := hD.sub (ws' := WC cI cF h1 q2 a jc2 js2 jv2 k2 (capOf (nn (a 0 4)))) [27, 28, 29, 30, 31, 32, 33, 34, 35, 36, 37, 38, 39, 40, 41, 42, 43, 44, 45, 46, 47, 48, 49, 50, 51, 52, 53] (by decide) rfl
    have hFc := va_free (wc := WC cI cF h1 q2 a jc2 js2 jv2 k2 (capOf (nn (a 0 4)))) hD hS hA [27, 28, 29, 30, 31, 32, 33, 34, 35, 36, 37, 38, 39, 40, 41, 42, 43, 44, 45, 46, 47, 48, 49, 50, 51, 52, 53] rfl
    refine va_calli (vx_runSW (As := [.ref h1, .int 6, .int x, .int kd, .int am]) (rest := []) ⟨hx, hb, hml, hown, hts⟩ (c_L_does l dC dI cI cF h1 q2 H.size a jc2 js2 jv2 k2 hst hC2 hI.1 (by omega) 6 x kd am) (vx_cwSW 5 hts gL_isRefundedSo_L_does rfl rfl rfl (by decide +kernel) ⟨Nat.le_of_ble_eq_true rfl, Nat.le_of_ble_eq_true rfl⟩) ⟨pcH_blind, fun U hU hW => pcH_pre hPc hDc hK hV hN hS hFc hU hW⟩ rfl rfl hl.1 rfl (lv_room (Nat.le_of_ble_eq_true rfl)) dL_isRefundedSo_68 ⟨(by show 0 + 0 + 0 + 1 + 1 + 1026 + 1026 ≤ 2100; omega), (by show 0 + 0 + 0 + 6 + 6 + 6156 + 6156 ≤ 12600; omega)⟩) hS (fun q _ h => hFc q h) hFc (fun r u t H1 locs ht hvm hw hB1 hz1 hk1 hS => ?_)
    obtain ⟨qn7, jcn7, jsn7, jvn7, kn7, hCn7, hPy, hKy, hDy⟩ := hB1
    rw [ht] at hPy
    obtain ⟨hP, hD⟩ := va_join (wr := WC cI cF h0 qn6 (dT a 6 x kd am) jcn6 jsn6 jvn6 kn6 (capOf (nn ((dT a 6 x kd am) 0 4)))) (w1 := WC cI cF h1 qn7 (dT a 6 x kd am) jcn7 jsn7 jvn7 kn7 (capOf (nn ((dT a 6 x kd am) 0 4)))) hP hD [27, 28, 29, 30, 31, 32, 33, 34, 35, 36, 37, 38, 39, 40, 41, 42, 43, 44, 45, 46, 47, 48, 49, 50, 51, 52, 53] [0, 1, 2, 3, 4, 5, 6, 7, 8, 9, 10, 11, 12, 13, 14, 15, 16, 17, 18, 19, 20, 21, 22, 23, 24, 25, 26] rfl rfl (by decide) (by decide) hk1 hFc hPy hDy
    have hP := hP.sub (ws' := WB cI cF h0 qn6 (dT a 6 x kd am) jcn6 jsn6 jvn6 kn6 (capOf (nn ((dT a 6 x kd am) 0 4))) h1 qn7 (dT a 6 x kd am) jcn7 jsn7 jvn7 kn7 (capOf (nn ((dT a 6 x kd am) 0 4)))) [0, 1, 2, 3, 4, 5, 6, 7, 8, 9, 10, 11, 12, 13, 14, 15, 16, 17, 18, 19, 20, 21, 22, 23, 24, 25, 26, 27, 28, 29, 30, 31, 32, 33, 34, 35, 36, 37, 38, 39, 40, 41, 42, 43, 44, 45, 46, 47, 48, 49, 50, 51, 52, 53] rfl
    have hD := hD.sub (ws' := WB cI cF h0 qn6 (dT a 6 x kd am) jcn6 jsn6 jvn6 kn6 (capOf (nn ((dT a 6 x kd am) 0 4))) h1 qn7 (dT a 6 x kd am) jcn7 jsn7 jvn7 kn7 (capOf (nn ((dT a 6 x kd am) 0 4)))) [0, 1, 2, 3, 4, 5, 6, 7, 8, 9, 10, 11, 12, 13, 14, 15, 16, 17, 18, 19, 20, 21, 22, 23, 24, 25, 26, 27, 28, 29, 30, 31, 32, 33, 34, 35, 36, 37, 38, 39, 40, 41, 42, 43, 44, 45, 46, 47, 48, 49, 50, 51, 52, 53] (by decide) rfl
    generalize H1 = H at hP hS ⊢
    have hCn7 : okC (dT a 6 x kd am) jcn7 jsn7 jvn7 kn7 := hCn7
    refine y_topi (y := dA a 6 x kd am) hw ?_
    refine lv_iload hx hb dL_isRefundedSo_71 (lv_at hl 0 rfl) ?_
    refine lv_icmp_ne (tgt := 80) hx hb dL_isRefundedSo_73 (by decide) (fun c_8 => ?_) (fun c_8 => ?_)
    · exact absurd rfl c_8
    · refine lv_iconst (v := 1) hx hb dL_isRefundedSo_76 (by decide) ?_
      refine lv_goto (tgt := 81) hx hb dL_isRefundedSo_77 (by decide) ?_
      refine lv_istore (lv' := [(10, .int 1), (9, .int (dA a 6 x kd am)), (8, .int (sHsum a (nn x) (nn (a 0 3)))), (7, .int (bA a x)), (6, .int (a 0 8)), (5, .int (a 0 7)), (0, .ref h0), (1, .ref h1), (2, .int x), (3, .int kd), (4, .int am)]) hx hb dL_isRefundedSo_81 hl (by decide) rfl (fun ls hl => ?_)
      by_cases hk : kSell a x kd am = 0
      · have hkd : dK a 6 x kd am = 0 := (dK6 a x kd am).trans hk
        obtain ⟨f1, f2, ⟨f3, f4, f5⟩, f6, f7, f8, f9, f10, f11, f12⟩ := whole_ref hI hn hk ham
        have hXb := okX_sell1 hI (by omega) hk ham
        have hs9 := (kSel_of (a := a) x (sell00 a x kd am (nn (a 0 3)) am true)).trans hs
        obtain ⟨b, eb⟩ : ∃ b, b = sSell a x kd am := ⟨_, rfl⟩
        have eT : dT a 6 x kd am = b := (dT_y hkd).trans ((dS6 a x kd am).trans eb.symm)
        have eA : dA a 6 x kd am = a 0 3 := (dA_y hkd).trans (dV6 a x kd am)
        have eZ : zT a x kd am = sRefund b (nn (a 0 3)) am true := by
          unfold zT
          rw [if_pos hs, if_pos hk, eb]
        rw [← eb] at f3 f4 f5 f6 f7 f8 f9 f10 f11 f12 hXb hs9
        have hXc := okX_ref hXb (by omega) true f6 (Int.le_refl m9)
        obtain ⟨c9, ec⟩ : ∃ c9, c9 = sRefund b (nn (a 0 3)) am true := ⟨_, rfl⟩
        rw [← ec] at f8 f9 f10 f11 f12 hXc eZ hs9
        have hBb := okA_B hXb.1
        have hBc := okA_B hXc.1
        have e1 : decide (¬ (1 : Int32) = 0) = true := by decide
        have eR : rA b (a 0 3) am 1 = c9 7 (nn x) := by
          rw [rA_y f6, e1, ← ec, f7]
        have eR2 : rT b (a 0 3) am 1 = c9 := by
          rw [rT_y f6, e1, ← ec]
        have eR3 : rA c9 (a 0 3) 1 1 = -2000000001 := rA_n f8
        have eR4 : rT c9 (a 0 3) 1 1 = c9 := rT_n f8
        rw [eT] at hP hD hCn6 hCn7
        rw [eA] at hl
        refine lv_iload hx hb dL_isRefundedSo_83 (lv_at hl 1 rfl) ?_
        refine lv_if_ge (tgt := 91) hx hb dL_isRefundedSo_85 (by decide) (fun c_9 => ?_) (fun c_9 => ?_)
        · refine lv_iload hx hb dL_isRefundedSo_91 (lv_at hl 0 rfl) ?_
          refine lv_if_eq (tgt := 138) hx hb dL_isRefundedSo_93 (by decide) (fun c_10 => ?_) (fun c_10 => ?_)
          · exact absurd c_10 (by decide)
          · refine lv_aload_n hx hb dL_isRefundedSo_96 rfl (lv_at hl 6 rfl) ?_
            have hP : va_P (dC, dI) vwCl (WB cI cF h0 qn6 b jcn6 jsn6 jvn6 kn6 (capOf (nn (b 0 4))) h1 qn7 b jcn7 jsn7 jvn7 kn7 (capOf (nn (b 0 4)))) H := hP
            have hD : va_D A (WB cI cF h0 qn6 b jcn6 jsn6 jvn6 kn6 (capOf (nn (b 0 4))) h1 qn7 b jcn7 jsn7 jvn7 kn7 (capOf (nn (b 0 4)))) := hD
            have hPc := hP.sub (ws' := WC cI cF h0 qn6 b jcn6 jsn6 jvn6 kn6 (capOf (nn (b 0 4)))) [0, 1, 2, 3, 4, 5, 6, 7, 8, 9, 10, 11, 12, 13, 14, 15, 16, 17, 18, 19, 20, 21, 22, 23, 24, 25, 26] rfl
            have hDc := hD.sub (ws' := WC cI cF h0 qn6 b jcn6 jsn6 jvn6 kn6 (capOf (nn (b 0 4)))) [0, 1, 2, 3, 4, 5, 6, 7, 8, 9, 10, 11, 12, 13, 14, 15, 16, 17, 18, 19, 20, 21, 22, 23, 24, 25, 26] (by decide) rfl
            have hFc := va_free (wc := WC cI cF h0 qn6 b jcn6 jsn6 jvn6 kn6 (capOf (nn (b 0 4)))) hD hS hA [0, 1, 2, 3, 4, 5, 6, 7, 8, 9, 10, 11, 12, 13, 14, 15, 16, 17, 18, 19, 20, 21, 22, 23, 24, 25, 26] rfl
            refine va_calli (va_runV (As := []) (rest := []) ⟨hx, hb, hml, hown, hts⟩ (c_X4_fees l dC dI cI cF h0 qn6 H.size b jcn6 jsn6 jvn6 kn6 hCn6 hBb) (cwV 0 hts gL_isRefundedSo_X4_fees rfl rfl rfl (by decide +kernel) ⟨Nat.le_of_ble_eq_true rfl, Nat.le_of_ble_eq_true rfl⟩) ⟨pcW_blind, va_recv hK hPc (ci := 4) (q0 := 0) rfl rfl, fun U hU hW => pcW_pre hPc hDc hK hU hW⟩ rfl rfl hl.1 rfl (lv_room (Nat.le_of_ble_eq_true rfl)) dL_isRefundedSo_97 ⟨(by show 0 + 0 + 0 + 1 + 1 + 1026 + 1026 + 0 ≤ 2100; omega), (by show 0 + 0 + 0 + 6 + 6 + 6156 + 6156 + 0 ≤ 12600; omega)⟩) hS (fun q _ h => hFc q h) hFc (fun r u t H1 locs ht hvm hw hB1 hz1 hk1 hS => ?_)
            obtain ⟨qn11, jcn11, jsn11, jvn11, kn11, hCn11, hPy, hKy, hDy⟩ := hB1
            rw [ht] at hPy
            obtain ⟨hP, hD⟩ := va_join (wr := WC cI cF h1 qn7 b jcn7 jsn7 jvn7 kn7 (capOf (nn (b 0 4)))) (w1 := WC cI cF h0 qn11 b jcn11 jsn11 jvn11 kn11 (capOf (nn (b 0 4)))) hP hD [0, 1, 2, 3, 4, 5, 6, 7, 8, 9, 10, 11, 12, 13, 14, 15, 16, 17, 18, 19, 20, 21, 22, 23, 24, 25, 26] [27, 28, 29, 30, 31, 32, 33, 34, 35, 36, 37, 38, 39, 40, 41, 42, 43, 44, 45, 46, 47, 48, 49, 50, 51, 52, 53] rfl rfl (by decide) (by decide) hk1 hFc hPy hDy
            have hP := hP.sub (ws' := WB cI cF h0 qn11 b jcn11 jsn11 jvn11 kn11 (capOf (nn (b 0 4))) h1 qn7 b jcn7 jsn7 jvn7 kn7 (capOf (nn (b 0 4)))) [27, 28, 29, 30, 31, 32, 33, 34, 35, 36, 37, 38, 39, 40, 41, 42, 43, 44, 45, 46, 47, 48, 49, 50, 51, 52, 53, 0, 1, 2, 3, 4, 5, 6, 7, 8, 9, 10, 11, 12, 13, 14, 15, 16, 17, 18, 19, 20, 21, 22, 23, 24, 25, 26] rfl
            have hD := hD.sub (ws' := WB cI cF h0 qn11 b jcn11 jsn11 jvn11 kn11 (capOf (nn (b 0 4))) h1 qn7 b jcn7 jsn7 jvn7 kn7 (capOf (nn (b 0 4)))) [27, 28, 29, 30, 31, 32, 33, 34, 35, 36, 37, 38, 39, 40, 41, 42, 43, 44, 45, 46, 47, 48, 49, 50, 51, 52, 53, 0, 1, 2, 3, 4, 5, 6, 7, 8, 9, 10, 11, 12, 13, 14, 15, 16, 17, 18, 19, 20, 21, 22, 23, 24, 25, 26] (by decide) rfl
            generalize H1 = H at hP hS ⊢
            have hCn11 : okC b jcn11 jsn11 jvn11 kn11 := hCn11
            refine y_topi (y := b 0 7) hw ?_
            refine lv_iload hx hb dL_isRefundedSo_100 (lv_at hl 5 rfl) ?_
            refine lv_icmp_lt (tgt := 138) hx hb dL_isRefundedSo_102 (by decide) (fun c_12 => ?_) (fun c_12 => ?_)
            · exact absurd f3 (Int32.not_le.mpr c_12)
            · refine lv_aload_n hx hb dL_isRefundedSo_105 rfl (lv_at hl 6 rfl) ?_
              have hP : va_P (dC, dI) vwCl (WB cI cF h0 qn11 b jcn11 jsn11 jvn11 kn11 (capOf (nn (b 0 4))) h1 qn7 b jcn7 jsn7 jvn7 kn7 (capOf (nn (b 0 4)))) H := hP
              have hD : va_D A (WB cI cF h0 qn11 b jcn11 jsn11 jvn11 kn11 (capOf (nn (b 0 4))) h1 qn7 b jcn7 jsn7 jvn7 kn7 (capOf (nn (b 0 4)))) := hD
              have hPc := hP.sub (ws' := WC cI cF h0 qn11 b jcn11 jsn11 jvn11 kn11 (capOf (nn (b 0 4)))) [0, 1, 2, 3, 4, 5, 6, 7, 8, 9, 10, 11, 12, 13, 14, 15, 16, 17, 18, 19, 20, 21, 22, 23, 24, 25, 26] rfl
              have hDc := hD.sub (ws' := WC cI cF h0 qn11 b jcn11 jsn11 jvn11 kn11 (capOf (nn (b 0 4)))) [0, 1, 2, 3, 4, 5, 6, 7, 8, 9, 10, 11, 12, 13, 14, 15, 16, 17, 18, 19, 20, 21, 22, 23, 24, 25, 26] (by decide) rfl
              have hFc := va_free (wc := WC cI cF h0 qn11 b jcn11 jsn11 jvn11 kn11 (capOf (nn (b 0 4)))) hD hS hA [0, 1, 2, 3, 4, 5, 6, 7, 8, 9, 10, 11, 12, 13, 14, 15, 16, 17, 18, 19, 20, 21, 22, 23, 24, 25, 26] rfl
              refine va_calli (va_runV (As := []) (rest := []) ⟨hx, hb, hml, hown, hts⟩ (c_X4_taxes l dC dI cI cF h0 qn11 H.size b jcn11 jsn11 jvn11 kn11 hCn11 hBb) (cwV 0 hts gL_isRefundedSo_X4_taxes rfl rfl rfl (by decide +kernel) ⟨Nat.le_of_ble_eq_true rfl, Nat.le_of_ble_eq_true rfl⟩) ⟨pcW_blind, va_recv hK hPc (ci := 4) (q0 := 0) rfl rfl, fun U hU hW => pcW_pre hPc hDc hK hU hW⟩ rfl rfl hl.1 rfl (lv_room (Nat.le_of_ble_eq_true rfl)) dL_isRefundedSo_106 ⟨(by show 0 + 0 + 0 + 1 + 1 + 1026 + 1026 + 0 + 0 ≤ 2100; omega), (by show 0 + 0 + 0 + 6 + 6 + 6156 + 6156 + 0 + 0 ≤ 12600; omega)⟩) hS (fun q _ h => hFc q h) hFc (fun r u t H1 locs ht hvm hw hB1 hz1 hk1 hS => ?_)
              obtain ⟨qn13, jcn13, jsn13, jvn13, kn13, hCn13, hPy, hKy, hDy⟩ := hB1
              rw [ht] at hPy
              obtain ⟨hP, hD⟩ := va_join (wr := WC cI cF h1 qn7 b jcn7 jsn7 jvn7 kn7 (capOf (nn (b 0 4)))) (w1 := WC cI cF h0 qn13 b jcn13 jsn13 jvn13 kn13 (capOf (nn (b 0 4)))) hP hD [0, 1, 2, 3, 4, 5, 6, 7, 8, 9, 10, 11, 12, 13, 14, 15, 16, 17, 18, 19, 20, 21, 22, 23, 24, 25, 26] [27, 28, 29, 30, 31, 32, 33, 34, 35, 36, 37, 38, 39, 40, 41, 42, 43, 44, 45, 46, 47, 48, 49, 50, 51, 52, 53] rfl rfl (by decide) (by decide) hk1 hFc hPy hDy
              have hP := hP.sub (ws' := WB cI cF h0 qn13 b jcn13 jsn13 jvn13 kn13 (capOf (nn (b 0 4))) h1 qn7 b jcn7 jsn7 jvn7 kn7 (capOf (nn (b 0 4)))) [27, 28, 29, 30, 31, 32, 33, 34, 35, 36, 37, 38, 39, 40, 41, 42, 43, 44, 45, 46, 47, 48, 49, 50, 51, 52, 53, 0, 1, 2, 3, 4, 5, 6, 7, 8, 9, 10, 11, 12, 13, 14, 15, 16, 17, 18, 19, 20, 21, 22, 23, 24, 25, 26] rfl
              have hD := hD.sub (ws' := WB cI cF h0 qn13 b jcn13 jsn13 jvn13 kn13 (capOf (nn (b 0 4))) h1 qn7 b jcn7 jsn7 jvn7 kn7 (capOf (nn (b 0 4)))) [27, 28, 29, 30, 31, 32, 33, 34, 35, 36, 37, 38, 39, 40, 41, 42, 43, 44, 45, 46, 47, 48, 49, 50, 51, 52, 53, 0, 1, 2, 3, 4, 5, 6, 7, 8, 9, 10, 11, 12, 13, 14, 15, 16, 17, 18, 19, 20, 21, 22, 23, 24, 25, 26] (by decide) rfl
              generalize H1 = H at hP hS ⊢
              have hCn13 : okC b jcn13 jsn13 jvn13 kn13 := hCn13
              refine y_topi (y := b 0 8) hw ?_
              refine lv_iload hx hb dL_isRefundedSo_109 (lv_at hl 4 rfl) ?_
              refine lv_icmp_lt (tgt := 138) hx hb dL_isRefundedSo_111 (by decide) (fun c_14 => ?_) (fun c_14 => ?_)
              · exact absurd f4 (Int32.not_le.mpr c_14)
              · refine lv_aload_n hx hb dL_isRefundedSo_114 rfl (lv_at hl 6 rfl) ?_
                have hP : va_P (dC, dI) vwCl (WB cI cF h0 qn13 b jcn13 jsn13 jvn13 kn13 (capOf (nn (b 0 4))) h1 qn7 b jcn7 jsn7 jvn7 kn7 (capOf (nn (b 0 4)))) H := hP
                have hD : va_D A (WB cI cF h0 qn13 b jcn13 jsn13 jvn13 kn13 (capOf (nn (b 0 4))) h1 qn7 b jcn7 jsn7 jvn7 kn7 (capOf (nn (b 0 4)))) := hD
                have hPc := hP.sub (ws' := WC cI cF h0 qn13 b jcn13 jsn13 jvn13 kn13 (capOf (nn (b 0 4)))) [0, 1, 2, 3, 4, 5, 6, 7, 8, 9, 10, 11, 12, 13, 14, 15, 16, 17, 18, 19, 20, 21, 22, 23, 24, 25, 26] rfl
                have hDc := hD.sub (ws' := WC cI cF h0 qn13 b jcn13 jsn13 jvn13 kn13 (capOf (nn (b 0 4)))) [0, 1, 2, 3, 4, 5, 6, 7, 8, 9, 10, 11, 12, 13, 14, 15, 16, 17, 18, 19, 20, 21, 22, 23, 24, 25, 26] (by decide) rfl
                have hFc := va_free (wc := WC cI cF h0 qn13 b jcn13 jsn13 jvn13 kn13 (capOf (nn (b 0 4)))) hD hS hA [0, 1, 2, 3, 4, 5, 6, 7, 8, 9, 10, 11, 12, 13, 14, 15, 16, 17, 18, 19, 20, 21, 22, 23, 24, 25, 26] rfl
                refine va_calli (va_runV (As := []) (rest := []) ⟨hx, hb, hml, hown, hts⟩ (c_X4_fees l dC dI cI cF h0 qn13 H.size b jcn13 jsn13 jvn13 kn13 hCn13 hBb) (cwV 0 hts gL_isRefundedSo_X4_fees rfl rfl rfl (by decide +kernel) ⟨Nat.le_of_ble_eq_true rfl, Nat.le_of_ble_eq_true rfl⟩) ⟨pcW_blind, va_recv hK hPc (ci := 4) (q0 := 0) rfl rfl, fun U hU hW => pcW_pre hPc hDc hK hU hW⟩ rfl rfl hl.1 rfl (lv_room (Nat.le_of_ble_eq_true rfl)) dL_isRefundedSo_115 ⟨(by show 0 + 0 + 0 + 1 + 1 + 1026 + 1026 + 0 + 0 + 0 ≤ 2100; omega), (by show 0 + 0 + 0 + 6 + 6 + 6156 + 6156 + 0 + 0 + 0 ≤ 12600; omega)⟩) hS (fun q _ h => hFc q h) hFc (fun r u t H1 locs ht hvm hw hB1 hz1 hk1 hS => ?_)
                obtain ⟨qn15, jcn15, jsn15, jvn15, kn15, hCn15, hPy, hKy, hDy⟩ := hB1
                rw [ht] at hPy
                obtain ⟨hP, hD⟩ := va_join (wr := WC cI cF h1 qn7 b jcn7 jsn7 jvn7 kn7 (capOf (nn (b 0 4)))) (w1 := WC cI cF h0 qn15 b jcn15 jsn15 jvn15 kn15 (capOf (nn (b 0 4)))) hP hD [0, 1, 2, 3, 4, 5, 6, 7, 8, 9, 10, 11, 12, 13, 14, 15, 16, 17, 18, 19, 20, 21, 22, 23, 24, 25, 26] [27, 28, 29, 30, 31, 32, 33, 34, 35, 36, 37, 38, 39, 40, 41, 42, 43, 44, 45, 46, 47, 48, 49, 50, 51, 52, 53] rfl rfl (by decide) (by decide) hk1 hFc hPy hDy
                have hP := hP.sub (ws' := WB cI cF h0 qn15 b jcn15 jsn15 jvn15 kn15 (capOf (nn (b 0 4))) h1 qn7 b jcn7 jsn7 jvn7 kn7 (capOf (nn (b 0 4)))) [27, 28, 29, 30, 31, 32, 33, 34, 35, 36, 37, 38, 39, 40, 41, 42, 43, 44, 45, 46, 47, 48, 49, 50, 51, 52, 53, 0, 1, 2, 3, 4, 5, 6, 7, 8, 9, 10, 11, 12, 13, 14, 15, 16, 17, 18, 19, 20, 21, 22, 23, 24, 25, 26] rfl
                have hD := hD.sub (ws' := WB cI cF h0 qn15 b jcn15 jsn15 jvn15 kn15 (capOf (nn (b 0 4))) h1 qn7 b jcn7 jsn7 jvn7 kn7 (capOf (nn (b 0 4)))) [27, 28, 29, 30, 31, 32, 33, 34, 35, 36, 37, 38, 39, 40, 41, 42, 43, 44, 45, 46, 47, 48, 49, 50, 51, 52, 53, 0, 1, 2, 3, 4, 5, 6, 7, 8, 9, 10, 11, 12, 13, 14, 15, 16, 17, 18, 19, 20, 21, 22, 23, 24, 25, 26] (by decide) rfl
                generalize H1 = H at hP hS ⊢
                have hCn15 : okC b jcn15 jsn15 jvn15 kn15 := hCn15
                refine y_topi (y := b 0 7) hw ?_
                refine lv_aload_n hx hb dL_isRefundedSo_118 rfl (lv_at hl 6 rfl) ?_
                have hP : va_P (dC, dI) vwCl (WB cI cF h0 qn15 b jcn15 jsn15 jvn15 kn15 (capOf (nn (b 0 4))) h1 qn7 b jcn7 jsn7 jvn7 kn7 (capOf (nn (b 0 4)))) H := hP
                have hD : va_D A (WB cI cF h0 qn15 b jcn15 jsn15 jvn15 kn15 (capOf (nn (b 0 4))) h1 qn7 b jcn7 jsn7 jvn7 kn7 (capOf (nn (b 0 4)))) := hD
                have hPc := hP.sub (ws' := WC cI cF h0 qn15 b jcn15 jsn15 jvn15 kn15 (capOf (nn (b 0 4)))) [0, 1, 2, 3, 4, 5, 6, 7, 8, 9, 10, 11, 12, 13, 14, 15, 16, 17, 18, 19, 20, 21, 22, 23, 24, 25, 26] rfl
                have hDc := hD.sub (ws' := WC cI cF h0 qn15 b jcn15 jsn15 jvn15 kn15 (capOf (nn (b 0 4)))) [0, 1, 2, 3, 4, 5, 6, 7, 8, 9, 10, 11, 12, 13, 14, 15, 16, 17, 18, 19, 20, 21, 22, 23, 24, 25, 26] (by decide) rfl
                have hFc := va_free (wc := WC cI cF h0 qn15 b jcn15 jsn15 jvn15 kn15 (capOf (nn (b 0 4)))) hD hS hA [0, 1, 2, 3, 4, 5, 6, 7, 8, 9, 10, 11, 12, 13, 14, 15, 16, 17, 18, 19, 20, 21, 22, 23, 24, 25, 26] rfl
                refine va_calli (va_runV (As := []) (rest := [.int (b 0 7)]) ⟨hx, hb, hml, hown, hts⟩ (c_X4_taxes l dC dI cI cF h0 qn15 H.size b jcn15 jsn15 jvn15 kn15 hCn15 hBb) (cwV 0 hts gL_isRefundedSo_X4_taxes rfl rfl rfl (by decide +kernel) ⟨Nat.le_of_ble_eq_true rfl, Nat.le_of_ble_eq_true rfl⟩) ⟨pcW_blind, va_recv hK hPc (ci := 4) (q0 := 0) rfl rfl, fun U hU hW => pcW_pre hPc hDc hK hU hW⟩ rfl rfl hl.1 rfl (lv_room (Nat.le_of_ble_eq_true rfl)) dL_isRefundedSo_119 ⟨(by show 0 + 0 + 0 + 1 + 1 + 1026 + 1026 + 0 + 0 + 0 + 0 ≤ 2100; omega), (by show 0 + 0 + 0 + 6 + 6 + 6156 + 6156 + 0 + 0 + 0 + 0 ≤ 12600; omega)⟩) hS (fun q _ h => hFc q h) hFc (fun r u t H1 locs ht hvm hw hB1 hz1 hk1 hS => ?_)
                obtain ⟨qn16, jcn16, jsn16, jvn16, kn16, hCn16, hPy, hKy, hDy⟩ := hB1
                rw [ht] at hPy
                obtain ⟨hP, hD⟩ := va_join (wr := WC cI cF h1 qn7 b jcn7 jsn7 jvn7 kn7 (capOf (nn (b 0 4)))) (w1 := WC cI cF h0 qn16 b jcn16 jsn16 jvn16 kn16 (capOf (nn (b 0 4)))) hP hD [0, 1, 2, 3, 4, 5, 6, 7, 8, 9, 10, 11, 12, 13, 14, 15, 16, 17, 18, 19, 20, 21, 22, 23, 24, 25, 26] [27, 28, 29, 30, 31, 32, 33, 34, 35, 36, 37, 38, 39, 40, 41, 42, 43, 44, 45, 46, 47, 48, 49, 50, 51, 52, 53] rfl rfl (by decide) (by decide) hk1 hFc hPy hDy
                have hP := hP.sub (ws' := WB cI cF h0 qn16 b jcn16 jsn16 jvn16 kn16 (capOf (nn (b 0 4))) h1 qn7 b jcn7 jsn7 jvn7 kn7 (capOf (nn (b 0 4)))) [27, 28, 29, 30, 31, 32, 33, 34, 35, 36, 37, 38, 39, 40, 41, 42, 43, 44, 45, 46, 47, 48, 49, 50, 51, 52, 53, 0, 1, 2, 3, 4, 5, 6, 7, 8, 9, 10, 11, 12, 13, 14, 15, 16, 17, 18, 19, 20, 21, 22, 23, 24, 25, 26] rfl
                have hD := hD.sub (ws' := WB cI cF h0 qn16 b jcn16 jsn16 jvn16 kn16 (capOf (nn (b 0 4))) h1 qn7 b jcn7 jsn7 jvn7 kn7 (capOf (nn (b 0 4)))) [27, 28, 29, 30, 31, 32, 33, 34, 35, 36, 37, 38, 39, 40, 41, 42, 43, 44, 45, 46, 47, 48, 49, 50, 51, 52, 53, 0, 1, 2, 3, 4, 5, 6, 7, 8, 9, 10, 11, 12, 13, 14, 15, 16, 17, 18, 19, 20, 21, 22, 23, 24, 25, 26] (by decide) rfl
                generalize H1 = H at hP hS ⊢
                have hCn16 : okC b jcn16 jsn16 jvn16 kn16 := hCn16
                refine y_topi (y := b 0 8) hw ?_
                refine lv_iadd hx hb dL_isRefundedSo_122 ?_
                refine lv_iload hx hb dL_isRefundedSo_123 (lv_at hl 5 rfl) ?_
                refine lv_iload hx hb dL_isRefundedSo_125 (lv_at hl 4 rfl) ?_
                refine lv_iadd hx hb dL_isRefundedSo_127 ?_
                refine lv_iload hx hb dL_isRefundedSo_128 (lv_at hl 10 rfl) ?_
                refine lv_iadd hx hb dL_isRefundedSo_130 ?_
                refine lv_icmp_gt (tgt := 138) hx hb dL_isRefundedSo_131 (by decide) (fun c_17 => ?_) (fun c_17 => ?_)
                · exact absurd f5 (Int32.not_le.mpr c_17)
                · refine lv_iconst (v := 1) hx hb dL_isRefundedSo_134 (by decide) ?_
                  refine lv_goto (tgt := 139) hx hb dL_isRefundedSo_135 (by decide) ?_
                  refine lv_istore (lv' := [(10, .int 1), (9, .int (a 0 3)), (8, .int (sHsum a (nn x) (nn (a 0 3)))), (7, .int (bA a x)), (6, .int (a 0 8)), (5, .int (a 0 7)), (0, .ref h0), (1, .ref h1), (2, .int x), (3, .int kd), (4, .int am)]) hx hb dL_isRefundedSo_139 hl (by decide) rfl (fun ls hl => ?_)
                  refine lv_aload_n hx hb dL_isRefundedSo_141 rfl (lv_at hl 6 rfl) ?_
                  refine lv_iload hx hb dL_isRefundedSo_142 (lv_at hl 1 rfl) ?_
                  refine lv_iload hx hb dL_isRefundedSo_144 (lv_at hl 10 rfl) ?_
                  refine lv_iconst (v := 1) hx hb dL_isRefundedSo_146 (by decide) ?_
                  have hP : va_P (dC, dI) vwCl (WB cI cF h0 qn16 b jcn16 jsn16 jvn16 kn16 (capOf (nn (b 0 4))) h1 qn7 b jcn7 jsn7 jvn7 kn7 (capOf (nn (b 0 4)))) H := hP
                  have hD : va_D A (WB cI cF h0 qn16 b jcn16 jsn16 jvn16 kn16 (capOf (nn (b 0 4))) h1 qn7 b jcn7 jsn7 jvn7 kn7 (capOf (nn (b 0 4)))) := hD
                  have hPc := hP.sub (ws' := WC cI cF h0 qn16 b jcn16 jsn16 jvn16 kn16 (capOf (nn (b 0 4)))) [0, 1, 2, 3, 4, 5, 6, 7, 8, 9, 10, 11, 12, 13, 14, 15, 16, 17, 18, 19, 20, 21, 22, 23, 24, 25, 26] rfl
                  have hDc := hD.sub (ws' := WC cI cF h0 qn16 b jcn16 jsn16 jvn16 kn16 (capOf (nn (b 0 4)))) [0, 1, 2, 3, 4, 5, 6, 7, 8, 9, 10, 11, 12, 13, 14, 15, 16, 17, 18, 19, 20, 21, 22, 23, 24, 25, 26] (by decide) rfl
                  have hFc := va_free (wc := WC cI cF h0 qn16 b jcn16 jsn16 jvn16 kn16 (capOf (nn (b 0 4)))) hD hS hA [0, 1, 2, 3, 4, 5, 6, 7, 8, 9, 10, 11, 12, 13, 14, 15, 16, 17, 18, 19, 20, 21, 22, 23, 24, 25, 26] rfl
                  refine va_calli (vx_runSW (As := [.ref h0, .int (a 0 3), .int am, .int 1]) (rest := []) ⟨hx, hb, hml, hown, hts⟩ (c_L_refund l dC dI cI cF h0 qn16 H.size b jcn16 jsn16 jvn16 kn16 hst hCn16 hBb (a 0 3) am 1) (vx_cwSW 4 hts gL_isRefundedSo_L_refund rfl rfl rfl (by decide +kernel) ⟨Nat.le_of_ble_eq_true rfl, Nat.le_of_ble_eq_true rfl⟩) ⟨pcH_blind, fun U hU hW => pcH_pre hPc hDc hK hV hN hS hFc hU hW⟩ rfl rfl hl.1 rfl (lv_room (Nat.le_of_ble_eq_true rfl)) dL_isRefundedSo_147 ⟨(by show 0 + 0 + 0 + 1 + 1 + 1026 + 1026 + 0 + 0 + 0 + 0 + 2 ≤ 2100; omega), (by show 0 + 0 + 0 + 6 + 6 + 6156 + 6156 + 0 + 0 + 0 + 0 + 12 ≤ 12600; omega)⟩) hS (fun q _ h => hFc q h) hFc (fun r u t H1 locs ht hvm hw hB1 hz1 hk1 hS => ?_)
                  obtain ⟨qn18, jcn18, jsn18, jvn18, kn18, hCn18, hPy, hKy, hDy⟩ := hB1
                  rw [ht] at hPy
                  obtain ⟨hP, hD⟩ := va_join (wr := WC cI cF h1 qn7 b jcn7 jsn7 jvn7 kn7 (capOf (nn (b 0 4)))) (w1 := WC cI cF h0 qn18 (rT b (a 0 3) am 1) jcn18 jsn18 jvn18 kn18 (capOf (nn ((rT b (a 0 3) am 1) 0 4)))) hP hD [0, 1, 2, 3, 4, 5, 6, 7, 8, 9, 10, 11, 12, 13, 14, 15, 16, 17, 18, 19, 20, 21, 22, 23, 24, 25, 26] [27, 28, 29, 30, 31, 32, 33, 34, 35, 36, 37, 38, 39, 40, 41, 42, 43, 44, 45, 46, 47, 48, 49, 50, 51, 52, 53] rfl rfl (by decide) (by decide) hk1 hFc hPy hDy
                  have hP := hP.sub (ws' := WB cI cF h0 qn18 (rT b (a 0 3) am 1) jcn18 jsn18 jvn18 kn18 (capOf (nn ((rT b (a 0 3) am 1) 0 4))) h1 qn7 b jcn7 jsn7 jvn7 kn7 (capOf (nn (b 0 4)))) [27, 28, 29, 30, 31, 32, 33, 34, 35, 36, 37, 38, 39, 40, 41, 42, 43, 44, 45, 46, 47, 48, 49, 50, 51, 52, 53, 0, 1, 2, 3, 4, 5, 6, 7, 8, 9, 10, 11, 12, 13, 14, 15, 16, 17, 18, 19, 20, 21, 22, 23, 24, 25, 26] rfl
                  have hD := hD.sub (ws' := WB cI cF h0 qn18 (rT b (a 0 3) am 1) jcn18 jsn18 jvn18 kn18 (capOf (nn ((rT b (a 0 3) am 1) 0 4))) h1 qn7 b jcn7 jsn7 jvn7 kn7 (capOf (nn (b 0 4)))) [27, 28, 29, 30, 31, 32, 33, 34, 35, 36, 37, 38, 39, 40, 41, 42, 43, 44, 45, 46, 47, 48, 49, 50, 51, 52, 53, 0, 1, 2, 3, 4, 5, 6, 7, 8, 9, 10, 11, 12, 13, 14, 15, 16, 17, 18, 19, 20, 21, 22, 23, 24, 25, 26] (by decide) rfl
                  generalize H1 = H at hP hS ⊢
                  have hCn18 : okC (rT b (a 0 3) am 1) jcn18 jsn18 jvn18 kn18 := hCn18
                  refine y_topi (y := c9 7 (nn x)) (hw.trans eR) ?_
                  rw [eR2] at hP hD hCn18
                  refine lv_istore (lv' := [(11, .int (c9 7 (nn x))), (10, .int 1), (9, .int (a 0 3)), (8, .int (sHsum a (nn x) (nn (a 0 3)))), (7, .int (bA a x)), (6, .int (a 0 8)), (5, .int (a 0 7)), (0, .ref h0), (1, .ref h1), (2, .int x), (3, .int kd), (4, .int am)]) hx hb dL_isRefundedSo_150 hl (by decide) rfl (fun ls hl => ?_)
                  refine lv_iload hx hb dL_isRefundedSo_152 (lv_at hl 1 rfl) ?_
                  refine lv_if_eq (tgt := 198) hx hb dL_isRefundedSo_154 (by decide) (fun c_19 => ?_) (fun c_19 => ?_)
                  · exact absurd c_19 (by decide)
                  · refine lv_aload_n hx hb dL_isRefundedSo_157 rfl (lv_at hl 8 rfl) ?_
                    refine lv_iload hx hb dL_isRefundedSo_158 (lv_at hl 2 rfl) ?_
                    refine lv_iload hx hb dL_isRefundedSo_160 (lv_at hl 11 rfl) ?_
                    refine lv_iconst (v := 1) hx hb dL_isRefundedSo_162 (by decide) ?_
                    have hP : va_P (dC, dI) vwCl (WB cI cF h0 qn18 c9 jcn18 jsn18 jvn18 kn18 (capOf (nn (c9 0 4))) h1 qn7 b jcn7 jsn7 jvn7 kn7 (capOf (nn (b 0 4)))) H := hP
                    have hD : va_D A (WB cI cF h0 qn18 c9 jcn18 jsn18 jvn18 kn18 (capOf (nn (c9 0 4))) h1 qn7 b jcn7 jsn7 jvn7 kn7 (capOf (nn (b 0 4)))) := hD
                    have hPc := hP.sub (ws' := WC cI cF h1 qn7 b jcn7 jsn7 jvn7 kn7 (capOf (nn (b 0 4)))) [27, 28, 29, 30, 31, 32, 33, 34, 35, 36, 37, 38, 39, 40, 41, 42, 43, 44, 45, 46, 47, 48, 49, 50, 51, 52, 53] rfl
                    have hDc := hD.sub (ws' := WC cI cF h1 qn7 b jcn7 jsn7 jvn7 kn7 (capOf (nn (b 0 4)))) [27, 28, 29, 30, 31, 32, 33, 34, 35, 36, 37, 38, 39, 40, 41, 42, 43, 44, 45, 46, 47, 48, 49, 50, 51, 52, 53] (by decide) rfl
                    have hFc := va_free (wc := WC cI cF h1 qn7 b jcn7 jsn7 jvn7 kn7 (capOf (nn (b 0 4)))) hD hS hA [27, 28, 29, 30, 31, 32, 33, 34, 35, 36, 37, 38, 39, 40, 41, 42, 43, 44, 45, 46, 47, 48, 49, 50, 51, 52, 53] rfl
                    refine va_calli (vx_runSW (As := [.ref h1, .int (a 0 3), .int am, .int 1]) (rest := []) ⟨hx, hb, hml, hown, hts⟩ (c_L_refund l dC dI cI cF h1 qn7 H.size b jcn7 jsn7 jvn7 kn7 hst hCn7 hBb (a 0 3) am 1) (vx_cwSW 4 hts gL_isRefundedSo_L_refund rfl rfl rfl (by decide +kernel) ⟨Nat.le_of_ble_eq_true rfl, Nat.le_of_ble_eq_true rfl⟩) ⟨pcH_blind, fun U hU hW => pcH_pre hPc hDc hK hV hN hS hFc hU hW⟩ rfl rfl hl.1 rfl (lv_room (Nat.le_of_ble_eq_true rfl)) dL_isRefundedSo_163 ⟨(by show 0 + 0 + 0 + 1 + 1 + 1026 + 1026 + 0 + 0 + 0 + 0 + 2 + 2 ≤ 2100; omega), (by show 0 + 0 + 0 + 6 + 6 + 6156 + 6156 + 0 + 0 + 0 + 0 + 12 + 12 ≤ 12600; omega)⟩) hS (fun q _ h => hFc q h) hFc (fun r u t H1 locs ht hvm hw hB1 hz1 hk1 hS => ?_)
                    obtain ⟨qn20, jcn20, jsn20, jvn20, kn20, hCn20, hPy, hKy, hDy⟩ := hB1
                    rw [ht] at hPy
                    obtain ⟨hP, hD⟩ := va_join (wr := WC cI cF h0 qn18 c9 jcn18 jsn18 jvn18 kn18 (capOf (nn (c9 0 4)))) (w1 := WC cI cF h1 qn20 (rT b (a 0 3) am 1) jcn20 jsn20 jvn20 kn20 (capOf (nn ((rT b (a 0 3) am 1) 0 4)))) hP hD [27, 28, 29, 30, 31, 32, 33, 34, 35, 36, 37, 38, 39, 40, 41, 42, 43, 44, 45, 46, 47, 48, 49, 50, 51, 52, 53] [0, 1, 2, 3, 4, 5, 6, 7, 8, 9, 10, 11, 12, 13, 14, 15, 16, 17, 18, 19, 20, 21, 22, 23, 24, 25, 26] rfl rfl (by decide) (by decide) hk1 hFc hPy hDy
                    have hP := hP.sub (ws' := WB cI cF h0 qn18 c9 jcn18 jsn18 jvn18 kn18 (capOf (nn (c9 0 4))) h1 qn20 (rT b (a 0 3) am 1) jcn20 jsn20 jvn20 kn20 (capOf (nn ((rT b (a 0 3) am 1) 0 4)))) [0, 1, 2, 3, 4, 5, 6, 7, 8, 9, 10, 11, 12, 13, 14, 15, 16, 17, 18, 19, 20, 21, 22, 23, 24, 25, 26, 27, 28, 29, 30, 31, 32, 33, 34, 35, 36, 37, 38, 39, 40, 41, 42, 43, 44, 45, 46, 47, 48, 49, 50, 51, 52, 53] rfl
                    have hD := hD.sub (ws' := WB cI cF h0 qn18 c9 jcn18 jsn18 jvn18 kn18 (capOf (nn (c9 0 4))) h1 qn20 (rT b (a 0 3) am 1) jcn20 jsn20 jvn20 kn20 (capOf (nn ((rT b (a 0 3) am 1) 0 4)))) [0, 1, 2, 3, 4, 5, 6, 7, 8, 9, 10, 11, 12, 13, 14, 15, 16, 17, 18, 19, 20, 21, 22, 23, 24, 25, 26, 27, 28, 29, 30, 31, 32, 33, 34, 35, 36, 37, 38, 39, 40, 41, 42, 43, 44, 45, 46, 47, 48, 49, 50, 51, 52, 53] (by decide) rfl
                    generalize H1 = H at hP hS ⊢
                    have hCn20 : okC (rT b (a 0 3) am 1) jcn20 jsn20 jvn20 kn20 := hCn20
                    refine y_topi (y := c9 7 (nn x)) (hw.trans eR) ?_
                    rw [eR2] at hP hD hCn20
                    refine lv_iload hx hb dL_isRefundedSo_166 (lv_at hl 0 rfl) ?_
                    refine lv_icmp_ne (tgt := 198) hx hb dL_isRefundedSo_168 (by decide) (fun c_21 => ?_) (fun c_21 => ?_)
                    · exact absurd rfl c_21
                    · refine lv_iload hx hb dL_isRefundedSo_171 (lv_at hl 0 rfl) ?_
                      refine lv_aload_n hx hb dL_isRefundedSo_173 rfl (lv_at hl 7 rfl) ?_
                      refine lv_iload_n hx hb dL_isRefundedSo_174 rfl (lv_at hl 9 rfl) ?_
                      have hP : va_P (dC, dI) vwCl (WB cI cF h0 qn18 c9 jcn18 jsn18 jvn18 kn18 (capOf (nn (c9 0 4))) h1 qn20 c9 jcn20 jsn20 jvn20 kn20 (capOf (nn (c9 0 4)))) H := hP
                      have hD : va_D A (WB cI cF h0 qn18 c9 jcn18 jsn18 jvn18 kn18 (capOf (nn (c9 0 4))) h1 qn20 c9 jcn20 jsn20 jvn20 kn20 (capOf (nn (c9 0 4)))) := hD
                      have hPc := hP.sub (ws' := WC cI cF h0 qn18 c9 jcn18 jsn18 jvn18 kn18 (capOf (nn (c9 0 4)))) [0, 1, 2, 3, 4, 5, 6, 7, 8, 9, 10, 11, 12, 13, 14, 15, 16, 17, 18, 19, 20, 21, 22, 23, 24, 25, 26] rfl
                      have hDc := hD.sub (ws' := WC cI cF h0 qn18 c9 jcn18 jsn18 jvn18 kn18 (capOf (nn (c9 0 4)))) [0, 1, 2, 3, 4, 5, 6, 7, 8, 9, 10, 11, 12, 13, 14, 15, 16, 17, 18, 19, 20, 21, 22, 23, 24, 25, 26] (by decide) rfl
                      have hFc := va_free (wc := WC cI cF h0 qn18 c9 jcn18 jsn18 jvn18 kn18 (capOf (nn (c9 0 4)))) hD hS hA [0, 1, 2, 3, 4, 5, 6, 7, 8, 9, 10, 11, 12, 13, 14, 15, 16, 17, 18, 19, 20, 21, 22, 23, 24, 25, 26] rfl
                      refine vx_calli (vx_runV (As := [.int x]) (rest := [.int (c9 7 (nn x))]) ⟨hx, hb, hml, hown, hts⟩ (c_X4_balance l dC dI cI cF h0 qn18 H.size c9 jcn18 jsn18 jvn18 kn18 hst hCn18 hBc x) (cwV 1 hts gL_isRefundedSo_X4_balance rfl rfl rfl (by decide +kernel) ⟨Nat.le_of_ble_eq_true rfl, Nat.le_of_ble_eq_true rfl⟩) ⟨pcV_blind, va_recv hK hPc (ci := 4) (q0 := 0) rfl rfl, fun U hU hW => pcV_pre hPc hDc hK hV hS hFc hU hW⟩ rfl rfl hl.1 rfl (lv_room (Nat.le_of_ble_eq_true rfl)) dL_isRefundedSo_175 ⟨(by show 0 + 0 + 0 + 1 + 1 + 1026 + 1026 + 0 + 0 + 0 + 0 + 2 + 2 + 1 ≤ 2100; omega), (by show 0 + 0 + 0 + 6 + 6 + 6156 + 6156 + 0 + 0 + 0 + 0 + 12 + 12 + 6 ≤ 12600; omega)⟩) hS (fun q _ h => hFc q h) hFc (fun q _ h => hFc q h) (fun E ce q9 u t H1 locs ht hvm hw hBx hz1 hk1 hS hce hcv hcl => absurd hs9 hw) (fun r u t H1 locs ht hvm hw hB1 hz1 hk1 hS => ?_)
                      obtain ⟨qn22, jcn22, jsn22, jvn22, kn22, hCn22, hPy, hKy, hDy⟩ := hB1
                      rw [ht] at hPy
                      obtain ⟨hP, hD⟩ := va_join (wr := WC cI cF h1 qn20 c9 jcn20 jsn20 jvn20 kn20 (capOf (nn (c9 0 4)))) (w1 := WC cI cF h0 qn22 c9 jcn22 jsn22 jvn22 kn22 (capOf (nn (c9 0 4)))) hP hD [0, 1, 2, 3, 4, 5, 6, 7, 8, 9, 10, 11, 12, 13, 14, 15, 16, 17, 18, 19, 20, 21, 22, 23, 24, 25, 26] [27, 28, 29, 30, 31, 32, 33, 34, 35, 36, 37, 38, 39, 40, 41, 42, 43, 44, 45, 46, 47, 48, 49, 50, 51, 52, 53] rfl rfl (by decide) (by decide) hk1 hFc hPy hDy
                      have hP := hP.sub (ws' := WB cI cF h0 qn22 c9 jcn22 jsn22 jvn22 kn22 (capOf (nn (c9 0 4))) h1 qn20 c9 jcn20 jsn20 jvn20 kn20 (capOf (nn (c9 0 4)))) [27, 28, 29, 30, 31, 32, 33, 34, 35, 36, 37, 38, 39, 40, 41, 42, 43, 44, 45, 46, 47, 48, 49, 50, 51, 52, 53, 0, 1, 2, 3, 4, 5, 6, 7, 8, 9, 10, 11, 12, 13, 14, 15, 16, 17, 18, 19, 20, 21, 22, 23, 24, 25, 26] rfl
                      have hD := hD.sub (ws' := WB cI cF h0 qn22 c9 jcn22 jsn22 jvn22 kn22 (capOf (nn (c9 0 4))) h1 qn20 c9 jcn20 jsn20 jvn20 kn20 (capOf (nn (c9 0 4)))) [27, 28, 29, 30, 31, 32, 33, 34, 35, 36, 37, 38, 39, 40, 41, 42, 43, 44, 45, 46, 47, 48, 49, 50, 51, 52, 53, 0, 1, 2, 3, 4, 5, 6, 7, 8, 9, 10, 11, 12, 13, 14, 15, 16, 17, 18, 19, 20, 21, 22, 23, 24, 25, 26] (by decide) rfl
                      generalize H1 = H at hP hS ⊢
                      have hCn22 : okC c9 jcn22 jsn22 jvn22 kn22 := hCn22
                      refine y_topi (y := c9 7 (nn x)) hw.2 ?_
                      refine lv_icmp_ne (tgt := 198) hx hb dL_isRefundedSo_178 (by decide) (fun c_23 => ?_) (fun c_23 => ?_)
                      · exact absurd rfl c_23
                      · refine lv_aload_n hx hb dL_isRefundedSo_181 rfl (lv_at hl 7 rfl) ?_
                        refine lv_iload hx hb dL_isRefundedSo_182 (lv_at hl 2 rfl) ?_
                        refine lv_iconst (v := 1) hx hb dL_isRefundedSo_184 (by decide) ?_
                        refine lv_iconst (v := 1) hx hb dL_isRefundedSo_185 (by decide) ?_
                        have hP : va_P (dC, dI) vwCl (WB cI cF h0 qn22 c9 jcn22 jsn22 jvn22 kn22 (capOf (nn (c9 0 4))) h1 qn20 c9 jcn20 jsn20 jvn20 kn20 (capOf (nn (c9 0 4)))) H := hP
                        have hD : va_D A (WB cI cF h0 qn22 c9 jcn22 jsn22 jvn22 kn22 (capOf (nn (c9 0 4))) h1 qn20 c9 jcn20 jsn20 jvn20 kn20 (capOf (nn (c9 0 4)))) := hD
                        have hPc := hP.sub (ws' := WC cI cF h0 qn22 c9 jcn22 jsn22 jvn22 kn22 (capOf (nn (c9 0 4)))) [0, 1, 2, 3, 4, 5, 6, 7, 8, 9, 10, 11, 12, 13, 14, 15, 16, 17, 18, 19, 20, 21, 22, 23, 24, 25, 26] rfl
                        have hDc := hD.sub (ws' := WC cI cF h0 qn22 c9 jcn22 jsn22 jvn22 kn22 (capOf (nn (c9 0 4)))) [0, 1, 2, 3, 4, 5, 6, 7, 8, 9, 10, 11, 12, 13, 14, 15, 16, 17, 18, 19, 20, 21, 22, 23, 24, 25, 26] (by decide) rfl
                        have hFc := va_free (wc := WC cI cF h0 qn22 c9 jcn22 jsn22 jvn22 kn22 (capOf (nn (c9 0 4)))) hD hS hA [0, 1, 2, 3, 4, 5, 6, 7, 8, 9, 10, 11, 12, 13, 14, 15, 16, 17, 18, 19, 20, 21, 22, 23, 24, 25, 26] rfl
                        refine va_calli (vx_runSW (As := [.ref h0, .int (a 0 3), .int 1, .int 1]) (rest := []) ⟨hx, hb, hml, hown, hts⟩ (c_L_refund l dC dI cI cF h0 qn22 H.size c9 jcn22 jsn22 jvn22 kn22 hst hCn22 hBc (a 0 3) 1 1) (vx_cwSW 4 hts gL_isRefundedSo_L_refund rfl rfl rfl (by decide +kernel) ⟨Nat.le_of_ble_eq_true rfl, Nat.le_of_ble_eq_true rfl⟩) ⟨pcH_blind, fun U hU hW => pcH_pre hPc hDc hK hV hN hS hFc hU hW⟩ rfl rfl hl.1 rfl (lv_room (Nat.le_of_ble_eq_true rfl)) dL_isRefundedSo_186 ⟨(by show 0 + 0 + 0 + 1 + 1 + 1026 + 1026 + 0 + 0 + 0 + 0 + 2 + 2 + 1 + 2 ≤ 2100; omega), (by show 0 + 0 + 0 + 6 + 6 + 6156 + 6156 + 0 + 0 + 0 + 0 + 12 + 12 + 6 + 12 ≤ 12600; omega)⟩) hS (fun q _ h => hFc q h) hFc (fun r u t H1 locs ht hvm hw hB1 hz1 hk1 hS => ?_)
                        obtain ⟨qn24, jcn24, jsn24, jvn24, kn24, hCn24, hPy, hKy, hDy⟩ := hB1
                        rw [ht] at hPy
                        obtain ⟨hP, hD⟩ := va_join (wr := WC cI cF h1 qn20 c9 jcn20 jsn20 jvn20 kn20 (capOf (nn (c9 0 4)))) (w1 := WC cI cF h0 qn24 (rT c9 (a 0 3) 1 1) jcn24 jsn24 jvn24 kn24 (capOf (nn ((rT c9 (a 0 3) 1 1) 0 4)))) hP hD [0, 1, 2, 3, 4, 5, 6, 7, 8, 9, 10, 11, 12, 13, 14, 15, 16, 17, 18, 19, 20, 21, 22, 23, 24, 25, 26] [27, 28, 29, 30, 31, 32, 33, 34, 35, 36, 37, 38, 39, 40, 41, 42, 43, 44, 45, 46, 47, 48, 49, 50, 51, 52, 53] rfl rfl (by decide) (by decide) hk1 hFc hPy hDy
                        have hP := hP.sub (ws' := WB cI cF h0 qn24 (rT c9 (a 0 3) 1 1) jcn24 jsn24 jvn24 kn24 (capOf (nn ((rT c9 (a 0 3) 1 1) 0 4))) h1 qn20 c9 jcn20 jsn20 jvn20 kn20 (capOf (nn (c9 0 4)))) [27, 28, 29, 30, 31, 32, 33, 34, 35, 36, 37, 38, 39, 40, 41, 42, 43, 44, 45, 46, 47, 48, 49, 50, 51, 52, 53, 0, 1, 2, 3, 4, 5, 6, 7, 8, 9, 10, 11, 12, 13, 14, 15, 16, 17, 18, 19, 20, 21, 22, 23, 24, 25, 26] rfl
                        have hD := hD.sub (ws' := WB cI cF h0 qn24 (rT c9 (a 0 3) 1 1) jcn24 jsn24 jvn24 kn24 (capOf (nn ((rT c9 (a 0 3) 1 1) 0 4))) h1 qn20 c9 jcn20 jsn20 jvn20 kn20 (capOf (nn (c9 0 4)))) [27, 28, 29, 30, 31, 32, 33, 34, 35, 36, 37, 38, 39, 40, 41, 42, 43, 44, 45, 46, 47, 48, 49, 50, 51, 52, 53, 0, 1, 2, 3, 4, 5, 6, 7, 8, 9, 10, 11, 12, 13, 14, 15, 16, 17, 18, 19, 20, 21, 22, 23, 24, 25, 26] (by decide) rfl
                        generalize H1 = H at hP hS ⊢
                        have hCn24 : okC (rT c9 (a 0 3) 1 1) jcn24 jsn24 jvn24 kn24 := hCn24
                        refine y_topi (y := -2000000001) (hw.trans eR3) ?_
                        rw [eR4] at hP hD hCn24
                        refine lv_ldc hx hb hown (hts (.constant RL 45 (-2000000001)) (List.mem_of_getElem? (i := 1) rfl)) dL_isRefundedSo_189 ?_
                        refine lv_icmp_ne (tgt := 198) hx hb dL_isRefundedSo_191 (by decide) (fun c_25 => ?_) (fun c_25 => ?_)
                        · exact absurd rfl c_25
                        · refine lv_iconst (v := 1) hx hb dL_isRefundedSo_194 (by decide) ?_
                          refine lv_goto (tgt := 199) hx hb dL_isRefundedSo_195 (by decide) ?_
                          refine lv_istore (lv' := [(10, .int 1), (11, .int (c9 7 (nn x))), (9, .int (a 0 3)), (8, .int (sHsum a (nn x) (nn (a 0 3)))), (7, .int (bA a x)), (6, .int (a 0 8)), (5, .int (a 0 7)), (0, .ref h0), (1, .ref h1), (2, .int x), (3, .int kd), (4, .int am)]) hx hb dL_isRefundedSo_199 hl (by decide) rfl (fun ls hl => ?_)
                          refine lv_iload hx hb dL_isRefundedSo_201 (lv_at hl 0 rfl) ?_
                          refine lv_if_eq (tgt := 247) hx hb dL_isRefundedSo_203 (by decide) (fun c_26 => ?_) (fun c_26 => ?_)
                          · exact absurd c_26 (by decide)
                          · refine lv_aload_n hx hb dL_isRefundedSo_206 rfl (lv_at hl 7 rfl) ?_
                            have hP : va_P (dC, dI) vwCl (WB cI cF h0 qn24 c9 jcn24 jsn24 jvn24 kn24 (capOf (nn (c9 0 4))) h1 qn20 c9 jcn20 jsn20 jvn20 kn20 (capOf (nn (c9 0 4)))) H := hP
                            have hD : va_D A (WB cI cF h0 qn24 c9 jcn24 jsn24 jvn24 kn24 (capOf (nn (c9 0 4))) h1 qn20 c9 jcn20 jsn20 jvn20 kn20 (capOf (nn (c9 0 4)))) := hD
                            have hPc := hP.sub (ws' := WC cI cF h0 qn24 c9 jcn24 jsn24 jvn24 kn24 (capOf (nn (c9 0 4)))) [0, 1, 2, 3, 4, 5, 6, 7, 8, 9, 10, 11, 12, 13, 14, 15, 16, 17, 18, 19, 20, 21, 22, 23, 24, 25, 26] rfl
                            have hDc := hD.sub (ws' := WC cI cF h0 qn24 c9 jcn24 jsn24 jvn24 kn24 (capOf (nn (c9 0 4)))) [0, 1, 2, 3, 4, 5, 6, 7, 8, 9, 10, 11, 12, 13, 14, 15, 16, 17, 18, 19, 20, 21, 22, 23, 24, 25, 26] (by decide) rfl
                            have hFc := va_free (wc := WC cI cF h0 qn24 c9 jcn24 jsn24 jvn24 kn24 (capOf (nn (c9 0 4)))) hD hS hA [0, 1, 2, 3, 4, 5, 6, 7, 8, 9, 10, 11, 12, 13, 14, 15, 16, 17, 18, 19, 20, 21, 22, 23, 24, 25, 26] rfl
                            refine va_calli (va_runV (As := []) (rest := []) ⟨hx, hb, hml, hown, hts⟩ (c_X4_fees l dC dI cI cF h0 qn24 H.size c9 jcn24 jsn24 jvn24 kn24 hCn24 hBc) (cwV 0 hts gL_isRefundedSo_X4_fees rfl rfl rfl (by decide +kernel) ⟨Nat.le_of_ble_eq_true rfl, Nat.le_of_ble_eq_true rfl⟩) ⟨pcW_blind, va_recv hK hPc (ci := 4) (q0 := 0) rfl rfl, fun U hU hW => pcW_pre hPc hDc hK hU hW⟩ rfl rfl hl.1 rfl (lv_room (Nat.le_of_ble_eq_true rfl)) dL_isRefundedSo_207 ⟨(by show 0 + 0 + 0 + 1 + 1 + 1026 + 1026 + 0 + 0 + 0 + 0 + 2 + 2 + 1 + 2 + 0 ≤ 2100; omega), (by show 0 + 0 + 0 + 6 + 6 + 6156 + 6156 + 0 + 0 + 0 + 0 + 12 + 12 + 6 + 12 + 0 ≤ 12600; omega)⟩) hS (fun q _ h => hFc q h) hFc (fun r u t H1 locs ht hvm hw hB1 hz1 hk1 hS => ?_)
                            obtain ⟨qn27, jcn27, jsn27, jvn27, kn27, hCn27, hPy, hKy, hDy⟩ := hB1
                            rw [ht] at hPy
                            obtain ⟨hP, hD⟩ := va_join (wr := WC cI cF h1 qn20 c9 jcn20 jsn20 jvn20 kn20 (capOf (nn (c9 0 4)))) (w1 := WC cI cF h0 qn27 c9 jcn27 jsn27 jvn27 kn27 (capOf (nn (c9 0 4)))) hP hD [0, 1, 2, 3, 4, 5, 6, 7, 8, 9, 10, 11, 12, 13, 14, 15, 16, 17, 18, 19, 20, 21, 22, 23, 24, 25, 26] [27, 28, 29, 30, 31, 32, 33, 34, 35, 36, 37, 38, 39, 40, 41, 42, 43, 44, 45, 46, 47, 48, 49, 50, 51, 52, 53] rfl rfl (by decide) (by decide) hk1 hFc hPy hDy
                            have hP := hP.sub (ws' := WB cI cF h0 qn27 c9 jcn27 jsn27 jvn27 kn27 (capOf (nn (c9 0 4))) h1 qn20 c9 jcn20 jsn20 jvn20 kn20 (capOf (nn (c9 0 4)))) [27, 28, 29, 30, 31, 32, 33, 34, 35, 36, 37, 38, 39, 40, 41, 42, 43, 44, 45, 46, 47, 48, 49, 50, 51, 52, 53, 0, 1, 2, 3, 4, 5, 6, 7, 8, 9, 10, 11, 12, 13, 14, 15, 16, 17, 18, 19, 20, 21, 22, 23, 24, 25, 26] rfl
                            have hD := hD.sub (ws' := WB cI cF h0 qn27 c9 jcn27 jsn27 jvn27 kn27 (capOf (nn (c9 0 4))) h1 qn20 c9 jcn20 jsn20 jvn20 kn20 (capOf (nn (c9 0 4)))) [27, 28, 29, 30, 31, 32, 33, 34, 35, 36, 37, 38, 39, 40, 41, 42, 43, 44, 45, 46, 47, 48, 49, 50, 51, 52, 53, 0, 1, 2, 3, 4, 5, 6, 7, 8, 9, 10, 11, 12, 13, 14, 15, 16, 17, 18, 19, 20, 21, 22, 23, 24, 25, 26] (by decide) rfl
                            generalize H1 = H at hP hS ⊢
                            have hCn27 : okC c9 jcn27 jsn27 jvn27 kn27 := hCn27
                            refine y_topi (y := c9 0 7) hw ?_
                            refine lv_iload hx hb dL_isRefundedSo_210 (lv_at hl 6 rfl) ?_
                            refine lv_icmp_ne (tgt := 247) hx hb dL_isRefundedSo_212 (by decide) (fun c_28 => ?_) (fun c_28 => ?_)
                            · exact absurd f9 c_28
                            · refine lv_aload_n hx hb dL_isRefundedSo_215 rfl (lv_at hl 7 rfl) ?_
                              have hP : va_P (dC, dI) vwCl (WB cI cF h0 qn27 c9 jcn27 jsn27 jvn27 kn27 (capOf (nn (c9 0 4))) h1 qn20 c9 jcn20 jsn20 jvn20 kn20 (capOf (nn (c9 0 4)))) H := hP
                              have hD : va_D A (WB cI cF h0 qn27 c9 jcn27 jsn27 jvn27 kn27 (capOf (nn (c9 0 4))) h1 qn20 c9 jcn20 jsn20 jvn20 kn20 (capOf (nn (c9 0 4)))) := hD
                              have hPc := hP.sub (ws' := WC cI cF h0 qn27 c9 jcn27 jsn27 jvn27 kn27 (capOf (nn (c9 0 4)))) [0, 1, 2, 3, 4, 5, 6, 7, 8, 9, 10, 11, 12, 13, 14, 15, 16, 17, 18, 19, 20, 21, 22, 23, 24, 25, 26] rfl
                              have hDc := hD.sub (ws' := WC cI cF h0 qn27 c9 jcn27 jsn27 jvn27 kn27 (capOf (nn (c9 0 4)))) [0, 1, 2, 3, 4, 5, 6, 7, 8, 9, 10, 11, 12, 13, 14, 15, 16, 17, 18, 19, 20, 21, 22, 23, 24, 25, 26] (by decide) rfl
                              have hFc := va_free (wc := WC cI cF h0 qn27 c9 jcn27 jsn27 jvn27 kn27 (capOf (nn (c9 0 4)))) hD hS hA [0, 1, 2, 3, 4, 5, 6, 7, 8, 9, 10, 11, 12, 13, 14, 15, 16, 17, 18, 19, 20, 21, 22, 23, 24, 25, 26] rfl
                              refine va_calli (va_runV (As := []) (rest := []) ⟨hx, hb, hml, hown, hts⟩ (c_X4_taxes l dC dI cI cF h0 qn27 H.size c9 jcn27 jsn27 jvn27 kn27 hCn27 hBc) (cwV 0 hts gL_isRefundedSo_X4_taxes rfl rfl rfl (by decide +kernel) ⟨Nat.le_of_ble_eq_true rfl, Nat.le_of_ble_eq_true rfl⟩) ⟨pcW_blind, va_recv hK hPc (ci := 4) (q0 := 0) rfl rfl, fun U hU hW => pcW_pre hPc hDc hK hU hW⟩ rfl rfl hl.1 rfl (lv_room (Nat.le_of_ble_eq_true rfl)) dL_isRefundedSo_216 ⟨(by show 0 + 0 + 0 + 1 + 1 + 1026 + 1026 + 0 + 0 + 0 + 0 + 2 + 2 + 1 + 2 + 0 + 0 ≤ 2100; omega), (by show 0 + 0 + 0 + 6 + 6 + 6156 + 6156 + 0 + 0 + 0 + 0 + 12 + 12 + 6 + 12 + 0 + 0 ≤ 12600; omega)⟩) hS (fun q _ h => hFc q h) hFc (fun r u t H1 locs ht hvm hw hB1 hz1 hk1 hS => ?_)
                              obtain ⟨qn29, jcn29, jsn29, jvn29, kn29, hCn29, hPy, hKy, hDy⟩ := hB1
                              rw [ht] at hPy
                              obtain ⟨hP, hD⟩ := va_join (wr := WC cI cF h1 qn20 c9 jcn20 jsn20 jvn20 kn20 (capOf (nn (c9 0 4)))) (w1 := WC cI cF h0 qn29 c9 jcn29 jsn29 jvn29 kn29 (capOf (nn (c9 0 4)))) hP hD [0, 1, 2, 3, 4, 5, 6, 7, 8, 9, 10, 11, 12, 13, 14, 15, 16, 17, 18, 19, 20, 21, 22, 23, 24, 25, 26] [27, 28, 29, 30, 31, 32, 33, 34, 35, 36, 37, 38, 39, 40, 41, 42, 43, 44, 45, 46, 47, 48, 49, 50, 51, 52, 53] rfl rfl (by decide) (by decide) hk1 hFc hPy hDy
                              have hP := hP.sub (ws' := WB cI cF h0 qn29 c9 jcn29 jsn29 jvn29 kn29 (capOf (nn (c9 0 4))) h1 qn20 c9 jcn20 jsn20 jvn20 kn20 (capOf (nn (c9 0 4)))) [27, 28, 29, 30, 31, 32, 33, 34, 35, 36, 37, 38, 39, 40, 41, 42, 43, 44, 45, 46, 47, 48, 49, 50, 51, 52, 53, 0, 1, 2, 3, 4, 5, 6, 7, 8, 9, 10, 11, 12, 13, 14, 15, 16, 17, 18, 19, 20, 21, 22, 23, 24, 25, 26] rfl
                              have hD := hD.sub (ws' := WB cI cF h0 qn29 c9 jcn29 jsn29 jvn29 kn29 (capOf (nn (c9 0 4))) h1 qn20 c9 jcn20 jsn20 jvn20 kn20 (capOf (nn (c9 0 4)))) [27, 28, 29, 30, 31, 32, 33, 34, 35, 36, 37, 38, 39, 40, 41, 42, 43, 44, 45, 46, 47, 48, 49, 50, 51, 52, 53, 0, 1, 2, 3, 4, 5, 6, 7, 8, 9, 10, 11, 12, 13, 14, 15, 16, 17, 18, 19, 20, 21, 22, 23, 24, 25, 26] (by decide) rfl
                              generalize H1 = H at hP hS ⊢
                              have hCn29 : okC c9 jcn29 jsn29 jvn29 kn29 := hCn29
                              refine y_topi (y := c9 0 8) hw ?_
                              refine lv_iload hx hb dL_isRefundedSo_219 (lv_at hl 5 rfl) ?_
                              refine lv_icmp_ne (tgt := 247) hx hb dL_isRefundedSo_221 (by decide) (fun c_30 => ?_) (fun c_30 => ?_)
                              · exact absurd f10 c_30
                              · refine lv_aload_n hx hb dL_isRefundedSo_224 rfl (lv_at hl 7 rfl) ?_
                                refine lv_iload_n hx hb dL_isRefundedSo_225 rfl (lv_at hl 9 rfl) ?_
                                have hP : va_P (dC, dI) vwCl (WB cI cF h0 qn29 c9 jcn29 jsn29 jvn29 kn29 (capOf (nn (c9 0 4))) h1 qn20 c9 jcn20 jsn20 jvn20 kn20 (capOf (nn (c9 0 4)))) H := hP
                                have hD : va_D A (WB cI cF h0 qn29 c9 jcn29 jsn29 jvn29 kn29 (capOf (nn (c9 0 4))) h1 qn20 c9 jcn20 jsn20 jvn20 kn20 (capOf (nn (c9 0 4)))) := hD
                                have hPc := hP.sub (ws' := WC cI cF h0 qn29 c9 jcn29 jsn29 jvn29 kn29 (capOf (nn (c9 0 4)))) [0, 1, 2, 3, 4, 5, 6, 7, 8, 9, 10, 11, 12, 13, 14, 15, 16, 17, 18, 19, 20, 21, 22, 23, 24, 25, 26] rfl
                                have hDc := hD.sub (ws' := WC cI cF h0 qn29 c9 jcn29 jsn29 jvn29 kn29 (capOf (nn (c9 0 4)))) [0, 1, 2, 3, 4, 5, 6, 7, 8, 9, 10, 11, 12, 13, 14, 15, 16, 17, 18, 19, 20, 21, 22, 23, 24, 25, 26] (by decide) rfl
                                have hFc := va_free (wc := WC cI cF h0 qn29 c9 jcn29 jsn29 jvn29 kn29 (capOf (nn (c9 0 4)))) hD hS hA [0, 1, 2, 3, 4, 5, 6, 7, 8, 9, 10, 11, 12, 13, 14, 15, 16, 17, 18, 19, 20, 21, 22, 23, 24, 25, 26] rfl
                                refine vx_calli (vx_runV (As := [.int x]) (rest := []) ⟨hx, hb, hml, hown, hts⟩ (c_X4_balance l dC dI cI cF h0 qn29 H.size c9 jcn29 jsn29 jvn29 kn29 hst hCn29 hBc x) (cwV 1 hts gL_isRefundedSo_X4_balance rfl rfl rfl (by decide +kernel) ⟨Nat.le_of_ble_eq_true rfl, Nat.le_of_ble_eq_true rfl⟩) ⟨pcV_blind, va_recv hK hPc (ci := 4) (q0 := 0) rfl rfl, fun U hU hW => pcV_pre hPc hDc hK hV hS hFc hU hW⟩ rfl rfl hl.1 rfl (lv_room (Nat.le_of_ble_eq_true rfl)) dL_isRefundedSo_226 ⟨(by show 0 + 0 + 0 + 1 + 1 + 1026 + 1026 + 0 + 0 + 0 + 0 + 2 + 2 + 1 + 2 + 0 + 0 + 1 ≤ 2100; omega), (by show 0 + 0 + 0 + 6 + 6 + 6156 + 6156 + 0 + 0 + 0 + 0 + 12 + 12 + 6 + 12 + 0 + 0 + 6 ≤ 12600; omega)⟩) hS (fun q _ h => hFc q h) hFc (fun q _ h => hFc q h) (fun E ce q9 u t H1 locs ht hvm hw hBx hz1 hk1 hS hce hcv hcl => absurd hs9 hw) (fun r u t H1 locs ht hvm hw hB1 hz1 hk1 hS => ?_)
                                obtain ⟨qn31, jcn31, jsn31, jvn31, kn31, hCn31, hPy, hKy, hDy⟩ := hB1
                                rw [ht] at hPy
                                obtain ⟨hP, hD⟩ := va_join (wr := WC cI cF h1 qn20 c9 jcn20 jsn20 jvn20 kn20 (capOf (nn (c9 0 4)))) (w1 := WC cI cF h0 qn31 c9 jcn31 jsn31 jvn31 kn31 (capOf (nn (c9 0 4)))) hP hD [0, 1, 2, 3, 4, 5, 6, 7, 8, 9, 10, 11, 12, 13, 14, 15, 16, 17, 18, 19, 20, 21, 22, 23, 24, 25, 26] [27, 28, 29, 30, 31, 32, 33, 34, 35, 36, 37, 38, 39, 40, 41, 42, 43, 44, 45, 46, 47, 48, 49, 50, 51, 52, 53] rfl rfl (by decide) (by decide) hk1 hFc hPy hDy
                                have hP := hP.sub (ws' := WB cI cF h0 qn31 c9 jcn31 jsn31 jvn31 kn31 (capOf (nn (c9 0 4))) h1 qn20 c9 jcn20 jsn20 jvn20 kn20 (capOf (nn (c9 0 4)))) [27, 28, 29, 30, 31, 32, 33, 34, 35, 36, 37, 38, 39, 40, 41, 42, 43, 44, 45, 46, 47, 48, 49, 50, 51, 52, 53, 0, 1, 2, 3, 4, 5, 6, 7, 8, 9, 10, 11, 12, 13, 14, 15, 16, 17, 18, 19, 20, 21, 22, 23, 24, 25, 26] rfl
                                have hD := hD.sub (ws' := WB cI cF h0 qn31 c9 jcn31 jsn31 jvn31 kn31 (capOf (nn (c9 0 4))) h1 qn20 c9 jcn20 jsn20 jvn20 kn20 (capOf (nn (c9 0 4)))) [27, 28, 29, 30, 31, 32, 33, 34, 35, 36, 37, 38, 39, 40, 41, 42, 43, 44, 45, 46, 47, 48, 49, 50, 51, 52, 53, 0, 1, 2, 3, 4, 5, 6, 7, 8, 9, 10, 11, 12, 13, 14, 15, 16, 17, 18, 19, 20, 21, 22, 23, 24, 25, 26] (by decide) rfl
                                generalize H1 = H at hP hS ⊢
                                have hCn31 : okC c9 jcn31 jsn31 jvn31 kn31 := hCn31
                                refine y_topi (y := c9 7 (nn x)) hw.2 ?_
                                refine lv_aload_n hx hb dL_isRefundedSo_229 rfl (lv_at hl 7 rfl) ?_
                                refine lv_iload_n hx hb dL_isRefundedSo_230 rfl (lv_at hl 9 rfl) ?_
                                have hP : va_P (dC, dI) vwCl (WB cI cF h0 qn31 c9 jcn31 jsn31 jvn31 kn31 (capOf (nn (c9 0 4))) h1 qn20 c9 jcn20 jsn20 jvn20 kn20 (capOf (nn (c9 0 4)))) H := hP
                                have hD : va_D A (WB cI cF h0 qn31 c9 jcn31 jsn31 jvn31 kn31 (capOf (nn (c9 0 4))) h1 qn20 c9 jcn20 jsn20 jvn20 kn20 (capOf (nn (c9 0 4)))) := hD
                                have hPc := hP.sub (ws' := WC cI cF h0 qn31 c9 jcn31 jsn31 jvn31 kn31 (capOf (nn (c9 0 4)))) [0, 1, 2, 3, 4, 5, 6, 7, 8, 9, 10, 11, 12, 13, 14, 15, 16, 17, 18, 19, 20, 21, 22, 23, 24, 25, 26] rfl
                                have hDc := hD.sub (ws' := WC cI cF h0 qn31 c9 jcn31 jsn31 jvn31 kn31 (capOf (nn (c9 0 4)))) [0, 1, 2, 3, 4, 5, 6, 7, 8, 9, 10, 11, 12, 13, 14, 15, 16, 17, 18, 19, 20, 21, 22, 23, 24, 25, 26] (by decide) rfl
                                have hFc := va_free (wc := WC cI cF h0 qn31 c9 jcn31 jsn31 jvn31 kn31 (capOf (nn (c9 0 4)))) hD hS hA [0, 1, 2, 3, 4, 5, 6, 7, 8, 9, 10, 11, 12, 13, 14, 15, 16, 17, 18, 19, 20, 21, 22, 23, 24, 25, 26] rfl
                                refine vx_calli (vx_runV (As := [.int x]) (rest := [.int (c9 7 (nn x))]) ⟨hx, hb, hml, hown, hts⟩ (c_X4_reserve l dC dI cI cF h0 qn31 H.size c9 jcn31 jsn31 jvn31 kn31 hst hCn31 hBc x) (cwV 1 hts gL_isRefundedSo_X4_reserve rfl rfl rfl (by decide +kernel) ⟨Nat.le_of_ble_eq_true rfl, Nat.le_of_ble_eq_true rfl⟩) ⟨pcV_blind, va_recv hK hPc (ci := 4) (q0 := 0) rfl rfl, fun U hU hW => pcV_pre hPc hDc hK hV hS hFc hU hW⟩ rfl rfl hl.1 rfl (lv_room (Nat.le_of_ble_eq_true rfl)) dL_isRefundedSo_231 ⟨(by show 0 + 0 + 0 + 1 + 1 + 1026 + 1026 + 0 + 0 + 0 + 0 + 2 + 2 + 1 + 2 + 0 + 0 + 1 + 1 ≤ 2100; omega), (by show 0 + 0 + 0 + 6 + 6 + 6156 + 6156 + 0 + 0 + 0 + 0 + 12 + 12 + 6 + 12 + 0 + 0 + 6 + 6 ≤ 12600; omega)⟩) hS (fun q _ h => hFc q h) hFc (fun q _ h => hFc q h) (fun E ce q9 u t H1 locs ht hvm hw hBx hz1 hk1 hS hce hcv hcl => absurd hs9 hw) (fun r u t H1 locs ht hvm hw hB1 hz1 hk1 hS => ?_)
                                obtain ⟨qn32, jcn32, jsn32, jvn32, kn32, hCn32, hPy, hKy, hDy⟩ := hB1
                                rw [ht] at hPy
                                obtain ⟨hP, hD⟩ := va_join (wr := WC cI cF h1 qn20 c9 jcn20 jsn20 jvn20 kn20 (capOf (nn (c9 0 4)))) (w1 := WC cI cF h0 qn32 c9 jcn32 jsn32 jvn32 kn32 (capOf (nn (c9 0 4)))) hP hD [0, 1, 2, 3, 4, 5, 6, 7, 8, 9, 10, 11, 12, 13, 14, 15, 16, 17, 18, 19, 20, 21, 22, 23, 24, 25, 26] [27, 28, 29, 30, 31, 32, 33, 34, 35, 36, 37, 38, 39, 40, 41, 42, 43, 44, 45, 46, 47, 48, 49, 50, 51, 52, 53] rfl rfl (by decide) (by decide) hk1 hFc hPy hDy
                                have hP := hP.sub (ws' := WB cI cF h0 qn32 c9 jcn32 jsn32 jvn32 kn32 (capOf (nn (c9 0 4))) h1 qn20 c9 jcn20 jsn20 jvn20 kn20 (capOf (nn (c9 0 4)))) [27, 28, 29, 30, 31, 32, 33, 34, 35, 36, 37, 38, 39, 40, 41, 42, 43, 44, 45, 46, 47, 48, 49, 50, 51, 52, 53, 0, 1, 2, 3, 4, 5, 6, 7, 8, 9, 10, 11, 12, 13, 14, 15, 16, 17, 18, 19, 20, 21, 22, 23, 24, 25, 26] rfl
                                have hD := hD.sub (ws' := WB cI cF h0 qn32 c9 jcn32 jsn32 jvn32 kn32 (capOf (nn (c9 0 4))) h1 qn20 c9 jcn20 jsn20 jvn20 kn20 (capOf (nn (c9 0 4)))) [27, 28, 29, 30, 31, 32, 33, 34, 35, 36, 37, 38, 39, 40, 41, 42, 43, 44, 45, 46, 47, 48, 49, 50, 51, 52, 53, 0, 1, 2, 3, 4, 5, 6, 7, 8, 9, 10, 11, 12, 13, 14, 15, 16, 17, 18, 19, 20, 21, 22, 23, 24, 25, 26] (by decide) rfl
                                generalize H1 = H at hP hS ⊢
                                have hCn32 : okC c9 jcn32 jsn32 jvn32 kn32 := hCn32
                                refine y_topi (y := sHsum c9 (nn x) (nn (c9 0 3))) hw.2 ?_
                                refine lv_iadd hx hb dL_isRefundedSo_234 ?_
                                refine lv_iload hx hb dL_isRefundedSo_235 (lv_at hl 4 rfl) ?_
                                refine lv_iload hx hb dL_isRefundedSo_237 (lv_at hl 3 rfl) ?_
                                refine lv_iadd hx hb dL_isRefundedSo_239 ?_
                                refine lv_icmp_ne (tgt := 247) hx hb dL_isRefundedSo_240 (by decide) (fun c_33 => ?_) (fun c_33 => ?_)
                                · exact absurd (show c9 7 (nn x) + sHsum c9 (nn x) (nn (c9 0 3)) = bA a x + sHsum a (nn x) (nn (a 0 3)) by rw [bA_y hs, f11]; exact f12) c_33
                                · refine lv_iconst (v := 1) hx hb dL_isRefundedSo_243 (by decide) ?_
                                  refine lv_goto (tgt := 248) hx hb dL_isRefundedSo_244 (by decide) ?_
                                  have hP : va_P (dC, dI) vwCl (WB cI cF h0 qn32 c9 jcn32 jsn32 jvn32 kn32 (capOf (nn (c9 0 4))) h1 qn20 c9 jcn20 jsn20 jvn20 kn20 (capOf (nn (c9 0 4)))) H := hP
                                  have hD : va_D A (WB cI cF h0 qn32 c9 jcn32 jsn32 jvn32 kn32 (capOf (nn (c9 0 4))) h1 qn20 c9 jcn20 jsn20 jvn20 kn20 (capOf (nn (c9 0 4)))) := hD
                                  refine W.widen (k := 2100) (n := 12600) (by show 0 + 0 + 0 + 1 + 1 + 1026 + 1026 + 0 + 0 + 0 + 0 + 2 + 2 + 1 + 2 + 0 + 0 + 1 + 1 ≤ 2100; omega) (by show 0 + 0 + 0 + 6 + 6 + 6156 + 6156 + 0 + 0 + 0 + 0 + 12 + 12 + 6 + 12 + 0 + 0 + 6 + 6 ≤ 12600; omega) ?_
                                  have hP9 := hP
                                  have hD9 := hD
                                  have hK9 := hK
                                  exact W.zret (v := 1) (ty := .boolean) hx hb hr rfl (fun t ht hW => ⟨⟨1, (), rfl, rfl, atB_e eZ hCn32 hCn20 (atW_end hP9 hD9 hK9 ht hW)⟩, hS.F ht⟩) hS.2.2 dL_isRefundedSo_248
        · exact absurd f1 c_9
      · have hkd : ¬ dK a 6 x kd am = 0 := fun h => hk ((dK6 a x kd am).symm.trans h)
        have eT : dT a 6 x kd am = a := dT_n hkd
        have eA : dA a 6 x kd am = -2000000001 := dA_n hkd
        have eZ : zT a x kd am = a := by
          unfold zT
          rw [if_pos hs, if_neg hk]
        rw [eT] at hP hD hCn6 hCn7
        rw [eA] at hl
        refine lv_iload hx hb dL_isRefundedSo_83 (lv_at hl 1 rfl) ?_
        refine lv_if_ge (tgt := 91) hx hb dL_isRefundedSo_85 (by decide) (fun c_34 => ?_) (fun c_34 => ?_)
        · exact absurd c_34 (by decide)
        · refine lv_iload hx hb dL_isRefundedSo_88 (lv_at hl 0 rfl) ?_
          have hP : va_P (dC, dI) vwCl (WB cI cF h0 qn6 a jcn6 jsn6 jvn6 kn6 (capOf (nn (a 0 4))) h1 qn7 a jcn7 jsn7 jvn7 kn7 (capOf (nn (a 0 4)))) H := hP
          have hD : va_D A (WB cI cF h0 qn6 a jcn6 jsn6 jvn6 kn6 (capOf (nn (a 0 4))) h1 qn7 a jcn7 jsn7 jvn7 kn7 (capOf (nn (a 0 4)))) := hD
          refine W.widen (k := 2100) (n := 12600) (by show 0 + 0 + 0 + 1 + 1 + 1026 + 1026 ≤ 2100; omega) (by show 0 + 0 + 0 + 6 + 6 + 6156 + 6156 ≤ 12600; omega) ?_
          have hP9 := hP
          have hD9 := hD
          have hK9 := hK
          exact W.zret (v := 1) (ty := .boolean) hx hb hr rfl (fun t ht hW => ⟨⟨1, (), rfl, rfl, atB_e eZ hCn6 hCn7 (atW_end hP9 hD9 hK9 ht hW)⟩, hS.F ht⟩) hS.2.2 dL_isRefundedSo_90
  · have hs : ¬ kSel a x = 0 := fun q => by
      have q2 := bA_y q
      rw [c_4] at q2
      have hx1 : nn x < nn (a 0 0) := by
        unfold kSel at q
        split at q
        · next h9 => exact (nat_of (hB 0 0 8 rfl) (by decide) h9.1 h9.2).2
        · exact absurd q (by decide)
      obtain ⟨b1, b2, b3, b4, b5, b6, b7, b8, b9, b10, b11, b12⟩ := okX_b hI
      have k9 := b9 (nn x) (by omega)
      unfold bal at k9
      exact ne_sent (x := a 7 (nn x)) (by omega) q2.symm
    have eZ : zT a x kd am = a := if_neg hs
    refine lv_aload_n hx hb dL_isRefundedSo_26 rfl (lv_at hl 4 rfl) ?_
    refine lv_iload_n hx hb dL_isRefundedSo_27 rfl (lv_at hl 5 rfl) ?_
    have hP : va_P (dC, dI) vwCl (WB cI cF h0 qn3 a jcn3 jsn3 jvn3 kn3 (capOf (nn (a 0 4))) h1 q2 a jc2 js2 jv2 k2 (capOf (nn (a 0 4)))) H := hP
    have hD : va_D A (WB cI cF h0 qn3 a jcn3 jsn3 jvn3 kn3 (capOf (nn (a 0 4))) h1 q2 a jc2 js2 jv2 k2 (capOf (nn (a 0 4)))) := hD
    have hPc := hP.sub (ws' := WC cI cF h1 q2 a jc2 js2 jv2 k2 (capOf (nn (a 0 4)))) [27, 28, 29, 30, 31, 32, 33, 34, 35, 36, 37, 38, 39, 40, 41, 42, 43, 44, 45, 46, 47, 48, 49, 50, 51, 52, 53] rfl
    have hDc := hD.sub (ws' := WC cI cF h1 q2 a jc2 js2 jv2 k2 (capOf (nn (a 0 4)))) [27, 28, 29, 30, 31, 32, 33, 34, 35, 36, 37, 38, 39, 40, 41, 42, 43, 44, 45, 46, 47, 48, 49, 50, 51, 52, 53] (by decide) rfl
    have hFc := va_free (wc := WC cI cF h1 q2 a jc2 js2 jv2 k2 (capOf (nn (a 0 4)))) hD hS hA [27, 28, 29, 30, 31, 32, 33, 34, 35, 36, 37, 38, 39, 40, 41, 42, 43, 44, 45, 46, 47, 48, 49, 50, 51, 52, 53] rfl
    refine va_calli (vx_runSW (As := [.ref h1, .int x]) (rest := []) ⟨hx, hb, hml, hown, hts⟩ (c_L_balance l dC dI cI cF h1 q2 H.size a jc2 js2 jv2 k2 hst hC2 hB x) (vx_cwSW 2 hts gL_isRefundedSo_L_balance rfl rfl rfl (by decide +kernel) ⟨Nat.le_of_ble_eq_true rfl, Nat.le_of_ble_eq_true rfl⟩) ⟨pcH_blind, fun U hU hW => pcH_pre hPc hDc hK hV hN hS hFc hU hW⟩ rfl rfl hl.1 rfl (lv_room (Nat.le_of_ble_eq_true rfl)) dL_isRefundedSo_28 ⟨(by show 0 + 0 + 0 + 1 + 1 ≤ 2100; omega), (by show 0 + 0 + 0 + 6 + 6 ≤ 12600; omega)⟩) hS (fun q _ h => hFc q h) hFc (fun r u t H1 locs ht hvm hw hB1 hz1 hk1 hS => ?_)
    obtain ⟨qn35, jcn35, jsn35, jvn35, kn35, hCn35, hPy, hKy, hDy⟩ := hB1
    rw [ht] at hPy
    obtain ⟨hP, hD⟩ := va_join (wr := WC cI cF h0 qn3 a jcn3 jsn3 jvn3 kn3 (capOf (nn (a 0 4)))) (w1 := WC cI cF h1 qn35 a jcn35 jsn35 jvn35 kn35 (capOf (nn (a 0 4)))) hP hD [27, 28, 29, 30, 31, 32, 33, 34, 35, 36, 37, 38, 39, 40, 41, 42, 43, 44, 45, 46, 47, 48, 49, 50, 51, 52, 53] [0, 1, 2, 3, 4, 5, 6, 7, 8, 9, 10, 11, 12, 13, 14, 15, 16, 17, 18, 19, 20, 21, 22, 23, 24, 25, 26] rfl rfl (by decide) (by decide) hk1 hFc hPy hDy
    have hP := hP.sub (ws' := WB cI cF h0 qn3 a jcn3 jsn3 jvn3 kn3 (capOf (nn (a 0 4))) h1 qn35 a jcn35 jsn35 jvn35 kn35 (capOf (nn (a 0 4)))) [0, 1, 2, 3, 4, 5, 6, 7, 8, 9, 10, 11, 12, 13, 14, 15, 16, 17, 18, 19, 20, 21, 22, 23, 24, 25, 26, 27, 28, 29, 30, 31, 32, 33, 34, 35, 36, 37, 38, 39, 40, 41, 42, 43, 44, 45, 46, 47, 48, 49, 50, 51, 52, 53] rfl
    have hD := hD.sub (ws' := WB cI cF h0 qn3 a jcn3 jsn3 jvn3 kn3 (capOf (nn (a 0 4))) h1 qn35 a jcn35 jsn35 jvn35 kn35 (capOf (nn (a 0 4)))) [0, 1, 2, 3, 4, 5, 6, 7, 8, 9, 10, 11, 12, 13, 14, 15, 16, 17, 18, 19, 20, 21, 22, 23, 24, 25, 26, 27, 28, 29, 30, 31, 32, 33, 34, 35, 36, 37, 38, 39, 40, 41, 42, 43, 44, 45, 46, 47, 48, 49, 50, 51, 52, 53] (by decide) rfl
    generalize H1 = H at hP hS ⊢
    have hCn35 : okC a jcn35 jsn35 jvn35 kn35 := hCn35
    refine y_topi (y := bA a x) hw ?_
    refine lv_iload hx hb dL_isRefundedSo_31 (lv_at hl 0 rfl) ?_
    refine lv_icmp_ne (tgt := 40) hx hb dL_isRefundedSo_33 (by decide) (fun c_36 => ?_) (fun c_36 => ?_)
    · exact absurd rfl c_36
    · refine lv_iconst (v := 1) hx hb dL_isRefundedSo_36 (by decide) ?_
      refine lv_goto (tgt := 41) hx hb dL_isRefundedSo_37 (by decide) ?_
      have hP : va_P (dC, dI) vwCl (WB cI cF h0 qn3 a jcn3 jsn3 jvn3 kn3 (capOf (nn (a 0 4))) h1 qn35 a jcn35 jsn35 jvn35 kn35 (capOf (nn (a 0 4)))) H := hP
      have hD : va_D A (WB cI cF h0 qn3 a jcn3 jsn3 jvn3 kn3 (capOf (nn (a 0 4))) h1 qn35 a jcn35 jsn35 jvn35 kn35 (capOf (nn (a 0 4)))) := hD
      refine W.widen (k := 2100) (n := 12600) (by show 0 + 0 + 0 + 1 + 1 ≤ 2100; omega) (by show 0 + 0 + 0 + 6 + 6 ≤ 12600; omega) ?_
      have hP9 := hP
      have hD9 := hD
      have hK9 := hK
      exact W.zret (v := 1) (ty := .boolean) hx hb hr rfl (fun t ht hW => ⟨⟨1, (), rfl, rfl, atB_e eZ hCn3 hCn35 (atW_end hP9 hD9 hK9 ht hW)⟩, hS.F ht⟩) hS.2.2 dL_isRefundedSo_41
