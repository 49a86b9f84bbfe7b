/-! a day, a sale refunded -/
theorem sub_nI {x y : Int32} {n m : Nat} (hx : x = nI n) (hy : y = nI m) (h : m ≤ n) : x - y = nI (n - m) := by rw [hx, hy, pk_sub h]
theorem add_nI2 {x y : Int32} {n m : Nat} (hx : x = nI n) (hy : y = nI m) (h : m ≤ n) : x = y + nI (n - m) := by
  rw [hx, hy, nI_add, show m + (n - m) = n by omega]
theorem add1 {x : Int32} {n : Nat} (hx : x = nI n) : x + 1 = nI (n + 1) := by rw [hx]; exact nI_1 n
theorem le_nn {x y : Int32} {b : Nat} (hx : lim x b) (hy : lim y b) (hb : b < 2 ^ 30) (h : nn x < nn y) : ¬ y ≤ x := by
  rw [Int32.le_iff_toInt_le, lim_i hx hb, lim_i hy hb]
  omega
theorem kSel_of {a b : yA} (x : Int32) (h : b 0 0 = a 0 0) : kSel b x = kSel a x := by
  unfold kSel selOK
  rw [h]
theorem dK8 (a : yA) (x y z : Int32) : dK a 8 x y z = kPass a x := by
  unfold dK
  rw [if_neg (by decide), if_neg (by decide), if_neg (by decide), if_neg (by decide), if_neg (by decide), if_neg (by decide), if_neg (by decide), if_neg (by decide), if_pos rfl]
theorem dV8 (a : yA) (x y z : Int32) : dV a 8 x y z = sPass a (nn x) 0 4 - a 0 4 := by
  unfold dV
  rw [if_neg (by decide), if_neg (by decide), if_neg (by decide), if_neg (by decide), if_neg (by decide), if_neg (by decide), if_neg (by decide), if_neg (by decide), if_pos rfl]
theorem dS8 (a : yA) (x y z : Int32) : dS a 8 x y z = sPass a (nn x) := by
  unfold dS
  rw [if_neg (by decide), if_neg (by decide), if_neg (by decide), if_neg (by decide), if_neg (by decide), if_neg (by decide), if_neg (by decide), if_neg (by decide), if_pos rfl]
theorem dK6 (a : yA) (x y z : Int32) : dK a 6 x y z = kSell a x y z := by
  unfold dK
  rw [if_neg (by decide), if_neg (by decide), if_neg (by decide), if_neg (by decide), if_neg (by decide), if_neg (by decide), if_pos rfl]
theorem dV6 (a : yA) (x y z : Int32) : dV a 6 x y z = a 0 3 := by
  unfold dV
  rw [if_neg (by decide), if_neg (by decide), if_neg (by decide), if_neg (by decide), if_neg (by decide), if_neg (by decide), if_pos rfl]
theorem dS6 (a : yA) (x y z : Int32) : dS a 6 x y z = sSell a x y z := by
  unfold dS
  rw [if_neg (by decide), if_neg (by decide), if_neg (by decide), if_neg (by decide), if_neg (by decide), if_neg (by decide), if_pos rfl]
def zT (a : yA) (x kd am : Int32) : yA := if kSel a x = 0 then (if kSell a x kd am = 0 then sRefund (sSell a x kd am) (nn (a 0 3)) am true else a) else a
theorem sell00 (a : yA) (x kd am : Int32) (j : Nat) (y : Int32) (f : Bool) : sRefund (sSell a x kd am) j y f 0 0 = a 0 0 := rfl
set_option maxHeartbeats 4000000 in
set_option maxRecDepth 100000 in
theorem c_L_isDaySo (l : Launch) (dC : Nat → ClassId) (dI : Nat → Nat → Nat) (cI cF : ClassId) (h0 h1 : Nat) (q q2 : Nat → Nat) (sz : Nat) (a : yA) (jc js jv : Nat → Int32) (k : Nat) (jc2 js2 jv2 : Nat → Int32) (k2 : Nat) (hst : l.stackTraces = false) (hC : okC a jc js jv k) (hC2 : okC a jc2 js2 jv2 k2)  {n : Nat} {m9 t9 : Int} (hI : okX a n m9 t9) (hn : n < 512) : Met l yL_isDaySo wsL_isDaySo ({ frames := 10, cells := 2100, slots := 12600, locals := 196 } : Room) (va_Pc [.ref h0, .ref h1] (pcH dC dI [(cI, .int), (cF, .float)] (WB cI cF h0 q a jc js jv k (capOf (nn (a 0 4))) h1 q2 a jc2 js2 jv2 k2 (capOf (nn (a 0 4)))) sz)) (va_Qi (fun (r : Int32) (_ : Unit) => r = 1) (fun _ t => atB dC dI cI cF (va_A (WB cI cF h0 q a jc js jv k (capOf (nn (a 0 4))) h1 q2 a jc2 js2 jv2 k2 (capOf (nn (a 0 4)))) sz) h0 h1 (dT a 8 1 0 0) t) (va_A (WB cI cF h0 q a jc js jv k (capOf (nn (a 0 4))) h1 q2 a jc2 js2 jv2 k2 (capOf (nn (a 0 4)))) sz)) (2100) (12600) (va_A (WB cI cF h0 q a jc js jv k (capOf (nn (a 0 4))) h1 q2 a jc2 js2 jv2 k2 (capOf (nn (a 0 4)))) sz) := by
  refine Met.ofW (cc := cL_isDaySo) (maxL := 7) (ret := (some .boolean)) (by decide) rfl ?_
  intro p e s m args below meth c s₁ B hml hv
  obtain ⟨rfl, ⟨⟨hsz, hP, hK, hD0⟩, hV⟩, hN⟩ := hv
  have hx := B.exec
  have hb := B.bytes
  have hr := B.returns
  have hts := atoms_spec (ws := wsL_isDaySo) B.pre
  have hown : s.vm.findClass RL = some m.cls := findClass_of_methodNamed B.named
  have hlocks := B.notSynchronized
  subst hsz
  have hD := hD0.self (sz := s.heap.size)
  generalize hAe : va_A [(h0, .inr (4, [.ref (q 1), .ref (q 10), .ref (q 18), .ref (q 22), .ref (q 26), .int (a 0 2), .int (a 0 1), .int (a 0 5), .int (a 0 6), .int (a 0 7), .int (a 0 8)])), (q 1, .inr (3, [.ref (q 2), .ref (q 3), .ref (q 4), .ref (q 5), .ref (q 6), .ref (q 7), .ref (q 8), .ref (q 9), .int (a 0 0)])), (q 2, .inl (cI, 8, .inl (a 1))), (q 3, .inl (cI, 8, .inl (a 2))), (q 4, .inl (cI, 8, .inl (a 3))), (q 5, .inl (cI, 8, .inl (a 4))), (q 6, .inl (cI, 8, .inl (a 5))), (q 7, .inl (cI, 8, .inl (a 6))), (q 8, .inl (cI, 8, .inl (a 7))), (q 9, .inl (cI, 8, .inl (a 8))), (q 10, .inr (2, [.ref (q 11), .ref (q 12), .ref (q 13), .ref (q 14), .ref (q 15), .ref (q 16), .ref (q 17), .int (a 0 3)])), (q 11, .inl (cI, 100, .inl (a 10))), (q 12, .inl (cF, 100, .inr (.inr (.inl (fun j => shF (a 13 j)))))), (q 13, .inl (cI, 100, .inl (a 14))), (q 14, .inl (cI, 100, .inl (fun j => a 11 j - a 12 j))), (q 15, .inl (cI, 100, .inl (fun j => a 15 j - a 16 j))), (q 16, .inl (cI, 100, .inl (a 17))), (q 17, .inl (cI, 100, .inl (a 18))), (q 18, .inr (1, [.ref (q 19), .ref (q 20), .ref (q 21), .int (a 0 4)])), (q 19, .inl (cI, capOf (nn (a 0 4)), .inl (a 20))), (q 20, .inl (cI, capOf (nn (a 0 4)), .inl (a 19))), (q 21, .inl (cI, capOf (nn (a 0 4)), .inl (a 21))), (q 22, .inr (0, [.ref (q 23), .ref (q 24), .ref (q 25), .int (nI k)])), (q 23, .inl (cI, 8, .inl (jc))), (q 24, .inl (cI, 256, .inl (js))), (q 25, .inl (cI, 256, .inl (jv))), (q 26, .inl (cF, 4, .inr (.inr (.inl (fun j => shF (a 9 j)))))), (h1, .inr (4, [.ref (q2 1), .ref (q2 10), .ref (q2 18), .ref (q2 22), .ref (q2 26), .int (a 0 2), .int (a 0 1), .int (a 0 5), .int (a 0 6), .int (a 0 7), .int (a 0 8)])), (q2 1, .inr (3, [.ref (q2 2), .ref (q2 3), .ref (q2 4), .ref (q2 5), .ref (q2 6), .ref (q2 7), .ref (q2 8), .ref (q2 9), .int (a 0 0)])), (q2 2, .inl (cI, 8, .inl (a 1))), (q2 3, .inl (cI, 8, .inl (a 2))), (q2 4, .inl (cI, 8, .inl (a 3))), (q2 5, .inl (cI, 8, .inl (a 4))), (q2 6, .inl (cI, 8, .inl (a 5))), (q2 7, .inl (cI, 8, .inl (a 6))), (q2 8, .inl (cI, 8, .inl (a 7))), (q2 9, .inl (cI, 8, .inl (a 8))), (q2 10, .inr (2, [.ref (q2 11), .ref (q2 12), .ref (q2 13), .ref (q2 14), .ref (q2 15), .ref (q2 16), .ref (q2 17), .int (a 0 3)])), (q2 11, .inl (cI, 100, .inl (a 10))), (q2 12, .inl (cF, 100, .inr (.inr (.inl (fun j => shF (a 13 j)))))), (q2 13, .inl (cI, 100, .inl (a 14))), (q2 14, .inl (cI, 100, .inl (fun j => a 11 j - a 12 j))), (q2 15, .inl (cI, 100, .inl (fun j => a 15 j - a 16 j))), (q2 16, .inl (cI, 100, .inl (a 17))), (q2 17, .inl (cI, 100, .inl (a 18))), (q2 18, .inr (1, [.ref (q2 19), .ref (q2 20), .ref (q2 21), .int (a 0 4)])), (q2 19, .inl (cI, capOf (nn (a 0 4)), .inl (a 20))), (q2 20, .inl (cI, capOf (nn (a 0 4)), .inl (a 19))), (q2 21, .inl (cI, capOf (nn (a 0 4)), .inl (a 21))), (q2 22, .inr (0, [.ref (q2 23), .ref (q2 24), .ref (q2 25), .int (nI k2)])), (q2 23, .inl (cI, 8, .inl (jc2))), (q2 24, .inl (cI, 256, .inl (js2))), (q2 25, .inl (cI, 256, .inl (jv2))), (q2 26, .inl (cF, 4, .inr (.inr (.inl (fun j => shF (a 9 j))))))] s.heap.size = A at hD hV ⊢
  have hA : ∀ q : Nat, s.heap.size ≤ q → A q := fun q h => by rw [← hAe]; exact Or.inr h
  have hS : va_S A s.heap s.heap [] := va_S.rf
  have hl := lv_entry ([.ref h0, .ref h1]) (n := 7) (Nat.le_of_ble_eq_true rfl)
  rw [lg_entry_eq]
  generalize (lg_sl ([.ref h0, .ref h1]) ++ List.replicate (7 - (lg_sl ([.ref h0, .ref h1])).length) Slot.unset).toArray = ls at hl ⊢
  have hl : lv_has ls 7 [(0, .ref h0), (1, .ref h1)] := hl
  have hP : va_P (dC, dI) vwCl [(h0, .inr (4, [.ref (q 1), .ref (q 10), .ref (q 18), .ref (q 22), .ref (q 26), .int (a 0 2), .int (a 0 1), .int (a 0 5), .int (a 0 6), .int (a 0 7), .int (a 0 8)])), (q 1, .inr (3, [.ref (q 2), .ref (q 3), .ref (q 4), .ref (q 5), .ref (q 6), .ref (q 7), .ref (q 8), .ref (q 9), .int (a 0 0)])), (q 2, .inl (cI, 8, .inl (a 1))), (q 3, .inl (cI, 8, .inl (a 2))), (q 4, .inl (cI, 8, .inl (a 3))), (q 5, .inl (cI, 8, .inl (a 4))), (q 6, .inl (cI, 8, .inl (a 5))), (q 7, .inl (cI, 8, .inl (a 6))), (q 8, .inl (cI, 8, .inl (a 7))), (q 9, .inl (cI, 8, .inl (a 8))), (q 10, .inr (2, [.ref (q 11), .ref (q 12), .ref (q 13), .ref (q 14), .ref (q 15), .ref (q 16), .ref (q 17), .int (a 0 3)])), (q 11, .inl (cI, 100, .inl (a 10))), (q 12, .inl (cF, 100, .inr (.inr (.inl (fun j => shF (a 13 j)))))), (q 13, .inl (cI, 100, .inl (a 14))), (q 14, .inl (cI, 100, .inl (fun j => a 11 j - a 12 j))), (q 15, .inl (cI, 100, .inl (fun j => a 15 j - a 16 j))), (q 16, .inl (cI, 100, .inl (a 17))), (q 17, .inl (cI, 100, .inl (a 18))), (q 18, .inr (1, [.ref (q 19), .ref (q 20), .ref (q 21), .int (a 0 4)])), (q 19, .inl (cI, capOf (nn (a 0 4)), .inl (a 20))), (q 20, .inl (cI, capOf (nn (a 0 4)), .inl (a 19))), (q 21, .inl (cI, capOf (nn (a 0 4)), .inl (a 21))), (q 22, .inr (0, [.ref (q 23), .ref (q 24), .ref (q 25), .int (nI k)])), (q 23, .inl (cI, 8, .inl (jc))), (q 24, .inl (cI, 256, .inl (js))), (q 25, .inl (cI, 256, .inl (jv))), (q 26, .inl (cF, 4, .inr (.inr (.inl (fun j => shF (a 9 j)))))), (h1, .inr (4, [.ref (q2 1), .ref (q2 10), .ref (q2 18), .ref (q2 22), .ref (q2 26), .int (a 0 2), .int (a 0 1), .int (a 0 5), .int (a 0 6), .int (a 0 7), .int (a 0 8)])), (q2 1, .inr (3, [.ref (q2 2), .ref (q2 3), .ref (q2 4), .ref (q2 5), .ref (q2 6), .ref (q2 7), .ref (q2 8), .ref (q2 9), .int (a 0 0)])), (q2 2, .inl (cI, 8, .inl (a 1))), (q2 3, .inl (cI, 8, .inl (a 2))), (q2 4, .inl (cI, 8, .inl (a 3))), (q2 5, .inl (cI, 8, .inl (a 4))), (q2 6, .inl (cI, 8, .inl (a 5))), (q2 7, .inl (cI, 8, .inl (a 6))), (q2 8, .inl (cI, 8, .inl (a 7))), (q2 9, .inl (cI, 8, .inl (a 8))), (q2 10, .inr (2, [.ref (q2 11), .ref (q2 12), .ref (q2 13), .ref (q2 14), .ref (q2 15), .ref (q2 16), .ref (q2 17), .int (a 0 3)])), (q2 11, .inl (cI, 100, .inl (a 10))), (q2 12, .inl (cF, 100, .inr (.inr (.inl (fun j => shF (a 13 j)))))), (q2 13, .inl (cI, 100, .inl (a 14))), (q2 14, .inl (cI, 100, .inl (fun j => a 11 j - a 12 j))), (q2 15, .inl (cI, 100, .inl (fun j => a 15 j - a 16 j))), (q2 16, .inl (cI, 100, .inl (a 17))), (q2 17, .inl (cI, 100, .inl (a 18))), (q2 18, .inr (1, [.ref (q2 19), .ref (q2 20), .ref (q2 21), .int (a 0 4)])), (q2 19, .inl (cI, capOf (nn (a 0 4)), .inl (a 20))), (q2 20, .inl (cI, capOf (nn (a 0 4)), .inl (a 19))), (q2 21, .inl (cI, capOf (nn (a 0 4)), .inl (a 21))), (q2 22, .inr (0, [.ref (q2 23), .ref (q2 24), .ref (q2 25), .int (nI k2)])), (q2 23, .inl (cI, 8, .inl (jc2))), (q2 24, .inl (cI, 256, .inl (js2))), (q2 25, .inl (cI, 256, .inl (jv2))), (q2 26, .inl (cF, 4, .inr (.inr (.inl (fun j => shF (a 9 j))))))] s.heap := hP
  refine y_enter (A := A) hP (fun H hP hS => ?_)
  have hB := okA_B hI.1
  have h8 := (hB 0 0 8 rfl).2
  refine lv_aload_n hx hb dL_isDaySo_0 rfl (lv_at hl 0 rfl) ?_
  have hP : va_P (dC, dI) vwCl (WB cI cF h0 q a jc js jv k (capOf (nn (a 0 4))) h1 q2 a jc2 js2 jv2 k2 (capOf (nn (a 0 4)))) H := hP
  have hD : va_D A (WB cI cF h0 q a jc js jv k (capOf (nn (a 0 4))) h1 q2 a jc2 js2 jv2 k2 (capOf (nn (a 0 4)))) := hD
  have hPc := hP.sub (ws' := WC cI cF h0 q a jc js jv k (capOf (nn (a 0 4)))) [0, 1, 2, 3, 4, 5, 6, 7, 8, 9, 10, 11, 12, 13, 14, 15, 16, 17, 18, 19, 20, 21, 22, 23, 24, 25, 26] rfl
  have hDc := hD.sub (ws' := WC cI cF h0 q a jc js jv k (capOf (nn (a 0 4)))) [0, 1, 2, 3, 4, 5, 6, 7, 8, 9, 10, 11, 12, 13, 14, 15, 16, 17, 18, 19, 20, 21, 22, 23, 24, 25, 26] (by decide) rfl
  have hFc := va_free (wc := WC cI cF h0 q a jc js jv k (capOf (nn (a 0 4)))) hD hS hA [0, 1, 2, 3, 4, 5, 6, 7, 8, 9, 10, 11, 12, 13, 14, 15, 16, 17, 18, 19, 20, 21, 22, 23, 24, 25, 26] rfl
  refine va_calli (va_runV (As := []) (rest := []) ⟨hx, hb, hml, hown, hts⟩ (c_X4_payouts l dC dI cI cF h0 q H.size a jc js jv k hC hB) (cwV 0 hts gL_isDaySo_X4_payouts rfl rfl rfl (by decide +kernel) ⟨Nat.le_of_ble_eq_true rfl, Nat.le_of_ble_eq_true rfl⟩) ⟨pcW_blind, va_recv hK hPc (ci := 4) (q0 := 0) rfl rfl, fun U hU hW => pcW_pre hPc hDc hK hU hW⟩ rfl rfl hl.1 rfl (lv_room (Nat.le_of_ble_eq_true rfl)) dL_isDaySo_1 ⟨(by show 0 + 0 ≤ 2100; omega), (by show 0 + 0 ≤ 12600; omega)⟩) hS (fun q _ h => hFc q h) hFc (fun r u t H1 locs ht hvm hw hB1 hz1 hk1 hS => ?_)
  obtain ⟨qn1, jcn1, jsn1, jvn1, kn1, hCn1, hPy, hKy, hDy⟩ := hB1
  rw [ht] at hPy
  obtain ⟨hP, hD⟩ := va_join (wr := WC cI cF h1 q2 a jc2 js2 jv2 k2 (capOf (nn (a 0 4)))) (w1 := WC cI cF h0 qn1 a jcn1 jsn1 jvn1 kn1 (capOf (nn (a 0 4)))) hP hD [0, 1, 2, 3, 4, 5, 6, 7, 8, 9, 10, 11, 12, 13, 14, 15, 16, 17, 18, 19, 20, 21, 22, 23, 24, 25, 26] [27, 28, 29, 30, 31, 32, 33, 34, 35, 36, 37, 38, 39, 40, 41, 42, 43, 44, 45, 46, 47, 48, 49, 50, 51, 52, 53] rfl rfl (by decide) (by decide) hk1 hFc hPy hDy
  have hP := hP.sub (ws' := WB cI cF h0 qn1 a jcn1 jsn1 jvn1 kn1 (capOf (nn (a 0 4))) h1 q2 a jc2 js2 jv2 k2 (capOf (nn (a 0 4)))) [27, 28, 29, 30, 31, 32, 33, 34, 35, 36, 37, 38, 39, 40, 41, 42, 43, 44, 45, 46, 47, 48, 49, 50, 51, 52, 53, 0, 1, 2, 3, 4, 5, 6, 7, 8, 9, 10, 11, 12, 13, 14, 15, 16, 17, 18, 19, 20, 21, 22, 23, 24, 25, 26] rfl
  have hD := hD.sub (ws' := WB cI cF h0 qn1 a jcn1 jsn1 jvn1 kn1 (capOf (nn (a 0 4))) h1 q2 a jc2 js2 jv2 k2 (capOf (nn (a 0 4)))) [27, 28, 29, 30, 31, 32, 33, 34, 35, 36, 37, 38, 39, 40, 41, 42, 43, 44, 45, 46, 47, 48, 49, 50, 51, 52, 53, 0, 1, 2, 3, 4, 5, 6, 7, 8, 9, 10, 11, 12, 13, 14, 15, 16, 17, 18, 19, 20, 21, 22, 23, 24, 25, 26] (by decide) rfl
  generalize H1 = H at hP hS ⊢
  have hCn1 : okC a jcn1 jsn1 jvn1 kn1 := hCn1
  refine y_topi (y := a 0 4) hw ?_
  refine lv_istore_n (lv' := [(2, .int (a 0 4)), (0, .ref h0), (1, .ref h1)]) hx hb dL_isDaySo_4 rfl hl (by decide) rfl (fun ls hl => ?_)
  refine lv_aload_n hx hb dL_isDaySo_5 rfl (lv_at hl 1 rfl) ?_
  have hP : va_P (dC, dI) vwCl (WB cI cF h0 qn1 a jcn1 jsn1 jvn1 kn1 (capOf (nn (a 0 4))) h1 q2 a jc2 js2 jv2 k2 (capOf (nn (a 0 4)))) H := hP
  have hD : va_D A (WB cI cF h0 qn1 a jcn1 jsn1 jvn1 kn1 (capOf (nn (a 0 4))) h1 q2 a jc2 js2 jv2 k2 (capOf (nn (a 0 4)))) := hD
  have hPc := hP.sub (ws' := WC cI cF h0 qn1 a jcn1 jsn1 jvn1 kn1 (capOf (nn (a 0 4)))) [0, 1, 2, 3, 4, 5, 6, 7, 8, 9, 10, 11, 12, 13, 14, 15, 16, 17, 18, 19, 20, 21, 22, 23, 24, 25, 26] rfl
  have hDc := hD.sub (ws' := WC cI cF h0 qn1 a jcn1 jsn1 jvn1 kn1 (capOf (nn (a 0 4)))) [0, 1, 2, 3, 4, 5, 6, 7, 8, 9, 10, 11, 12, 13, 14, 15, 16, 17, 18, 19, 20, 21, 22, 23, 24, 25, 26] (by decide) rfl
  have hFc := va_free (wc := WC cI cF h0 qn1 a jcn1 jsn1 jvn1 kn1 (capOf (nn (a 0 4)))) hD hS hA [0, 1, 2, 3, 4, 5, 6, 7, 8, 9, 10, 11, 12, 13, 14, 15, 16, 17, 18, 19, 20, 21, 22, 23, 24, 25, 26] rfl
  refine va_calli (va_runV (As := []) (rest := []) ⟨hx, hb, hml, hown, hts⟩ (c_X4_today l dC dI cI cF h0 qn1 H.size a jcn1 jsn1 jvn1 kn1 hCn1 hB) (cwV 0 hts gL_isDaySo_X4_today rfl rfl rfl (by decide +kernel) ⟨Nat.le_of_ble_eq_true rfl, Nat.le_of_ble_eq_true rfl⟩) ⟨pcW_blind, va_recv hK hPc (ci := 4) (q0 := 0) rfl rfl, fun U hU hW => pcW_pre hPc hDc hK hU hW⟩ rfl rfl hl.1 rfl (lv_room (Nat.le_of_ble_eq_true rfl)) dL_isDaySo_6 ⟨(by show 0 + 0 + 0 ≤ 2100; omega), (by show 0 + 0 + 0 ≤ 12600; omega)⟩) hS (fun q _ h => hFc q h) hFc (fun r u t H1 locs ht hvm hw hB1 hz1 hk1 hS => ?_)
  obtain ⟨qn2, jcn2, jsn2, jvn2, kn2, hCn2, hPy, hKy, hDy⟩ := hB1
  rw [ht] at hPy
  obtain ⟨hP, hD⟩ := va_join (wr := WC cI cF h1 q2 a jc2 js2 jv2 k2 (capOf (nn (a 0 4)))) (w1 := WC cI cF h0 qn2 a jcn2 jsn2 jvn2 kn2 (capOf (nn (a 0 4)))) hP hD [0, 1, 2, 3, 4, 5, 6, 7, 8, 9, 10, 11, 12, 13, 14, 15, 16, 17, 18, 19, 20, 21, 22, 23, 24, 25, 26] [27, 28, 29, 30, 31, 32, 33, 34, 35, 36, 37, 38, 39, 40, 41, 42, 43, 44, 45, 46, 47, 48, 49, 50, 51, 52, 53] rfl rfl (by decide) (by decide) hk1 hFc hPy hDy
  have hP := hP.sub (ws' := WB cI cF h0 qn2 a jcn2 jsn2 jvn2 kn2 (capOf (nn (a 0 4))) h1 q2 a jc2 js2 jv2 k2 (capOf (nn (a 0 4)))) [27, 28, 29, 30, 31, 32, 33, 34, 35, 36, 37, 38, 39, 40, 41, 42, 43, 44, 45, 46, 47, 48, 49, 50, 51, 52, 53, 0, 1, 2, 3, 4, 5, 6, 7, 8, 9, 10, 11, 12, 13, 14, 15, 16, 17, 18, 19, 20, 21, 22, 23, 24, 25, 26] rfl
  have hD := hD.sub (ws' := WB cI cF h0 qn2 a jcn2 jsn2 jvn2 kn2 (capOf (nn (a 0 4))) h1 q2 a jc2 js2 jv2 k2 (capOf (nn (a 0 4)))) [27, 28, 29, 30, 31, 32, 33, 34, 35, 36, 37, 38, 39, 40, 41, 42, 43, 44, 45, 46, 47, 48, 49, 50, 51, 52, 53, 0, 1, 2, 3, 4, 5, 6, 7, 8, 9, 10, 11, 12, 13, 14, 15, 16, 17, 18, 19, 20, 21, 22, 23, 24, 25, 26] (by decide) rfl
  generalize H1 = H at hP hS ⊢
  have hCn2 : okC a jcn2 jsn2 jvn2 kn2 := hCn2
  refine y_topi (y := a 0 1) hw ?_
  refine lv_istore_n (lv' := [(3, .int (a 0 1)), (2, .int (a 0 4)), (0, .ref h0), (1, .ref h1)]) hx hb dL_isDaySo_9 rfl hl (by decide) rfl (fun ls hl => ?_)
  refine lv_aload_n hx hb dL_isDaySo_10 rfl (lv_at hl 2 rfl) ?_
  refine lv_bipush (v := 8) hx hb dL_isDaySo_11 (by decide) ?_
  refine lv_iconst (v := 1) hx hb dL_isDaySo_13 (by decide) ?_
  refine lv_iconst (v := 0) hx hb dL_isDaySo_14 (by decide) ?_
  refine lv_iconst (v := 0) hx hb dL_isDaySo_15 (by decide) ?_
  have hP : va_P (dC, dI) vwCl (WB cI cF h0 qn2 a jcn2 jsn2 jvn2 kn2 (capOf (nn (a 0 4))) h1 q2 a jc2 js2 jv2 k2 (capOf (nn (a 0 4)))) H := hP
  have hD : va_D A (WB cI cF h0 qn2 a jcn2 jsn2 jvn2 kn2 (capOf (nn (a 0 4))) h1 q2 a jc2 js2 jv2 k2 (capOf (nn (a 0 4)))) := hD
  have hPc := hP.sub (ws' := WC cI cF h0 qn2 a jcn2 jsn2 jvn2 kn2 (capOf (nn (a 0 4)))) [0, 1, 2, 3, 4, 5, 6, 7, 8, 9, 10, 11, 12, 13, 14, 15, 16, 17, 18, 19, 20, 21, 22, 23, 24, 25, 26] rfl
  have hDc := hD.sub (ws' := WC cI cF h0 qn2 a jcn2 jsn2 jvn2 kn2 (capOf (nn (a 0 4)))) [0, 1, 2, 3, 4, 5, 6, 7, 8, 9, 10, 11, 12, 13, 14, 15, 16, 17, 18, 19, 20, 21, 22, 23, 24, 25, 26] (by decide) rfl
  have hFc := va_free (wc := WC cI cF h0 qn2 a jcn2 jsn2 jvn2 kn2 (capOf (nn (a 0 4)))) hD hS hA [0, 1, 2, 3, 4, 5, 6, 7, 8, 9, 10, 11, 12, 13, 14, 15, 16, 17, 18, 19, 20, 21, 22, 23, 24, 25, 26] rfl
  refine va_calli (vx_runSW (As := [.ref h0, .int 8, .int 1, .int 0, .int 0]) (rest := []) ⟨hx, hb, hml, hown, hts⟩ (c_L_does l dC dI cI cF h0 qn2 H.size a jcn2 jsn2 jvn2 kn2 hst hCn2 hI.1 hn 8 1 0 0) (vx_cwSW 5 hts gL_isDaySo_L_does rfl rfl rfl (by decide +kernel) ⟨Nat.le_of_ble_eq_true rfl, Nat.le_of_ble_eq_true rfl⟩) ⟨pcH_blind, fun U hU hW => pcH_pre hPc hDc hK hV hN hS hFc hU hW⟩ rfl rfl hl.1 rfl (lv_room (Nat.le_of_ble_eq_true rfl)) dL_isDaySo_16 ⟨(by show 0 + 0 + 0 + 1026 ≤ 2100; omega), (by show 0 + 0 + 0 + 6156 ≤ 12600; omega)⟩) hS (fun q _ h => hFc q h) hFc (fun r u t H1 locs ht hvm hw hB1 hz1 hk1 hS => ?_)
  obtain ⟨qn3, jcn3, jsn3, jvn3, kn3, hCn3, hPy, hKy, hDy⟩ := hB1
  rw [ht] at hPy
  obtain ⟨hP, hD⟩ := va_join (wr := WC cI cF h1 q2 a jc2 js2 jv2 k2 (capOf (nn (a 0 4)))) (w1 := WC cI cF h0 qn3 (dT a 8 1 0 0) jcn3 jsn3 jvn3 kn3 (capOf (nn ((dT a 8 1 0 0) 0 4)))) hP hD [0, 1, 2, 3, 4, 5, 6, 7, 8, 9, 10, 11, 12, 13, 14, 15, 16, 17, 18, 19, 20, 21, 22, 23, 24, 25, 26] [27, 28, 29, 30, 31, 32, 33, 34, 35, 36, 37, 38, 39, 40, 41, 42, 43, 44, 45, 46, 47, 48, 49, 50, 51, 52, 53] rfl rfl (by decide) (by decide) hk1 hFc hPy hDy
  have hP := hP.sub (ws' := WB cI cF h0 qn3 (dT a 8 1 0 0) jcn3 jsn3 jvn3 kn3 (capOf (nn ((dT a 8 1 0 0) 0 4))) h1 q2 a jc2 js2 jv2 k2 (capOf (nn (a 0 4)))) [27, 28, 29, 30, 31, 32, 33, 34, 35, 36, 37, 38, 39, 40, 41, 42, 43, 44, 45, 46, 47, 48, 49, 50, 51, 52, 53, 0, 1, 2, 3, 4, 5, 6, 7, 8, 9, 10, 11, 12, 13, 14, 15, 16, 17, 18, 19, 20, 21, 22, 23, 24, 25, 26] rfl
  have hD := hD.sub (ws' := WB cI cF h0 qn3 (dT a 8 1 0 0) jcn3 jsn3 jvn3 kn3 (capOf (nn ((dT a 8 1 0 0) 0 4))) h1 q2 a jc2 js2 jv2 k2 (capOf (nn (a 0 4)))) [27, 28, 29, 30, 31, 32, 33, 34, 35, 36, 37, 38, 39, 40, 41, 42, 43, 44, 45, 46, 47, 48, 49, 50, 51, 52, 53, 0, 1, 2, 3, 4, 5, 6, 7, 8, 9, 10, 11, 12, 13, 14, 15, 16, 17, 18, 19, 20, 21, 22, 23, 24, 25, 26] (by decide) rfl
  generalize H1 = H at hP hS ⊢
  have hCn3 : okC (dT a 8 1 0 0) jcn3 jsn3 jvn3 kn3 := hCn3
  refine y_topi (y := dA a 8 1 0 0) hw ?_
  by_cases hk : kPass a 1 = 0
  · obtain ⟨d1, d2, d3, d4, d5, d6, d7, d8⟩ := okX_day hI hn hk
    have hkd : dK a 8 1 0 0 = 0 := (dK8 a 1 0 0).trans hk
    have eT : dT a 8 1 0 0 = sDay a := (dT_y hkd).trans ((dS8 a 1 0 0).trans d1)
    have hXb := okX_do hI hn hkd
    rw [dS8, d1] at hXb
    have hBb := okA_B hXb.1
    have eA : dA a 8 1 0 0 = nI (nn (sDay a 0 4) - nn (a 0 4)) := by
      rw [dA_y hkd, dV8, d1]
      exact sub_nI (a04_nI hBb) (a04_nI hB) d3
    have hne : ¬ nI (nn (sDay a 0 4) - nn (a 0 4)) = -2000000001 := ne_sent (by rw [nI_i (by omega)]; omega)
    rw [eT] at hP hD hCn3
    refine y_topi (y := nI (nn (sDay a 0 4) - nn (a 0 4))) eA ?_
    refine lv_istore (lv' := [(4, .int (nI (nn (sDay a 0 4) - nn (a 0 4)))), (3, .int (a 0 1)), (2, .int (a 0 4)), (0, .ref h0), (1, .ref h1)]) hx hb dL_isDaySo_19 hl (by decide) rfl (fun ls hl => ?_)
    refine lv_iload hx hb dL_isDaySo_21 (lv_at hl 0 rfl) ?_
    refine lv_ldc hx hb hown (hts (.constant RL 45 (-2000000001)) (List.mem_of_getElem? (i := 1) rfl)) dL_isDaySo_23 ?_
    refine lv_icmp_ne (tgt := 58) hx hb dL_isDaySo_25 (by decide) (fun c_4 => ?_) (fun c_4 => ?_)
    · refine lv_iload hx hb dL_isDaySo_58 (lv_at hl 0 rfl) ?_
      refine lv_if_lt (tgt := 109) hx hb dL_isDaySo_60 (by decide) (fun c_5 => ?_) (fun c_5 => ?_)
      · exact absurd c_5 (Int32.not_lt.mpr ((nI_leI (a := 0) (by decide) (by omega)).mpr (Nat.zero_le _)))
      · refine lv_aload_n hx hb dL_isDaySo_63 rfl (lv_at hl 4 rfl) ?_
        refine lv_bipush (v := 8) hx hb dL_isDaySo_64 (by decide) ?_
        refine lv_iconst (v := 1) hx hb dL_isDaySo_66 (by decide) ?_
        refine lv_iconst (v := 0) hx hb dL_isDaySo_67 (by decide) ?_
        refine lv_iconst (v := 0) hx hb dL_isDaySo_68 (by decide) ?_
        have hP : va_P (dC, dI) vwCl (WB cI cF h0 qn3 (sDay a) jcn3 jsn3 jvn3 kn3 (capOf (nn ((sDay a) 0 4))) h1 q2 a jc2 js2 jv2 k2 (capOf (nn (a 0 4)))) H := hP
        have hD : va_D A (WB cI cF h0 qn3 (sDay a) jcn3 jsn3 jvn3 kn3 (capOf (nn ((sDay a) 0 4))) h1 q2 a jc2 js2 jv2 k2 (capOf (nn (a 0 4)))) := hD
        have hPc := hP.sub (ws' := WC cI cF h1 q2 a jc2 js2 jv2 k2 (capOf (nn (a 0 4)))) [27, 28, 29, 30, 31, 32, 33, 34, 35, 36, 37, 38, 39, 40, 41, 42, 43, 44, 45, 46, 47, 48, 49, 50, 51, 52, 53] rfl
        have hDc := hD.sub (ws' := WC cI cF h1 q2 a jc2 js2 jv2 k2 (capOf (nn (a 0 4)))) [27, 28, 29, 30, 31, 32, 33, 34, 35, 36, 37, 38, 39, 40, 41, 42, 43, 44, 45, 46, 47, 48, 49, 50, 51, 52, 53] (by decide) rfl
        have hFc := va_free (wc := WC cI cF h1 q2 a jc2 js2 jv2 k2 (capOf (nn (a 0 4)))) hD hS hA [27, 28, 29, 30, 31, 32, 33, 34, 35, 36, 37, 38, 39, 40, 41, 42, 43, 44, 45, 46, 47, 48, 49, 50, 51, 52, 53] rfl
        refine va_calli (vx_runSW (As := [.ref h1, .int 8, .int 1, .int 0, .int 0]) (rest := []) ⟨hx, hb, hml, hown, hts⟩ (c_L_does l dC dI cI cF h1 q2 H.size a jc2 js2 jv2 k2 hst hC2 hI.1 hn 8 1 0 0) (vx_cwSW 5 hts gL_isDaySo_L_does rfl rfl rfl (by decide +kernel) ⟨Nat.le_of_ble_eq_true rfl, Nat.le_of_ble_eq_true rfl⟩) ⟨pcH_blind, fun U hU hW => pcH_pre hPc hDc hK hV hN hS hFc hU hW⟩ rfl rfl hl.1 rfl (lv_room (Nat.le_of_ble_eq_true rfl)) dL_isDaySo_69 ⟨(by show 0 + 0 + 0 + 1026 + 1026 ≤ 2100; omega), (by show 0 + 0 + 0 + 6156 + 6156 ≤ 12600; omega)⟩) hS (fun q _ h => hFc q h) hFc (fun r u t H1 locs ht hvm hw hB1 hz1 hk1 hS => ?_)
        obtain ⟨qn6, jcn6, jsn6, jvn6, kn6, hCn6, hPy, hKy, hDy⟩ := hB1
        rw [ht] at hPy
        obtain ⟨hP, hD⟩ := va_join (wr := WC cI cF h0 qn3 (sDay a) jcn3 jsn3 jvn3 kn3 (capOf (nn ((sDay a) 0 4)))) (w1 := WC cI cF h1 qn6 (dT a 8 1 0 0) jcn6 jsn6 jvn6 kn6 (capOf (nn ((dT a 8 1 0 0) 0 4)))) hP hD [27, 28, 29, 30, 31, 32, 33, 34, 35, 36, 37, 38, 39, 40, 41, 42, 43, 44, 45, 46, 47, 48, 49, 50, 51, 52, 53] [0, 1, 2, 3, 4, 5, 6, 7, 8, 9, 10, 11, 12, 13, 14, 15, 16, 17, 18, 19, 20, 21, 22, 23, 24, 25, 26] rfl rfl (by decide) (by decide) hk1 hFc hPy hDy
        have hP := hP.sub (ws' := WB cI cF h0 qn3 (sDay a) jcn3 jsn3 jvn3 kn3 (capOf (nn ((sDay a) 0 4))) h1 qn6 (dT a 8 1 0 0) jcn6 jsn6 jvn6 kn6 (capOf (nn ((dT a 8 1 0 0) 0 4)))) [0, 1, 2, 3, 4, 5, 6, 7, 8, 9, 10, 11, 12, 13, 14, 15, 16, 17, 18, 19, 20, 21, 22, 23, 24, 25, 26, 27, 28, 29, 30, 31, 32, 33, 34, 35, 36, 37, 38, 39, 40, 41, 42, 43, 44, 45, 46, 47, 48, 49, 50, 51, 52, 53] rfl
        have hD := hD.sub (ws' := WB cI cF h0 qn3 (sDay a) jcn3 jsn3 jvn3 kn3 (capOf (nn ((sDay a) 0 4))) h1 qn6 (dT a 8 1 0 0) jcn6 jsn6 jvn6 kn6 (capOf (nn ((dT a 8 1 0 0) 0 4)))) [0, 1, 2, 3, 4, 5, 6, 7, 8, 9, 10, 11, 12, 13, 14, 15, 16, 17, 18, 19, 20, 21, 22, 23, 24, 25, 26, 27, 28, 29, 30, 31, 32, 33, 34, 35, 36, 37, 38, 39, 40, 41, 42, 43, 44, 45, 46, 47, 48, 49, 50, 51, 52, 53] (by decide) rfl
        generalize H1 = H at hP hS ⊢
        have hCn6 : okC (dT a 8 1 0 0) jcn6 jsn6 jvn6 kn6 := hCn6
        refine y_topi (y := nI (nn (sDay a 0 4) - nn (a 0 4))) (hw.trans eA) ?_
        rw [eT] at hP hD hCn6
        refine lv_iload hx hb dL_isDaySo_72 (lv_at hl 0 rfl) ?_
        refine lv_icmp_ne (tgt := 109) hx hb dL_isDaySo_74 (by decide) (fun c_7 => ?_) (fun c_7 => ?_)
        · exact absurd rfl c_7
        · refine lv_aload_n hx hb dL_isDaySo_77 rfl (lv_at hl 3 rfl) ?_
          have hP : va_P (dC, dI) vwCl (WB cI cF h0 qn3 (sDay a) jcn3 jsn3 jvn3 kn3 (capOf (nn ((sDay a) 0 4))) h1 qn6 (sDay a) jcn6 jsn6 jvn6 kn6 (capOf (nn ((sDay a) 0 4)))) H := hP
          have hD : va_D A (WB cI cF h0 qn3 (sDay a) jcn3 jsn3 jvn3 kn3 (capOf (nn ((sDay a) 0 4))) h1 qn6 (sDay a) jcn6 jsn6 jvn6 kn6 (capOf (nn ((sDay a) 0 4)))) := hD
          have hPc := hP.sub (ws' := WC cI cF h0 qn3 (sDay a) jcn3 jsn3 jvn3 kn3 (capOf (nn ((sDay a) 0 4)))) [0, 1, 2, 3, 4, 5, 6, 7, 8, 9, 10, 11, 12, 13, 14, 15, 16, 17, 18, 19, 20, 21, 22, 23, 24, 25, 26] rfl
          have hDc := hD.sub (ws' := WC cI cF h0 qn3 (sDay a) jcn3 jsn3 jvn3 kn3 (capOf (nn ((sDay a) 0 4)))) [0, 1, 2, 3, 4, 5, 6, 7, 8, 9, 10, 11, 12, 13, 14, 15, 16, 17, 18, 19, 20, 21, 22, 23, 24, 25, 26] (by decide) rfl
          have hFc := va_free (wc := WC cI cF h0 qn3 (sDay a) jcn3 jsn3 jvn3 kn3 (capOf (nn ((sDay a) 0 4)))) hD hS hA [0, 1, 2, 3, 4, 5, 6, 7, 8, 9, 10, 11, 12, 13, 14, 15, 16, 17, 18, 19, 20, 21, 22, 23, 24, 25, 26] rfl
          refine va_calli (va_runV (As := []) (rest := []) ⟨hx, hb, hml, hown, hts⟩ (c_X4_today l dC dI cI cF h0 qn3 H.size (sDay a) jcn3 jsn3 jvn3 kn3 hCn3 hBb) (cwV 0 hts gL_isDaySo_X4_today rfl rfl rfl (by decide +kernel) ⟨Nat.le_of_ble_eq_true rfl, Nat.le_of_ble_eq_true rfl⟩) ⟨pcW_blind, va_recv hK hPc (ci := 4) (q0 := 0) rfl rfl, fun U hU hW => pcW_pre hPc hDc hK hU hW⟩ rfl rfl hl.1 rfl (lv_room (Nat.le_of_ble_eq_true rfl)) dL_isDaySo_78 ⟨(by show 0 + 0 + 0 + 1026 + 1026 + 0 ≤ 2100; omega), (by show 0 + 0 + 0 + 6156 + 6156 + 0 ≤ 12600; omega)⟩) hS (fun q _ h => hFc q h) hFc (fun r u t H1 locs ht hvm hw hB1 hz1 hk1 hS => ?_)
          obtain ⟨qn8, jcn8, jsn8, jvn8, kn8, hCn8, hPy, hKy, hDy⟩ := hB1
          rw [ht] at hPy
          obtain ⟨hP, hD⟩ := va_join (wr := WC cI cF h1 qn6 (sDay a) jcn6 jsn6 jvn6 kn6 (capOf (nn ((sDay a) 0 4)))) (w1 := WC cI cF h0 qn8 (sDay a) jcn8 jsn8 jvn8 kn8 (capOf (nn ((sDay a) 0 4)))) hP hD [0, 1, 2, 3, 4, 5, 6, 7, 8, 9, 10, 11, 12, 13, 14, 15, 16, 17, 18, 19, 20, 21, 22, 23, 24, 25, 26] [27, 28, 29, 30, 31, 32, 33, 34, 35, 36, 37, 38, 39, 40, 41, 42, 43, 44, 45, 46, 47, 48, 49, 50, 51, 52, 53] rfl rfl (by decide) (by decide) hk1 hFc hPy hDy
          have hP := hP.sub (ws' := WB cI cF h0 qn8 (sDay a) jcn8 jsn8 jvn8 kn8 (capOf (nn ((sDay a) 0 4))) h1 qn6 (sDay a) jcn6 jsn6 jvn6 kn6 (capOf (nn ((sDay a) 0 4)))) [27, 28, 29, 30, 31, 32, 33, 34, 35, 36, 37, 38, 39, 40, 41, 42, 43, 44, 45, 46, 47, 48, 49, 50, 51, 52, 53, 0, 1, 2, 3, 4, 5, 6, 7, 8, 9, 10, 11, 12, 13, 14, 15, 16, 17, 18, 19, 20, 21, 22, 23, 24, 25, 26] rfl
          have hD := hD.sub (ws' := WB cI cF h0 qn8 (sDay a) jcn8 jsn8 jvn8 kn8 (capOf (nn ((sDay a) 0 4))) h1 qn6 (sDay a) jcn6 jsn6 jvn6 kn6 (capOf (nn ((sDay a) 0 4)))) [27, 28, 29, 30, 31, 32, 33, 34, 35, 36, 37, 38, 39, 40, 41, 42, 43, 44, 45, 46, 47, 48, 49, 50, 51, 52, 53, 0, 1, 2, 3, 4, 5, 6, 7, 8, 9, 10, 11, 12, 13, 14, 15, 16, 17, 18, 19, 20, 21, 22, 23, 24, 25, 26] (by decide) rfl
          generalize H1 = H at hP hS ⊢
          have hCn8 : okC (sDay a) jcn8 jsn8 jvn8 kn8 := hCn8
          refine y_topi (y := (sDay a) 0 1) hw ?_
          refine lv_iload_n hx hb dL_isDaySo_81 rfl (lv_at hl 1 rfl) ?_
          refine lv_iconst (v := 1) hx hb dL_isDaySo_82 (by decide) ?_
          refine lv_iadd hx hb dL_isDaySo_83 ?_
          refine lv_icmp_ne (tgt := 109) hx hb dL_isDaySo_84 (by decide) (fun c_9 => ?_) (fun c_9 => ?_)
          · exact absurd d2 c_9
          · refine lv_aload_n hx hb dL_isDaySo_87 rfl (lv_at hl 3 rfl) ?_
            have hP : va_P (dC, dI) vwCl (WB cI cF h0 qn8 (sDay a) jcn8 jsn8 jvn8 kn8 (capOf (nn ((sDay a) 0 4))) h1 qn6 (sDay a) jcn6 jsn6 jvn6 kn6 (capOf (nn ((sDay a) 0 4)))) H := hP
            have hD : va_D A (WB cI cF h0 qn8 (sDay a) jcn8 jsn8 jvn8 kn8 (capOf (nn ((sDay a) 0 4))) h1 qn6 (sDay a) jcn6 jsn6 jvn6 kn6 (capOf (nn ((sDay a) 0 4)))) := hD
            have hPc := hP.sub (ws' := WC cI cF h0 qn8 (sDay a) jcn8 jsn8 jvn8 kn8 (capOf (nn ((sDay a) 0 4)))) [0, 1, 2, 3, 4, 5, 6, 7, 8, 9, 10, 11, 12, 13, 14, 15, 16, 17, 18, 19, 20, 21, 22, 23, 24, 25, 26] rfl
            have hDc := hD.sub (ws' := WC cI cF h0 qn8 (sDay a) jcn8 jsn8 jvn8 kn8 (capOf (nn ((sDay a) 0 4)))) [0, 1, 2, 3, 4, 5, 6, 7, 8, 9, 10, 11, 12, 13, 14, 15, 16, 17, 18, 19, 20, 21, 22, 23, 24, 25, 26] (by decide) rfl
            have hFc := va_free (wc := WC cI cF h0 qn8 (sDay a) jcn8 jsn8 jvn8 kn8 (capOf (nn ((sDay a) 0 4)))) hD hS hA [0, 1, 2, 3, 4, 5, 6, 7, 8, 9, 10, 11, 12, 13, 14, 15, 16, 17, 18, 19, 20, 21, 22, 23, 24, 25, 26] rfl
            refine va_calli (va_runV (As := []) (rest := []) ⟨hx, hb, hml, hown, hts⟩ (c_X4_payouts l dC dI cI cF h0 qn8 H.size (sDay a) jcn8 jsn8 jvn8 kn8 hCn8 hBb) (cwV 0 hts gL_isDaySo_X4_payouts rfl rfl rfl (by decide +kernel) ⟨Nat.le_of_ble_eq_true rfl, Nat.le_of_ble_eq_true rfl⟩) ⟨pcW_blind, va_recv hK hPc (ci := 4) (q0 := 0) rfl rfl, fun U hU hW => pcW_pre hPc hDc hK hU hW⟩ rfl rfl hl.1 rfl (lv_room (Nat.le_of_ble_eq_true rfl)) dL_isDaySo_88 ⟨(by show 0 + 0 + 0 + 1026 + 1026 + 0 + 0 ≤ 2100; omega), (by show 0 + 0 + 0 + 6156 + 6156 + 0 + 0 ≤ 12600; omega)⟩) hS (fun q _ h => hFc q h) hFc (fun r u t H1 locs ht hvm hw hB1 hz1 hk1 hS => ?_)
            obtain ⟨qn10, jcn10, jsn10, jvn10, kn10, hCn10, hPy, hKy, hDy⟩ := hB1
            rw [ht] at hPy
            obtain ⟨hP, hD⟩ := va_join (wr := WC cI cF h1 qn6 (sDay a) jcn6 jsn6 jvn6 kn6 (capOf (nn ((sDay a) 0 4)))) (w1 := WC cI cF h0 qn10 (sDay a) jcn10 jsn10 jvn10 kn10 (capOf (nn ((sDay a) 0 4)))) hP hD [0, 1, 2, 3, 4, 5, 6, 7, 8, 9, 10, 11, 12, 13, 14, 15, 16, 17, 18, 19, 20, 21, 22, 23, 24, 25, 26] [27, 28, 29, 30, 31, 32, 33, 34, 35, 36, 37, 38, 39, 40, 41, 42, 43, 44, 45, 46, 47, 48, 49, 50, 51, 52, 53] rfl rfl (by decide) (by decide) hk1 hFc hPy hDy
            have hP := hP.sub (ws' := WB cI cF h0 qn10 (sDay a) jcn10 jsn10 jvn10 kn10 (capOf (nn ((sDay a) 0 4))) h1 qn6 (sDay a) jcn6 jsn6 jvn6 kn6 (capOf (nn ((sDay a) 0 4)))) [27, 28, 29, 30, 31, 32, 33, 34, 35, 36, 37, 38, 39, 40, 41, 42, 43, 44, 45, 46, 47, 48, 49, 50, 51, 52, 53, 0, 1, 2, 3, 4, 5, 6, 7, 8, 9, 10, 11, 12, 13, 14, 15, 16, 17, 18, 19, 20, 21, 22, 23, 24, 25, 26] rfl
            have hD := hD.sub (ws' := WB cI cF h0 qn10 (sDay a) jcn10 jsn10 jvn10 kn10 (capOf (nn ((sDay a) 0 4))) h1 qn6 (sDay a) jcn6 jsn6 jvn6 kn6 (capOf (nn ((sDay a) 0 4)))) [27, 28, 29, 30, 31, 32, 33, 34, 35, 36, 37, 38, 39, 40, 41, 42, 43, 44, 45, 46, 47, 48, 49, 50, 51, 52, 53, 0, 1, 2, 3, 4, 5, 6, 7, 8, 9, 10, 11, 12, 13, 14, 15, 16, 17, 18, 19, 20, 21, 22, 23, 24, 25, 26] (by decide) rfl
            generalize H1 = H at hP hS ⊢
            have hCn10 : okC (sDay a) jcn10 jsn10 jvn10 kn10 := hCn10
            refine y_topi (y := (sDay a) 0 4) hw ?_
            refine lv_iload_n hx hb dL_isDaySo_91 rfl (lv_at hl 2 rfl) ?_
            refine lv_iload hx hb dL_isDaySo_92 (lv_at hl 0 rfl) ?_
            refine lv_iadd hx hb dL_isDaySo_94 ?_
            refine lv_icmp_ne (tgt := 109) hx hb dL_isDaySo_95 (by decide) (fun c_11 => ?_) (fun c_11 => ?_)
            · exact absurd (add_nI2 (a04_nI hBb) (a04_nI hB) d3) c_11
            · refine lv_iload hx hb dL_isDaySo_98 (lv_at hl 0 rfl) ?_
              refine lv_bipush (v := 8) hx hb dL_isDaySo_100 (by decide) ?_
              refine lv_icmp_gt (tgt := 109) hx hb dL_isDaySo_102 (by decide) (fun c_12 => ?_) (fun c_12 => ?_)
              · exact absurd c_12 (Int32.not_lt.mpr ((nI_leI (b := 8) (by omega) (by decide)).mpr (by omega)))
              · refine lv_iconst (v := 1) hx hb dL_isDaySo_105 (by decide) ?_
                refine lv_goto (tgt := 110) hx hb dL_isDaySo_106 (by decide) ?_
                refine lv_istore (lv' := [(5, .int 1), (4, .int (nI (nn (sDay a 0 4) - nn (a 0 4)))), (3, .int (a 0 1)), (2, .int (a 0 4)), (0, .ref h0), (1, .ref h1)]) hx hb dL_isDaySo_110 hl (by decide) rfl (fun ls hl => ?_)
                refine lv_iload_n hx hb dL_isDaySo_112 rfl (lv_at hl 3 rfl) ?_
                refine lv_iconst (v := 1) hx hb dL_isDaySo_113 (by decide) ?_
                refine lv_iadd hx hb dL_isDaySo_114 ?_
                refine y_topi (y := nI (nn (a 0 4) + 1)) (add1 (a04_nI hB)) ?_
                refine lv_istore (lv' := [(6, .int (nI (nn (a 0 4) + 1))), (5, .int 1), (4, .int (nI (nn (sDay a 0 4) - nn (a 0 4)))), (3, .int (a 0 1)), (2, .int (a 0 4)), (0, .ref h0), (1, .ref h1)]) hx hb dL_isDaySo_115 hl (by decide) rfl (fun ls hl => ?_)
                have hP : va_P (dC, dI) vwCl (WB cI cF h0 qn10 (sDay a) jcn10 jsn10 jvn10 kn10 (capOf (nn ((sDay a) 0 4))) h1 qn6 (sDay a) jcn6 jsn6 jvn6 kn6 (capOf (nn ((sDay a) 0 4)))) H := hP
                have hD : va_D A (WB cI cF h0 qn10 (sDay a) jcn10 jsn10 jvn10 kn10 (capOf (nn ((sDay a) 0 4))) h1 qn6 (sDay a) jcn6 jsn6 jvn6 kn6 (capOf (nn ((sDay a) 0 4)))) := hD
                refine y_loopC (fun k9 H locs ls cells slots => ∃ (i : Nat) (q : Nat → Nat) (jc js jv : Nat → Int32) (k : Nat) (q2 : Nat → Nat) (jc2 js2 jv2 : Nat → Int32) (k2 : Nat), k9 + i = nn (sDay a 0 4) + 1 ∧ nn (a 0 4) + 1 ≤ i ∧ cells + 2 * k9 ≤ 2075 ∧ slots + 12 * k9 ≤ 12440 ∧ okC (sDay a) jc js jv k ∧ okC (sDay a) jc2 js2 jv2 k2 ∧ va_P (dC, dI) vwCl (WB cI cF h0 q (sDay a) jc js jv k (capOf (nn ((sDay a) 0 4))) h1 q2 (sDay a) jc2 js2 jv2 k2 (capOf (nn ((sDay a) 0 4)))) H ∧ va_D A (WB cI cF h0 q (sDay a) jc js jv k (capOf (nn ((sDay a) 0 4))) h1 q2 (sDay a) jc2 js2 jv2 k2 (capOf (nn ((sDay a) 0 4)))) ∧ va_S A s.heap H locs ∧ lv_has ls 7 [(6, .int (nI i)), (5, .int 1), (1, .ref h1), (0, .ref h0)]) (nn (sDay a 0 4) - nn (a 0 4)) ⟨nn (a 0 4) + 1, qn10, jcn10, jsn10, jvn10, kn10, qn6, jcn6, jsn6, jvn6, kn6, by omega, by omega, by omega, by omega, hCn10, hCn6, hP, hD, hS, lv_sub hl [0, 1, 6, 5] rfl⟩ (fun k9 H locs ls cells slots hI9 ih => ?_)
                obtain ⟨i, q, jc, js, jv, k, q2, jc2, js2, jv2, k2, hf0, hf1, hf2, hf3, hCq, hCq2, hP, hD, hS, hl⟩ := hI9
                have hPB := (hBb 0 4 1024 rfl).2
                refine lv_iload hx hb dL_isDaySo_117 (lv_at hl 0 rfl) ?_
                refine lv_aload_n hx hb dL_isDaySo_119 rfl (lv_at hl 3 rfl) ?_
                have hP : va_P (dC, dI) vwCl (WB cI cF h0 q (sDay a) jc js jv k (capOf (nn ((sDay a) 0 4))) h1 q2 (sDay a) jc2 js2 jv2 k2 (capOf (nn ((sDay a) 0 4)))) H := hP
                have hD : va_D A (WB cI cF h0 q (sDay a) jc js jv k (capOf (nn ((sDay a) 0 4))) h1 q2 (sDay a) jc2 js2 jv2 k2 (capOf (nn ((sDay a) 0 4)))) := hD
                have hPc := hP.sub (ws' := WC cI cF h0 q (sDay a) jc js jv k (capOf (nn ((sDay a) 0 4)))) [0, 1, 2, 3, 4, 5, 6, 7, 8, 9, 10, 11, 12, 13, 14, 15, 16, 17, 18, 19, 20, 21, 22, 23, 24, 25, 26] rfl
                have hDc := hD.sub (ws' := WC cI cF h0 q (sDay a) jc js jv k (capOf (nn ((sDay a) 0 4)))) [0, 1, 2, 3, 4, 5, 6, 7, 8, 9, 10, 11, 12, 13, 14, 15, 16, 17, 18, 19, 20, 21, 22, 23, 24, 25, 26] (by decide) rfl
                have hFc := va_free (wc := WC cI cF h0 q (sDay a) jc js jv k (capOf (nn ((sDay a) 0 4)))) hD hS hA [0, 1, 2, 3, 4, 5, 6, 7, 8, 9, 10, 11, 12, 13, 14, 15, 16, 17, 18, 19, 20, 21, 22, 23, 24, 25, 26] rfl
                refine va_calli (va_runV (As := []) (rest := [.int (nI i)]) ⟨hx, hb, hml, hown, hts⟩ (c_X4_payouts l dC dI cI cF h0 q H.size (sDay a) jc js jv k hCq hBb) (cwV 0 hts gL_isDaySo_X4_payouts rfl rfl rfl (by decide +kernel) ⟨Nat.le_of_ble_eq_true rfl, Nat.le_of_ble_eq_true rfl⟩) ⟨pcW_blind, va_recv hK hPc (ci := 4) (q0 := 0) rfl rfl, fun U hU hW => pcW_pre hPc hDc hK hU hW⟩ rfl rfl hl.1 rfl (lv_room (Nat.le_of_ble_eq_true rfl)) dL_isDaySo_120 ⟨(by show cells + 0 ≤ 2100; omega), (by show slots + 0 ≤ 12600; omega)⟩) hS (fun q _ h => hFc q h) hFc (fun r u t H1 locs ht hvm hw hB1 hz1 hk1 hS => ?_)
                obtain ⟨qn13, jcn13, jsn13, jvn13, kn13, hCn13, hPy, hKy, hDy⟩ := hB1
                rw [ht] at hPy
                obtain ⟨hP, hD⟩ := va_join (wr := WC cI cF h1 q2 (sDay a) jc2 js2 jv2 k2 (capOf (nn ((sDay a) 0 4)))) (w1 := WC cI cF h0 qn13 (sDay a) jcn13 jsn13 jvn13 kn13 (capOf (nn ((sDay a) 0 4)))) hP hD [0, 1, 2, 3, 4, 5, 6, 7, 8, 9, 10, 11, 12, 13, 14, 15, 16, 17, 18, 19, 20, 21, 22, 23, 24, 25, 26] [27, 28, 29, 30, 31, 32, 33, 34, 35, 36, 37, 38, 39, 40, 41, 42, 43, 44, 45, 46, 47, 48, 49, 50, 51, 52, 53] rfl rfl (by decide) (by decide) hk1 hFc hPy hDy
                have hP := hP.sub (ws' := WB cI cF h0 qn13 (sDay a) jcn13 jsn13 jvn13 kn13 (capOf (nn ((sDay a) 0 4))) h1 q2 (sDay a) jc2 js2 jv2 k2 (capOf (nn ((sDay a) 0 4)))) [27, 28, 29, 30, 31, 32, 33, 34, 35, 36, 37, 38, 39, 40, 41, 42, 43, 44, 45, 46, 47, 48, 49, 50, 51, 52, 53, 0, 1, 2, 3, 4, 5, 6, 7, 8, 9, 10, 11, 12, 13, 14, 15, 16, 17, 18, 19, 20, 21, 22, 23, 24, 25, 26] rfl
                have hD := hD.sub (ws' := WB cI cF h0 qn13 (sDay a) jcn13 jsn13 jvn13 kn13 (capOf (nn ((sDay a) 0 4))) h1 q2 (sDay a) jc2 js2 jv2 k2 (capOf (nn ((sDay a) 0 4)))) [27, 28, 29, 30, 31, 32, 33, 34, 35, 36, 37, 38, 39, 40, 41, 42, 43, 44, 45, 46, 47, 48, 49, 50, 51, 52, 53, 0, 1, 2, 3, 4, 5, 6, 7, 8, 9, 10, 11, 12, 13, 14, 15, 16, 17, 18, 19, 20, 21, 22, 23, 24, 25, 26] (by decide) rfl
                generalize H1 = H at hP hS ⊢
                have hCn13 : okC (sDay a) jcn13 jsn13 jvn13 kn13 := hCn13
                refine y_topi (y := (sDay a) 0 4) hw ?_
                refine y_topi (y := nI (nn (sDay a 0 4))) (a04_nI hBb) ?_
                refine lv_icmp_ge (tgt := 161) hx hb dL_isDaySo_123 (by decide) (fun c_14 => ?_) (fun c_14 => ?_)
                · refine lv_iconst (v := 0) hx hb dL_isDaySo_161 (by decide) ?_
                  refine lv_istore (lv' := [(6, .int 0), (5, .int 1), (1, .ref h1), (0, .ref h0)]) hx hb dL_isDaySo_162 hl (by decide) rfl (fun ls hl => ?_)
                  have hl : lv_has ls 7 [(6, .int (nI 0)), (5, .int 1), (1, .ref h1), (0, .ref h0)] := hl
                  have hP : va_P (dC, dI) vwCl (WB cI cF h0 qn13 (sDay a) jcn13 jsn13 jvn13 kn13 (capOf (nn ((sDay a) 0 4))) h1 q2 (sDay a) jc2 js2 jv2 k2 (capOf (nn ((sDay a) 0 4)))) H := hP
                  have hD : va_D A (WB cI cF h0 qn13 (sDay a) jcn13 jsn13 jvn13 kn13 (capOf (nn ((sDay a) 0 4))) h1 q2 (sDay a) jc2 js2 jv2 k2 (capOf (nn ((sDay a) 0 4)))) := hD
                  refine y_loopC (fun k9 H locs ls cells slots => ∃ (z : Nat) (q : Nat → Nat) (jc js jv : Nat → Int32) (k : Nat) (q2 : Nat → Nat) (jc2 js2 jv2 : Nat → Int32) (k2 : Nat), k9 + z = nn (a 0 0) ∧ cells + 3 * k9 ≤ 2099 ∧ slots + 18 * k9 ≤ 12594 ∧ okC (sDay a) jc js jv k ∧ okC (sDay a) jc2 js2 jv2 k2 ∧ va_P (dC, dI) vwCl (WB cI cF h0 q (sDay a) jc js jv k (capOf (nn ((sDay a) 0 4))) h1 q2 (sDay a) jc2 js2 jv2 k2 (capOf (nn ((sDay a) 0 4)))) H ∧ va_D A (WB cI cF h0 q (sDay a) jc js jv k (capOf (nn ((sDay a) 0 4))) h1 q2 (sDay a) jc2 js2 jv2 k2 (capOf (nn ((sDay a) 0 4)))) ∧ va_S A s.heap H locs ∧ lv_has ls 7 [(6, .int (nI z)), (5, .int 1), (1, .ref h1), (0, .ref h0)]) (nn (a 0 0)) ⟨0, qn13, jcn13, jsn13, jvn13, kn13, q2, jc2, js2, jv2, k2, by omega, by omega, by omega, hCn13, hCq2, hP, hD, hS, lv_sub hl [0, 1, 2, 3] rfl⟩ (fun k9 H locs ls cells slots hI9 ih => ?_)
                  obtain ⟨z, q, jc, js, jv, k, q2, jc2, js2, jv2, k2, hf0, hf1, hf2, hCq, hCq2, hP, hD, hS, hl⟩ := hI9
                  refine lv_iload hx hb dL_isDaySo_164 (lv_at hl 0 rfl) ?_
                  refine lv_bipush (v := 8) hx hb dL_isDaySo_166 (by decide) ?_
                  refine lv_icmp_ge (tgt := 218) hx hb dL_isDaySo_168 (by decide) (fun c_15 => ?_) (fun c_15 => ?_)
                  · refine lv_iload hx hb dL_isDaySo_218 (lv_at hl 1 rfl) ?_
                    have hP : va_P (dC, dI) vwCl (WB cI cF h0 q (sDay a) jc js jv k (capOf (nn ((sDay a) 0 4))) h1 q2 (sDay a) jc2 js2 jv2 k2 (capOf (nn ((sDay a) 0 4)))) H := hP
                    have hD : va_D A (WB cI cF h0 q (sDay a) jc js jv k (capOf (nn ((sDay a) 0 4))) h1 q2 (sDay a) jc2 js2 jv2 k2 (capOf (nn ((sDay a) 0 4)))) := hD
                    refine W.widen (k := 2100) (n := 12600) (by show cells ≤ 2100; omega) (by show slots ≤ 12600; omega) ?_
                    have hP9 := hP
                    have hD9 := hD
                    have hK9 := hK
                    exact W.zret (v := 1) (ty := .boolean) hx hb hr rfl (fun t ht hW => ⟨⟨1, (), rfl, rfl, atB_e eT hCq hCq2 (atW_end hP9 hD9 hK9 ht hW)⟩, hS.F ht⟩) hS.2.2 dL_isDaySo_220
                  · have hz8 := lt8 (by omega) c_15
                    have hz9 : k9 = 0 → nn (a 0 0) ≤ z := fun h => by omega
                    by_cases hzN : z < nn (a 0 0)
                    · have hk9 : 0 < k9 := by omega
                      have hk0 : kSel (sDay a) (nI z) = 0 := kSel_y hBb (by rw [d6]; exact hzN)
                      have hbn : ¬ sDay a 7 z = -2000000001 := by
                        obtain ⟨b1, b2, b3, b4, b5, b6, b7, b8, b9, b10, b11, b12⟩ := okX_b hXb
                        have k := b9 z hz8
                        unfold bal at k
                        exact ne_sent (by omega)
                      refine lv_aload_n hx hb dL_isDaySo_171 rfl (lv_at hl 3 rfl) ?_
                      refine lv_iload hx hb dL_isDaySo_172 (lv_at hl 0 rfl) ?_
                      have hP : va_P (dC, dI) vwCl (WB cI cF h0 q (sDay a) jc js jv k (capOf (nn ((sDay a) 0 4))) h1 q2 (sDay a) jc2 js2 jv2 k2 (capOf (nn ((sDay a) 0 4)))) H := hP
                      have hD : va_D A (WB cI cF h0 q (sDay a) jc js jv k (capOf (nn ((sDay a) 0 4))) h1 q2 (sDay a) jc2 js2 jv2 k2 (capOf (nn ((sDay a) 0 4)))) := hD
                      have hPc := hP.sub (ws' := WC cI cF h0 q (sDay a) jc js jv k (capOf (nn ((sDay a) 0 4)))) [0, 1, 2, 3, 4, 5, 6, 7, 8, 9, 10, 11, 12, 13, 14, 15, 16, 17, 18, 19, 20, 21, 22, 23, 24, 25, 26] rfl
                      have hDc := hD.sub (ws' := WC cI cF h0 q (sDay a) jc js jv k (capOf (nn ((sDay a) 0 4)))) [0, 1, 2, 3, 4, 5, 6, 7, 8, 9, 10, 11, 12, 13, 14, 15, 16, 17, 18, 19, 20, 21, 22, 23, 24, 25, 26] (by decide) rfl
                      have hFc := va_free (wc := WC cI cF h0 q (sDay a) jc js jv k (capOf (nn ((sDay a) 0 4)))) hD hS hA [0, 1, 2, 3, 4, 5, 6, 7, 8, 9, 10, 11, 12, 13, 14, 15, 16, 17, 18, 19, 20, 21, 22, 23, 24, 25, 26] rfl
                      refine va_calli (vx_runSW (As := [.ref h0, .int (nI z)]) (rest := []) ⟨hx, hb, hml, hown, hts⟩ (c_L_balance l dC dI cI cF h0 q H.size (sDay a) jc js jv k hst hCq hBb (nI z)) (vx_cwSW 2 hts gL_isDaySo_L_balance rfl rfl rfl (by decide +kernel) ⟨Nat.le_of_ble_eq_true rfl, Nat.le_of_ble_eq_true rfl⟩) ⟨pcH_blind, fun U hU hW => pcH_pre hPc hDc hK hV hN hS hFc hU hW⟩ rfl rfl hl.1 rfl (lv_room (Nat.le_of_ble_eq_true rfl)) dL_isDaySo_174 ⟨(by show cells + 1 ≤ 2100; omega), (by show slots + 6 ≤ 12600; omega)⟩) hS (fun q _ h => hFc q h) hFc (fun r u t H1 locs ht hvm hw hB1 hz1 hk1 hS => ?_)
                      obtain ⟨qn16, jcn16, jsn16, jvn16, kn16, hCn16, hPy, hKy, hDy⟩ := hB1
                      rw [ht] at hPy
                      obtain ⟨hP, hD⟩ := va_join (wr := WC cI cF h1 q2 (sDay a) jc2 js2 jv2 k2 (capOf (nn ((sDay a) 0 4)))) (w1 := WC cI cF h0 qn16 (sDay a) jcn16 jsn16 jvn16 kn16 (capOf (nn ((sDay a) 0 4)))) hP hD [0, 1, 2, 3, 4, 5, 6, 7, 8, 9, 10, 11, 12, 13, 14, 15, 16, 17, 18, 19, 20, 21, 22, 23, 24, 25, 26] [27, 28, 29, 30, 31, 32, 33, 34, 35, 36, 37, 38, 39, 40, 41, 42, 43, 44, 45, 46, 47, 48, 49, 50, 51, 52, 53] rfl rfl (by decide) (by decide) hk1 hFc hPy hDy
                      have hP := hP.sub (ws' := WB cI cF h0 qn16 (sDay a) jcn16 jsn16 jvn16 kn16 (capOf (nn ((sDay a) 0 4))) h1 q2 (sDay a) jc2 js2 jv2 k2 (capOf (nn ((sDay a) 0 4)))) [27, 28, 29, 30, 31, 32, 33, 34, 35, 36, 37, 38, 39, 40, 41, 42, 43, 44, 45, 46, 47, 48, 49, 50, 51, 52, 53, 0, 1, 2, 3, 4, 5, 6, 7, 8, 9, 10, 11, 12, 13, 14, 15, 16, 17, 18, 19, 20, 21, 22, 23, 24, 25, 26] rfl
                      have hD := hD.sub (ws' := WB cI cF h0 qn16 (sDay a) jcn16 jsn16 jvn16 kn16 (capOf (nn ((sDay a) 0 4))) h1 q2 (sDay a) jc2 js2 jv2 k2 (capOf (nn ((sDay a) 0 4)))) [27, 28, 29, 30, 31, 32, 33, 34, 35, 36, 37, 38, 39, 40, 41, 42, 43, 44, 45, 46, 47, 48, 49, 50, 51, 52, 53, 0, 1, 2, 3, 4, 5, 6, 7, 8, 9, 10, 11, 12, 13, 14, 15, 16, 17, 18, 19, 20, 21, 22, 23, 24, 25, 26] (by decide) rfl
                      generalize H1 = H at hP hS ⊢
                      have hCn16 : okC (sDay a) jcn16 jsn16 jvn16 kn16 := hCn16
                      refine y_topi (y := sDay a 7 z) (hw.trans (bA_in hBb (by rw [d6]; exact hzN))) ?_
                      refine lv_ldc hx hb hown (hts (.constant RL 45 (-2000000001)) (List.mem_of_getElem? (i := 1) rfl)) dL_isDaySo_177 ?_
                      refine lv_icmp_eq (tgt := 218) hx hb dL_isDaySo_179 (by decide) (fun c_17 => ?_) (fun c_17 => ?_)
                      · exact absurd c_17 hbn
                      · refine lv_iload hx hb dL_isDaySo_182 (lv_at hl 1 rfl) ?_
                        refine lv_if_eq (tgt := 218) hx hb dL_isDaySo_184 (by decide) (fun c_18 => ?_) (fun c_18 => ?_)
                        · exact absurd c_18 (by decide)
                        · refine lv_aload_n hx hb dL_isDaySo_187 rfl (lv_at hl 3 rfl) ?_
                          refine lv_iload hx hb dL_isDaySo_188 (lv_at hl 0 rfl) ?_
                          have hP : va_P (dC, dI) vwCl (WB cI cF h0 qn16 (sDay a) jcn16 jsn16 jvn16 kn16 (capOf (nn ((sDay a) 0 4))) h1 q2 (sDay a) jc2 js2 jv2 k2 (capOf (nn ((sDay a) 0 4)))) H := hP
                          have hD : va_D A (WB cI cF h0 qn16 (sDay a) jcn16 jsn16 jvn16 kn16 (capOf (nn ((sDay a) 0 4))) h1 q2 (sDay a) jc2 js2 jv2 k2 (capOf (nn ((sDay a) 0 4)))) := hD
                          have hPc := hP.sub (ws' := WC cI cF h0 qn16 (sDay a) jcn16 jsn16 jvn16 kn16 (capOf (nn ((sDay a) 0 4)))) [0, 1, 2, 3, 4, 5, 6, 7, 8, 9, 10, 11, 12, 13, 14, 15, 16, 17, 18, 19, 20, 21, 22, 23, 24, 25, 26] rfl
                          have hDc := hD.sub (ws' := WC cI cF h0 qn16 (sDay a) jcn16 jsn16 jvn16 kn16 (capOf (nn ((sDay a) 0 4)))) [0, 1, 2, 3, 4, 5, 6, 7, 8, 9, 10, 11, 12, 13, 14, 15, 16, 17, 18, 19, 20, 21, 22, 23, 24, 25, 26] (by decide) rfl
                          have hFc := va_free (wc := WC cI cF h0 qn16 (sDay a) jcn16 jsn16 jvn16 kn16 (capOf (nn ((sDay a) 0 4)))) hD hS hA [0, 1, 2, 3, 4, 5, 6, 7, 8, 9, 10, 11, 12, 13, 14, 15, 16, 17, 18, 19, 20, 21, 22, 23, 24, 25, 26] rfl
                          refine vx_calli (vx_runV (As := [.int (nI z)]) (rest := []) ⟨hx, hb, hml, hown, hts⟩ (c_X4_balance l dC dI cI cF h0 qn16 H.size (sDay a) jcn16 jsn16 jvn16 kn16 hst hCn16 hBb (nI z)) (cwV 1 hts gL_isDaySo_X4_balance rfl rfl rfl (by decide +kernel) ⟨Nat.le_of_ble_eq_true rfl, Nat.le_of_ble_eq_true rfl⟩) ⟨pcV_blind, va_recv hK hPc (ci := 4) (q0 := 0) rfl rfl, fun U hU hW => pcV_pre hPc hDc hK hV hS hFc hU hW⟩ rfl rfl hl.1 rfl (lv_room (Nat.le_of_ble_eq_true rfl)) dL_isDaySo_190 ⟨(by show cells + 1 + 1 ≤ 2100; omega), (by show slots + 6 + 6 ≤ 12600; omega)⟩) hS (fun q _ h => hFc q h) hFc (fun q _ h => hFc q h) (fun E ce q9 u t H1 locs ht hvm hw hBx hz1 hk1 hS hce hcv hcl => absurd hk0 hw) (fun r u t H1 locs ht hvm hw hB1 hz1 hk1 hS => ?_)
                          obtain ⟨qn19, jcn19, jsn19, jvn19, kn19, hCn19, hPy, hKy, hDy⟩ := hB1
                          rw [ht] at hPy
                          obtain ⟨hP, hD⟩ := va_join (wr := WC cI cF h1 q2 (sDay a) jc2 js2 jv2 k2 (capOf (nn ((sDay a) 0 4)))) (w1 := WC cI cF h0 qn19 (sDay a) jcn19 jsn19 jvn19 kn19 (capOf (nn ((sDay a) 0 4)))) hP hD [0, 1, 2, 3, 4, 5, 6, 7, 8, 9, 10, 11, 12, 13, 14, 15, 16, 17, 18, 19, 20, 21, 22, 23, 24, 25, 26] [27, 28, 29, 30, 31, 32, 33, 34, 35, 36, 37, 38, 39, 40, 41, 42, 43, 44, 45, 46, 47, 48, 49, 50, 51, 52, 53] rfl rfl (by decide) (by decide) hk1 hFc hPy hDy
                          have hP := hP.sub (ws' := WB cI cF h0 qn19 (sDay a) jcn19 jsn19 jvn19 kn19 (capOf (nn ((sDay a) 0 4))) h1 q2 (sDay a) jc2 js2 jv2 k2 (capOf (nn ((sDay a) 0 4)))) [27, 28, 29, 30, 31, 32, 33, 34, 35, 36, 37, 38, 39, 40, 41, 42, 43, 44, 45, 46, 47, 48, 49, 50, 51, 52, 53, 0, 1, 2, 3, 4, 5, 6, 7, 8, 9, 10, 11, 12, 13, 14, 15, 16, 17, 18, 19, 20, 21, 22, 23, 24, 25, 26] rfl
                          have hD := hD.sub (ws' := WB cI cF h0 qn19 (sDay a) jcn19 jsn19 jvn19 kn19 (capOf (nn ((sDay a) 0 4))) h1 q2 (sDay a) jc2 js2 jv2 k2 (capOf (nn ((sDay a) 0 4)))) [27, 28, 29, 30, 31, 32, 33, 34, 35, 36, 37, 38, 39, 40, 41, 42, 43, 44, 45, 46, 47, 48, 49, 50, 51, 52, 53, 0, 1, 2, 3, 4, 5, 6, 7, 8, 9, 10, 11, 12, 13, 14, 15, 16, 17, 18, 19, 20, 21, 22, 23, 24, 25, 26] (by decide) rfl
                          generalize H1 = H at hP hS ⊢
                          have hCn19 : okC (sDay a) jcn19 jsn19 jvn19 kn19 := hCn19
                          refine y_topi (y := sDay a 7 z) (by rw [hw.2, nnI (by omega)]) ?_
                          refine lv_if_ge (tgt := 205) hx hb dL_isDaySo_193 (by decide) (fun c_20 => ?_) (fun c_20 => ?_)
                          · refine lv_iconst (v := 1) hx hb dL_isDaySo_205 (by decide) ?_
                            refine lv_goto (tgt := 210) hx hb dL_isDaySo_206 (by decide) ?_
                            refine lv_istore (lv' := [(5, .int 1), (6, .int (nI z)), (1, .ref h1), (0, .ref h0)]) hx hb dL_isDaySo_210 hl (by decide) rfl (fun ls hl => ?_)
                            refine lv_iinc (v := nI (z + 1)) (lv' := [(6, .int (nI (z + 1))), (5, .int 1), (1, .ref h1), (0, .ref h0)]) hx hb dL_isDaySo_212 hl (k := 1) rfl (nI_1 z) (by decide) rfl (fun ls hl => ?_)
                            refine lv_goto (tgt := 164) hx hb dL_isDaySo_215 (by decide) ?_
                            have hP : va_P (dC, dI) vwCl (WB cI cF h0 qn19 (sDay a) jcn19 jsn19 jvn19 kn19 (capOf (nn ((sDay a) 0 4))) h1 q2 (sDay a) jc2 js2 jv2 k2 (capOf (nn ((sDay a) 0 4)))) H := hP
                            have hD : va_D A (WB cI cF h0 qn19 (sDay a) jcn19 jsn19 jvn19 kn19 (capOf (nn ((sDay a) 0 4))) h1 q2 (sDay a) jc2 js2 jv2 k2 (capOf (nn ((sDay a) 0 4)))) := hD
                            exact ih (k9 - 1) H locs ls _ _ (by omega) ⟨z + 1, qn19, jcn19, jsn19, jvn19, kn19, q2, jc2, js2, jv2, k2, by omega, by omega, by omega, hCn19, hCq2, hP, hD, hS, lv_sub hl [0, 1, 2, 3] rfl⟩
                          · refine lv_aload_n hx hb dL_isDaySo_196 rfl (lv_at hl 3 rfl) ?_
                            refine lv_iload hx hb dL_isDaySo_197 (lv_at hl 0 rfl) ?_
                            have hP : va_P (dC, dI) vwCl (WB cI cF h0 qn19 (sDay a) jcn19 jsn19 jvn19 kn19 (capOf (nn ((sDay a) 0 4))) h1 q2 (sDay a) jc2 js2 jv2 k2 (capOf (nn ((sDay a) 0 4)))) H := hP
                            have hD : va_D A (WB cI cF h0 qn19 (sDay a) jcn19 jsn19 jvn19 kn19 (capOf (nn ((sDay a) 0 4))) h1 q2 (sDay a) jc2 js2 jv2 k2 (capOf (nn ((sDay a) 0 4)))) := hD
                            have hPc := hP.sub (ws' := WC cI cF h0 qn19 (sDay a) jcn19 jsn19 jvn19 kn19 (capOf (nn ((sDay a) 0 4)))) [0, 1, 2, 3, 4, 5, 6, 7, 8, 9, 10, 11, 12, 13, 14, 15, 16, 17, 18, 19, 20, 21, 22, 23, 24, 25, 26] rfl
                            have hDc := hD.sub (ws' := WC cI cF h0 qn19 (sDay a) jcn19 jsn19 jvn19 kn19 (capOf (nn ((sDay a) 0 4)))) [0, 1, 2, 3, 4, 5, 6, 7, 8, 9, 10, 11, 12, 13, 14, 15, 16, 17, 18, 19, 20, 21, 22, 23, 24, 25, 26] (by decide) rfl
                            have hFc := va_free (wc := WC cI cF h0 qn19 (sDay a) jcn19 jsn19 jvn19 kn19 (capOf (nn ((sDay a) 0 4)))) hD hS hA [0, 1, 2, 3, 4, 5, 6, 7, 8, 9, 10, 11, 12, 13, 14, 15, 16, 17, 18, 19, 20, 21, 22, 23, 24, 25, 26] rfl
                            refine vx_calli (vx_runV (As := [.int (nI z)]) (rest := []) ⟨hx, hb, hml, hown, hts⟩ (c_X4_reserve l dC dI cI cF h0 qn19 H.size (sDay a) jcn19 jsn19 jvn19 kn19 hst hCn19 hBb (nI z)) (cwV 1 hts gL_isDaySo_X4_reserve rfl rfl rfl (by decide +kernel) ⟨Nat.le_of_ble_eq_true rfl, Nat.le_of_ble_eq_true rfl⟩) ⟨pcV_blind, va_recv hK hPc (ci := 4) (q0 := 0) rfl rfl, fun U hU hW => pcV_pre hPc hDc hK hV hS hFc hU hW⟩ rfl rfl hl.1 rfl (lv_room (Nat.le_of_ble_eq_true rfl)) dL_isDaySo_199 ⟨(by show cells + 1 + 1 + 1 ≤ 2100; omega), (by show slots + 6 + 6 + 6 ≤ 12600; omega)⟩) hS (fun q _ h => hFc q h) hFc (fun q _ h => hFc q h) (fun E ce q9 u t H1 locs ht hvm hw hBx hz1 hk1 hS hce hcv hcl => absurd hk0 hw) (fun r u t H1 locs ht hvm hw hB1 hz1 hk1 hS => ?_)
                            obtain ⟨qn21, jcn21, jsn21, jvn21, kn21, hCn21, hPy, hKy, hDy⟩ := hB1
                            rw [ht] at hPy
                            obtain ⟨hP, hD⟩ := va_join (wr := WC cI cF h1 q2 (sDay a) jc2 js2 jv2 k2 (capOf (nn ((sDay a) 0 4)))) (w1 := WC cI cF h0 qn21 (sDay a) jcn21 jsn21 jvn21 kn21 (capOf (nn ((sDay a) 0 4)))) hP hD [0, 1, 2, 3, 4, 5, 6, 7, 8, 9, 10, 11, 12, 13, 14, 15, 16, 17, 18, 19, 20, 21, 22, 23, 24, 25, 26] [27, 28, 29, 30, 31, 32, 33, 34, 35, 36, 37, 38, 39, 40, 41, 42, 43, 44, 45, 46, 47, 48, 49, 50, 51, 52, 53] rfl rfl (by decide) (by decide) hk1 hFc hPy hDy
                            have hP := hP.sub (ws' := WB cI cF h0 qn21 (sDay a) jcn21 jsn21 jvn21 kn21 (capOf (nn ((sDay a) 0 4))) h1 q2 (sDay a) jc2 js2 jv2 k2 (capOf (nn ((sDay a) 0 4)))) [27, 28, 29, 30, 31, 32, 33, 34, 35, 36, 37, 38, 39, 40, 41, 42, 43, 44, 45, 46, 47, 48, 49, 50, 51, 52, 53, 0, 1, 2, 3, 4, 5, 6, 7, 8, 9, 10, 11, 12, 13, 14, 15, 16, 17, 18, 19, 20, 21, 22, 23, 24, 25, 26] rfl
                            have hD := hD.sub (ws' := WB cI cF h0 qn21 (sDay a) jcn21 jsn21 jvn21 kn21 (capOf (nn ((sDay a) 0 4))) h1 q2 (sDay a) jc2 js2 jv2 k2 (capOf (nn ((sDay a) 0 4)))) [27, 28, 29, 30, 31, 32, 33, 34, 35, 36, 37, 38, 39, 40, 41, 42, 43, 44, 45, 46, 47, 48, 49, 50, 51, 52, 53, 0, 1, 2, 3, 4, 5, 6, 7, 8, 9, 10, 11, 12, 13, 14, 15, 16, 17, 18, 19, 20, 21, 22, 23, 24, 25, 26] (by decide) rfl
                            generalize H1 = H at hP hS ⊢
                            have hCn21 : okC (sDay a) jcn21 jsn21 jvn21 kn21 := hCn21
                            refine y_topi (y := sHsum (sDay a) z (nn (a 0 3))) (by rw [hw.2, nnI (by omega), d7]) ?_
                            refine lv_if_ne (tgt := 209) hx hb dL_isDaySo_202 (by decide) (fun c_22 => ?_) (fun c_22 => ?_)
                            · exact ((d8 z hzN).elim (fun h => absurd h c_20) (fun h => absurd h c_22))
                            · refine lv_iconst (v := 1) hx hb dL_isDaySo_205 (by decide) ?_
                              refine lv_goto (tgt := 210) hx hb dL_isDaySo_206 (by decide) ?_
                              refine lv_istore (lv' := [(5, .int 1), (6, .int (nI z)), (1, .ref h1), (0, .ref h0)]) hx hb dL_isDaySo_210 hl (by decide) rfl (fun ls hl => ?_)
                              refine lv_iinc (v := nI (z + 1)) (lv' := [(6, .int (nI (z + 1))), (5, .int 1), (1, .ref h1), (0, .ref h0)]) hx hb dL_isDaySo_212 hl (k := 1) rfl (nI_1 z) (by decide) rfl (fun ls hl => ?_)
                              refine lv_goto (tgt := 164) hx hb dL_isDaySo_215 (by decide) ?_
                              have hP : va_P (dC, dI) vwCl (WB cI cF h0 qn21 (sDay a) jcn21 jsn21 jvn21 kn21 (capOf (nn ((sDay a) 0 4))) h1 q2 (sDay a) jc2 js2 jv2 k2 (capOf (nn ((sDay a) 0 4)))) H := hP
                              have hD : va_D A (WB cI cF h0 qn21 (sDay a) jcn21 jsn21 jvn21 kn21 (capOf (nn ((sDay a) 0 4))) h1 q2 (sDay a) jc2 js2 jv2 k2 (capOf (nn ((sDay a) 0 4)))) := hD
                              exact ih (k9 - 1) H locs ls _ _ (by omega) ⟨z + 1, qn21, jcn21, jsn21, jvn21, kn21, q2, jc2, js2, jv2, k2, by omega, by omega, by omega, hCn21, hCq2, hP, hD, hS, lv_sub hl [0, 1, 2, 3] rfl⟩
                    · refine lv_aload_n hx hb dL_isDaySo_171 rfl (lv_at hl 3 rfl) ?_
                      refine lv_iload hx hb dL_isDaySo_172 (lv_at hl 0 rfl) ?_
                      have hP : va_P (dC, dI) vwCl (WB cI cF h0 q (sDay a) jc js jv k (capOf (nn ((sDay a) 0 4))) h1 q2 (sDay a) jc2 js2 jv2 k2 (capOf (nn ((sDay a) 0 4)))) H := hP
                      have hD : va_D A (WB cI cF h0 q (sDay a) jc js jv k (capOf (nn ((sDay a) 0 4))) h1 q2 (sDay a) jc2 js2 jv2 k2 (capOf (nn ((sDay a) 0 4)))) := hD
                      have hPc := hP.sub (ws' := WC cI cF h0 q (sDay a) jc js jv k (capOf (nn ((sDay a) 0 4)))) [0, 1, 2, 3, 4, 5, 6, 7, 8, 9, 10, 11, 12, 13, 14, 15, 16, 17, 18, 19, 20, 21, 22, 23, 24, 25, 26] rfl
                      have hDc := hD.sub (ws' := WC cI cF h0 q (sDay a) jc js jv k (capOf (nn ((sDay a) 0 4)))) [0, 1, 2, 3, 4, 5, 6, 7, 8, 9, 10, 11, 12, 13, 14, 15, 16, 17, 18, 19, 20, 21, 22, 23, 24, 25, 26] (by decide) rfl
                      have hFc := va_free (wc := WC cI cF h0 q (sDay a) jc js jv k (capOf (nn ((sDay a) 0 4)))) hD hS hA [0, 1, 2, 3, 4, 5, 6, 7, 8, 9, 10, 11, 12, 13, 14, 15, 16, 17, 18, 19, 20, 21, 22, 23, 24, 25, 26] rfl
                      refine va_calli (vx_runSW (As := [.ref h0, .int (nI z)]) (rest := []) ⟨hx, hb, hml, hown, hts⟩ (c_L_balance l dC dI cI cF h0 q H.size (sDay a) jc js jv k hst hCq hBb (nI z)) (vx_cwSW 2 hts gL_isDaySo_L_balance rfl rfl rfl (by decide +kernel) ⟨Nat.le_of_ble_eq_true rfl, Nat.le_of_ble_eq_true rfl⟩) ⟨pcH_blind, fun U hU hW => pcH_pre hPc hDc hK hV hN hS hFc hU hW⟩ rfl rfl hl.1 rfl (lv_room (Nat.le_of_ble_eq_true rfl)) dL_isDaySo_174 ⟨(by show cells + 1 ≤ 2100; omega), (by show slots + 6 ≤ 12600; omega)⟩) hS (fun q _ h => hFc q h) hFc (fun r u t H1 locs ht hvm hw hB1 hz1 hk1 hS => ?_)
                      obtain ⟨qn23, jcn23, jsn23, jvn23, kn23, hCn23, hPy, hKy, hDy⟩ := hB1
                      rw [ht] at hPy
                      obtain ⟨hP, hD⟩ := va_join (wr := WC cI cF h1 q2 (sDay a) jc2 js2 jv2 k2 (capOf (nn ((sDay a) 0 4)))) (w1 := WC cI cF h0 qn23 (sDay a) jcn23 jsn23 jvn23 kn23 (capOf (nn ((sDay a) 0 4)))) hP hD [0, 1, 2, 3, 4, 5, 6, 7, 8, 9, 10, 11, 12, 13, 14, 15, 16, 17, 18, 19, 20, 21, 22, 23, 24, 25, 26] [27, 28, 29, 30, 31, 32, 33, 34, 35, 36, 37, 38, 39, 40, 41, 42, 43, 44, 45, 46, 47, 48, 49, 50, 51, 52, 53] rfl rfl (by decide) (by decide) hk1 hFc hPy hDy
                      have hP := hP.sub (ws' := WB cI cF h0 qn23 (sDay a) jcn23 jsn23 jvn23 kn23 (capOf (nn ((sDay a) 0 4))) h1 q2 (sDay a) jc2 js2 jv2 k2 (capOf (nn ((sDay a) 0 4)))) [27, 28, 29, 30, 31, 32, 33, 34, 35, 36, 37, 38, 39, 40, 41, 42, 43, 44, 45, 46, 47, 48, 49, 50, 51, 52, 53, 0, 1, 2, 3, 4, 5, 6, 7, 8, 9, 10, 11, 12, 13, 14, 15, 16, 17, 18, 19, 20, 21, 22, 23, 24, 25, 26] rfl
                      have hD := hD.sub (ws' := WB cI cF h0 qn23 (sDay a) jcn23 jsn23 jvn23 kn23 (capOf (nn ((sDay a) 0 4))) h1 q2 (sDay a) jc2 js2 jv2 k2 (capOf (nn ((sDay a) 0 4)))) [27, 28, 29, 30, 31, 32, 33, 34, 35, 36, 37, 38, 39, 40, 41, 42, 43, 44, 45, 46, 47, 48, 49, 50, 51, 52, 53, 0, 1, 2, 3, 4, 5, 6, 7, 8, 9, 10, 11, 12, 13, 14, 15, 16, 17, 18, 19, 20, 21, 22, 23, 24, 25, 26] (by decide) rfl
                      generalize H1 = H at hP hS ⊢
                      have hCn23 : okC (sDay a) jcn23 jsn23 jvn23 kn23 := hCn23
                      refine y_topi (y := -2000000001) (hw.trans (bA_out hBb (by omega) (by rw [d6]; omega))) ?_
                      refine lv_ldc hx hb hown (hts (.constant RL 45 (-2000000001)) (List.mem_of_getElem? (i := 1) rfl)) dL_isDaySo_177 ?_
                      refine lv_icmp_eq (tgt := 218) hx hb dL_isDaySo_179 (by decide) (fun c_24 => ?_) (fun c_24 => ?_)
                      · refine lv_iload hx hb dL_isDaySo_218 (lv_at hl 1 rfl) ?_
                        have hP : va_P (dC, dI) vwCl (WB cI cF h0 qn23 (sDay a) jcn23 jsn23 jvn23 kn23 (capOf (nn ((sDay a) 0 4))) h1 q2 (sDay a) jc2 js2 jv2 k2 (capOf (nn ((sDay a) 0 4)))) H := hP
                        have hD : va_D A (WB cI cF h0 qn23 (sDay a) jcn23 jsn23 jvn23 kn23 (capOf (nn ((sDay a) 0 4))) h1 q2 (sDay a) jc2 js2 jv2 k2 (capOf (nn ((sDay a) 0 4)))) := hD
                        refine W.widen (k := 2100) (n := 12600) (by show cells + 1 ≤ 2100; omega) (by show slots + 6 ≤ 12600; omega) ?_
                        have hP9 := hP
                        have hD9 := hD
                        have hK9 := hK
                        exact W.zret (v := 1) (ty := .boolean) hx hb hr rfl (fun t ht hW => ⟨⟨1, (), rfl, rfl, atB_e eT hCn23 hCq2 (atW_end hP9 hD9 hK9 ht hW)⟩, hS.F ht⟩) hS.2.2 dL_isDaySo_220
                      · exact absurd rfl c_24
                · have hiP : i < nn (sDay a 0 4) := by
                    by_cases q : i < nn (sDay a 0 4)
                    · exact q
                    · exact absurd ((nI_leI (by omega) (by omega)).mpr (Nat.not_lt.mp q)) c_14
                  refine lv_iload hx hb dL_isDaySo_126 (lv_at hl 1 rfl) ?_
                  refine lv_if_eq (tgt := 161) hx hb dL_isDaySo_128 (by decide) (fun c_25 => ?_) (fun c_25 => ?_)
                  · exact absurd c_25 (by decide)
                  · refine lv_aload_n hx hb dL_isDaySo_131 rfl (lv_at hl 3 rfl) ?_
                    refine lv_iload hx hb dL_isDaySo_132 (lv_at hl 0 rfl) ?_
                    have hP : va_P (dC, dI) vwCl (WB cI cF h0 qn13 (sDay a) jcn13 jsn13 jvn13 kn13 (capOf (nn ((sDay a) 0 4))) h1 q2 (sDay a) jc2 js2 jv2 k2 (capOf (nn ((sDay a) 0 4)))) H := hP
                    have hD : va_D A (WB cI cF h0 qn13 (sDay a) jcn13 jsn13 jvn13 kn13 (capOf (nn ((sDay a) 0 4))) h1 q2 (sDay a) jc2 js2 jv2 k2 (capOf (nn ((sDay a) 0 4)))) := hD
                    have hPc := hP.sub (ws' := WC cI cF h0 qn13 (sDay a) jcn13 jsn13 jvn13 kn13 (capOf (nn ((sDay a) 0 4)))) [0, 1, 2, 3, 4, 5, 6, 7, 8, 9, 10, 11, 12, 13, 14, 15, 16, 17, 18, 19, 20, 21, 22, 23, 24, 25, 26] rfl
                    have hDc := hD.sub (ws' := WC cI cF h0 qn13 (sDay a) jcn13 jsn13 jvn13 kn13 (capOf (nn ((sDay a) 0 4)))) [0, 1, 2, 3, 4, 5, 6, 7, 8, 9, 10, 11, 12, 13, 14, 15, 16, 17, 18, 19, 20, 21, 22, 23, 24, 25, 26] (by decide) rfl
                    have hFc := va_free (wc := WC cI cF h0 qn13 (sDay a) jcn13 jsn13 jvn13 kn13 (capOf (nn ((sDay a) 0 4)))) hD hS hA [0, 1, 2, 3, 4, 5, 6, 7, 8, 9, 10, 11, 12, 13, 14, 15, 16, 17, 18, 19, 20, 21, 22, 23, 24, 25, 26] rfl
                    refine vx_calli (vx_runV (As := [.int (nI i)]) (rest := []) ⟨hx, hb, hml, hown, hts⟩ (c_X4_sellerOf l dC dI cI cF h0 qn13 H.size (sDay a) jcn13 jsn13 jvn13 kn13 hst hCn13 hBb (nI i)) (cwV 1 hts gL_isDaySo_X4_sellerOf rfl rfl rfl (by decide +kernel) ⟨Nat.le_of_ble_eq_true rfl, Nat.le_of_ble_eq_true rfl⟩) ⟨pcV_blind, va_recv hK hPc (ci := 4) (q0 := 0) rfl rfl, fun U hU hW => pcV_pre hPc hDc hK hV hS hFc hU hW⟩ rfl rfl hl.1 rfl (lv_room (Nat.le_of_ble_eq_true rfl)) dL_isDaySo_134 ⟨(by show cells + 0 + 1 ≤ 2100; omega), (by show slots + 0 + 6 ≤ 12600; omega)⟩) hS (fun q _ h => hFc q h) hFc (fun q _ h => hFc q h) (fun E ce q9 u t H1 locs ht hvm hw hBx hz1 hk1 hS hce hcv hcl => absurd (kPay_y hBb hiP) hw) (fun r u t H1 locs ht hvm hw hB1 hz1 hk1 hS => ?_)
                    obtain ⟨qn26, jcn26, jsn26, jvn26, kn26, hCn26, hPy, hKy, hDy⟩ := hB1
                    rw [ht] at hPy
                    obtain ⟨hP, hD⟩ := va_join (wr := WC cI cF h1 q2 (sDay a) jc2 js2 jv2 k2 (capOf (nn ((sDay a) 0 4)))) (w1 := WC cI cF h0 qn26 (sDay a) jcn26 jsn26 jvn26 kn26 (capOf (nn ((sDay a) 0 4)))) hP hD [0, 1, 2, 3, 4, 5, 6, 7, 8, 9, 10, 11, 12, 13, 14, 15, 16, 17, 18, 19, 20, 21, 22, 23, 24, 25, 26] [27, 28, 29, 30, 31, 32, 33, 34, 35, 36, 37, 38, 39, 40, 41, 42, 43, 44, 45, 46, 47, 48, 49, 50, 51, 52, 53] rfl rfl (by decide) (by decide) hk1 hFc hPy hDy
                    have hP := hP.sub (ws' := WB cI cF h0 qn26 (sDay a) jcn26 jsn26 jvn26 kn26 (capOf (nn ((sDay a) 0 4))) h1 q2 (sDay a) jc2 js2 jv2 k2 (capOf (nn ((sDay a) 0 4)))) [27, 28, 29, 30, 31, 32, 33, 34, 35, 36, 37, 38, 39, 40, 41, 42, 43, 44, 45, 46, 47, 48, 49, 50, 51, 52, 53, 0, 1, 2, 3, 4, 5, 6, 7, 8, 9, 10, 11, 12, 13, 14, 15, 16, 17, 18, 19, 20, 21, 22, 23, 24, 25, 26] rfl
                    have hD := hD.sub (ws' := WB cI cF h0 qn26 (sDay a) jcn26 jsn26 jvn26 kn26 (capOf (nn ((sDay a) 0 4))) h1 q2 (sDay a) jc2 js2 jv2 k2 (capOf (nn ((sDay a) 0 4)))) [27, 28, 29, 30, 31, 32, 33, 34, 35, 36, 37, 38, 39, 40, 41, 42, 43, 44, 45, 46, 47, 48, 49, 50, 51, 52, 53, 0, 1, 2, 3, 4, 5, 6, 7, 8, 9, 10, 11, 12, 13, 14, 15, 16, 17, 18, 19, 20, 21, 22, 23, 24, 25, 26] (by decide) rfl
                    generalize H1 = H at hP hS ⊢
                    have hCn26 : okC (sDay a) jcn26 jsn26 jvn26 kn26 := hCn26
                    refine y_topi (y := sDay a 20 i) (by rw [hw.2, nnI (by omega)]) ?_
                    refine lv_aload_n hx hb dL_isDaySo_137 rfl (lv_at hl 3 rfl) ?_
                    refine lv_iload hx hb dL_isDaySo_138 (lv_at hl 0 rfl) ?_
                    refine lv_iconst (v := 1) hx hb dL_isDaySo_140 (by decide) ?_
                    refine lv_isub hx hb dL_isDaySo_141 ?_
                    refine y_topi (y := nI (i - 1)) (sub_nI rfl (show (1 : Int32) = nI 1 from rfl) (by omega)) ?_
                    have hP : va_P (dC, dI) vwCl (WB cI cF h0 qn26 (sDay a) jcn26 jsn26 jvn26 kn26 (capOf (nn ((sDay a) 0 4))) h1 q2 (sDay a) jc2 js2 jv2 k2 (capOf (nn ((sDay a) 0 4)))) H := hP
                    have hD : va_D A (WB cI cF h0 qn26 (sDay a) jcn26 jsn26 jvn26 kn26 (capOf (nn ((sDay a) 0 4))) h1 q2 (sDay a) jc2 js2 jv2 k2 (capOf (nn ((sDay a) 0 4)))) := hD
                    have hPc := hP.sub (ws' := WC cI cF h0 qn26 (sDay a) jcn26 jsn26 jvn26 kn26 (capOf (nn ((sDay a) 0 4)))) [0, 1, 2, 3, 4, 5, 6, 7, 8, 9, 10, 11, 12, 13, 14, 15, 16, 17, 18, 19, 20, 21, 22, 23, 24, 25, 26] rfl
                    have hDc := hD.sub (ws' := WC cI cF h0 qn26 (sDay a) jcn26 jsn26 jvn26 kn26 (capOf (nn ((sDay a) 0 4)))) [0, 1, 2, 3, 4, 5, 6, 7, 8, 9, 10, 11, 12, 13, 14, 15, 16, 17, 18, 19, 20, 21, 22, 23, 24, 25, 26] (by decide) rfl
                    have hFc := va_free (wc := WC cI cF h0 qn26 (sDay a) jcn26 jsn26 jvn26 kn26 (capOf (nn ((sDay a) 0 4)))) hD hS hA [0, 1, 2, 3, 4, 5, 6, 7, 8, 9, 10, 11, 12, 13, 14, 15, 16, 17, 18, 19, 20, 21, 22, 23, 24, 25, 26] rfl
                    refine vx_calli (vx_runV (As := [.int (nI (i - 1))]) (rest := [.int (sDay a 20 i)]) ⟨hx, hb, hml, hown, hts⟩ (c_X4_sellerOf l dC dI cI cF h0 qn26 H.size (sDay a) jcn26 jsn26 jvn26 kn26 hst hCn26 hBb (nI (i - 1))) (cwV 1 hts gL_isDaySo_X4_sellerOf rfl rfl rfl (by decide +kernel) ⟨Nat.le_of_ble_eq_true rfl, Nat.le_of_ble_eq_true rfl⟩) ⟨pcV_blind, va_recv hK hPc (ci := 4) (q0 := 0) rfl rfl, fun U hU hW => pcV_pre hPc hDc hK hV hS hFc hU hW⟩ rfl rfl hl.1 rfl (lv_room (Nat.le_of_ble_eq_true rfl)) dL_isDaySo_142 ⟨(by show cells + 0 + 1 + 1 ≤ 2100; omega), (by show slots + 0 + 6 + 6 ≤ 12600; omega)⟩) hS (fun q _ h => hFc q h) hFc (fun q _ h => hFc q h) (fun E ce q9 u t H1 locs ht hvm hw hBx hz1 hk1 hS hce hcv hcl => absurd (kPay_y hBb (show i - 1 < nn (sDay a 0 4) by omega)) hw) (fun r u t H1 locs ht hvm hw hB1 hz1 hk1 hS => ?_)
                    obtain ⟨qn27, jcn27, jsn27, jvn27, kn27, hCn27, hPy, hKy, hDy⟩ := hB1
                    rw [ht] at hPy
                    obtain ⟨hP, hD⟩ := va_join (wr := WC cI cF h1 q2 (sDay a) jc2 js2 jv2 k2 (capOf (nn ((sDay a) 0 4)))) (w1 := WC cI cF h0 qn27 (sDay a) jcn27 jsn27 jvn27 kn27 (capOf (nn ((sDay a) 0 4)))) hP hD [0, 1, 2, 3, 4, 5, 6, 7, 8, 9, 10, 11, 12, 13, 14, 15, 16, 17, 18, 19, 20, 21, 22, 23, 24, 25, 26] [27, 28, 29, 30, 31, 32, 33, 34, 35, 36, 37, 38, 39, 40, 41, 42, 43, 44, 45, 46, 47, 48, 49, 50, 51, 52, 53] rfl rfl (by decide) (by decide) hk1 hFc hPy hDy
                    have hP := hP.sub (ws' := WB cI cF h0 qn27 (sDay a) jcn27 jsn27 jvn27 kn27 (capOf (nn ((sDay a) 0 4))) h1 q2 (sDay a) jc2 js2 jv2 k2 (capOf (nn ((sDay a) 0 4)))) [27, 28, 29, 30, 31, 32, 33, 34, 35, 36, 37, 38, 39, 40, 41, 42, 43, 44, 45, 46, 47, 48, 49, 50, 51, 52, 53, 0, 1, 2, 3, 4, 5, 6, 7, 8, 9, 10, 11, 12, 13, 14, 15, 16, 17, 18, 19, 20, 21, 22, 23, 24, 25, 26] rfl
                    have hD := hD.sub (ws' := WB cI cF h0 qn27 (sDay a) jcn27 jsn27 jvn27 kn27 (capOf (nn ((sDay a) 0 4))) h1 q2 (sDay a) jc2 js2 jv2 k2 (capOf (nn ((sDay a) 0 4)))) [27, 28, 29, 30, 31, 32, 33, 34, 35, 36, 37, 38, 39, 40, 41, 42, 43, 44, 45, 46, 47, 48, 49, 50, 51, 52, 53, 0, 1, 2, 3, 4, 5, 6, 7, 8, 9, 10, 11, 12, 13, 14, 15, 16, 17, 18, 19, 20, 21, 22, 23, 24, 25, 26] (by decide) rfl
                    generalize H1 = H at hP hS ⊢
                    have hCn27 : okC (sDay a) jcn27 jsn27 jvn27 kn27 := hCn27
                    refine y_topi (y := sDay a 20 (i - 1)) (by rw [hw.2, nnI (by omega)]) ?_
                    refine lv_icmp_le (tgt := 152) hx hb dL_isDaySo_145 (by decide) (fun c_28 => ?_) (fun c_28 => ?_)
                    · exact absurd c_28 (le_nn (hBb 20 (i - 1) 7 rfl) (hBb 20 i 7 rfl) (by decide) (d5 i (by omega) hiP))
                    · refine lv_iconst (v := 1) hx hb dL_isDaySo_148 (by decide) ?_
                      refine lv_goto (tgt := 153) hx hb dL_isDaySo_149 (by decide) ?_
                      refine lv_istore (lv' := [(5, .int 1), (6, .int (nI i)), (1, .ref h1), (0, .ref h0)]) hx hb dL_isDaySo_153 hl (by decide) rfl (fun ls hl => ?_)
                      refine lv_iinc (v := nI (i + 1)) (lv' := [(6, .int (nI (i + 1))), (5, .int 1), (1, .ref h1), (0, .ref h0)]) hx hb dL_isDaySo_155 hl (k := 1) rfl (nI_1 i) (by decide) rfl (fun ls hl => ?_)
                      refine lv_goto (tgt := 117) hx hb dL_isDaySo_158 (by decide) ?_
                      have hP : va_P (dC, dI) vwCl (WB cI cF h0 qn27 (sDay a) jcn27 jsn27 jvn27 kn27 (capOf (nn ((sDay a) 0 4))) h1 q2 (sDay a) jc2 js2 jv2 k2 (capOf (nn ((sDay a) 0 4)))) H := hP
                      have hD : va_D A (WB cI cF h0 qn27 (sDay a) jcn27 jsn27 jvn27 kn27 (capOf (nn ((sDay a) 0 4))) h1 q2 (sDay a) jc2 js2 jv2 k2 (capOf (nn ((sDay a) 0 4)))) := hD
                      exact ih (k9 - 1) H locs ls _ _ (by omega) ⟨i + 1, qn27, jcn27, jsn27, jvn27, kn27, q2, jc2, js2, jv2, k2, by omega, by omega, by omega, by omega, hCn27, hCq2, hP, hD, hS, lv_sub hl [0, 1, 2, 3] rfl⟩
    · exact absurd c_4 hne
  · have hkd : ¬ dK a 8 1 0 0 = 0 := fun h => hk ((dK8 a 1 0 0).symm.trans h)
    have eT : dT a 8 1 0 0 = a := dT_n hkd
    have eA : dA a 8 1 0 0 = -2000000001 := dA_n hkd
    rw [eT] at hP hD hCn3
    refine y_topi (y := -2000000001) eA ?_
    refine lv_istore (lv' := [(4, .int (-2000000001)), (3, .int (a 0 1)), (2, .int (a 0 4)), (0, .ref h0), (1, .ref h1)]) hx hb dL_isDaySo_19 hl (by decide) rfl (fun ls hl => ?_)
    refine lv_iload hx hb dL_isDaySo_21 (lv_at hl 0 rfl) ?_
    refine lv_ldc hx hb hown (hts (.constant RL 45 (-2000000001)) (List.mem_of_getElem? (i := 1) rfl)) dL_isDaySo_23 ?_
    refine lv_icmp_ne (tgt := 58) hx hb dL_isDaySo_25 (by decide) (fun c_29 => ?_) (fun c_29 => ?_)
    · exact absurd rfl c_29
    · refine lv_aload_n hx hb dL_isDaySo_28 rfl (lv_at hl 4 rfl) ?_
      refine lv_bipush (v := 8) hx hb dL_isDaySo_29 (by decide) ?_
      refine lv_iconst (v := 1) hx hb dL_isDaySo_31 (by decide) ?_
      refine lv_iconst (v := 0) hx hb dL_isDaySo_32 (by decide) ?_
      refine lv_iconst (v := 0) hx hb dL_isDaySo_33 (by decide) ?_
      have hP : va_P (dC, dI) vwCl (WB cI cF h0 qn3 a jcn3 jsn3 jvn3 kn3 (capOf (nn (a 0 4))) h1 q2 a jc2 js2 jv2 k2 (capOf (nn (a 0 4)))) H := hP
      have hD : va_D A (WB cI cF h0 qn3 a jcn3 jsn3 jvn3 kn3 (capOf (nn (a 0 4))) h1 q2 a jc2 js2 jv2 k2 (capOf (nn (a 0 4)))) := hD
      have hPc := hP.sub (ws' := WC cI cF h1 q2 a jc2 js2 jv2 k2 (capOf (nn (a 0 4)))) [27, 28, 29, 30, 31, 32, 33, 34, 35, 36, 37, 38, 39, 40, 41, 42, 43, 44, 45, 46, 47, 48, 49, 50, 51, 52, 53] rfl
      have hDc := hD.sub (ws' := WC cI cF h1 q2 a jc2 js2 jv2 k2 (capOf (nn (a 0 4)))) [27, 28, 29, 30, 31, 32, 33, 34, 35, 36, 37, 38, 39, 40, 41, 42, 43, 44, 45, 46, 47, 48, 49, 50, 51, 52, 53] (by decide) rfl
      have hFc := va_free (wc := WC cI cF h1 q2 a jc2 js2 jv2 k2 (capOf (nn (a 0 4)))) hD hS hA [27, 28, 29, 30, 31, 32, 33, 34, 35, 36, 37, 38, 39, 40, 41, 42, 43, 44, 45, 46, 47, 48, 49, 50, 51, 52, 53] rfl
      refine va_calli (vx_runSW (As := [.ref h1, .int 8, .int 1, .int 0, .int 0]) (rest := []) ⟨hx, hb, hml, hown, hts⟩ (c_L_does l dC dI cI cF h1 q2 H.size a jc2 js2 jv2 k2 hst hC2 hI.1 hn 8 1 0 0) (vx_cwSW 5 hts gL_isDaySo_L_does rfl rfl rfl (by decide +kernel) ⟨Nat.le_of_ble_eq_true rfl, Nat.le_of_ble_eq_true rfl⟩) ⟨pcH_blind, fun U hU hW => pcH_pre hPc hDc hK hV hN hS hFc hU hW⟩ rfl rfl hl.1 rfl (lv_room (Nat.le_of_ble_eq_true rfl)) dL_isDaySo_34 ⟨(by show 0 + 0 + 0 + 1026 + 1026 ≤ 2100; omega), (by show 0 + 0 + 0 + 6156 + 6156 ≤ 12600; omega)⟩) hS (fun q _ h => hFc q h) hFc (fun r u t H1 locs ht hvm hw hB1 hz1 hk1 hS => ?_)
      obtain ⟨qn30, jcn30, jsn30, jvn30, kn30, hCn30, hPy, hKy, hDy⟩ := hB1
      rw [ht] at hPy
      obtain ⟨hP, hD⟩ := va_join (wr := WC cI cF h0 qn3 a jcn3 jsn3 jvn3 kn3 (capOf (nn (a 0 4)))) (w1 := WC cI cF h1 qn30 (dT a 8 1 0 0) jcn30 jsn30 jvn30 kn30 (capOf (nn ((dT a 8 1 0 0) 0 4)))) hP hD [27, 28, 29, 30, 31, 32, 33, 34, 35, 36, 37, 38, 39, 40, 41, 42, 43, 44, 45, 46, 47, 48, 49, 50, 51, 52, 53] [0, 1, 2, 3, 4, 5, 6, 7, 8, 9, 10, 11, 12, 13, 14, 15, 16, 17, 18, 19, 20, 21, 22, 23, 24, 25, 26] rfl rfl (by decide) (by decide) hk1 hFc hPy hDy
      have hP := hP.sub (ws' := WB cI cF h0 qn3 a jcn3 jsn3 jvn3 kn3 (capOf (nn (a 0 4))) h1 qn30 (dT a 8 1 0 0) jcn30 jsn30 jvn30 kn30 (capOf (nn ((dT a 8 1 0 0) 0 4)))) [0, 1, 2, 3, 4, 5, 6, 7, 8, 9, 10, 11, 12, 13, 14, 15, 16, 17, 18, 19, 20, 21, 22, 23, 24, 25, 26, 27, 28, 29, 30, 31, 32, 33, 34, 35, 36, 37, 38, 39, 40, 41, 42, 43, 44, 45, 46, 47, 48, 49, 50, 51, 52, 53] rfl
      have hD := hD.sub (ws' := WB cI cF h0 qn3 a jcn3 jsn3 jvn3 kn3 (capOf (nn (a 0 4))) h1 qn30 (dT a 8 1 0 0) jcn30 jsn30 jvn30 kn30 (capOf (nn ((dT a 8 1 0 0) 0 4)))) [0, 1, 2, 3, 4, 5, 6, 7, 8, 9, 10, 11, 12, 13, 14, 15, 16, 17, 18, 19, 20, 21, 22, 23, 24, 25, 26, 27, 28, 29, 30, 31, 32, 33, 34, 35, 36, 37, 38, 39, 40, 41, 42, 43, 44, 45, 46, 47, 48, 49, 50, 51, 52, 53] (by decide) rfl
      generalize H1 = H at hP hS ⊢
      have hCn30 : okC (dT a 8 1 0 0) jcn30 jsn30 jvn30 kn30 := hCn30
      refine y_topi (y := -2000000001) (hw.trans eA) ?_
      rw [eT] at hP hD hCn30
      refine lv_iload hx hb dL_isDaySo_37 (lv_at hl 0 rfl) ?_
      refine lv_icmp_ne (tgt := 56) hx hb dL_isDaySo_39 (by decide) (fun c_31 => ?_) (fun c_31 => ?_)
      · exact absurd rfl c_31
      · refine lv_aload_n hx hb dL_isDaySo_42 rfl (lv_at hl 3 rfl) ?_
        have hP : va_P (dC, dI) vwCl (WB cI cF h0 qn3 a jcn3 jsn3 jvn3 kn3 (capOf (nn (a 0 4))) h1 qn30 a jcn30 jsn30 jvn30 kn30 (capOf (nn (a 0 4)))) H := hP
        have hD : va_D A (WB cI cF h0 qn3 a jcn3 jsn3 jvn3 kn3 (capOf (nn (a 0 4))) h1 qn30 a jcn30 jsn30 jvn30 kn30 (capOf (nn (a 0 4)))) := hD
        have hPc := hP.sub (ws' := WC cI cF h0 qn3 a jcn3 jsn3 jvn3 kn3 (capOf (nn (a 0 4)))) [0, 1, 2, 3, 4, 5, 6, 7, 8, 9, 10, 11, 12, 13, 14, 15, 16, 17, 18, 19, 20, 21, 22, 23, 24, 25, 26] rfl
        have hDc := hD.sub (ws' := WC cI cF h0 qn3 a jcn3 jsn3 jvn3 kn3 (capOf (nn (a 0 4)))) [0, 1, 2, 3, 4, 5, 6, 7, 8, 9, 10, 11, 12, 13, 14, 15, 16, 17, 18, 19, 20, 21, 22, 23, 24, 25, 26] (by decide) rfl
        have hFc := va_free (wc := WC cI cF h0 qn3 a jcn3 jsn3 jvn3 kn3 (capOf (nn (a 0 4)))) hD hS hA [0, 1, 2, 3, 4, 5, 6, 7, 8, 9, 10, 11, 12, 13, 14, 15, 16, 17, 18, 19, 20, 21, 22, 23, 24, 25, 26] rfl
        refine va_calli (va_runV (As := []) (rest := []) ⟨hx, hb, hml, hown, hts⟩ (c_X4_today l dC dI cI cF h0 qn3 H.size a jcn3 jsn3 jvn3 kn3 hCn3 hB) (cwV 0 hts gL_isDaySo_X4_today rfl rfl rfl (by decide +kernel) ⟨Nat.le_of_ble_eq_true rfl, Nat.le_of_ble_eq_true rfl⟩) ⟨pcW_blind, va_recv hK hPc (ci := 4) (q0 := 0) rfl rfl, fun U hU hW => pcW_pre hPc hDc hK hU hW⟩ rfl rfl hl.1 rfl (lv_room (Nat.le_of_ble_eq_true rfl)) dL_isDaySo_43 ⟨(by show 0 + 0 + 0 + 1026 + 1026 + 0 ≤ 2100; omega), (by show 0 + 0 + 0 + 6156 + 6156 + 0 ≤ 12600; omega)⟩) hS (fun q _ h => hFc q h) hFc (fun r u t H1 locs ht hvm hw hB1 hz1 hk1 hS => ?_)
        obtain ⟨qn32, jcn32, jsn32, jvn32, kn32, hCn32, hPy, hKy, hDy⟩ := hB1
        rw [ht] at hPy
        obtain ⟨hP, hD⟩ := va_join (wr := WC cI cF h1 qn30 a jcn30 jsn30 jvn30 kn30 (capOf (nn (a 0 4)))) (w1 := WC cI cF h0 qn32 a jcn32 jsn32 jvn32 kn32 (capOf (nn (a 0 4)))) hP hD [0, 1, 2, 3, 4, 5, 6, 7, 8, 9, 10, 11, 12, 13, 14, 15, 16, 17, 18, 19, 20, 21, 22, 23, 24, 25, 26] [27, 28, 29, 30, 31, 32, 33, 34, 35, 36, 37, 38, 39, 40, 41, 42, 43, 44, 45, 46, 47, 48, 49, 50, 51, 52, 53] rfl rfl (by decide) (by decide) hk1 hFc hPy hDy
        have hP := hP.sub (ws' := WB cI cF h0 qn32 a jcn32 jsn32 jvn32 kn32 (capOf (nn (a 0 4))) h1 qn30 a jcn30 jsn30 jvn30 kn30 (capOf (nn (a 0 4)))) [27, 28, 29, 30, 31, 32, 33, 34, 35, 36, 37, 38, 39, 40, 41, 42, 43, 44, 45, 46, 47, 48, 49, 50, 51, 52, 53, 0, 1, 2, 3, 4, 5, 6, 7, 8, 9, 10, 11, 12, 13, 14, 15, 16, 17, 18, 19, 20, 21, 22, 23, 24, 25, 26] rfl
        have hD := hD.sub (ws' := WB cI cF h0 qn32 a jcn32 jsn32 jvn32 kn32 (capOf (nn (a 0 4))) h1 qn30 a jcn30 jsn30 jvn30 kn30 (capOf (nn (a 0 4)))) [27, 28, 29, 30, 31, 32, 33, 34, 35, 36, 37, 38, 39, 40, 41, 42, 43, 44, 45, 46, 47, 48, 49, 50, 51, 52, 53, 0, 1, 2, 3, 4, 5, 6, 7, 8, 9, 10, 11, 12, 13, 14, 15, 16, 17, 18, 19, 20, 21, 22, 23, 24, 25, 26] (by decide) rfl
        generalize H1 = H at hP hS ⊢
        have hCn32 : okC a jcn32 jsn32 jvn32 kn32 := hCn32
        refine y_topi (y := a 0 1) hw ?_
        refine lv_sipush (v := 5000) hx hb dL_isDaySo_46 (by decide) ?_
        refine lv_icmp_ne (tgt := 56) hx hb dL_isDaySo_49 (by decide) (fun c_33 => ?_) (fun c_33 => ?_)
        · exact absurd (last_day hB hk) c_33
        · refine lv_iconst (v := 1) hx hb dL_isDaySo_52 (by decide) ?_
          refine lv_goto (tgt := 57) hx hb dL_isDaySo_53 (by decide) ?_
          have hP : va_P (dC, dI) vwCl (WB cI cF h0 qn32 a jcn32 jsn32 jvn32 kn32 (capOf (nn (a 0 4))) h1 qn30 a jcn30 jsn30 jvn30 kn30 (capOf (nn (a 0 4)))) H := hP
          have hD : va_D A (WB cI cF h0 qn32 a jcn32 jsn32 jvn32 kn32 (capOf (nn (a 0 4))) h1 qn30 a jcn30 jsn30 jvn30 kn30 (capOf (nn (a 0 4)))) := hD
          refine W.widen (k := 2100) (n := 12600) (by show 0 + 0 + 0 + 1026 + 1026 + 0 ≤ 2100; omega) (by show 0 + 0 + 0 + 6156 + 6156 + 0 ≤ 12600; omega) ?_
          have hP9 := hP
          have hD9 := hD
          have hK9 := hK
          exact W.zret (v := 1) (ty := .boolean) hx hb hr rfl (fun t ht hW => ⟨⟨1, (), rfl, rfl, atB_e eT hCn32 hCn30 (atW_end hP9 hD9 hK9 ht hW)⟩, hS.F ht⟩) hS.2.2 dL_isDaySo_57
