theorem kRef_r (a : yA) (x am : Int32) : kRef a x am = 0 ∨ kRef a x am = 1 ∨ kRef a x am = 2 ∨ kRef a x am = 3 := by
  unfold kRef
  repeat' split
  all_goals decide
theorem kSel_r (a : yA) (x : Int32) : kSel a x = 0 ∨ kSel a x = 1 := by
  unfold kSel
  repeat' split
  all_goals decide
set_option maxHeartbeats 4000000 in
set_option maxRecDepth 100000 in
theorem c_L_refund (l : Launch) (dC : Nat → ClassId) (dI : Nat → Nat → Nat) (cI cF : ClassId) (h0 : Nat) (q : Nat → Nat) (sz : Nat) (a : yA) (jc js jv : Nat → Int32) (k : Nat) (hst : l.stackTraces = false) (hC : okC a jc js jv k) (hB : okB a) (x am fb : Int32) : Met l yL_refund wsL_refund ({ frames := 8, cells := 2, slots := 12, locals := 138 } : Room) (va_Pc [.ref h0, .int x, .int am, .int fb] (pcH dC dI [(cI, .int), (cF, .float)] (WC cI cF h0 q a jc js jv k (capOf (nn (a 0 4)))) sz)) (va_Qi (fun (r : Int32) (_ : Unit) => r = rA a x am fb) (fun _ t => atC dC dI cI cF (va_A (WC cI cF h0 q a jc js jv k (capOf (nn (a 0 4)))) sz) h0 (rT a x am fb) t) (va_A (WC cI cF h0 q a jc js jv k (capOf (nn (a 0 4)))) sz)) (2) (12) (va_A (WC cI cF h0 q a jc js jv k (capOf (nn (a 0 4)))) sz) := by
  refine va_MetW (cc := cL_refund) (maxL := 5) (ret := (some .int)) (hh := [(0, 7, 8, 43), (0, 7, 13, 46), (0, 7, 18, 48)]) (by decide) rfl ?_
  intro p e s m args below meth c s₁ B hml hv
  obtain ⟨rfl, ⟨⟨hsz, hP, hK, hD0⟩, hV⟩, hN⟩ := hv
  have hx := B.exec
  have hb := B.bytes
  have hr := B.returns
  have hts := atoms_spec (ws := wsL_refund) B.pre
  have hown : s.vm.findClass RL = some m.cls := findClass_of_methodNamed B.named
  have hlocks := B.notSynchronized
  subst hsz
  have hD := hD0.self (sz := s.heap.size)
  generalize hAe : va_A [(h0, .inr (4, [.ref (q 1), .ref (q 10), .ref (q 18), .ref (q 22), .ref (q 26), .int (a 0 2), .int (a 0 1), .int (a 0 5), .int (a 0 6), .int (a 0 7), .int (a 0 8)])), (q 1, .inr (3, [.ref (q 2), .ref (q 3), .ref (q 4), .ref (q 5), .ref (q 6), .ref (q 7), .ref (q 8), .ref (q 9), .int (a 0 0)])), (q 2, .inl (cI, 8, .inl (a 1))), (q 3, .inl (cI, 8, .inl (a 2))), (q 4, .inl (cI, 8, .inl (a 3))), (q 5, .inl (cI, 8, .inl (a 4))), (q 6, .inl (cI, 8, .inl (a 5))), (q 7, .inl (cI, 8, .inl (a 6))), (q 8, .inl (cI, 8, .inl (a 7))), (q 9, .inl (cI, 8, .inl (a 8))), (q 10, .inr (2, [.ref (q 11), .ref (q 12), .ref (q 13), .ref (q 14), .ref (q 15), .ref (q 16), .ref (q 17), .int (a 0 3)])), (q 11, .inl (cI, 100, .inl (a 10))), (q 12, .inl (cF, 100, .inr (.inr (.inl (fun j => shF (a 13 j)))))), (q 13, .inl (cI, 100, .inl (a 14))), (q 14, .inl (cI, 100, .inl (fun j => a 11 j - a 12 j))), (q 15, .inl (cI, 100, .inl (fun j => a 15 j - a 16 j))), (q 16, .inl (cI, 100, .inl (a 17))), (q 17, .inl (cI, 100, .inl (a 18))), (q 18, .inr (1, [.ref (q 19), .ref (q 20), .ref (q 21), .int (a 0 4)])), (q 19, .inl (cI, capOf (nn (a 0 4)), .inl (a 20))), (q 20, .inl (cI, capOf (nn (a 0 4)), .inl (a 19))), (q 21, .inl (cI, capOf (nn (a 0 4)), .inl (a 21))), (q 22, .inr (0, [.ref (q 23), .ref (q 24), .ref (q 25), .int (nI k)])), (q 23, .inl (cI, 8, .inl (jc))), (q 24, .inl (cI, 256, .inl (js))), (q 25, .inl (cI, 256, .inl (jv))), (q 26, .inl (cF, 4, .inr (.inr (.inl (fun j => shF (a 9 j))))))] s.heap.size = A at hD hV ⊢
  have hA : ∀ q : Nat, s.heap.size ≤ q → A q := fun q h => by rw [← hAe]; exact Or.inr h
  have hS : va_S A s.heap s.heap [] := va_S.rf
  have hl := lv_entry ([.ref h0, .int x, .int am, .int fb]) (n := 5) (Nat.le_of_ble_eq_true rfl)
  rw [lg_entry_eq]
  generalize (lg_sl ([.ref h0, .int x, .int am, .int fb]) ++ List.replicate (5 - (lg_sl ([.ref h0, .int x, .int am, .int fb])).length) Slot.unset).toArray = ls at hl ⊢
  have hl : lv_has ls 5 [(0, .ref h0), (1, .int x), (2, .int am), (3, .int fb)] := hl
  have hP : va_P (dC, dI) vwCl [(h0, .inr (4, [.ref (q 1), .ref (q 10), .ref (q 18), .ref (q 22), .ref (q 26), .int (a 0 2), .int (a 0 1), .int (a 0 5), .int (a 0 6), .int (a 0 7), .int (a 0 8)])), (q 1, .inr (3, [.ref (q 2), .ref (q 3), .ref (q 4), .ref (q 5), .ref (q 6), .ref (q 7), .ref (q 8), .ref (q 9), .int (a 0 0)])), (q 2, .inl (cI, 8, .inl (a 1))), (q 3, .inl (cI, 8, .inl (a 2))), (q 4, .inl (cI, 8, .inl (a 3))), (q 5, .inl (cI, 8, .inl (a 4))), (q 6, .inl (cI, 8, .inl (a 5))), (q 7, .inl (cI, 8, .inl (a 6))), (q 8, .inl (cI, 8, .inl (a 7))), (q 9, .inl (cI, 8, .inl (a 8))), (q 10, .inr (2, [.ref (q 11), .ref (q 12), .ref (q 13), .ref (q 14), .ref (q 15), .ref (q 16), .ref (q 17), .int (a 0 3)])), (q 11, .inl (cI, 100, .inl (a 10))), (q 12, .inl (cF, 100, .inr (.inr (.inl (fun j => shF (a 13 j)))))), (q 13, .inl (cI, 100, .inl (a 14))), (q 14, .inl (cI, 100, .inl (fun j => a 11 j - a 12 j))), (q 15, .inl (cI, 100, .inl (fun j => a 15 j - a 16 j))), (q 16, .inl (cI, 100, .inl (a 17))), (q 17, .inl (cI, 100, .inl (a 18))), (q 18, .inr (1, [.ref (q 19), .ref (q 20), .ref (q 21), .int (a 0 4)])), (q 19, .inl (cI, capOf (nn (a 0 4)), .inl (a 20))), (q 20, .inl (cI, capOf (nn (a 0 4)), .inl (a 19))), (q 21, .inl (cI, capOf (nn (a 0 4)), .inl (a 21))), (q 22, .inr (0, [.ref (q 23), .ref (q 24), .ref (q 25), .int (nI k)])), (q 23, .inl (cI, 8, .inl (jc))), (q 24, .inl (cI, 256, .inl (js))), (q 25, .inl (cI, 256, .inl (jv))), (q 26, .inl (cF, 4, .inr (.inr (.inl (fun j => shF (a 9 j))))))] s.heap := hP
  refine y_enter (A := A) hP (fun H hP hS => ?_)
  have htab := vx_table (x := yL_refund) B (hts (.codeWith yL_refund cL_refund 5 (some .int) [(0, 7, 8, 43), (0, 7, 13, 46), (0, 7, 18, 48)]) List.mem_cons_self)
  refine lv_aload_n hx hb dL_refund_0 rfl (lv_at hl 0 rfl) ?_
  refine lv_iload_n hx hb dL_refund_1 rfl (lv_at hl 1 rfl) ?_
  refine lv_iload_n hx hb dL_refund_2 rfl (lv_at hl 2 rfl) ?_
  refine lv_iload_n hx hb dL_refund_3 rfl (lv_at hl 3 rfl) ?_
  have hP : va_P (dC, dI) vwCl (WC cI cF h0 q a jc js jv k (capOf (nn (a 0 4)))) H := hP
  have hD : va_D A (WC cI cF h0 q a jc js jv k (capOf (nn (a 0 4)))) := hD
  have hFc := y_free hD hS hA
  refine vx_calli (vx_runV (As := [.int x, .int am, .int fb]) (rest := []) ⟨hx, hb, hml, hown, hts⟩ (c_X4_refund l dC dI cI cF h0 q H.size a jc js jv k hst hC hB x am fb) (cwV 3 hts gL_refund_X4_refund rfl rfl rfl (by decide +kernel) ⟨Nat.le_of_ble_eq_true rfl, Nat.le_of_ble_eq_true rfl⟩) ⟨pcV_blind, va_recv hK hP (ci := 4) (q0 := 0) rfl rfl, fun U hU hW => pcV_pre hP hD hK hV hS hFc hU hW⟩ rfl rfl hl.1 rfl (lv_room (Nat.le_of_ble_eq_true rfl)) dL_refund_4 ⟨Nat.le_of_ble_eq_true rfl, Nat.le_of_ble_eq_true rfl⟩) hS (fun q _ h => hFc q h) hFc (fun q _ h => hFc q h) (fun E ce q9 u t H1 locs ht hvm hw hBx hz1 hk1 hS hce hcv hcl => ?_) (fun r u t H1 locs ht hvm hw hB1 hz1 hk1 hS => ?_)
  · obtain ⟨hE, qx, jcx, jsx, jvx, kx, hCx, hPx, hKx, hDx⟩ := hBx
    rw [ht] at hPx
    have hP : va_P (dC, dI) vwCl (WC cI cF h0 qx a jcx jsx jvx kx (capOf (nn (a 0 4)))) _ := hPx
    have hD : va_D A (WC cI cF h0 qx a jcx jsx jvx kx (capOf (nn (a 0 4)))) := hDx.weaken (fun kk qq _ h => hFc qq.1 h)
    generalize H1 = H at hP hS hce ⊢
    rcases kRef_r a x am with h9 | h9 | h9 | h9
    · exact absurd h9 hw
    · have hE2 : E = exI := hE.trans (by rw [h9]; rfl)
      subst hE2
      refine vx_catch (name := exI) hown [] ⟨0, 7, 8, 43⟩ [⟨0, 7, 13, 46⟩, ⟨0, 7, 18, 48⟩] htab (fun z9 h8 => absurd h8 List.not_mem_nil) rfl (by decide) (hts (.classLink RL 43 "java/lang/IndexOutOfBoundsException") (List.mem_of_getElem? (i := 1) rfl)) (okV_use hV _ (by simp [vB])) hce hcv hcl ?_
      refine lv_astore (lv' := [(4, .ref q9), (0, .ref h0), (1, .int x), (2, .int am), (3, .int fb)]) hx hb dL_refund_8 hl (by decide) rfl (fun ls hl => ?_)
      refine lv_ldc hx hb hown (hts (.constant RL 45 (-2000000001)) (List.mem_of_getElem? (i := 4) rfl)) dL_refund_10 ?_
      refine W.widen (k := 2) (n := 12) (Nat.le_of_ble_eq_true rfl) (Nat.le_of_ble_eq_true rfl) ?_
      have hk : ¬ kRef a x am = 0 := by rw [h9]; decide
      have hP9 := hP
      have hD9 := hD
      have hK9 := hK
      exact W.iret (v := -2000000001) hx hb hr (fun t ht hW => ⟨⟨-2000000001, (), rfl, (rA_n hk).symm, atC_e (rT_n hk) hCx (atW_end hP9 hD9 hK9 ht hW)⟩, hS.F ht⟩) hS.2.2 dL_refund_12
    · have hE2 : E = exA := hE.trans (by rw [h9]; rfl)
      subst hE2
      refine vx_catch (name := exA) hown [⟨0, 7, 8, 43⟩] ⟨0, 7, 13, 46⟩ [⟨0, 7, 18, 48⟩] htab (List.forall_mem_cons.mpr ⟨Or.inr ⟨by decide, exI, (hts (.classLink RL 43 "java/lang/IndexOutOfBoundsException") (List.mem_of_getElem? (i := 1) rfl)), hN.1⟩, fun z9 h8 => absurd h8 List.not_mem_nil⟩) rfl (by decide) (hts (.classLink RL 46 "java/lang/IllegalArgumentException") (List.mem_of_getElem? (i := 2) rfl)) (okV_use hV _ (by simp [vB])) hce hcv hcl ?_
      refine lv_astore (lv' := [(4, .ref q9), (0, .ref h0), (1, .int x), (2, .int am), (3, .int fb)]) hx hb dL_refund_13 hl (by decide) rfl (fun ls hl => ?_)
      refine lv_ldc hx hb hown (hts (.constant RL 45 (-2000000001)) (List.mem_of_getElem? (i := 4) rfl)) dL_refund_15 ?_
      refine W.widen (k := 2) (n := 12) (Nat.le_of_ble_eq_true rfl) (Nat.le_of_ble_eq_true rfl) ?_
      have hk : ¬ kRef a x am = 0 := by rw [h9]; decide
      have hP9 := hP
      have hD9 := hD
      have hK9 := hK
      exact W.iret (v := -2000000001) hx hb hr (fun t ht hW => ⟨⟨-2000000001, (), rfl, (rA_n hk).symm, atC_e (rT_n hk) hCx (atW_end hP9 hD9 hK9 ht hW)⟩, hS.F ht⟩) hS.2.2 dL_refund_17
    · have hE2 : E = exS := hE.trans (by rw [h9]; rfl)
      subst hE2
      refine vx_catch (name := exS) hown [⟨0, 7, 8, 43⟩, ⟨0, 7, 13, 46⟩] ⟨0, 7, 18, 48⟩ [] htab (List.forall_mem_cons.mpr ⟨Or.inr ⟨by decide, exI, (hts (.classLink RL 43 "java/lang/IndexOutOfBoundsException") (List.mem_of_getElem? (i := 1) rfl)), hN.2.1⟩, List.forall_mem_cons.mpr ⟨Or.inr ⟨by decide, exA, (hts (.classLink RL 46 "java/lang/IllegalArgumentException") (List.mem_of_getElem? (i := 2) rfl)), hN.2.2⟩, fun z9 h8 => absurd h8 List.not_mem_nil⟩⟩) rfl (by decide) (hts (.classLink RL 48 "java/lang/IllegalStateException") (List.mem_of_getElem? (i := 3) rfl)) (okV_use hV _ (by simp [vB])) hce hcv hcl ?_
      refine lv_astore (lv' := [(4, .ref q9), (0, .ref h0), (1, .int x), (2, .int am), (3, .int fb)]) hx hb dL_refund_18 hl (by decide) rfl (fun ls hl => ?_)
      refine lv_ldc hx hb hown (hts (.constant RL 45 (-2000000001)) (List.mem_of_getElem? (i := 4) rfl)) dL_refund_20 ?_
      refine W.widen (k := 2) (n := 12) (Nat.le_of_ble_eq_true rfl) (Nat.le_of_ble_eq_true rfl) ?_
      have hk : ¬ kRef a x am = 0 := by rw [h9]; decide
      have hP9 := hP
      have hD9 := hD
      have hK9 := hK
      exact W.iret (v := -2000000001) hx hb hr (fun t ht hW => ⟨⟨-2000000001, (), rfl, (rA_n hk).symm, atC_e (rT_n hk) hCx (atW_end hP9 hD9 hK9 ht hW)⟩, hS.F ht⟩) hS.2.2 dL_refund_22
  · obtain ⟨qy, jcy, jsy, jvy, ky, hCy, hPy, hKy, hDy⟩ := hB1
    rw [ht] at hPy
    have hP : va_P (dC, dI) vwCl (WC cI cF h0 qy (sRefund a (nn x) am (decide (¬ fb = 0))) jcy jsy jvy ky (capOf (nn ((sRefund a (nn x) am (decide (¬ fb = 0))) 0 4)))) _ := hPy
    have hD : va_D A (WC cI cF h0 qy (sRefund a (nn x) am (decide (¬ fb = 0))) jcy jsy jvy ky (capOf (nn ((sRefund a (nn x) am (decide (¬ fb = 0))) 0 4)))) := hDy.weaken (fun kk qq _ h => hFc qq.1 h)
    generalize H1 = H at hP hS ⊢
    refine W.widen (k := 2) (n := 12) (Nat.le_of_ble_eq_true rfl) (Nat.le_of_ble_eq_true rfl) ?_
    have hP9 := hP
    have hD9 := hD
    have hK9 := hK
    exact W.iret (v := r) hx hb hr (fun t ht hW => ⟨⟨r, (), rfl, hw.2.trans (rA_y hw.1).symm, atC_e (rT_y hw.1) hCy (atW_end hP9 hD9 hK9 ht hW)⟩, hS.F ht⟩) hS.2.2 dL_refund_7
set_option maxHeartbeats 4000000 in
set_option maxRecDepth 100000 in
theorem c_L_balance (l : Launch) (dC : Nat → ClassId) (dI : Nat → Nat → Nat) (cI cF : ClassId) (h0 : Nat) (q : Nat → Nat) (sz : Nat) (a : yA) (jc js jv : Nat → Int32) (k : Nat) (hst : l.stackTraces = false) (hC : okC a jc js jv k) (hB : okB a) (x : Int32) : Met l yL_balance wsL_balance ({ frames := 8, cells := 1, slots := 6, locals := 132 } : Room) (va_Pc [.ref h0, .int x] (pcH dC dI [(cI, .int), (cF, .float)] (WC cI cF h0 q a jc js jv k (capOf (nn (a 0 4)))) sz)) (va_Qi (fun (r : Int32) (_ : Unit) => r = bA a x) (fun _ t => atC dC dI cI cF (va_A (WC cI cF h0 q a jc js jv k (capOf (nn (a 0 4)))) sz) h0 (a) t) (va_A (WC cI cF h0 q a jc js jv k (capOf (nn (a 0 4)))) sz)) (1) (6) (va_A (WC cI cF h0 q a jc js jv k (capOf (nn (a 0 4)))) sz) := by
  refine va_MetW (cc := cL_balance) (maxL := 3) (ret := (some .int)) (hh := [(0, 5, 6, 43)]) (by decide) rfl ?_
  intro p e s m args below meth c s₁ B hml hv
  obtain ⟨rfl, ⟨⟨hsz, hP, hK, hD0⟩, hV⟩, hN⟩ := hv
  have hx := B.exec
  have hb := B.bytes
  have hr := B.returns
  have hts := atoms_spec (ws := wsL_balance) B.pre
  have hown : s.vm.findClass RL = some m.cls := findClass_of_methodNamed B.named
  have hlocks := B.notSynchronized
  subst hsz
  have hD := hD0.self (sz := s.heap.size)
  generalize hAe : va_A [(h0, .inr (4, [.ref (q 1), .ref (q 10), .ref (q 18), .ref (q 22), .ref (q 26), .int (a 0 2), .int (a 0 1), .int (a 0 5), .int (a 0 6), .int (a 0 7), .int (a 0 8)])), (q 1, .inr (3, [.ref (q 2), .ref (q 3), .ref (q 4), .ref (q 5), .ref (q 6), .ref (q 7), .ref (q 8), .ref (q 9), .int (a 0 0)])), (q 2, .inl (cI, 8, .inl (a 1))), (q 3, .inl (cI, 8, .inl (a 2))), (q 4, .inl (cI, 8, .inl (a 3))), (q 5, .inl (cI, 8, .inl (a 4))), (q 6, .inl (cI, 8, .inl (a 5))), (q 7, .inl (cI, 8, .inl (a 6))), (q 8, .inl (cI, 8, .inl (a 7))), (q 9, .inl (cI, 8, .inl (a 8))), (q 10, .inr (2, [.ref (q 11), .ref (q 12), .ref (q 13), .ref (q 14), .ref (q 15), .ref (q 16), .ref (q 17), .int (a 0 3)])), (q 11, .inl (cI, 100, .inl (a 10))), (q 12, .inl (cF, 100, .inr (.inr (.inl (fun j => shF (a 13 j)))))), (q 13, .inl (cI, 100, .inl (a 14))), (q 14, .inl (cI, 100, .inl (fun j => a 11 j - a 12 j))), (q 15, .inl (cI, 100, .inl (fun j => a 15 j - a 16 j))), (q 16, .inl (cI, 100, .inl (a 17))), (q 17, .inl (cI, 100, .inl (a 18))), (q 18, .inr (1, [.ref (q 19), .ref (q 20), .ref (q 21), .int (a 0 4)])), (q 19, .inl (cI, capOf (nn (a 0 4)), .inl (a 20))), (q 20, .inl (cI, capOf (nn (a 0 4)), .inl (a 19))), (q 21, .inl (cI, capOf (nn (a 0 4)), .inl (a 21))), (q 22, .inr (0, [.ref (q 23), .ref (q 24), .ref (q 25), .int (nI k)])), (q 23, .inl (cI, 8, .inl (jc))), (q 24, .inl (cI, 256, .inl (js))), (q 25, .inl (cI, 256, .inl (jv))), (q 26, .inl (cF, 4, .inr (.inr (.inl (fun j => shF (a 9 j))))))] s.heap.size = A at hD hV ⊢
  have hA : ∀ q : Nat, s.heap.size ≤ q → A q := fun q h => by rw [← hAe]; exact Or.inr h
  have hS : va_S A s.heap s.heap [] := va_S.rf
  have hl := lv_entry ([.ref h0, .int x]) (n := 3) (Nat.le_of_ble_eq_true rfl)
  rw [lg_entry_eq]
  generalize (lg_sl ([.ref h0, .int x]) ++ List.replicate (3 - (lg_sl ([.ref h0, .int x])).length) Slot.unset).toArray = ls at hl ⊢
  have hl : lv_has ls 3 [(0, .ref h0), (1, .int x)] := hl
  have hP : va_P (dC, dI) vwCl [(h0, .inr (4, [.ref (q 1), .ref (q 10), .ref (q 18), .ref (q 22), .ref (q 26), .int (a 0 2), .int (a 0 1), .int (a 0 5), .int (a 0 6), .int (a 0 7), .int (a 0 8)])), (q 1, .inr (3, [.ref (q 2), .ref (q 3), .ref (q 4), .ref (q 5), .ref (q 6), .ref (q 7), .ref (q 8), .ref (q 9), .int (a 0 0)])), (q 2, .inl (cI, 8, .inl (a 1))), (q 3, .inl (cI, 8, .inl (a 2))), (q 4, .inl (cI, 8, .inl (a 3))), (q 5, .inl (cI, 8, .inl (a 4))), (q 6, .inl (cI, 8, .inl (a 5))), (q 7, .inl (cI, 8, .inl (a 6))), (q 8, .inl (cI, 8, .inl (a 7))), (q 9, .inl (cI, 8, .inl (a 8))), (q 10, .inr (2, [.ref (q 11), .ref (q 12), .ref (q 13), .ref (q 14), .ref (q 15), .ref (q 16), .ref (q 17), .int (a 0 3)])), (q 11, .inl (cI, 100, .inl (a 10))), (q 12, .inl (cF, 100, .inr (.inr (.inl (fun j => shF (a 13 j)))))), (q 13, .inl (cI, 100, .inl (a 14))), (q 14, .inl (cI, 100, .inl (fun j => a 11 j - a 12 j))), (q 15, .inl (cI, 100, .inl (fun j => a 15 j - a 16 j))), (q 16, .inl (cI, 100, .inl (a 17))), (q 17, .inl (cI, 100, .inl (a 18))), (q 18, .inr (1, [.ref (q 19), .ref (q 20), .ref (q 21), .int (a 0 4)])), (q 19, .inl (cI, capOf (nn (a 0 4)), .inl (a 20))), (q 20, .inl (cI, capOf (nn (a 0 4)), .inl (a 19))), (q 21, .inl (cI, capOf (nn (a 0 4)), .inl (a 21))), (q 22, .inr (0, [.ref (q 23), .ref (q 24), .ref (q 25), .int (nI k)])), (q 23, .inl (cI, 8, .inl (jc))), (q 24, .inl (cI, 256, .inl (js))), (q 25, .inl (cI, 256, .inl (jv))), (q 26, .inl (cF, 4, .inr (.inr (.inl (fun j => shF (a 9 j))))))] s.heap := hP
  refine y_enter (A := A) hP (fun H hP hS => ?_)
  have htab := vx_table (x := yL_balance) B (hts (.codeWith yL_balance cL_balance 3 (some .int) [(0, 5, 6, 43)]) List.mem_cons_self)
  refine lv_aload_n hx hb dL_balance_0 rfl (lv_at hl 0 rfl) ?_
  refine lv_iload_n hx hb dL_balance_1 rfl (lv_at hl 1 rfl) ?_
  have hP : va_P (dC, dI) vwCl (WC cI cF h0 q a jc js jv k (capOf (nn (a 0 4)))) H := hP
  have hD : va_D A (WC cI cF h0 q a jc js jv k (capOf (nn (a 0 4)))) := hD
  have hFc := y_free hD hS hA
  refine vx_calli (vx_runV (As := [.int x]) (rest := []) ⟨hx, hb, hml, hown, hts⟩ (c_X4_balance l dC dI cI cF h0 q H.size a jc js jv k hst hC hB x) (cwV 1 hts gL_balance_X4_balance rfl rfl rfl (by decide +kernel) ⟨Nat.le_of_ble_eq_true rfl, Nat.le_of_ble_eq_true rfl⟩) ⟨pcV_blind, va_recv hK hP (ci := 4) (q0 := 0) rfl rfl, fun U hU hW => pcV_pre hP hD hK hV hS hFc hU hW⟩ rfl rfl hl.1 rfl (lv_room (Nat.le_of_ble_eq_true rfl)) dL_balance_2 ⟨Nat.le_of_ble_eq_true rfl, Nat.le_of_ble_eq_true rfl⟩) hS (fun q _ h => hFc q h) hFc (fun q _ h => hFc q h) (fun E ce q9 u t H1 locs ht hvm hw hBx hz1 hk1 hS hce hcv hcl => ?_) (fun r u t H1 locs ht hvm hw hB1 hz1 hk1 hS => ?_)
  · obtain ⟨hE, qx, jcx, jsx, jvx, kx, hCx, hPx, hKx, hDx⟩ := hBx
    rw [ht] at hPx
    have hP : va_P (dC, dI) vwCl (WC cI cF h0 qx a jcx jsx jvx kx (capOf (nn (a 0 4)))) _ := hPx
    have hD : va_D A (WC cI cF h0 qx a jcx jsx jvx kx (capOf (nn (a 0 4)))) := hDx.weaken (fun kk qq _ h => hFc qq.1 h)
    generalize H1 = H at hP hS hce ⊢
    rcases kSel_r a x with h9 | h9
    · exact absurd h9 hw
    · have hE2 : E = exI := hE.trans (by rw [h9]; rfl)
      subst hE2
      refine vx_catch (name := exI) hown [] ⟨0, 5, 6, 43⟩ [] htab (fun z9 h8 => absurd h8 List.not_mem_nil) rfl (by decide) (hts (.classLink RL 43 "java/lang/IndexOutOfBoundsException") (List.mem_of_getElem? (i := 1) rfl)) (okV_use hV _ (by simp [vB])) hce hcv hcl ?_
      refine lv_astore_n (lv' := [(2, .ref q9), (0, .ref h0), (1, .int x)]) hx hb dL_balance_6 rfl hl (by decide) rfl (fun ls hl => ?_)
      refine lv_ldc hx hb hown (hts (.constant RL 45 (-2000000001)) (List.mem_of_getElem? (i := 2) rfl)) dL_balance_7 ?_
      refine W.widen (k := 1) (n := 6) (Nat.le_of_ble_eq_true rfl) (Nat.le_of_ble_eq_true rfl) ?_
      have hk : ¬ kSel a x = 0 := by rw [h9]; decide
      have hP9 := hP
      have hD9 := hD
      have hK9 := hK
      exact W.iret (v := -2000000001) hx hb hr (fun t ht hW => ⟨⟨-2000000001, (), rfl, (bA_n hk).symm, atC_in hCx (atW_end hP9 hD9 hK9 ht hW)⟩, hS.F ht⟩) hS.2.2 dL_balance_9
  · obtain ⟨qy, jcy, jsy, jvy, ky, hCy, hPy, hKy, hDy⟩ := hB1
    rw [ht] at hPy
    have hP : va_P (dC, dI) vwCl (WC cI cF h0 qy a jcy jsy jvy ky (capOf (nn (a 0 4)))) _ := hPy
    have hD : va_D A (WC cI cF h0 qy a jcy jsy jvy ky (capOf (nn (a 0 4)))) := hDy.weaken (fun kk qq _ h => hFc qq.1 h)
    generalize H1 = H at hP hS ⊢
    refine W.widen (k := 1) (n := 6) (Nat.le_of_ble_eq_true rfl) (Nat.le_of_ble_eq_true rfl) ?_
    have hP9 := hP
    have hD9 := hD
    have hK9 := hK
    exact W.iret (v := r) hx hb hr (fun t ht hW => ⟨⟨r, (), rfl, hw.2.trans (bA_y hw.1).symm, atC_in hCy (atW_end hP9 hD9 hK9 ht hW)⟩, hS.F ht⟩) hS.2.2 dL_balance_5
