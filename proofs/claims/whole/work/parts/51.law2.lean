theorem kPO_r (a : yA) (x wd le : Int32) : kPO a x wd le = 0 ∨ kPO a x wd le = 1 ∨ kPO a x wd le = 2 := by
  unfold kPO
  repeat' split
  all_goals decide
set_option maxHeartbeats 4000000 in
set_option maxRecDepth 100000 in
theorem c_L_setPayouts (l : Launch) (dC : Nat → ClassId) (dI : Nat → Nat → Nat) (cI cF : ClassId) (h0 : Nat) (q : Nat → Nat) (sz : Nat) (a : yA) (jc js jv : Nat → Int32) (k : Nat) (hst : l.stackTraces = false) (hC : okC a jc js jv k) (hB : okB a) (x y v : Int32) : Met l yL_setPayouts wsL_setPayouts ({ frames := 8, cells := 3, slots := 18, locals := 135 } : Room) (va_Pc [.ref h0, .int x, .int y, .int v] (pcH dC dI [(cI, .int), (cF, .float)] (WC cI cF h0 q a jc js jv k (capOf (nn (a 0 4)))) sz)) (va_Qi (fun (r : Int32) (_ : Unit) => r = nI (kPO a x y v)) (fun _ t => atC dC dI cI cF (va_A (WC cI cF h0 q a jc js jv k (capOf (nn (a 0 4)))) sz) h0 (if kPO a x y v = 0 then sPO a x y v else a) t) (va_A (WC cI cF h0 q a jc js jv k (capOf (nn (a 0 4)))) sz)) (3) (18) (va_A (WC cI cF h0 q a jc js jv k (capOf (nn (a 0 4)))) sz) := by
  refine va_MetW (cc := cL_setPayouts) (maxL := 5) (ret := (some .int)) (hh := [(0, 7, 10, 13), (0, 7, 14, 21)]) (by decide) rfl ?_
  intro p e s m args below meth c s₁ B hml hv
  obtain ⟨rfl, ⟨⟨hsz, hP, hK, hD0⟩, hV⟩, hN⟩ := hv
  have hx := B.exec
  have hb := B.bytes
  have hr := B.returns
  have hts := atoms_spec (ws := wsL_setPayouts) B.pre
  have hown : s.vm.findClass RL = some m.cls := findClass_of_methodNamed B.named
  have hlocks := B.notSynchronized
  subst hsz
  have hD := hD0.self (sz := s.heap.size)
  generalize hAe : va_A [(h0, .inr (4, [.ref (q 1), .ref (q 10), .ref (q 18), .ref (q 22), .ref (q 26), .int (a 0 2), .int (a 0 1), .int (a 0 5), .int (a 0 6), .int (a 0 7), .int (a 0 8)])), (q 1, .inr (3, [.ref (q 2), .ref (q 3), .ref (q 4), .ref (q 5), .ref (q 6), .ref (q 7), .ref (q 8), .ref (q 9), .int (a 0 0)])), (q 2, .inl (cI, 8, .inl (a 1))), (q 3, .inl (cI, 8, .inl (a 2))), (q 4, .inl (cI, 8, .inl (a 3))), (q 5, .inl (cI, 8, .inl (a 4))), (q 6, .inl (cI, 8, .inl (a 5))), (q 7, .inl (cI, 8, .inl (a 6))), (q 8, .inl (cI, 8, .inl (a 7))), (q 9, .inl (cI, 8, .inl (a 8))), (q 10, .inr (2, [.ref (q 11), .ref (q 12), .ref (q 13), .ref (q 14), .ref (q 15), .ref (q 16), .ref (q 17), .int (a 0 3)])), (q 11, .inl (cI, 100, .inl (a 10))), (q 12, .inl (cF, 100, .inr (.inr (.inl (fun j => shF (a 13 j)))))), (q 13, .inl (cI, 100, .inl (a 14))), (q 14, .inl (cI, 100, .inl (fun j => a 11 j - a 12 j))), (q 15, .inl (cI, 100, .inl (fun j => a 15 j - a 16 j))), (q 16, .inl (cI, 100, .inl (a 17))), (q 17, .inl (cI, 100, .inl (a 18))), (q 18, .inr (1, [.ref (q 19), .ref (q 20), .ref (q 21), .int (a 0 4)])), (q 19, .inl (cI, capOf (nn (a 0 4)), .inl (a 20))), (q 20, .inl (cI, capOf (nn (a 0 4)), .inl (a 19))), (q 21, .inl (cI, capOf (nn (a 0 4)), .inl (a 21))), (q 22, .inr (0, [.ref (q 23), .ref (q 24), .ref (q 25), .int (nI k)])), (q 23, .inl (cI, 8, .inl (jc))), (q 24, .inl (cI, 256, .inl (js))), (q 25, .inl (cI, 256, .inl (jv))), (q 26, .inl (cF, 4, .inr (.inr (.inl (fun j => shF (a 9 j))))))] s.heap.size = A at hD hV ⊢
  have hA : ∀ q : Nat, s.heap.size ≤ q → A q := fun q h => by rw [← hAe]; exact Or.inr h
  have hS : va_S A s.heap s.heap [] := va_S.rf
  have hl := lv_entry ([.ref h0, .int x, .int y, .int v]) (n := 5) (Nat.le_of_ble_eq_true rfl)
  rw [lg_entry_eq]
  generalize (lg_sl ([.ref h0, .int x, .int y, .int v]) ++ List.replicate (5 - (lg_sl ([.ref h0, .int x, .int y, .int v])).length) Slot.unset).toArray = ls at hl ⊢
  have hl : lv_has ls 5 [(0, .ref h0), (1, .int x), (2, .int y), (3, .int v)] := hl
  have hP : va_P (dC, dI) vwCl [(h0, .inr (4, [.ref (q 1), .ref (q 10), .ref (q 18), .ref (q 22), .ref (q 26), .int (a 0 2), .int (a 0 1), .int (a 0 5), .int (a 0 6), .int (a 0 7), .int (a 0 8)])), (q 1, .inr (3, [.ref (q 2), .ref (q 3), .ref (q 4), .ref (q 5), .ref (q 6), .ref (q 7), .ref (q 8), .ref (q 9), .int (a 0 0)])), (q 2, .inl (cI, 8, .inl (a 1))), (q 3, .inl (cI, 8, .inl (a 2))), (q 4, .inl (cI, 8, .inl (a 3))), (q 5, .inl (cI, 8, .inl (a 4))), (q 6, .inl (cI, 8, .inl (a 5))), (q 7, .inl (cI, 8, .inl (a 6))), (q 8, .inl (cI, 8, .inl (a 7))), (q 9, .inl (cI, 8, .inl (a 8))), (q 10, .inr (2, [.ref (q 11), .ref (q 12), .ref (q 13), .ref (q 14), .ref (q 15), .ref (q 16), .ref (q 17), .int (a 0 3)])), (q 11, .inl (cI, 100, .inl (a 10))), (q 12, .inl (cF, 100, .inr (.inr (.inl (fun j => shF (a 13 j)))))), (q 13, .inl (cI, 100, .inl (a 14))), (q 14, .inl (cI, 100, .inl (fun j => a 11 j - a 12 j))), (q 15, .inl (cI, 100, .inl (fun j => a 15 j - a 16 j))), (q 16, .inl (cI, 100, .inl (a 17))), (q 17, .inl (cI, 100, .inl (a 18))), (q 18, .inr (1, [.ref (q 19), .ref (q 20), .ref (q 21), .int (a 0 4)])), (q 19, .inl (cI, capOf (nn (a 0 4)), .inl (a 20))), (q 20, .inl (cI, capOf (nn (a 0 4)), .inl (a 19))), (q 21, .inl (cI, capOf (nn (a 0 4)), .inl (a 21))), (q 22, .inr (0, [.ref (q 23), .ref (q 24), .ref (q 25), .int (nI k)])), (q 23, .inl (cI, 8, .inl (jc))), (q 24, .inl (cI, 256, .inl (js))), (q 25, .inl (cI, 256, .inl (jv))), (q 26, .inl (cF, 4, .inr (.inr (.inl (fun j => shF (a 9 j))))))] s.heap := hP
  refine y_enter (A := A) hP (fun H hP hS => ?_)
  have htab := vx_table (x := yL_setPayouts) B (hts (.codeWith yL_setPayouts cL_setPayouts 5 (some .int) [(0, 7, 10, 13), (0, 7, 14, 21)]) List.mem_cons_self)
  refine lv_aload_n hx hb dL_setPayouts_0 rfl (lv_at hl 0 rfl) ?_
  refine lv_iload_n hx hb dL_setPayouts_1 rfl (lv_at hl 1 rfl) ?_
  refine lv_iload_n hx hb dL_setPayouts_2 rfl (lv_at hl 2 rfl) ?_
  refine lv_iload_n hx hb dL_setPayouts_3 rfl (lv_at hl 3 rfl) ?_
  have hP : va_P (dC, dI) vwCl (WC cI cF h0 q a jc js jv k (capOf (nn (a 0 4)))) H := hP
  have hD : va_D A (WC cI cF h0 q a jc js jv k (capOf (nn (a 0 4)))) := hD
  have hPc := hP
  have hDc := hD
  have hFc := y_free hD hS hA
  have hKc := hK
  refine vx_callv (vx_runV (As := [.int x, .int y, .int v]) (rest := []) ⟨hx, hb, hml, hown, hts⟩ (c_X4_setPayouts l dC dI cI cF h0 q H.size a jc js jv k hst hC hB x y v) (cwV 3 hts gL_setPayouts_X4_setPayouts rfl rfl rfl (by decide +kernel) ⟨Nat.le_of_ble_eq_true rfl, Nat.le_of_ble_eq_true rfl⟩) ⟨pcV_blind, va_recv hKc hPc (ci := 4) (q0 := 0) rfl rfl, fun U hU hW => pcV_pre hPc hDc hKc hV hS hFc hU hW⟩ rfl rfl hl.1 rfl (lv_room (Nat.le_of_ble_eq_true rfl)) dL_setPayouts_4 ⟨Nat.le_of_eq (Nat.zero_add _), Nat.le_of_eq (Nat.zero_add _)⟩) hS (fun q _ h => hFc q h) hFc (fun q _ h => hFc q h) (fun E ce q9 u t H1 locs ht hvm hw hBx hz1 hk1 hS hce hcv hcl => ?_) (fun u t H1 locs ht hvm hw hB1 hz1 hk1 hS => ?_)
  · obtain ⟨hE, qx, jcx, jsx, jvx, kx, hCx, hPx, hKx, hDx⟩ := hBx
    rw [ht] at hPx
    have hP : va_P (dC, dI) vwCl (WC cI cF h0 qx a jcx jsx jvx kx (capOf (nn (a 0 4)))) _ := hPx
    have hD : va_D A (WC cI cF h0 qx a jcx jsx jvx kx (capOf (nn (a 0 4)))) := hDx.weaken (fun kk qq _ h => hFc qq.1 h)
    generalize H1 = H at hP hS hce ⊢
    rcases kPO_r a x y v with h9 | h9 | h9
    · exact absurd h9 hw
    · have hE2 : E = exI := hE.trans (by rw [h9]; rfl)
      subst hE2
      refine vx_catch (name := exI) hown [] ⟨0, 7, 10, 13⟩ [⟨0, 7, 14, 21⟩] htab (fun z9 h8 => absurd h8 List.not_mem_nil) rfl (by decide) (hts (.classLink RL 13 "java/lang/IndexOutOfBoundsException") (List.mem_of_getElem? (i := 1) rfl)) (okV_use hV _ (by simp [vB])) hce hcv hcl ?_
      refine lv_astore (lv' := [(4, .ref q9), (0, .ref h0), (1, .int x), (2, .int y), (3, .int v)]) hx hb dL_setPayouts_10 hl (by decide) rfl (fun ls hl => ?_)
      refine lv_iconst (v := 1) hx hb dL_setPayouts_12 (by decide) ?_
      refine W.widen (k := 3) (n := 18) (Nat.le_of_eq (Nat.zero_add _)) (Nat.le_of_eq (Nat.zero_add _)) ?_
      have hP9 := hP
      have hD9 := hD
      have hK9 := hK
      exact W.iret (v := 1) hx hb hr (fun t ht hW => ⟨⟨1, (), rfl, (by rw [h9]; rfl), atC_n (fun h8 => absurd (h9.symm.trans h8) (by decide)) hCx (atW_end hP9 hD9 hK9 ht hW)⟩, hS.F ht⟩) hS.2.2 dL_setPayouts_13
    · have hE2 : E = exA := hE.trans (by rw [h9]; rfl)
      subst hE2
      refine vx_catch (name := exA) hown [⟨0, 7, 10, 13⟩] ⟨0, 7, 14, 21⟩ [] htab (List.forall_mem_cons.mpr ⟨Or.inr ⟨by decide, exI, (hts (.classLink RL 13 "java/lang/IndexOutOfBoundsException") (List.mem_of_getElem? (i := 1) rfl)), hN.1⟩, fun z9 h8 => absurd h8 List.not_mem_nil⟩) rfl (by decide) (hts (.classLink RL 21 "java/lang/IllegalArgumentException") (List.mem_of_getElem? (i := 2) rfl)) (okV_use hV _ (by simp [vB])) hce hcv hcl ?_
      refine lv_astore (lv' := [(4, .ref q9), (0, .ref h0), (1, .int x), (2, .int y), (3, .int v)]) hx hb dL_setPayouts_14 hl (by decide) rfl (fun ls hl => ?_)
      refine lv_iconst (v := 2) hx hb dL_setPayouts_16 (by decide) ?_
      refine W.widen (k := 3) (n := 18) (Nat.le_of_eq (Nat.zero_add _)) (Nat.le_of_eq (Nat.zero_add _)) ?_
      have hP9 := hP
      have hD9 := hD
      have hK9 := hK
      exact W.iret (v := 2) hx hb hr (fun t ht hW => ⟨⟨2, (), rfl, (by rw [h9]; rfl), atC_n (fun h8 => absurd (h9.symm.trans h8) (by decide)) hCx (atW_end hP9 hD9 hK9 ht hW)⟩, hS.F ht⟩) hS.2.2 dL_setPayouts_17
  · obtain ⟨qy, jcy, jsy, jvy, ky, hCy, hPy, hKy, hDy⟩ := hB1
    rw [ht] at hPy
    have hP : va_P (dC, dI) vwCl (WC cI cF h0 qy (sPO a x y v) jcy jsy jvy ky (capOf (nn ((sPO a x y v) 0 4)))) _ := hPy
    have hD : va_D A (WC cI cF h0 qy (sPO a x y v) jcy jsy jvy ky (capOf (nn ((sPO a x y v) 0 4)))) := hDy.weaken (fun kk qq _ h => hFc qq.1 h)
    generalize H1 = H at hP hS ⊢
    refine lv_goto (tgt := 18) hx hb dL_setPayouts_7 (by decide) ?_
    refine lv_iconst (v := 0) hx hb dL_setPayouts_18 (by decide) ?_
    refine W.widen (k := 3) (n := 18) (Nat.le_of_eq (Nat.zero_add _)) (Nat.le_of_eq (Nat.zero_add _)) ?_
    have hP9 := hP
    have hD9 := hD
    have hK9 := hK
    exact W.iret (v := 0) hx hb hr (fun t ht hW => ⟨⟨0, (), rfl, (by rw [hw]; rfl), atC_y hw hCy (atW_end hP9 hD9 hK9 ht hW)⟩, hS.F ht⟩) hS.2.2 dL_setPayouts_19
theorem kRes_r (a : yA) (x th d : Int32) : kRes a x th d = 0 ∨ kRes a x th d = 1 ∨ kRes a x th d = 2 := by
  unfold kRes
  repeat' split
  all_goals decide
set_option maxHeartbeats 4000000 in
set_option maxRecDepth 100000 in
theorem c_L_setReserve (l : Launch) (dC : Nat → ClassId) (dI : Nat → Nat → Nat) (cI cF : ClassId) (h0 : Nat) (q : Nat → Nat) (sz : Nat) (a : yA) (jc js jv : Nat → Int32) (k : Nat) (hst : l.stackTraces = false) (hC : okC a jc js jv k) (hB : okB a) (x y v : Int32) : Met l yL_setReserve wsL_setReserve ({ frames := 8, cells := 3, slots := 18, locals := 135 } : Room) (va_Pc [.ref h0, .int x, .int y, .int v] (pcH dC dI [(cI, .int), (cF, .float)] (WC cI cF h0 q a jc js jv k (capOf (nn (a 0 4)))) sz)) (va_Qi (fun (r : Int32) (_ : Unit) => r = nI (kRes a x y v)) (fun _ t => atC dC dI cI cF (va_A (WC cI cF h0 q a jc js jv k (capOf (nn (a 0 4)))) sz) h0 (if kRes a x y v = 0 then sRes a x y v else a) t) (va_A (WC cI cF h0 q a jc js jv k (capOf (nn (a 0 4)))) sz)) (3) (18) (va_A (WC cI cF h0 q a jc js jv k (capOf (nn (a 0 4)))) sz) := by
  refine va_MetW (cc := cL_setReserve) (maxL := 5) (ret := (some .int)) (hh := [(0, 7, 10, 13), (0, 7, 14, 21)]) (by decide) rfl ?_
  intro p e s m args below meth c s₁ B hml hv
  obtain ⟨rfl, ⟨⟨hsz, hP, hK, hD0⟩, hV⟩, hN⟩ := hv
  have hx := B.exec
  have hb := B.bytes
  have hr := B.returns
  have hts := atoms_spec (ws := wsL_setReserve) B.pre
  have hown : s.vm.findClass RL = some m.cls := findClass_of_methodNamed B.named
  have hlocks := B.notSynchronized
  subst hsz
  have hD := hD0.self (sz := s.heap.size)
  generalize hAe : va_A [(h0, .inr (4, [.ref (q 1), .ref (q 10), .ref (q 18), .ref (q 22), .ref (q 26), .int (a 0 2), .int (a 0 1), .int (a 0 5), .int (a 0 6), .int (a 0 7), .int (a 0 8)])), (q 1, .inr (3, [.ref (q 2), .ref (q 3), .ref (q 4), .ref (q 5), .ref (q 6), .ref (q 7), .ref (q 8), .ref (q 9), .int (a 0 0)])), (q 2, .inl (cI, 8, .inl (a 1))), (q 3, .inl (cI, 8, .inl (a 2))), (q 4, .inl (cI, 8, .inl (a 3))), (q 5, .inl (cI, 8, .inl (a 4))), (q 6, .inl (cI, 8, .inl (a 5))), (q 7, .inl (cI, 8, .inl (a 6))), (q 8, .inl (cI, 8, .inl (a 7))), (q 9, .inl (cI, 8, .inl (a 8))), (q 10, .inr (2, [.ref (q 11), .ref (q 12), .ref (q 13), .ref (q 14), .ref (q 15), .ref (q 16), .ref (q 17), .int (a 0 3)])), (q 11, .inl (cI, 100, .inl (a 10))), (q 12, .inl (cF, 100, .inr (.inr (.inl (fun j => shF (a 13 j)))))), (q 13, .inl (cI, 100, .inl (a 14))), (q 14, .inl (cI, 100, .inl (fun j => a 11 j - a 12 j))), (q 15, .inl (cI, 100, .inl (fun j => a 15 j - a 16 j))), (q 16, .inl (cI, 100, .inl (a 17))), (q 17, .inl (cI, 100, .inl (a 18))), (q 18, .inr (1, [.ref (q 19), .ref (q 20), .ref (q 21), .int (a 0 4)])), (q 19, .inl (cI, capOf (nn (a 0 4)), .inl (a 20))), (q 20, .inl (cI, capOf (nn (a 0 4)), .inl (a 19))), (q 21, .inl (cI, capOf (nn (a 0 4)), .inl (a 21))), (q 22, .inr (0, [.ref (q 23), .ref (q 24), .ref (q 25), .int (nI k)])), (q 23, .inl (cI, 8, .inl (jc))), (q 24, .inl (cI, 256, .inl (js))), (q 25, .inl (cI, 256, .inl (jv))), (q 26, .inl (cF, 4, .inr (.inr (.inl (fun j => shF (a 9 j))))))] s.heap.size = A at hD hV ⊢
  have hA : ∀ q : Nat, s.heap.size ≤ q → A q := fun q h => by rw [← hAe]; exact Or.inr h
  have hS : va_S A s.heap s.heap [] := va_S.rf
  have hl := lv_entry ([.ref h0, .int x, .int y, .int v]) (n := 5) (Nat.le_of_ble_eq_true rfl)
  rw [lg_entry_eq]
  generalize (lg_sl ([.ref h0, .int x, .int y, .int v]) ++ List.replicate (5 - (lg_sl ([.ref h0, .int x, .int y, .int v])).length) Slot.unset).toArray = ls at hl ⊢
  have hl : lv_has ls 5 [(0, .ref h0), (1, .int x), (2, .int y), (3, .int v)] := hl
  have hP : va_P (dC, dI) vwCl [(h0, .inr (4, [.ref (q 1), .ref (q 10), .ref (q 18), .ref (q 22), .ref (q 26), .int (a 0 2), .int (a 0 1), .int (a 0 5), .int (a 0 6), .int (a 0 7), .int (a 0 8)])), (q 1, .inr (3, [.ref (q 2), .ref (q 3), .ref (q 4), .ref (q 5), .ref (q 6), .ref (q 7), .ref (q 8), .ref (q 9), .int (a 0 0)])), (q 2, .inl (cI, 8, .inl (a 1))), (q 3, .inl (cI, 8, .inl (a 2))), (q 4, .inl (cI, 8, .inl (a 3))), (q 5, .inl (cI, 8, .inl (a 4))), (q 6, .inl (cI, 8, .inl (a 5))), (q 7, .inl (cI, 8, .inl (a 6))), (q 8, .inl (cI, 8, .inl (a 7))), (q 9, .inl (cI, 8, .inl (a 8))), (q 10, .inr (2, [.ref (q 11), .ref (q 12), .ref (q 13), .ref (q 14), .ref (q 15), .ref (q 16), .ref (q 17), .int (a 0 3)])), (q 11, .inl (cI, 100, .inl (a 10))), (q 12, .inl (cF, 100, .inr (.inr (.inl (fun j => shF (a 13 j)))))), (q 13, .inl (cI, 100, .inl (a 14))), (q 14, .inl (cI, 100, .inl (fun j => a 11 j - a 12 j))), (q 15, .inl (cI, 100, .inl (fun j => a 15 j - a 16 j))), (q 16, .inl (cI, 100, .inl (a 17))), (q 17, .inl (cI, 100, .inl (a 18))), (q 18, .inr (1, [.ref (q 19), .ref (q 20), .ref (q 21), .int (a 0 4)])), (q 19, .inl (cI, capOf (nn (a 0 4)), .inl (a 20))), (q 20, .inl (cI, capOf (nn (a 0 4)), .inl (a 19))), (q 21, .inl (cI, capOf (nn (a 0 4)), .inl (a 21))), (q 22, .inr (0, [.ref (q 23), .ref (q 24), .ref (q 25), .int (nI k)])), (q 23, .inl (cI, 8, .inl (jc))), (q 24, .inl (cI, 256, .inl (js))), (q 25, .inl (cI, 256, .inl (jv))), (q 26, .inl (cF, 4, .inr (.inr (.inl (fun j => shF (a 9 j))))))] s.heap := hP
  refine y_enter (A := A) hP (fun H hP hS => ?_)
  have htab := vx_table (x := yL_setReserve) B (hts (.codeWith yL_setReserve cL_setReserve 5 (some .int) [(0, 7, 10, 13), (0, 7, 14, 21)]) List.mem_cons_self)
  refine lv_aload_n hx hb dL_setReserve_0 rfl (lv_at hl 0 rfl) ?_
  refine lv_iload_n hx hb dL_setReserve_1 rfl (lv_at hl 1 rfl) ?_
  refine lv_iload_n hx hb dL_setReserve_2 rfl (lv_at hl 2 rfl) ?_
  refine lv_iload_n hx hb dL_setReserve_3 rfl (lv_at hl 3 rfl) ?_
  have hP : va_P (dC, dI) vwCl (WC cI cF h0 q a jc js jv k (capOf (nn (a 0 4)))) H := hP
  have hD : va_D A (WC cI cF h0 q a jc js jv k (capOf (nn (a 0 4)))) := hD
  have hPc := hP
  have hDc := hD
  have hFc := y_free hD hS hA
  have hKc := hK
  refine vx_callv (vx_runV (As := [.int x, .int y, .int v]) (rest := []) ⟨hx, hb, hml, hown, hts⟩ (c_X4_setReserve l dC dI cI cF h0 q H.size a jc js jv k hst hC hB x y v) (cwV 3 hts gL_setReserve_X4_setReserve rfl rfl rfl (by decide +kernel) ⟨Nat.le_of_ble_eq_true rfl, Nat.le_of_ble_eq_true rfl⟩) ⟨pcV_blind, va_recv hKc hPc (ci := 4) (q0 := 0) rfl rfl, fun U hU hW => pcV_pre hPc hDc hKc hV hS hFc hU hW⟩ rfl rfl hl.1 rfl (lv_room (Nat.le_of_ble_eq_true rfl)) dL_setReserve_4 ⟨Nat.le_of_eq (Nat.zero_add _), Nat.le_of_eq (Nat.zero_add _)⟩) hS (fun q _ h => hFc q h) hFc (fun q _ h => hFc q h) (fun E ce q9 u t H1 locs ht hvm hw hBx hz1 hk1 hS hce hcv hcl => ?_) (fun u t H1 locs ht hvm hw hB1 hz1 hk1 hS => ?_)
  · obtain ⟨hE, qx, jcx, jsx, jvx, kx, hCx, hPx, hKx, hDx⟩ := hBx
    rw [ht] at hPx
    have hP : va_P (dC, dI) vwCl (WC cI cF h0 qx a jcx jsx jvx kx (capOf (nn (a 0 4)))) _ := hPx
    have hD : va_D A (WC cI cF h0 qx a jcx jsx jvx kx (capOf (nn (a 0 4)))) := hDx.weaken (fun kk qq _ h => hFc qq.1 h)
    generalize H1 = H at hP hS hce ⊢
    rcases kRes_r a x y v with h9 | h9 | h9
    · exact absurd h9 hw
    · have hE2 : E = exI := hE.trans (by rw [h9]; rfl)
      subst hE2
      refine vx_catch (name := exI) hown [] ⟨0, 7, 10, 13⟩ [⟨0, 7, 14, 21⟩] htab (fun z9 h8 => absurd h8 List.not_mem_nil) rfl (by decide) (hts (.classLink RL 13 "java/lang/IndexOutOfBoundsException") (List.mem_of_getElem? (i := 1) rfl)) (okV_use hV _ (by simp [vB])) hce hcv hcl ?_
      refine lv_astore (lv' := [(4, .ref q9), (0, .ref h0), (1, .int x), (2, .int y), (3, .int v)]) hx hb dL_setReserve_10 hl (by decide) rfl (fun ls hl => ?_)
      refine lv_iconst (v := 1) hx hb dL_setReserve_12 (by decide) ?_
      refine W.widen (k := 3) (n := 18) (Nat.le_of_eq (Nat.zero_add _)) (Nat.le_of_eq (Nat.zero_add _)) ?_
      have hP9 := hP
      have hD9 := hD
      have hK9 := hK
      exact W.iret (v := 1) hx hb hr (fun t ht hW => ⟨⟨1, (), rfl, (by rw [h9]; rfl), atC_n (fun h8 => absurd (h9.symm.trans h8) (by decide)) hCx (atW_end hP9 hD9 hK9 ht hW)⟩, hS.F ht⟩) hS.2.2 dL_setReserve_13
    · have hE2 : E = exA := hE.trans (by rw [h9]; rfl)
      subst hE2
      refine vx_catch (name := exA) hown [⟨0, 7, 10, 13⟩] ⟨0, 7, 14, 21⟩ [] htab (List.forall_mem_cons.mpr ⟨Or.inr ⟨by decide, exI, (hts (.classLink RL 13 "java/lang/IndexOutOfBoundsException") (List.mem_of_getElem? (i := 1) rfl)), hN.1⟩, fun z9 h8 => absurd h8 List.not_mem_nil⟩) rfl (by decide) (hts (.classLink RL 21 "java/lang/IllegalArgumentException") (List.mem_of_getElem? (i := 2) rfl)) (okV_use hV _ (by simp [vB])) hce hcv hcl ?_
      refine lv_astore (lv' := [(4, .ref q9), (0, .ref h0), (1, .int x), (2, .int y), (3, .int v)]) hx hb dL_setReserve_14 hl (by decide) rfl (fun ls hl => ?_)
      refine lv_iconst (v := 2) hx hb dL_setReserve_16 (by decide) ?_
      refine W.widen (k := 3) (n := 18) (Nat.le_of_eq (Nat.zero_add _)) (Nat.le_of_eq (Nat.zero_add _)) ?_
      have hP9 := hP
      have hD9 := hD
      have hK9 := hK
      exact W.iret (v := 2) hx hb hr (fun t ht hW => ⟨⟨2, (), rfl, (by rw [h9]; rfl), atC_n (fun h8 => absurd (h9.symm.trans h8) (by decide)) hCx (atW_end hP9 hD9 hK9 ht hW)⟩, hS.F ht⟩) hS.2.2 dL_setReserve_17
  · obtain ⟨qy, jcy, jsy, jvy, ky, hCy, hPy, hKy, hDy⟩ := hB1
    rw [ht] at hPy
    have hP : va_P (dC, dI) vwCl (WC cI cF h0 qy (sRes a x y v) jcy jsy jvy ky (capOf (nn ((sRes a x y v) 0 4)))) _ := hPy
    have hD : va_D A (WC cI cF h0 qy (sRes a x y v) jcy jsy jvy ky (capOf (nn ((sRes a x y v) 0 4)))) := hDy.weaken (fun kk qq _ h => hFc qq.1 h)
    generalize H1 = H at hP hS ⊢
    refine lv_goto (tgt := 18) hx hb dL_setReserve_7 (by decide) ?_
    refine lv_iconst (v := 0) hx hb dL_setReserve_18 (by decide) ?_
    refine W.widen (k := 3) (n := 18) (Nat.le_of_eq (Nat.zero_add _)) (Nat.le_of_eq (Nat.zero_add _)) ?_
    have hP9 := hP
    have hD9 := hD
    have hK9 := hK
    exact W.iret (v := 0) hx hb hr (fun t ht hW => ⟨⟨0, (), rfl, (by rw [hw]; rfl), atC_y hw hCy (atW_end hP9 hD9 hK9 ht hW)⟩, hS.F ht⟩) hS.2.2 dL_setReserve_19
theorem kShr_r (kd th : Int32) : kShr kd th = 0 ∨ kShr kd th = 1 ∨ kShr kd th = 2 := by
  unfold kShr
  repeat' split
  all_goals decide
set_option maxHeartbeats 4000000 in
set_option maxRecDepth 100000 in
theorem c_L_setShare (l : Launch) (dC : Nat → ClassId) (dI : Nat → Nat → Nat) (cI cF cL : ClassId) (h0 qo : Nat) (q : Nat → Nat) (sz : Nat) (a : yA) (jc js jv : Nat → Int32) (k : Nat) (fo : Nat → Int64) (hst : l.stackTraces = false) (hC : okC a jc js jv k) (hB : okB a) (kd th : Int32) : Met l yL_setShare wsL_setShare ({ frames := 8, cells := 2, slots := 12, locals := 135 } : Room) (va_Pc [.ref h0, .int kd, .int th, .ref qo] (pcH dC dI [(cI, .int), (cF, .float), (cL, .long)] (WL cI cF cL h0 q a jc js jv k (capOf (nn (a 0 4))) qo fo) sz)) (va_Qi (fun (r : Int32) (g : Nat → Int64) => r = nI (kShr kd th) ∧ (kShr kd th = 0 → g 0 = (shB (nn th)).toInt64)) (fun g t => atL dC dI cI cF cL (va_A (WL cI cF cL h0 q a jc js jv k (capOf (nn (a 0 4))) qo fo) sz) h0 qo (if kShr kd th = 0 then sShr a kd th else a) g t) (va_A (WL cI cF cL h0 q a jc js jv k (capOf (nn (a 0 4))) qo fo) sz)) (2) (12) (va_A (WL cI cF cL h0 q a jc js jv k (capOf (nn (a 0 4))) qo fo) sz) := by
  refine va_MetW (cc := cL_setShare) (maxL := 5) (ret := (some .int)) (hh := [(0, 10, 13, 13), (0, 10, 17, 21)]) (by decide) rfl ?_
  intro p e s m args below meth c s₁ B hml hv
  obtain ⟨rfl, ⟨⟨hsz, hP, hK, hD0⟩, hV⟩, hN⟩ := hv
  have hx := B.exec
  have hb := B.bytes
  have hr := B.returns
  have hts := atoms_spec (ws := wsL_setShare) B.pre
  have hown : s.vm.findClass RL = some m.cls := findClass_of_methodNamed B.named
  have hlocks := B.notSynchronized
  subst hsz
  have hD := hD0.self (sz := s.heap.size)
  generalize hAe : va_A [(h0, .inr (4, [.ref (q 1), .ref (q 10), .ref (q 18), .ref (q 22), .ref (q 26), .int (a 0 2), .int (a 0 1), .int (a 0 5), .int (a 0 6), .int (a 0 7), .int (a 0 8)])), (q 1, .inr (3, [.ref (q 2), .ref (q 3), .ref (q 4), .ref (q 5), .ref (q 6), .ref (q 7), .ref (q 8), .ref (q 9), .int (a 0 0)])), (q 2, .inl (cI, 8, .inl (a 1))), (q 3, .inl (cI, 8, .inl (a 2))), (q 4, .inl (cI, 8, .inl (a 3))), (q 5, .inl (cI, 8, .inl (a 4))), (q 6, .inl (cI, 8, .inl (a 5))), (q 7, .inl (cI, 8, .inl (a 6))), (q 8, .inl (cI, 8, .inl (a 7))), (q 9, .inl (cI, 8, .inl (a 8))), (q 10, .inr (2, [.ref (q 11), .ref (q 12), .ref (q 13), .ref (q 14), .ref (q 15), .ref (q 16), .ref (q 17), .int (a 0 3)])), (q 11, .inl (cI, 100, .inl (a 10))), (q 12, .inl (cF, 100, .inr (.inr (.inl (fun j => shF (a 13 j)))))), (q 13, .inl (cI, 100, .inl (a 14))), (q 14, .inl (cI, 100, .inl (fun j => a 11 j - a 12 j))), (q 15, .inl (cI, 100, .inl (fun j => a 15 j - a 16 j))), (q 16, .inl (cI, 100, .inl (a 17))), (q 17, .inl (cI, 100, .inl (a 18))), (q 18, .inr (1, [.ref (q 19), .ref (q 20), .ref (q 21), .int (a 0 4)])), (q 19, .inl (cI, capOf (nn (a 0 4)), .inl (a 20))), (q 20, .inl (cI, capOf (nn (a 0 4)), .inl (a 19))), (q 21, .inl (cI, capOf (nn (a 0 4)), .inl (a 21))), (q 22, .inr (0, [.ref (q 23), .ref (q 24), .ref (q 25), .int (nI k)])), (q 23, .inl (cI, 8, .inl (jc))), (q 24, .inl (cI, 256, .inl (js))), (q 25, .inl (cI, 256, .inl (jv))), (q 26, .inl (cF, 4, .inr (.inr (.inl (fun j => shF (a 9 j)))))), (qo, .inl (cL, 1, .inr (.inl (fo))))] s.heap.size = A at hD hV ⊢
  have hA : ∀ q : Nat, s.heap.size ≤ q → A q := fun q h => by rw [← hAe]; exact Or.inr h
  have hS : va_S A s.heap s.heap [] := va_S.rf
  have hl := lv_entry ([.ref h0, .int kd, .int th, .ref qo]) (n := 5) (Nat.le_of_ble_eq_true rfl)
  rw [lg_entry_eq]
  generalize (lg_sl ([.ref h0, .int kd, .int th, .ref qo]) ++ List.replicate (5 - (lg_sl ([.ref h0, .int kd, .int th, .ref qo])).length) Slot.unset).toArray = ls at hl ⊢
  have hl : lv_has ls 5 [(0, .ref h0), (1, .int kd), (2, .int th), (3, .ref qo)] := hl
  have hP : va_P (dC, dI) vwCl [(h0, .inr (4, [.ref (q 1), .ref (q 10), .ref (q 18), .ref (q 22), .ref (q 26), .int (a 0 2), .int (a 0 1), .int (a 0 5), .int (a 0 6), .int (a 0 7), .int (a 0 8)])), (q 1, .inr (3, [.ref (q 2), .ref (q 3), .ref (q 4), .ref (q 5), .ref (q 6), .ref (q 7), .ref (q 8), .ref (q 9), .int (a 0 0)])), (q 2, .inl (cI, 8, .inl (a 1))), (q 3, .inl (cI, 8, .inl (a 2))), (q 4, .inl (cI, 8, .inl (a 3))), (q 5, .inl (cI, 8, .inl (a 4))), (q 6, .inl (cI, 8, .inl (a 5))), (q 7, .inl (cI, 8, .inl (a 6))), (q 8, .inl (cI, 8, .inl (a 7))), (q 9, .inl (cI, 8, .inl (a 8))), (q 10, .inr (2, [.ref (q 11), .ref (q 12), .ref (q 13), .ref (q 14), .ref (q 15), .ref (q 16), .ref (q 17), .int (a 0 3)])), (q 11, .inl (cI, 100, .inl (a 10))), (q 12, .inl (cF, 100, .inr (.inr (.inl (fun j => shF (a 13 j)))))), (q 13, .inl (cI, 100, .inl (a 14))), (q 14, .inl (cI, 100, .inl (fun j => a 11 j - a 12 j))), (q 15, .inl (cI, 100, .inl (fun j => a 15 j - a 16 j))), (q 16, .inl (cI, 100, .inl (a 17))), (q 17, .inl (cI, 100, .inl (a 18))), (q 18, .inr (1, [.ref (q 19), .ref (q 20), .ref (q 21), .int (a 0 4)])), (q 19, .inl (cI, capOf (nn (a 0 4)), .inl (a 20))), (q 20, .inl (cI, capOf (nn (a 0 4)), .inl (a 19))), (q 21, .inl (cI, capOf (nn (a 0 4)), .inl (a 21))), (q 22, .inr (0, [.ref (q 23), .ref (q 24), .ref (q 25), .int (nI k)])), (q 23, .inl (cI, 8, .inl (jc))), (q 24, .inl (cI, 256, .inl (js))), (q 25, .inl (cI, 256, .inl (jv))), (q 26, .inl (cF, 4, .inr (.inr (.inl (fun j => shF (a 9 j)))))), (qo, .inl (cL, 1, .inr (.inl (fo))))] s.heap := hP
  refine y_enter (A := A) hP (fun H hP hS => ?_)
  have htab := vx_table (x := yL_setShare) B (hts (.codeWith yL_setShare cL_setShare 5 (some .int) [(0, 10, 13, 13), (0, 10, 17, 21)]) List.mem_cons_self)
  refine lv_aload_n hx hb dL_setShare_0 rfl (lv_at hl 3 rfl) ?_
  refine lv_iconst (v := 0) hx hb dL_setShare_1 (by decide) ?_
  refine lv_aload_n hx hb dL_setShare_2 rfl (lv_at hl 0 rfl) ?_
  refine lv_iload_n hx hb dL_setShare_3 rfl (lv_at hl 1 rfl) ?_
  refine lv_iload_n hx hb dL_setShare_4 rfl (lv_at hl 2 rfl) ?_
  have hP : va_P (dC, dI) vwCl (WL cI cF cL h0 q a jc js jv k (capOf (nn (a 0 4))) qo fo) H := hP
  have hD : va_D A (WL cI cF cL h0 q a jc js jv k (capOf (nn (a 0 4))) qo fo) := hD
  have hPc := hP.sub (ws' := WC cI cF h0 q a jc js jv k (capOf (nn (a 0 4)))) [0, 1, 2, 3, 4, 5, 6, 7, 8, 9, 10, 11, 12, 13, 14, 15, 16, 17, 18, 19, 20, 21, 22, 23, 24, 25, 26] rfl
  have hDc := hD.sub (ws' := WC cI cF h0 q a jc js jv k (capOf (nn (a 0 4)))) [0, 1, 2, 3, 4, 5, 6, 7, 8, 9, 10, 11, 12, 13, 14, 15, 16, 17, 18, 19, 20, 21, 22, 23, 24, 25, 26] (by decide) rfl
  have hFc := va_free (wc := WC cI cF h0 q a jc js jv k (capOf (nn (a 0 4)))) hD hS hA [0, 1, 2, 3, 4, 5, 6, 7, 8, 9, 10, 11, 12, 13, 14, 15, 16, 17, 18, 19, 20, 21, 22, 23, 24, 25, 26] rfl
  have hKc := hK.sub (tys' := [(cI, .int), (cF, .float)]) [0, 1] rfl
  refine vx_calli (vx_runV (As := [.int kd, .int th]) (rest := [.int 0, .ref qo]) ⟨hx, hb, hml, hown, hts⟩ (c_X4_setShare l dC dI cI cF h0 q H.size a jc js jv k hst hC hB kd th) (cwV 2 hts gL_setShare_X4_setShare rfl rfl rfl (by decide +kernel) ⟨Nat.le_of_ble_eq_true rfl, Nat.le_of_ble_eq_true rfl⟩) ⟨pcV_blind, va_recv hKc hPc (ci := 4) (q0 := 0) rfl rfl, fun U hU hW => pcV_pre hPc hDc hKc hV hS hFc hU hW⟩ rfl rfl hl.1 rfl (lv_room (Nat.le_of_ble_eq_true rfl)) dL_setShare_5 ⟨Nat.le_of_eq (Nat.zero_add _), Nat.le_of_eq (Nat.zero_add _)⟩) hS (fun q _ h => hFc q h) hFc (fun q _ h => hFc q h) (fun E ce q9 u t H1 locs ht hvm hw hBx hz1 hk1 hS hce hcv hcl => ?_) (fun r u t H1 locs ht hvm hw hB1 hz1 hk1 hS => ?_)
  · obtain ⟨hE, qx, jcx, jsx, jvx, kx, hCx, hPx, hKx, hDx⟩ := hBx
    rw [ht] at hPx
    obtain ⟨hP, hD⟩ := va_join (wr := [(qo, .inl (cL, 1, .inr (.inl fo)))]) (w1 := WC cI cF h0 qx a jcx jsx jvx kx (capOf (nn (a 0 4)))) hP hD [0, 1, 2, 3, 4, 5, 6, 7, 8, 9, 10, 11, 12, 13, 14, 15, 16, 17, 18, 19, 20, 21, 22, 23, 24, 25, 26] [27] rfl rfl (by decide) (by decide) hk1 hFc hPx hDx
    have hP := hP.sub (ws' := WL cI cF cL h0 qx a jcx jsx jvx kx (capOf (nn (a 0 4))) qo fo) [1, 2, 3, 4, 5, 6, 7, 8, 9, 10, 11, 12, 13, 14, 15, 16, 17, 18, 19, 20, 21, 22, 23, 24, 25, 26, 27, 0] rfl
    have hD := hD.sub (ws' := WL cI cF cL h0 qx a jcx jsx jvx kx (capOf (nn (a 0 4))) qo fo) [1, 2, 3, 4, 5, 6, 7, 8, 9, 10, 11, 12, 13, 14, 15, 16, 17, 18, 19, 20, 21, 22, 23, 24, 25, 26, 27, 0] (by decide) rfl
    generalize H1 = H at hP hS hce ⊢
    rcases kShr_r kd th with h9 | h9 | h9
    · exact absurd h9 hw
    · have hE2 : E = exI := hE.trans (by rw [h9]; rfl)
      subst hE2
      refine vx_catch (name := exI) hown [] ⟨0, 10, 13, 13⟩ [⟨0, 10, 17, 21⟩] htab (fun z9 h8 => absurd h8 List.not_mem_nil) rfl (by decide) (hts (.classLink RL 13 "java/lang/IndexOutOfBoundsException") (List.mem_of_getElem? (i := 1) rfl)) (okV_use hV _ (by simp [vB])) hce hcv hcl ?_
      refine lv_astore (lv' := [(4, .ref q9), (0, .ref h0), (1, .int kd), (2, .int th), (3, .ref qo)]) hx hb dL_setShare_13 hl (by decide) rfl (fun ls hl => ?_)
      refine lv_iconst (v := 1) hx hb dL_setShare_15 (by decide) ?_
      refine W.widen (k := 2) (n := 12) (Nat.le_of_eq (Nat.zero_add _)) (Nat.le_of_eq (Nat.zero_add _)) ?_
      have hP9 := hP
      have hD9 := hD
      have hK9 := hK
      exact W.iret (v := 1) hx hb hr (fun t ht hW => ⟨⟨1, fo, rfl, ⟨by rw [h9]; rfl, fun h8 => absurd (h9.symm.trans h8) (by decide)⟩, atL_n (fun h8 => absurd (h9.symm.trans h8) (by decide)) hCx (atW_end hP9 hD9 hK9 ht hW)⟩, hS.F ht⟩) hS.2.2 dL_setShare_16
    · have hE2 : E = exA := hE.trans (by rw [h9]; rfl)
      subst hE2
      refine vx_catch (name := exA) hown [⟨0, 10, 13, 13⟩] ⟨0, 10, 17, 21⟩ [] htab (List.forall_mem_cons.mpr ⟨Or.inr ⟨by decide, exI, (hts (.classLink RL 13 "java/lang/IndexOutOfBoundsException") (List.mem_of_getElem? (i := 1) rfl)), hN.1⟩, fun z9 h8 => absurd h8 List.not_mem_nil⟩) rfl (by decide) (hts (.classLink RL 21 "java/lang/IllegalArgumentException") (List.mem_of_getElem? (i := 2) rfl)) (okV_use hV _ (by simp [vB])) hce hcv hcl ?_
      refine lv_astore (lv' := [(4, .ref q9), (0, .ref h0), (1, .int kd), (2, .int th), (3, .ref qo)]) hx hb dL_setShare_17 hl (by decide) rfl (fun ls hl => ?_)
      refine lv_iconst (v := 2) hx hb dL_setShare_19 (by decide) ?_
      refine W.widen (k := 2) (n := 12) (Nat.le_of_eq (Nat.zero_add _)) (Nat.le_of_eq (Nat.zero_add _)) ?_
      have hP9 := hP
      have hD9 := hD
      have hK9 := hK
      exact W.iret (v := 2) hx hb hr (fun t ht hW => ⟨⟨2, fo, rfl, ⟨by rw [h9]; rfl, fun h8 => absurd (h9.symm.trans h8) (by decide)⟩, atL_n (fun h8 => absurd (h9.symm.trans h8) (by decide)) hCx (atW_end hP9 hD9 hK9 ht hW)⟩, hS.F ht⟩) hS.2.2 dL_setShare_20
  · obtain ⟨qy, jcy, jsy, jvy, ky, hCy, hPy, hKy, hDy⟩ := hB1
    rw [ht] at hPy
    obtain ⟨hP, hD⟩ := va_join (wr := [(qo, .inl (cL, 1, .inr (.inl fo)))]) (w1 := WC cI cF h0 qy (sShr a kd th) jcy jsy jvy ky (capOf (nn ((sShr a kd th) 0 4)))) hP hD [0, 1, 2, 3, 4, 5, 6, 7, 8, 9, 10, 11, 12, 13, 14, 15, 16, 17, 18, 19, 20, 21, 22, 23, 24, 25, 26] [27] rfl rfl (by decide) (by decide) hk1 hFc hPy hDy
    have hP := hP.sub (ws' := WL cI cF cL h0 qy (sShr a kd th) jcy jsy jvy ky (capOf (nn ((sShr a kd th) 0 4))) qo fo) [1, 2, 3, 4, 5, 6, 7, 8, 9, 10, 11, 12, 13, 14, 15, 16, 17, 18, 19, 20, 21, 22, 23, 24, 25, 26, 27, 0] rfl
    have hD := hD.sub (ws' := WL cI cF cL h0 qy (sShr a kd th) jcy jsy jvy ky (capOf (nn ((sShr a kd th) 0 4))) qo fo) [1, 2, 3, 4, 5, 6, 7, 8, 9, 10, 11, 12, 13, 14, 15, 16, 17, 18, 19, 20, 21, 22, 23, 24, 25, 26, 27, 0] (by decide) rfl
    generalize H1 = H at hP hS ⊢
    refine lv_i2l (v := (r).toInt64) hx hb dL_setShare_8 rfl ?_
    refine y_lst hx hb hK hP hD hS 27 2 rfl rfl dL_setShare_9 (fun H locs hP hD hS => ?_)
    have hP : va_P (dC, dI) vwCl (WL cI cF cL h0 qy (sShr a kd th) jcy jsy jvy ky (capOf (nn ((sShr a kd th) 0 4))) qo (vp_updL fo 0 (r).toInt64)) H := hP
    have hD : va_D A (WL cI cF cL h0 qy (sShr a kd th) jcy jsy jvy ky (capOf (nn ((sShr a kd th) 0 4))) qo (vp_updL fo 0 (r).toInt64)) := hD
    refine lv_goto (tgt := 21) hx hb dL_setShare_10 (by decide) ?_
    refine lv_iconst (v := 0) hx hb dL_setShare_21 (by decide) ?_
    refine W.widen (k := 2) (n := 12) (Nat.le_of_eq (Nat.zero_add _)) (Nat.le_of_eq (Nat.zero_add _)) ?_
    have hP9 := hP
    have hD9 := hD
    have hK9 := hK
    exact W.iret (v := 0) hx hb hr (fun t ht hW => ⟨⟨0, (vp_updL fo 0 (r).toInt64), rfl, ⟨by rw [hw.1]; rfl, fun _ => by rw [updL_0, hw.2]⟩, atL_y hw.1 hCy (atW_end hP9 hD9 hK9 ht hW)⟩, hS.F ht⟩) hS.2.2 dL_setShare_22
theorem kTax_r (th : Int32) : kTax th = 0 ∨ kTax th = 1 := by
  unfold kTax
  repeat' split
  all_goals decide
set_option maxHeartbeats 4000000 in
set_option maxRecDepth 100000 in
theorem c_L_setTax (l : Launch) (dC : Nat → ClassId) (dI : Nat → Nat → Nat) (cI cF cL : ClassId) (h0 qo : Nat) (q : Nat → Nat) (sz : Nat) (a : yA) (jc js jv : Nat → Int32) (k : Nat) (fo : Nat → Int64) (hst : l.stackTraces = false) (hC : okC a jc js jv k) (hB : okB a) (th : Int32) : Met l yL_setTax wsL_setTax ({ frames := 8, cells := 1, slots := 6, locals := 134 } : Room) (va_Pc [.ref h0, .int th, .ref qo] (pcH dC dI [(cI, .int), (cF, .float), (cL, .long)] (WL cI cF cL h0 q a jc js jv k (capOf (nn (a 0 4))) qo fo) sz)) (va_Qi (fun (r : Int32) (g : Nat → Int64) => r = nI (kTax th) ∧ (kTax th = 0 → g 0 = (a 0 2).toInt64)) (fun g t => atL dC dI cI cF cL (va_A (WL cI cF cL h0 q a jc js jv k (capOf (nn (a 0 4))) qo fo) sz) h0 qo (if kTax th = 0 then sTaxS a th else a) g t) (va_A (WL cI cF cL h0 q a jc js jv k (capOf (nn (a 0 4))) qo fo) sz)) (1) (6) (va_A (WL cI cF cL h0 q a jc js jv k (capOf (nn (a 0 4))) qo fo) sz) := by
  refine va_MetW (cc := cL_setTax) (maxL := 4) (ret := (some .int)) (hh := [(0, 9, 12, 21)]) (by decide) rfl ?_
  intro p e s m args below meth c s₁ B hml hv
  obtain ⟨rfl, ⟨⟨hsz, hP, hK, hD0⟩, hV⟩, hN⟩ := hv
  have hx := B.exec
  have hb := B.bytes
  have hr := B.returns
  have hts := atoms_spec (ws := wsL_setTax) B.pre
  have hown : s.vm.findClass RL = some m.cls := findClass_of_methodNamed B.named
  have hlocks := B.notSynchronized
  subst hsz
  have hD := hD0.self (sz := s.heap.size)
  generalize hAe : va_A [(h0, .inr (4, [.ref (q 1), .ref (q 10), .ref (q 18), .ref (q 22), .ref (q 26), .int (a 0 2), .int (a 0 1), .int (a 0 5), .int (a 0 6), .int (a 0 7), .int (a 0 8)])), (q 1, .inr (3, [.ref (q 2), .ref (q 3), .ref (q 4), .ref (q 5), .ref (q 6), .ref (q 7), .ref (q 8), .ref (q 9), .int (a 0 0)])), (q 2, .inl (cI, 8, .inl (a 1))), (q 3, .inl (cI, 8, .inl (a 2))), (q 4, .inl (cI, 8, .inl (a 3))), (q 5, .inl (cI, 8, .inl (a 4))), (q 6, .inl (cI, 8, .inl (a 5))), (q 7, .inl (cI, 8, .inl (a 6))), (q 8, .inl (cI, 8, .inl (a 7))), (q 9, .inl (cI, 8, .inl (a 8))), (q 10, .inr (2, [.ref (q 11), .ref (q 12), .ref (q 13), .ref (q 14), .ref (q 15), .ref (q 16), .ref (q 17), .int (a 0 3)])), (q 11, .inl (cI, 100, .inl (a 10))), (q 12, .inl (cF, 100, .inr (.inr (.inl (fun j => shF (a 13 j)))))), (q 13, .inl (cI, 100, .inl (a 14))), (q 14, .inl (cI, 100, .inl (fun j => a 11 j - a 12 j))), (q 15, .inl (cI, 100, .inl (fun j => a 15 j - a 16 j))), (q 16, .inl (cI, 100, .inl (a 17))), (q 17, .inl (cI, 100, .inl (a 18))), (q 18, .inr (1, [.ref (q 19), .ref (q 20), .ref (q 21), .int (a 0 4)])), (q 19, .inl (cI, capOf (nn (a 0 4)), .inl (a 20))), (q 20, .inl (cI, capOf (nn (a 0 4)), .inl (a 19))), (q 21, .inl (cI, capOf (nn (a 0 4)), .inl (a 21))), (q 22, .inr (0, [.ref (q 23), .ref (q 24), .ref (q 25), .int (nI k)])), (q 23, .inl (cI, 8, .inl (jc))), (q 24, .inl (cI, 256, .inl (js))), (q 25, .inl (cI, 256, .inl (jv))), (q 26, .inl (cF, 4, .inr (.inr (.inl (fun j => shF (a 9 j)))))), (qo, .inl (cL, 1, .inr (.inl (fo))))] s.heap.size = A at hD hV ⊢
  have hA : ∀ q : Nat, s.heap.size ≤ q → A q := fun q h => by rw [← hAe]; exact Or.inr h
  have hS : va_S A s.heap s.heap [] := va_S.rf
  have hl := lv_entry ([.ref h0, .int th, .ref qo]) (n := 4) (Nat.le_of_ble_eq_true rfl)
  rw [lg_entry_eq]
  generalize (lg_sl ([.ref h0, .int th, .ref qo]) ++ List.replicate (4 - (lg_sl ([.ref h0, .int th, .ref qo])).length) Slot.unset).toArray = ls at hl ⊢
  have hl : lv_has ls 4 [(0, .ref h0), (1, .int th), (2, .ref qo)] := hl
  have hP : va_P (dC, dI) vwCl [(h0, .inr (4, [.ref (q 1), .ref (q 10), .ref (q 18), .ref (q 22), .ref (q 26), .int (a 0 2), .int (a 0 1), .int (a 0 5), .int (a 0 6), .int (a 0 7), .int (a 0 8)])), (q 1, .inr (3, [.ref (q 2), .ref (q 3), .ref (q 4), .ref (q 5), .ref (q 6), .ref (q 7), .ref (q 8), .ref (q 9), .int (a 0 0)])), (q 2, .inl (cI, 8, .inl (a 1))), (q 3, .inl (cI, 8, .inl (a 2))), (q 4, .inl (cI, 8, .inl (a 3))), (q 5, .inl (cI, 8, .inl (a 4))), (q 6, .inl (cI, 8, .inl (a 5))), (q 7, .inl (cI, 8, .inl (a 6))), (q 8, .inl (cI, 8, .inl (a 7))), (q 9, .inl (cI, 8, .inl (a 8))), (q 10, .inr (2, [.ref (q 11), .ref (q 12), .ref (q 13), .ref (q 14), .ref (q 15), .ref (q 16), .ref (q 17), .int (a 0 3)])), (q 11, .inl (cI, 100, .inl (a 10))), (q 12, .inl (cF, 100, .inr (.inr (.inl (fun j => shF (a 13 j)))))), (q 13, .inl (cI, 100, .inl (a 14))), (q 14, .inl (cI, 100, .inl (fun j => a 11 j - a 12 j))), (q 15, .inl (cI, 100, .inl (fun j => a 15 j - a 16 j))), (q 16, .inl (cI, 100, .inl (a 17))), (q 17, .inl (cI, 100, .inl (a 18))), (q 18, .inr (1, [.ref (q 19), .ref (q 20), .ref (q 21), .int (a 0 4)])), (q 19, .inl (cI, capOf (nn (a 0 4)), .inl (a 20))), (q 20, .inl (cI, capOf (nn (a 0 4)), .inl (a 19))), (q 21, .inl (cI, capOf (nn (a 0 4)), .inl (a 21))), (q 22, .inr (0, [.ref (q 23), .ref (q 24), .ref (q 25), .int (nI k)])), (q 23, .inl (cI, 8, .inl (jc))), (q 24, .inl (cI, 256, .inl (js))), (q 25, .inl (cI, 256, .inl (jv))), (q 26, .inl (cF, 4, .inr (.inr (.inl (fun j => shF (a 9 j)))))), (qo, .inl (cL, 1, .inr (.inl (fo))))] s.heap := hP
  refine y_enter (A := A) hP (fun H hP hS => ?_)
  have htab := vx_table (x := yL_setTax) B (hts (.codeWith yL_setTax cL_setTax 4 (some .int) [(0, 9, 12, 21)]) List.mem_cons_self)
  refine lv_aload_n hx hb dL_setTax_0 rfl (lv_at hl 2 rfl) ?_
  refine lv_iconst (v := 0) hx hb dL_setTax_1 (by decide) ?_
  refine lv_aload_n hx hb dL_setTax_2 rfl (lv_at hl 0 rfl) ?_
  refine lv_iload_n hx hb dL_setTax_3 rfl (lv_at hl 1 rfl) ?_
  have hP : va_P (dC, dI) vwCl (WL cI cF cL h0 q a jc js jv k (capOf (nn (a 0 4))) qo fo) H := hP
  have hD : va_D A (WL cI cF cL h0 q a jc js jv k (capOf (nn (a 0 4))) qo fo) := hD
  have hPc := hP.sub (ws' := WC cI cF h0 q a jc js jv k (capOf (nn (a 0 4)))) [0, 1, 2, 3, 4, 5, 6, 7, 8, 9, 10, 11, 12, 13, 14, 15, 16, 17, 18, 19, 20, 21, 22, 23, 24, 25, 26] rfl
  have hDc := hD.sub (ws' := WC cI cF h0 q a jc js jv k (capOf (nn (a 0 4)))) [0, 1, 2, 3, 4, 5, 6, 7, 8, 9, 10, 11, 12, 13, 14, 15, 16, 17, 18, 19, 20, 21, 22, 23, 24, 25, 26] (by decide) rfl
  have hFc := va_free (wc := WC cI cF h0 q a jc js jv k (capOf (nn (a 0 4)))) hD hS hA [0, 1, 2, 3, 4, 5, 6, 7, 8, 9, 10, 11, 12, 13, 14, 15, 16, 17, 18, 19, 20, 21, 22, 23, 24, 25, 26] rfl
  have hKc := hK.sub (tys' := [(cI, .int), (cF, .float)]) [0, 1] rfl
  refine vx_calli (vx_runV (As := [.int th]) (rest := [.int 0, .ref qo]) ⟨hx, hb, hml, hown, hts⟩ (c_X4_setTax l dC dI cI cF h0 q H.size a jc js jv k hst hC hB th) (cwV 1 hts gL_setTax_X4_setTax rfl rfl rfl (by decide +kernel) ⟨Nat.le_of_ble_eq_true rfl, Nat.le_of_ble_eq_true rfl⟩) ⟨pcV_blind, va_recv hKc hPc (ci := 4) (q0 := 0) rfl rfl, fun U hU hW => pcV_pre hPc hDc hKc hV hS hFc hU hW⟩ rfl rfl hl.1 rfl (lv_room (Nat.le_of_ble_eq_true rfl)) dL_setTax_4 ⟨Nat.le_of_eq (Nat.zero_add _), Nat.le_of_eq (Nat.zero_add _)⟩) hS (fun q _ h => hFc q h) hFc (fun q _ h => hFc q h) (fun E ce q9 u t H1 locs ht hvm hw hBx hz1 hk1 hS hce hcv hcl => ?_) (fun r u t H1 locs ht hvm hw hB1 hz1 hk1 hS => ?_)
  · obtain ⟨hE, qx, jcx, jsx, jvx, kx, hCx, hPx, hKx, hDx⟩ := hBx
    rw [ht] at hPx
    obtain ⟨hP, hD⟩ := va_join (wr := [(qo, .inl (cL, 1, .inr (.inl fo)))]) (w1 := WC cI cF h0 qx a jcx jsx jvx kx (capOf (nn (a 0 4)))) hP hD [0, 1, 2, 3, 4, 5, 6, 7, 8, 9, 10, 11, 12, 13, 14, 15, 16, 17, 18, 19, 20, 21, 22, 23, 24, 25, 26] [27] rfl rfl (by decide) (by decide) hk1 hFc hPx hDx
    have hP := hP.sub (ws' := WL cI cF cL h0 qx a jcx jsx jvx kx (capOf (nn (a 0 4))) qo fo) [1, 2, 3, 4, 5, 6, 7, 8, 9, 10, 11, 12, 13, 14, 15, 16, 17, 18, 19, 20, 21, 22, 23, 24, 25, 26, 27, 0] rfl
    have hD := hD.sub (ws' := WL cI cF cL h0 qx a jcx jsx jvx kx (capOf (nn (a 0 4))) qo fo) [1, 2, 3, 4, 5, 6, 7, 8, 9, 10, 11, 12, 13, 14, 15, 16, 17, 18, 19, 20, 21, 22, 23, 24, 25, 26, 27, 0] (by decide) rfl
    generalize H1 = H at hP hS hce ⊢
    rcases kTax_r th with h9 | h9
    · exact absurd h9 hw
    · have hE2 : E = exA := hE.trans (by rw [h9]; rfl)
      subst hE2
      refine vx_catch (name := exA) hown [] ⟨0, 9, 12, 21⟩ [] htab (fun z9 h8 => absurd h8 List.not_mem_nil) rfl (by decide) (hts (.classLink RL 21 "java/lang/IllegalArgumentException") (List.mem_of_getElem? (i := 1) rfl)) (okV_use hV _ (by simp [vB])) hce hcv hcl ?_
      refine lv_astore_n (lv' := [(3, .ref q9), (0, .ref h0), (1, .int th), (2, .ref qo)]) hx hb dL_setTax_12 rfl hl (by decide) rfl (fun ls hl => ?_)
      refine lv_iconst (v := 1) hx hb dL_setTax_13 (by decide) ?_
      refine W.widen (k := 1) (n := 6) (Nat.le_of_eq (Nat.zero_add _)) (Nat.le_of_eq (Nat.zero_add _)) ?_
      have hP9 := hP
      have hD9 := hD
      have hK9 := hK
      exact W.iret (v := 1) hx hb hr (fun t ht hW => ⟨⟨1, fo, rfl, ⟨by rw [h9]; rfl, fun h8 => absurd (h9.symm.trans h8) (by decide)⟩, atL_n (fun h8 => absurd (h9.symm.trans h8) (by decide)) hCx (atW_end hP9 hD9 hK9 ht hW)⟩, hS.F ht⟩) hS.2.2 dL_setTax_14
  · obtain ⟨qy, jcy, jsy, jvy, ky, hCy, hPy, hKy, hDy⟩ := hB1
    rw [ht] at hPy
    obtain ⟨hP, hD⟩ := va_join (wr := [(qo, .inl (cL, 1, .inr (.inl fo)))]) (w1 := WC cI cF h0 qy (sTaxS a th) jcy jsy jvy ky (capOf (nn ((sTaxS a th) 0 4)))) hP hD [0, 1, 2, 3, 4, 5, 6, 7, 8, 9, 10, 11, 12, 13, 14, 15, 16, 17, 18, 19, 20, 21, 22, 23, 24, 25, 26] [27] rfl rfl (by decide) (by decide) hk1 hFc hPy hDy
    have hP := hP.sub (ws' := WL cI cF cL h0 qy (sTaxS a th) jcy jsy jvy ky (capOf (nn ((sTaxS a th) 0 4))) qo fo) [1, 2, 3, 4, 5, 6, 7, 8, 9, 10, 11, 12, 13, 14, 15, 16, 17, 18, 19, 20, 21, 22, 23, 24, 25, 26, 27, 0] rfl
    have hD := hD.sub (ws' := WL cI cF cL h0 qy (sTaxS a th) jcy jsy jvy ky (capOf (nn ((sTaxS a th) 0 4))) qo fo) [1, 2, 3, 4, 5, 6, 7, 8, 9, 10, 11, 12, 13, 14, 15, 16, 17, 18, 19, 20, 21, 22, 23, 24, 25, 26, 27, 0] (by decide) rfl
    generalize H1 = H at hP hS ⊢
    refine lv_i2l (v := (r).toInt64) hx hb dL_setTax_7 rfl ?_
    refine y_lst hx hb hK hP hD hS 27 2 rfl rfl dL_setTax_8 (fun H locs hP hD hS => ?_)
    have hP : va_P (dC, dI) vwCl (WL cI cF cL h0 qy (sTaxS a th) jcy jsy jvy ky (capOf (nn ((sTaxS a th) 0 4))) qo (vp_updL fo 0 (r).toInt64)) H := hP
    have hD : va_D A (WL cI cF cL h0 qy (sTaxS a th) jcy jsy jvy ky (capOf (nn ((sTaxS a th) 0 4))) qo (vp_updL fo 0 (r).toInt64)) := hD
    refine lv_goto (tgt := 15) hx hb dL_setTax_9 (by decide) ?_
    refine lv_iconst (v := 0) hx hb dL_setTax_15 (by decide) ?_
    refine W.widen (k := 1) (n := 6) (Nat.le_of_eq (Nat.zero_add _)) (Nat.le_of_eq (Nat.zero_add _)) ?_
    have hP9 := hP
    have hD9 := hD
    have hK9 := hK
    exact W.iret (v := 0) hx hb hr (fun t ht hW => ⟨⟨0, (vp_updL fo 0 (r).toInt64), rfl, ⟨by rw [hw.1]; rfl, fun _ => by rw [updL_0, hw.2]⟩, atL_y hw.1 hCy (atW_end hP9 hD9 hK9 ht hW)⟩, hS.F ht⟩) hS.2.2 dL_setTax_16
theorem kSell_r (a : yA) (x kd am : Int32) : kSell a x kd am = 0 ∨ kSell a x kd am = 1 ∨ kSell a x kd am = 2 ∨ kSell a x kd am = 3 := by
  unfold kSell
  repeat' split
  all_goals decide
set_option maxHeartbeats 4000000 in
set_option maxRecDepth 100000 in
theorem c_L_sell (l : Launch) (dC : Nat → ClassId) (dI : Nat → Nat → Nat) (cI cF cL : ClassId) (h0 qo : Nat) (q : Nat → Nat) (sz : Nat) (a : yA) (jc js jv : Nat → Int32) (k : Nat) (fo : Nat → Int64) (hst : l.stackTraces = false) (hC : okC a jc js jv k) (hB : okB a) (hY : okY a) (x kd am : Int32) : Met l yL_sell wsL_sell ({ frames := 8, cells := 4, slots := 24, locals := 135 } : Room) (va_Pc [.ref h0, .int x, .int kd, .int am, .ref qo] (pcH dC dI [(cI, .int), (cF, .float), (cL, .long)] (WL cI cF cL h0 q a jc js jv k (capOf (nn (a 0 4))) qo fo) sz)) (va_Qi (fun (r : Int32) (g : Nat → Int64) => r = nI (kSell a x kd am) ∧ (kSell a x kd am = 0 → g 0 = (a 0 3).toInt64)) (fun g t => atL dC dI cI cF cL (va_A (WL cI cF cL h0 q a jc js jv k (capOf (nn (a 0 4))) qo fo) sz) h0 qo (if kSell a x kd am = 0 then sSell a x kd am else a) g t) (va_A (WL cI cF cL h0 q a jc js jv k (capOf (nn (a 0 4))) qo fo) sz)) (4) (24) (va_A (WL cI cF cL h0 q a jc js jv k (capOf (nn (a 0 4))) qo fo) sz) := by
  refine va_MetW (cc := cL_sell) (maxL := 6) (ret := (some .int)) (hh := [(0, 12, 15, 13), (0, 12, 19, 21), (0, 12, 23, 15)]) (by decide) rfl ?_
  intro p e s m args below meth c s₁ B hml hv
  obtain ⟨rfl, ⟨⟨hsz, hP, hK, hD0⟩, hV⟩, hN⟩ := hv
  have hx := B.exec
  have hb := B.bytes
  have hr := B.returns
  have hts := atoms_spec (ws := wsL_sell) B.pre
  have hown : s.vm.findClass RL = some m.cls := findClass_of_methodNamed B.named
  have hlocks := B.notSynchronized
  subst hsz
  have hD := hD0.self (sz := s.heap.size)
  generalize hAe : va_A [(h0, .inr (4, [.ref (q 1), .ref (q 10), .ref (q 18), .ref (q 22), .ref (q 26), .int (a 0 2), .int (a 0 1), .int (a 0 5), .int (a 0 6), .int (a 0 7), .int (a 0 8)])), (q 1, .inr (3, [.ref (q 2), .ref (q 3), .ref (q 4), .ref (q 5), .ref (q 6), .ref (q 7), .ref (q 8), .ref (q 9), .int (a 0 0)])), (q 2, .inl (cI, 8, .inl (a 1))), (q 3, .inl (cI, 8, .inl (a 2))), (q 4, .inl (cI, 8, .inl (a 3))), (q 5, .inl (cI, 8, .inl (a 4))), (q 6, .inl (cI, 8, .inl (a 5))), (q 7, .inl (cI, 8, .inl (a 6))), (q 8, .inl (cI, 8, .inl (a 7))), (q 9, .inl (cI, 8, .inl (a 8))), (q 10, .inr (2, [.ref (q 11), .ref (q 12), .ref (q 13), .ref (q 14), .ref (q 15), .ref (q 16), .ref (q 17), .int (a 0 3)])), (q 11, .inl (cI, 100, .inl (a 10))), (q 12, .inl (cF, 100, .inr (.inr (.inl (fun j => shF (a 13 j)))))), (q 13, .inl (cI, 100, .inl (a 14))), (q 14, .inl (cI, 100, .inl (fun j => a 11 j - a 12 j))), (q 15, .inl (cI, 100, .inl (fun j => a 15 j - a 16 j))), (q 16, .inl (cI, 100, .inl (a 17))), (q 17, .inl (cI, 100, .inl (a 18))), (q 18, .inr (1, [.ref (q 19), .ref (q 20), .ref (q 21), .int (a 0 4)])), (q 19, .inl (cI, capOf (nn (a 0 4)), .inl (a 20))), (q 20, .inl (cI, capOf (nn (a 0 4)), .inl (a 19))), (q 21, .inl (cI, capOf (nn (a 0 4)), .inl (a 21))), (q 22, .inr (0, [.ref (q 23), .ref (q 24), .ref (q 25), .int (nI k)])), (q 23, .inl (cI, 8, .inl (jc))), (q 24, .inl (cI, 256, .inl (js))), (q 25, .inl (cI, 256, .inl (jv))), (q 26, .inl (cF, 4, .inr (.inr (.inl (fun j => shF (a 9 j)))))), (qo, .inl (cL, 1, .inr (.inl (fo))))] s.heap.size = A at hD hV ⊢
  have hA : ∀ q : Nat, s.heap.size ≤ q → A q := fun q h => by rw [← hAe]; exact Or.inr h
  have hS : va_S A s.heap s.heap [] := va_S.rf
  have hl := lv_entry ([.ref h0, .int x, .int kd, .int am, .ref qo]) (n := 6) (Nat.le_of_ble_eq_true rfl)
  rw [lg_entry_eq]
  generalize (lg_sl ([.ref h0, .int x, .int kd, .int am, .ref qo]) ++ List.replicate (6 - (lg_sl ([.ref h0, .int x, .int kd, .int am, .ref qo])).length) Slot.unset).toArray = ls at hl ⊢
  have hl : lv_has ls 6 [(0, .ref h0), (1, .int x), (2, .int kd), (3, .int am), (4, .ref qo)] := hl
  have hP : va_P (dC, dI) vwCl [(h0, .inr (4, [.ref (q 1), .ref (q 10), .ref (q 18), .ref (q 22), .ref (q 26), .int (a 0 2), .int (a 0 1), .int (a 0 5), .int (a 0 6), .int (a 0 7), .int (a 0 8)])), (q 1, .inr (3, [.ref (q 2), .ref (q 3), .ref (q 4), .ref (q 5), .ref (q 6), .ref (q 7), .ref (q 8), .ref (q 9), .int (a 0 0)])), (q 2, .inl (cI, 8, .inl (a 1))), (q 3, .inl (cI, 8, .inl (a 2))), (q 4, .inl (cI, 8, .inl (a 3))), (q 5, .inl (cI, 8, .inl (a 4))), (q 6, .inl (cI, 8, .inl (a 5))), (q 7, .inl (cI, 8, .inl (a 6))), (q 8, .inl (cI, 8, .inl (a 7))), (q 9, .inl (cI, 8, .inl (a 8))), (q 10, .inr (2, [.ref (q 11), .ref (q 12), .ref (q 13), .ref (q 14), .ref (q 15), .ref (q 16), .ref (q 17), .int (a 0 3)])), (q 11, .inl (cI, 100, .inl (a 10))), (q 12, .inl (cF, 100, .inr (.inr (.inl (fun j => shF (a 13 j)))))), (q 13, .inl (cI, 100, .inl (a 14))), (q 14, .inl (cI, 100, .inl (fun j => a 11 j - a 12 j))), (q 15, .inl (cI, 100, .inl (fun j => a 15 j - a 16 j))), (q 16, .inl (cI, 100, .inl (a 17))), (q 17, .inl (cI, 100, .inl (a 18))), (q 18, .inr (1, [.ref (q 19), .ref (q 20), .ref (q 21), .int (a 0 4)])), (q 19, .inl (cI, capOf (nn (a 0 4)), .inl (a 20))), (q 20, .inl (cI, capOf (nn (a 0 4)), .inl (a 19))), (q 21, .inl (cI, capOf (nn (a 0 4)), .inl (a 21))), (q 22, .inr (0, [.ref (q 23), .ref (q 24), .ref (q 25), .int (nI k)])), (q 23, .inl (cI, 8, .inl (jc))), (q 24, .inl (cI, 256, .inl (js))), (q 25, .inl (cI, 256, .inl (jv))), (q 26, .inl (cF, 4, .inr (.inr (.inl (fun j => shF (a 9 j)))))), (qo, .inl (cL, 1, .inr (.inl (fo))))] s.heap := hP
  refine y_enter (A := A) hP (fun H hP hS => ?_)
  have htab := vx_table (x := yL_sell) B (hts (.codeWith yL_sell cL_sell 6 (some .int) [(0, 12, 15, 13), (0, 12, 19, 21), (0, 12, 23, 15)]) List.mem_cons_self)
  refine lv_aload hx hb dL_sell_0 (lv_at hl 4 rfl) ?_
  refine lv_iconst (v := 0) hx hb dL_sell_2 (by decide) ?_
  refine lv_aload_n hx hb dL_sell_3 rfl (lv_at hl 0 rfl) ?_
  refine lv_iload_n hx hb dL_sell_4 rfl (lv_at hl 1 rfl) ?_
  refine lv_iload_n hx hb dL_sell_5 rfl (lv_at hl 2 rfl) ?_
  refine lv_iload_n hx hb dL_sell_6 rfl (lv_at hl 3 rfl) ?_
  have hP : va_P (dC, dI) vwCl (WL cI cF cL h0 q a jc js jv k (capOf (nn (a 0 4))) qo fo) H := hP
  have hD : va_D A (WL cI cF cL h0 q a jc js jv k (capOf (nn (a 0 4))) qo fo) := hD
  have hPc := hP.sub (ws' := WC cI cF h0 q a jc js jv k (capOf (nn (a 0 4)))) [0, 1, 2, 3, 4, 5, 6, 7, 8, 9, 10, 11, 12, 13, 14, 15, 16, 17, 18, 19, 20, 21, 22, 23, 24, 25, 26] rfl
  have hDc := hD.sub (ws' := WC cI cF h0 q a jc js jv k (capOf (nn (a 0 4)))) [0, 1, 2, 3, 4, 5, 6, 7, 8, 9, 10, 11, 12, 13, 14, 15, 16, 17, 18, 19, 20, 21, 22, 23, 24, 25, 26] (by decide) rfl
  have hFc := va_free (wc := WC cI cF h0 q a jc js jv k (capOf (nn (a 0 4)))) hD hS hA [0, 1, 2, 3, 4, 5, 6, 7, 8, 9, 10, 11, 12, 13, 14, 15, 16, 17, 18, 19, 20, 21, 22, 23, 24, 25, 26] rfl
  have hKc := hK.sub (tys' := [(cI, .int), (cF, .float)]) [0, 1] rfl
  refine vx_calli (vx_runV (As := [.int x, .int kd, .int am]) (rest := [.int 0, .ref qo]) ⟨hx, hb, hml, hown, hts⟩ (c_X4_sell l dC dI cI cF h0 q H.size a jc js jv k hst hC hB hY x kd am) (cwV 3 hts gL_sell_X4_sell rfl rfl rfl (by decide +kernel) ⟨Nat.le_of_ble_eq_true rfl, Nat.le_of_ble_eq_true rfl⟩) ⟨pcV_blind, va_recv hKc hPc (ci := 4) (q0 := 0) rfl rfl, fun U hU hW => pcV_pre hPc hDc hKc hV hS hFc hU hW⟩ rfl rfl hl.1 rfl (lv_room (Nat.le_of_ble_eq_true rfl)) dL_sell_7 ⟨Nat.le_of_eq (Nat.zero_add _), Nat.le_of_eq (Nat.zero_add _)⟩) hS (fun q _ h => hFc q h) hFc (fun q _ h => hFc q h) (fun E ce q9 u t H1 locs ht hvm hw hBx hz1 hk1 hS hce hcv hcl => ?_) (fun r u t H1 locs ht hvm hw hB1 hz1 hk1 hS => ?_)
  · obtain ⟨hE, qx, jcx, jsx, jvx, kx, hCx, hPx, hKx, hDx⟩ := hBx
    rw [ht] at hPx
    obtain ⟨hP, hD⟩ := va_join (wr := [(qo, .inl (cL, 1, .inr (.inl fo)))]) (w1 := WC cI cF h0 qx a jcx jsx jvx kx (capOf (nn (a 0 4)))) hP hD [0, 1, 2, 3, 4, 5, 6, 7, 8, 9, 10, 11, 12, 13, 14, 15, 16, 17, 18, 19, 20, 21, 22, 23, 24, 25, 26] [27] rfl rfl (by decide) (by decide) hk1 hFc hPx hDx
    have hP := hP.sub (ws' := WL cI cF cL h0 qx a jcx jsx jvx kx (capOf (nn (a 0 4))) qo fo) [1, 2, 3, 4, 5, 6, 7, 8, 9, 10, 11, 12, 13, 14, 15, 16, 17, 18, 19, 20, 21, 22, 23, 24, 25, 26, 27, 0] rfl
    have hD := hD.sub (ws' := WL cI cF cL h0 qx a jcx jsx jvx kx (capOf (nn (a 0 4))) qo fo) [1, 2, 3, 4, 5, 6, 7, 8, 9, 10, 11, 12, 13, 14, 15, 16, 17, 18, 19, 20, 21, 22, 23, 24, 25, 26, 27, 0] (by decide) rfl
    generalize H1 = H at hP hS hce ⊢
    rcases kSell_r a x kd am with h9 | h9 | h9 | h9
    · exact absurd h9 hw
    · have hE2 : E = exI := hE.trans (by rw [h9]; rfl)
      subst hE2
      refine vx_catch (name := exI) hown [] ⟨0, 12, 15, 13⟩ [⟨0, 12, 19, 21⟩, ⟨0, 12, 23, 15⟩] htab (fun z9 h8 => absurd h8 List.not_mem_nil) rfl (by decide) (hts (.classLink RL 13 "java/lang/IndexOutOfBoundsException") (List.mem_of_getElem? (i := 1) rfl)) (okV_use hV _ (by simp [vB])) hce hcv hcl ?_
      refine lv_astore (lv' := [(5, .ref q9), (0, .ref h0), (1, .int x), (2, .int kd), (3, .int am), (4, .ref qo)]) hx hb dL_sell_15 hl (by decide) rfl (fun ls hl => ?_)
      refine lv_iconst (v := 1) hx hb dL_sell_17 (by decide) ?_
      refine W.widen (k := 4) (n := 24) (Nat.le_of_eq (Nat.zero_add _)) (Nat.le_of_eq (Nat.zero_add _)) ?_
      have hP9 := hP
      have hD9 := hD
      have hK9 := hK
      exact W.iret (v := 1) hx hb hr (fun t ht hW => ⟨⟨1, fo, rfl, ⟨by rw [h9]; rfl, fun h8 => absurd (h9.symm.trans h8) (by decide)⟩, atL_n (fun h8 => absurd (h9.symm.trans h8) (by decide)) hCx (atW_end hP9 hD9 hK9 ht hW)⟩, hS.F ht⟩) hS.2.2 dL_sell_18
    · have hE2 : E = exA := hE.trans (by rw [h9]; rfl)
      subst hE2
      refine vx_catch (name := exA) hown [⟨0, 12, 15, 13⟩] ⟨0, 12, 19, 21⟩ [⟨0, 12, 23, 15⟩] htab (List.forall_mem_cons.mpr ⟨Or.inr ⟨by decide, exI, (hts (.classLink RL 13 "java/lang/IndexOutOfBoundsException") (List.mem_of_getElem? (i := 1) rfl)), hN.1⟩, fun z9 h8 => absurd h8 List.not_mem_nil⟩) rfl (by decide) (hts (.classLink RL 21 "java/lang/IllegalArgumentException") (List.mem_of_getElem? (i := 2) rfl)) (okV_use hV _ (by simp [vB])) hce hcv hcl ?_
      refine lv_astore (lv' := [(5, .ref q9), (0, .ref h0), (1, .int x), (2, .int kd), (3, .int am), (4, .ref qo)]) hx hb dL_sell_19 hl (by decide) rfl (fun ls hl => ?_)
      refine lv_iconst (v := 2) hx hb dL_sell_21 (by decide) ?_
      refine W.widen (k := 4) (n := 24) (Nat.le_of_eq (Nat.zero_add _)) (Nat.le_of_eq (Nat.zero_add _)) ?_
      have hP9 := hP
      have hD9 := hD
      have hK9 := hK
      exact W.iret (v := 2) hx hb hr (fun t ht hW => ⟨⟨2, fo, rfl, ⟨by rw [h9]; rfl, fun h8 => absurd (h9.symm.trans h8) (by decide)⟩, atL_n (fun h8 => absurd (h9.symm.trans h8) (by decide)) hCx (atW_end hP9 hD9 hK9 ht hW)⟩, hS.F ht⟩) hS.2.2 dL_sell_22
    · have hE2 : E = exS := hE.trans (by rw [h9]; rfl)
      subst hE2
      refine vx_catch (name := exS) hown [⟨0, 12, 15, 13⟩, ⟨0, 12, 19, 21⟩] ⟨0, 12, 23, 15⟩ [] htab (List.forall_mem_cons.mpr ⟨Or.inr ⟨by decide, exI, (hts (.classLink RL 13 "java/lang/IndexOutOfBoundsException") (List.mem_of_getElem? (i := 1) rfl)), hN.2.1⟩, List.forall_mem_cons.mpr ⟨Or.inr ⟨by decide, exA, (hts (.classLink RL 21 "java/lang/IllegalArgumentException") (List.mem_of_getElem? (i := 2) rfl)), hN.2.2⟩, fun z9 h8 => absurd h8 List.not_mem_nil⟩⟩) rfl (by decide) (hts (.classLink RL 15 "java/lang/IllegalStateException") (List.mem_of_getElem? (i := 3) rfl)) (okV_use hV _ (by simp [vB])) hce hcv hcl ?_
      refine lv_astore (lv' := [(5, .ref q9), (0, .ref h0), (1, .int x), (2, .int kd), (3, .int am), (4, .ref qo)]) hx hb dL_sell_23 hl (by decide) rfl (fun ls hl => ?_)
      refine lv_iconst (v := 3) hx hb dL_sell_25 (by decide) ?_
      refine W.widen (k := 4) (n := 24) (Nat.le_of_eq (Nat.zero_add _)) (Nat.le_of_eq (Nat.zero_add _)) ?_
      have hP9 := hP
      have hD9 := hD
      have hK9 := hK
      exact W.iret (v := 3) hx hb hr (fun t ht hW => ⟨⟨3, fo, rfl, ⟨by rw [h9]; rfl, fun h8 => absurd (h9.symm.trans h8) (by decide)⟩, atL_n (fun h8 => absurd (h9.symm.trans h8) (by decide)) hCx (atW_end hP9 hD9 hK9 ht hW)⟩, hS.F ht⟩) hS.2.2 dL_sell_26
  · obtain ⟨qy, jcy, jsy, jvy, ky, hCy, hPy, hKy, hDy⟩ := hB1
    rw [ht] at hPy
    obtain ⟨hP, hD⟩ := va_join (wr := [(qo, .inl (cL, 1, .inr (.inl fo)))]) (w1 := WC cI cF h0 qy (sSell a x kd am) jcy jsy jvy ky (capOf (nn ((sSell a x kd am) 0 4)))) hP hD [0, 1, 2, 3, 4, 5, 6, 7, 8, 9, 10, 11, 12, 13, 14, 15, 16, 17, 18, 19, 20, 21, 22, 23, 24, 25, 26] [27] rfl rfl (by decide) (by decide) hk1 hFc hPy hDy
    have hP := hP.sub (ws' := WL cI cF cL h0 qy (sSell a x kd am) jcy jsy jvy ky (capOf (nn ((sSell a x kd am) 0 4))) qo fo) [1, 2, 3, 4, 5, 6, 7, 8, 9, 10, 11, 12, 13, 14, 15, 16, 17, 18, 19, 20, 21, 22, 23, 24, 25, 26, 27, 0] rfl
    have hD := hD.sub (ws' := WL cI cF cL h0 qy (sSell a x kd am) jcy jsy jvy ky (capOf (nn ((sSell a x kd am) 0 4))) qo fo) [1, 2, 3, 4, 5, 6, 7, 8, 9, 10, 11, 12, 13, 14, 15, 16, 17, 18, 19, 20, 21, 22, 23, 24, 25, 26, 27, 0] (by decide) rfl
    generalize H1 = H at hP hS ⊢
    refine lv_i2l (v := (r).toInt64) hx hb dL_sell_10 rfl ?_
    refine y_lst hx hb hK hP hD hS 27 2 rfl rfl dL_sell_11 (fun H locs hP hD hS => ?_)
    have hP : va_P (dC, dI) vwCl (WL cI cF cL h0 qy (sSell a x kd am) jcy jsy jvy ky (capOf (nn ((sSell a x kd am) 0 4))) qo (vp_updL fo 0 (r).toInt64)) H := hP
    have hD : va_D A (WL cI cF cL h0 qy (sSell a x kd am) jcy jsy jvy ky (capOf (nn ((sSell a x kd am) 0 4))) qo (vp_updL fo 0 (r).toInt64)) := hD
    refine lv_goto (tgt := 27) hx hb dL_sell_12 (by decide) ?_
    refine lv_iconst (v := 0) hx hb dL_sell_27 (by decide) ?_
    refine W.widen (k := 4) (n := 24) (Nat.le_of_eq (Nat.zero_add _)) (Nat.le_of_eq (Nat.zero_add _)) ?_
    have hP9 := hP
    have hD9 := hD
    have hK9 := hK
    exact W.iret (v := 0) hx hb hr (fun t ht hW => ⟨⟨0, (vp_updL fo 0 (r).toInt64), rfl, ⟨by rw [hw.1]; rfl, fun _ => by rw [updL_0, hw.2]⟩, atL_y hw.1 hCy (atW_end hP9 hD9 hK9 ht hW)⟩, hS.F ht⟩) hS.2.2 dL_sell_28
