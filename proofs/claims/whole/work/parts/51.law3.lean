theorem kOrd_r (a : yA) (x kd am : Int32) : kOrd a x kd am = 0 ∨ kOrd a x kd am = 1 ∨ kOrd a x kd am = 2 ∨ kOrd a x kd am = 3 := by
  unfold kOrd
  repeat' split
  all_goals decide
set_option maxHeartbeats 4000000 in
set_option maxRecDepth 100000 in
theorem c_L_order (l : Launch) (dC : Nat → ClassId) (dI : Nat → Nat → Nat) (cI cF cL : ClassId) (h0 qo : Nat) (q : Nat → Nat) (sz : Nat) (a : yA) (jc js jv : Nat → Int32) (k : Nat) (fo : Nat → Int64) (hst : l.stackTraces = false) (hC : okC a jc js jv k) (hB : okB a) (hY : okY a) (x kd am : Int32) : Met l yL_order wsL_order ({ frames := 8, cells := 4, slots := 24, locals := 146 } : Room) (va_Pc [.ref h0, .int x, .int kd, .int am, .ref qo] (pcH dC dI [(cI, .int), (cF, .float), (cL, .long)] (WL cI cF cL h0 q a jc js jv k (capOf (nn (a 0 4))) qo fo) sz)) (va_Qi (fun (r : Int32) (g : Nat → Int64) => r = nI (kOrd a x kd am) ∧ (kOrd a x kd am = 0 → g 0 = (nI (min (cntB (nn x) 8) (nn am))).toInt64)) (fun g t => atL dC dI cI cF cL (va_A (WL cI cF cL h0 q a jc js jv k (capOf (nn (a 0 4))) qo fo) sz) h0 qo (if kOrd a x kd am = 0 then sOrder a x kd am else a) g t) (va_A (WL cI cF cL h0 q a jc js jv k (capOf (nn (a 0 4))) qo fo) sz)) (4) (24) (va_A (WL cI cF cL h0 q a jc js jv k (capOf (nn (a 0 4))) qo fo) sz) := by
  refine va_MetW (cc := cL_order) (maxL := 6) (ret := (some .int)) (hh := [(0, 12, 15, 13), (0, 12, 19, 21), (0, 12, 23, 15)]) (by decide) rfl ?_
  intro p e s m args below meth c s₁ B hml hv
  obtain ⟨rfl, ⟨⟨hsz, hP, hK, hD0⟩, hV⟩, hN⟩ := hv
  have hx := B.exec
  have hb := B.bytes
  have hr := B.returns
  have hts := atoms_spec (ws := wsL_order) B.pre
  have hown : s.vm.findClass RL = some m.cls := findClass_of_methodNamed B.named
  have hlocks := B.notSynchronized
  subst hsz
  have hD := hD0.self (sz := s.heap.size)
  generalize hAe : va_A [(h0, .inr (4, [.ref (q 1), .ref (q 10), .ref (q 18), .ref (q 22), .ref (q 26), .int (a 0 2), .int (a 0 1), .int (a 0 5), .int (a 0 6), .int (a 0 7), .int (a 0 8)])), (q 1, .inr (3, [.ref (q 2), .ref (q 3), .ref (q 4), .ref (q 5), .ref (q 6), .ref (q 7), .ref (q 8), .ref (q 9), .int (a 0 0)])), (q 2, .inl (cI, 8, .inl (a 1))), (q 3, .inl (cI, 8, .inl (a 2))), (q 4, .inl (cI, 8, .inl (a 3))), (q 5, .inl (cI, 8, .inl (a 4))), (q 6, .inl (cI, 8, .inl (a 5))), (q 7, .inl (cI, 8, .inl (a 6))), (q 8, .inl (cI, 8, .inl (a 7))), (q 9, .inl (cI, 8, .inl (a 8))), (q 10, .inr (2, [.ref (q 11), .ref (q 12), .ref (q 13), .ref (q 14), .ref (q 15), .ref (q 16), .ref (q 17), .int (a 0 3)])), (q 11, .inl (cI, 100, .inl (a 10))), (q 12, .inl (cF, 100, .inr (.inr (.inl (fun j => shF (a 13 j)))))), (q 13, .inl (cI, 100, .inl (a 14))), (q 14, .inl (cI, 100, .inl (fun j => a 11 j - a 12 j))), (q 15, .inl (cI, 100, .inl (fun j => a 15 j - a 16 j))), (q 16, .inl (cI, 100, .inl (a 17))), (q 17, .inl (cI, 100, .inl (a 18))), (q 18, .inr (1, [.ref (q 19), .ref (q 20), .ref (q 21), .int (a 0 4)])), (q 19, .inl (cI, capOf (nn (a 0 4)), .inl (a 20))), (q 20, .inl (cI, capOf (nn (a 0 4)), .inl (a 19))), (q 21, .inl (cI, capOf (nn (a 0 4)), .inl (a 21))), (q 22, .inr (0, [.ref (q 23), .ref (q 24), .ref (q 25), .int (nI k)])), (q 23, .inl (cI, 8, .inl (jc))), (q 24, .inl (cI, 256, .inl (js))), (q 25, .inl (cI, 256, .inl (jv))), (q 26, .inl (cF, 4, .inr (.inr (.inl (fun j => shF (a 9 j)))))), (qo, .inl (cL, 1, .inr (.inl (fo))))] s.heap.size = A at hD hV ⊢
  have hA : ∀ q : Nat, s.heap.size ≤ q → A q := fun q h => by rw [← hAe]; exact Or.inr h
  have hS : va_S A s.heap s.heap [] := va_S.rf
  have hl := lv_entry ([.ref h0, .int x, .int kd, .int am, .ref qo]) (n := 6) (Nat.le_of_ble_eq_true rfl)
  rw [lg_entry_eq]
  generalize (lg_sl ([.ref h0, .int x, .int kd, .int am, .ref qo]) ++ List.replicate (6 - (lg_sl ([.ref h0, .int x, .int kd, .int am, .ref qo])).length) Slot.unset).toArray = ls at hl ⊢
  have hl : lv_has ls 6 [(0, .ref h0), (1, .int x), (2, .int kd), (3, .int am), (4, .ref qo)] := hl
  have hP : va_P (dC, dI) vwCl [(h0, .inr (4, [.ref (q 1), .ref (q 10), .ref (q 18), .ref (q 22), .ref (q 26), .int (a 0 2), .int (a 0 1), .int (a 0 5), .int (a 0 6), .int (a 0 7), .int (a 0 8)])), (q 1, .inr (3, [.ref (q 2), .ref (q 3), .ref (q 4), .ref (q 5), .ref (q 6), .ref (q 7), .ref (q 8), .ref (q 9), .int (a 0 0)])), (q 2, .inl (cI, 8, .inl (a 1))), (q 3, .inl (cI, 8, .inl (a 2))), (q 4, .inl (cI, 8, .inl (a 3))), (q 5, .inl (cI, 8, .inl (a 4))), (q 6, .inl (cI, 8, .inl (a 5))), (q 7, .inl (cI, 8, .inl (a 6))), (q 8, .inl (cI, 8, .inl (a 7))), (q 9, .inl (cI, 8, .inl (a 8))), (q 10, .inr (2, [.ref (q 11), .ref (q 12), .ref (q 13), .ref (q 14), .ref (q 15), .ref (q 16), .ref (q 17), .int (a 0 3)])), (q 11, .inl (cI, 100, .inl (a 10))), (q 12, .inl (cF, 100, .inr (.inr (.inl (fun j => shF (a 13 j)))))), (q 13, .inl (cI, 100, .inl (a 14))), (q 14, .inl (cI, 100, .inl (fun j => a 11 j - a 12 j))), (q 15, .inl (cI, 100, .inl (fun j => a 15 j - a 16 j))), (q 16, .inl (cI, 100, .inl (a 17))), (q 17, .inl (cI, 100, .inl (a 18))), (q 18, .inr (1, [.ref (q 19), .ref (q 20), .ref (q 21), .int (a 0 4)])), (q 19, .inl (cI, capOf (nn (a 0 4)), .inl (a 20))), (q 20, .inl (cI, capOf (nn (a 0 4)), .inl (a 19))), (q 21, .inl (cI, capOf (nn (a 0 4)), .inl (a 21))), (q 22, .inr (0, [.ref (q 23), .ref (q 24), .ref (q 25), .int (nI k)])), (q 23, .inl (cI, 8, .inl (jc))), (q 24, .inl (cI, 256, .inl (js))), (q 25, .inl (cI, 256, .inl (jv))), (q 26, .inl (cF, 4, .inr (.inr (.inl (fun j => shF (a 9 j)))))), (qo, .inl (cL, 1, .inr (.inl (fo))))] s.heap := hP
  refine y_enter (A := A) hP (fun H hP hS => ?_)
  have htab := vx_table (x := yL_order) B (hts (.codeWith yL_order cL_order 6 (some .int) [(0, 12, 15, 13), (0, 12, 19, 21), (0, 12, 23, 15)]) List.mem_cons_self)
  refine lv_aload hx hb dL_order_0 (lv_at hl 4 rfl) ?_
  refine lv_iconst (v := 0) hx hb dL_order_2 (by decide) ?_
  refine lv_aload_n hx hb dL_order_3 rfl (lv_at hl 0 rfl) ?_
  refine lv_iload_n hx hb dL_order_4 rfl (lv_at hl 1 rfl) ?_
  refine lv_iload_n hx hb dL_order_5 rfl (lv_at hl 2 rfl) ?_
  refine lv_iload_n hx hb dL_order_6 rfl (lv_at hl 3 rfl) ?_
  have hP : va_P (dC, dI) vwCl (WL cI cF cL h0 q a jc js jv k (capOf (nn (a 0 4))) qo fo) H := hP
  have hD : va_D A (WL cI cF cL h0 q a jc js jv k (capOf (nn (a 0 4))) qo fo) := hD
  have hPc := hP.sub (ws' := WC cI cF h0 q a jc js jv k (capOf (nn (a 0 4)))) [0, 1, 2, 3, 4, 5, 6, 7, 8, 9, 10, 11, 12, 13, 14, 15, 16, 17, 18, 19, 20, 21, 22, 23, 24, 25, 26] rfl
  have hDc := hD.sub (ws' := WC cI cF h0 q a jc js jv k (capOf (nn (a 0 4)))) [0, 1, 2, 3, 4, 5, 6, 7, 8, 9, 10, 11, 12, 13, 14, 15, 16, 17, 18, 19, 20, 21, 22, 23, 24, 25, 26] (by decide) rfl
  have hFc := va_free (wc := WC cI cF h0 q a jc js jv k (capOf (nn (a 0 4)))) hD hS hA [0, 1, 2, 3, 4, 5, 6, 7, 8, 9, 10, 11, 12, 13, 14, 15, 16, 17, 18, 19, 20, 21, 22, 23, 24, 25, 26] rfl
  have hKc := hK.sub (tys' := [(cI, .int), (cF, .float)]) [0, 1] rfl
  refine vx_calli (vx_runV (As := [.int x, .int kd, .int am]) (rest := [.int 0, .ref qo]) ⟨hx, hb, hml, hown, hts⟩ (c_X4_order l dC dI cI cF h0 q H.size a jc js jv k hst hC hB hY x kd am) (cwV 3 hts gL_order_X4_order rfl rfl rfl (by decide +kernel) ⟨Nat.le_of_ble_eq_true rfl, Nat.le_of_ble_eq_true rfl⟩) ⟨pcV_blind, va_recv hKc hPc (ci := 4) (q0 := 0) rfl rfl, fun U hU hW => pcV_pre hPc hDc hKc hV hS hFc hU hW⟩ rfl rfl hl.1 rfl (lv_room (Nat.le_of_ble_eq_true rfl)) dL_order_7 ⟨Nat.le_of_eq (Nat.zero_add _), Nat.le_of_eq (Nat.zero_add _)⟩) hS (fun q _ h => hFc q h) hFc (fun q _ h => hFc q h) (fun E ce q9 u t H1 locs ht hvm hw hBx hz1 hk1 hS hce hcv hcl => ?_) (fun r u t H1 locs ht hvm hw hB1 hz1 hk1 hS => ?_)
  · obtain ⟨hE, qx, jcx, jsx, jvx, kx, hCx, hPx, hKx, hDx⟩ := hBx
    rw [ht] at hPx
    obtain ⟨hP, hD⟩ := va_join (wr := [(qo, .inl (cL, 1, .inr (.inl fo)))]) (w1 := WC cI cF h0 qx a jcx jsx jvx kx (capOf (nn (a 0 4)))) hP hD [0, 1, 2, 3, 4, 5, 6, 7, 8, 9, 10, 11, 12, 13, 14, 15, 16, 17, 18, 19, 20, 21, 22, 23, 24, 25, 26] [27] rfl rfl (by decide) (by decide) hk1 hFc hPx hDx
    have hP := hP.sub (ws' := WL cI cF cL h0 qx a jcx jsx jvx kx (capOf (nn (a 0 4))) qo fo) [1, 2, 3, 4, 5, 6, 7, 8, 9, 10, 11, 12, 13, 14, 15, 16, 17, 18, 19, 20, 21, 22, 23, 24, 25, 26, 27, 0] rfl
    have hD := hD.sub (ws' := WL cI cF cL h0 qx a jcx jsx jvx kx (capOf (nn (a 0 4))) qo fo) [1, 2, 3, 4, 5, 6, 7, 8, 9, 10, 11, 12, 13, 14, 15, 16, 17, 18, 19, 20, 21, 22, 23, 24, 25, 26, 27, 0] (by decide) rfl
    generalize H1 = H at hP hS hce ⊢
    rcases kOrd_r a x kd am with h9 | h9 | h9 | h9
    · exact absurd h9 hw
    · have hE2 : E = exI := hE.trans (by rw [h9]; rfl)
      subst hE2
      refine vx_catch (name := exI) hown [] ⟨0, 12, 15, 13⟩ [⟨0, 12, 19, 21⟩, ⟨0, 12, 23, 15⟩] htab (fun z9 h8 => absurd h8 List.not_mem_nil) rfl (by decide) (hts (.classLink RL 13 "java/lang/IndexOutOfBoundsException") (List.mem_of_getElem? (i := 1) rfl)) (okV_use hV _ (by simp [vB])) hce hcv hcl ?_
      refine lv_astore (lv' := [(5, .ref q9), (0, .ref h0), (1, .int x), (2, .int kd), (3, .int am), (4, .ref qo)]) hx hb dL_order_15 hl (by decide) rfl (fun ls hl => ?_)
      refine lv_iconst (v := 1) hx hb dL_order_17 (by decide) ?_
      refine W.widen (k := 4) (n := 24) (Nat.le_of_eq (Nat.zero_add _)) (Nat.le_of_eq (Nat.zero_add _)) ?_
      have hP9 := hP
      have hD9 := hD
      have hK9 := hK
      exact W.iret (v := 1) hx hb hr (fun t ht hW => ⟨⟨1, fo, rfl, ⟨by rw [h9]; rfl, fun h8 => absurd (h9.symm.trans h8) (by decide)⟩, atL_n (fun h8 => absurd (h9.symm.trans h8) (by decide)) hCx (atW_end hP9 hD9 hK9 ht hW)⟩, hS.F ht⟩) hS.2.2 dL_order_18
    · have hE2 : E = exA := hE.trans (by rw [h9]; rfl)
      subst hE2
      refine vx_catch (name := exA) hown [⟨0, 12, 15, 13⟩] ⟨0, 12, 19, 21⟩ [⟨0, 12, 23, 15⟩] htab (List.forall_mem_cons.mpr ⟨Or.inr ⟨by decide, exI, (hts (.classLink RL 13 "java/lang/IndexOutOfBoundsException") (List.mem_of_getElem? (i := 1) rfl)), hN.1⟩, fun z9 h8 => absurd h8 List.not_mem_nil⟩) rfl (by decide) (hts (.classLink RL 21 "java/lang/IllegalArgumentException") (List.mem_of_getElem? (i := 2) rfl)) (okV_use hV _ (by simp [vB])) hce hcv hcl ?_
      refine lv_astore (lv' := [(5, .ref q9), (0, .ref h0), (1, .int x), (2, .int kd), (3, .int am), (4, .ref qo)]) hx hb dL_order_19 hl (by decide) rfl (fun ls hl => ?_)
      refine lv_iconst (v := 2) hx hb dL_order_21 (by decide) ?_
      refine W.widen (k := 4) (n := 24) (Nat.le_of_eq (Nat.zero_add _)) (Nat.le_of_eq (Nat.zero_add _)) ?_
      have hP9 := hP
      have hD9 := hD
      have hK9 := hK
      exact W.iret (v := 2) hx hb hr (fun t ht hW => ⟨⟨2, fo, rfl, ⟨by rw [h9]; rfl, fun h8 => absurd (h9.symm.trans h8) (by decide)⟩, atL_n (fun h8 => absurd (h9.symm.trans h8) (by decide)) hCx (atW_end hP9 hD9 hK9 ht hW)⟩, hS.F ht⟩) hS.2.2 dL_order_22
    · have hE2 : E = exS := hE.trans (by rw [h9]; rfl)
      subst hE2
      refine vx_catch (name := exS) hown [⟨0, 12, 15, 13⟩, ⟨0, 12, 19, 21⟩] ⟨0, 12, 23, 15⟩ [] htab (List.forall_mem_cons.mpr ⟨Or.inr ⟨by decide, exI, (hts (.classLink RL 13 "java/lang/IndexOutOfBoundsException") (List.mem_of_getElem? (i := 1) rfl)), hN.2.1⟩, List.forall_mem_cons.mpr ⟨Or.inr ⟨by decide, exA, (hts (.classLink RL 21 "java/lang/IllegalArgumentException") (List.mem_of_getElem? (i := 2) rfl)), hN.2.2⟩, fun z9 h8 => absurd h8 List.not_mem_nil⟩⟩) rfl (by decide) (hts (.classLink RL 15 "java/lang/IllegalStateException") (List.mem_of_getElem? (i := 3) rfl)) (okV_use hV _ (by simp [vB])) hce hcv hcl ?_
      refine lv_astore (lv' := [(5, .ref q9), (0, .ref h0), (1, .int x), (2, .int kd), (3, .int am), (4, .ref qo)]) hx hb dL_order_23 hl (by decide) rfl (fun ls hl => ?_)
      refine lv_iconst (v := 3) hx hb dL_order_25 (by decide) ?_
      refine W.widen (k := 4) (n := 24) (Nat.le_of_eq (Nat.zero_add _)) (Nat.le_of_eq (Nat.zero_add _)) ?_
      have hP9 := hP
      have hD9 := hD
      have hK9 := hK
      exact W.iret (v := 3) hx hb hr (fun t ht hW => ⟨⟨3, fo, rfl, ⟨by rw [h9]; rfl, fun h8 => absurd (h9.symm.trans h8) (by decide)⟩, atL_n (fun h8 => absurd (h9.symm.trans h8) (by decide)) hCx (atW_end hP9 hD9 hK9 ht hW)⟩, hS.F ht⟩) hS.2.2 dL_order_26
  · obtain ⟨qy, jcy, jsy, jvy, ky, hCy, hPy, hKy, hDy⟩ := hB1
    rw [ht] at hPy
    obtain ⟨hP, hD⟩ := va_join (wr := [(qo, .inl (cL, 1, .inr (.inl fo)))]) (w1 := WC cI cF h0 qy (sOrder a x kd am) jcy jsy jvy ky (capOf (nn ((sOrder a x kd am) 0 4)))) hP hD [0, 1, 2, 3, 4, 5, 6, 7, 8, 9, 10, 11, 12, 13, 14, 15, 16, 17, 18, 19, 20, 21, 22, 23, 24, 25, 26] [27] rfl rfl (by decide) (by decide) hk1 hFc hPy hDy
    have hP := hP.sub (ws' := WL cI cF cL h0 qy (sOrder a x kd am) jcy jsy jvy ky (capOf (nn ((sOrder a x kd am) 0 4))) qo fo) [1, 2, 3, 4, 5, 6, 7, 8, 9, 10, 11, 12, 13, 14, 15, 16, 17, 18, 19, 20, 21, 22, 23, 24, 25, 26, 27, 0] rfl
    have hD := hD.sub (ws' := WL cI cF cL h0 qy (sOrder a x kd am) jcy jsy jvy ky (capOf (nn ((sOrder a x kd am) 0 4))) qo fo) [1, 2, 3, 4, 5, 6, 7, 8, 9, 10, 11, 12, 13, 14, 15, 16, 17, 18, 19, 20, 21, 22, 23, 24, 25, 26, 27, 0] (by decide) rfl
    generalize H1 = H at hP hS ⊢
    refine lv_i2l (v := (r).toInt64) hx hb dL_order_10 rfl ?_
    refine y_lst hx hb hK hP hD hS 27 2 rfl rfl dL_order_11 (fun H locs hP hD hS => ?_)
    have hP : va_P (dC, dI) vwCl (WL cI cF cL h0 qy (sOrder a x kd am) jcy jsy jvy ky (capOf (nn ((sOrder a x kd am) 0 4))) qo (vp_updL fo 0 (r).toInt64)) H := hP
    have hD : va_D A (WL cI cF cL h0 qy (sOrder a x kd am) jcy jsy jvy ky (capOf (nn ((sOrder a x kd am) 0 4))) qo (vp_updL fo 0 (r).toInt64)) := hD
    refine lv_goto (tgt := 27) hx hb dL_order_12 (by decide) ?_
    refine lv_iconst (v := 0) hx hb dL_order_27 (by decide) ?_
    refine W.widen (k := 4) (n := 24) (Nat.le_of_eq (Nat.zero_add _)) (Nat.le_of_eq (Nat.zero_add _)) ?_
    have hP9 := hP
    have hD9 := hD
    have hK9 := hK
    exact W.iret (v := 0) hx hb hr (fun t ht hW => ⟨⟨0, (vp_updL fo 0 (r).toInt64), rfl, ⟨by rw [hw.1]; rfl, fun _ => by rw [updL_0, hw.2]⟩, atL_y hw.1 hCy (atW_end hP9 hD9 hK9 ht hW)⟩, hS.F ht⟩) hS.2.2 dL_order_28
theorem kRef_r (a : yA) (x am : Int32) : kRef a x am = 0 ∨ kRef a x am = 1 ∨ kRef a x am = 2 ∨ kRef a x am = 3 := by
  unfold kRef
  repeat' split
  all_goals decide
set_option maxHeartbeats 4000000 in
set_option maxRecDepth 100000 in
theorem c_L_refund (l : Launch) (dC : Nat → ClassId) (dI : Nat → Nat → Nat) (cI cF cL : ClassId) (h0 qo : Nat) (q : Nat → Nat) (sz : Nat) (a : yA) (jc js jv : Nat → Int32) (k : Nat) (fo : Nat → Int64) (hst : l.stackTraces = false) (hC : okC a jc js jv k) (hB : okB a) (x am fb : Int32) : Met l yL_refund wsL_refund ({ frames := 8, cells := 2, slots := 12, locals := 138 } : Room) (va_Pc [.ref h0, .int x, .int am, .int fb, .ref qo] (pcH dC dI [(cI, .int), (cF, .float), (cL, .long)] (WL cI cF cL h0 q a jc js jv k (capOf (nn (a 0 4))) qo fo) sz)) (va_Qi (fun (r : Int32) (g : Nat → Int64) => r = nI (kRef a x am) ∧ (kRef a x am = 0 → g 0 = (sRefund a (nn x) am (decide (¬ fb = 0)) 7 (slr a (nn x))).toInt64)) (fun g t => atL dC dI cI cF cL (va_A (WL cI cF cL h0 q a jc js jv k (capOf (nn (a 0 4))) qo fo) sz) h0 qo (if kRef a x am = 0 then sRefund a (nn x) am (decide (¬ fb = 0)) else a) g t) (va_A (WL cI cF cL h0 q a jc js jv k (capOf (nn (a 0 4))) qo fo) sz)) (2) (12) (va_A (WL cI cF cL h0 q a jc js jv k (capOf (nn (a 0 4))) qo fo) sz) := by
  refine va_MetW (cc := cL_refund) (maxL := 6) (ret := (some .int)) (hh := [(0, 12, 15, 13), (0, 12, 19, 21), (0, 12, 23, 15)]) (by decide) rfl ?_
  intro p e s m args below meth c s₁ B hml hv
  obtain ⟨rfl, ⟨⟨hsz, hP, hK, hD0⟩, hV⟩, hN⟩ := hv
  have hx := B.exec
  have hb := B.bytes
  have hr := B.returns
  have hts := atoms_spec (ws := wsL_refund) B.pre
  have hown : s.vm.findClass RL = some m.cls := findClass_of_methodNamed B.named
  have hlocks := B.notSynchronized
  subst hsz
  have hD := hD0.self (sz := s.heap.size)
  generalize hAe : va_A [(h0, .inr (4, [.ref (q 1), .ref (q 10), .ref (q 18), .ref (q 22), .ref (q 26), .int (a 0 2), .int (a 0 1), .int (a 0 5), .int (a 0 6), .int (a 0 7), .int (a 0 8)])), (q 1, .inr (3, [.ref (q 2), .ref (q 3), .ref (q 4), .ref (q 5), .ref (q 6), .ref (q 7), .ref (q 8), .ref (q 9), .int (a 0 0)])), (q 2, .inl (cI, 8, .inl (a 1))), (q 3, .inl (cI, 8, .inl (a 2))), (q 4, .inl (cI, 8, .inl (a 3))), (q 5, .inl (cI, 8, .inl (a 4))), (q 6, .inl (cI, 8, .inl (a 5))), (q 7, .inl (cI, 8, .inl (a 6))), (q 8, .inl (cI, 8, .inl (a 7))), (q 9, .inl (cI, 8, .inl (a 8))), (q 10, .inr (2, [.ref (q 11), .ref (q 12), .ref (q 13), .ref (q 14), .ref (q 15), .ref (q 16), .ref (q 17), .int (a 0 3)])), (q 11, .inl (cI, 100, .inl (a 10))), (q 12, .inl (cF, 100, .inr (.inr (.inl (fun j => shF (a 13 j)))))), (q 13, .inl (cI, 100, .inl (a 14))), (q 14, .inl (cI, 100, .inl (fun j => a 11 j - a 12 j))), (q 15, .inl (cI, 100, .inl (fun j => a 15 j - a 16 j))), (q 16, .inl (cI, 100, .inl (a 17))), (q 17, .inl (cI, 100, .inl (a 18))), (q 18, .inr (1, [.ref (q 19), .ref (q 20), .ref (q 21), .int (a 0 4)])), (q 19, .inl (cI, capOf (nn (a 0 4)), .inl (a 20))), (q 20, .inl (cI, capOf (nn (a 0 4)), .inl (a 19))), (q 21, .inl (cI, capOf (nn (a 0 4)), .inl (a 21))), (q 22, .inr (0, [.ref (q 23), .ref (q 24), .ref (q 25), .int (nI k)])), (q 23, .inl (cI, 8, .inl (jc))), (q 24, .inl (cI, 256, .inl (js))), (q 25, .inl (cI, 256, .inl (jv))), (q 26, .inl (cF, 4, .inr (.inr (.inl (fun j => shF (a 9 j)))))), (qo, .inl (cL, 1, .inr (.inl (fo))))] s.heap.size = A at hD hV ⊢
  have hA : ∀ q : Nat, s.heap.size ≤ q → A q := fun q h => by rw [← hAe]; exact Or.inr h
  have hS : va_S A s.heap s.heap [] := va_S.rf
  have hl := lv_entry ([.ref h0, .int x, .int am, .int fb, .ref qo]) (n := 6) (Nat.le_of_ble_eq_true rfl)
  rw [lg_entry_eq]
  generalize (lg_sl ([.ref h0, .int x, .int am, .int fb, .ref qo]) ++ List.replicate (6 - (lg_sl ([.ref h0, .int x, .int am, .int fb, .ref qo])).length) Slot.unset).toArray = ls at hl ⊢
  have hl : lv_has ls 6 [(0, .ref h0), (1, .int x), (2, .int am), (3, .int fb), (4, .ref qo)] := hl
  have hP : va_P (dC, dI) vwCl [(h0, .inr (4, [.ref (q 1), .ref (q 10), .ref (q 18), .ref (q 22), .ref (q 26), .int (a 0 2), .int (a 0 1), .int (a 0 5), .int (a 0 6), .int (a 0 7), .int (a 0 8)])), (q 1, .inr (3, [.ref (q 2), .ref (q 3), .ref (q 4), .ref (q 5), .ref (q 6), .ref (q 7), .ref (q 8), .ref (q 9), .int (a 0 0)])), (q 2, .inl (cI, 8, .inl (a 1))), (q 3, .inl (cI, 8, .inl (a 2))), (q 4, .inl (cI, 8, .inl (a 3))), (q 5, .inl (cI, 8, .inl (a 4))), (q 6, .inl (cI, 8, .inl (a 5))), (q 7, .inl (cI, 8, .inl (a 6))), (q 8, .inl (cI, 8, .inl (a 7))), (q 9, .inl (cI, 8, .inl (a 8))), (q 10, .inr (2, [.ref (q 11), .ref (q 12), .ref (q 13), .ref (q 14), .ref (q 15), .ref (q 16), .ref (q 17), .int (a 0 3)])), (q 11, .inl (cI, 100, .inl (a 10))), (q 12, .inl (cF, 100, .inr (.inr (.inl (fun j => shF (a 13 j)))))), (q 13, .inl (cI, 100, .inl (a 14))), (q 14, .inl (cI, 100, .inl (fun j => a 11 j - a 12 j))), (q 15, .inl (cI, 100, .inl (fun j => a 15 j - a 16 j))), (q 16, .inl (cI, 100, .inl (a 17))), (q 17, .inl (cI, 100, .inl (a 18))), (q 18, .inr (1, [.ref (q 19), .ref (q 20), .ref (q 21), .int (a 0 4)])), (q 19, .inl (cI, capOf (nn (a 0 4)), .inl (a 20))), (q 20, .inl (cI, capOf (nn (a 0 4)), .inl (a 19))), (q 21, .inl (cI, capOf (nn (a 0 4)), .inl (a 21))), (q 22, .inr (0, [.ref (q 23), .ref (q 24), .ref (q 25), .int (nI k)])), (q 23, .inl (cI, 8, .inl (jc))), (q 24, .inl (cI, 256, .inl (js))), (q 25, .inl (cI, 256, .inl (jv))), (q 26, .inl (cF, 4, .inr (.inr (.inl (fun j => shF (a 9 j)))))), (qo, .inl (cL, 1, .inr (.inl (fo))))] s.heap := hP
  refine y_enter (A := A) hP (fun H hP hS => ?_)
  have htab := vx_table (x := yL_refund) B (hts (.codeWith yL_refund cL_refund 6 (some .int) [(0, 12, 15, 13), (0, 12, 19, 21), (0, 12, 23, 15)]) List.mem_cons_self)
  refine lv_aload hx hb dL_refund_0 (lv_at hl 4 rfl) ?_
  refine lv_iconst (v := 0) hx hb dL_refund_2 (by decide) ?_
  refine lv_aload_n hx hb dL_refund_3 rfl (lv_at hl 0 rfl) ?_
  refine lv_iload_n hx hb dL_refund_4 rfl (lv_at hl 1 rfl) ?_
  refine lv_iload_n hx hb dL_refund_5 rfl (lv_at hl 2 rfl) ?_
  refine lv_iload_n hx hb dL_refund_6 rfl (lv_at hl 3 rfl) ?_
  have hP : va_P (dC, dI) vwCl (WL cI cF cL h0 q a jc js jv k (capOf (nn (a 0 4))) qo fo) H := hP
  have hD : va_D A (WL cI cF cL h0 q a jc js jv k (capOf (nn (a 0 4))) qo fo) := hD
  have hPc := hP.sub (ws' := WC cI cF h0 q a jc js jv k (capOf (nn (a 0 4)))) [0, 1, 2, 3, 4, 5, 6, 7, 8, 9, 10, 11, 12, 13, 14, 15, 16, 17, 18, 19, 20, 21, 22, 23, 24, 25, 26] rfl
  have hDc := hD.sub (ws' := WC cI cF h0 q a jc js jv k (capOf (nn (a 0 4)))) [0, 1, 2, 3, 4, 5, 6, 7, 8, 9, 10, 11, 12, 13, 14, 15, 16, 17, 18, 19, 20, 21, 22, 23, 24, 25, 26] (by decide) rfl
  have hFc := va_free (wc := WC cI cF h0 q a jc js jv k (capOf (nn (a 0 4)))) hD hS hA [0, 1, 2, 3, 4, 5, 6, 7, 8, 9, 10, 11, 12, 13, 14, 15, 16, 17, 18, 19, 20, 21, 22, 23, 24, 25, 26] rfl
  have hKc := hK.sub (tys' := [(cI, .int), (cF, .float)]) [0, 1] rfl
  refine vx_calli (vx_runV (As := [.int x, .int am, .int fb]) (rest := [.int 0, .ref qo]) ⟨hx, hb, hml, hown, hts⟩ (c_X4_refund l dC dI cI cF h0 q H.size a jc js jv k hst hC hB x am fb) (cwV 3 hts gL_refund_X4_refund rfl rfl rfl (by decide +kernel) ⟨Nat.le_of_ble_eq_true rfl, Nat.le_of_ble_eq_true rfl⟩) ⟨pcV_blind, va_recv hKc hPc (ci := 4) (q0 := 0) rfl rfl, fun U hU hW => pcV_pre hPc hDc hKc hV hS hFc hU hW⟩ rfl rfl hl.1 rfl (lv_room (Nat.le_of_ble_eq_true rfl)) dL_refund_7 ⟨Nat.le_of_eq (Nat.zero_add _), Nat.le_of_eq (Nat.zero_add _)⟩) hS (fun q _ h => hFc q h) hFc (fun q _ h => hFc q h) (fun E ce q9 u t H1 locs ht hvm hw hBx hz1 hk1 hS hce hcv hcl => ?_) (fun r u t H1 locs ht hvm hw hB1 hz1 hk1 hS => ?_)
  · obtain ⟨hE, qx, jcx, jsx, jvx, kx, hCx, hPx, hKx, hDx⟩ := hBx
    rw [ht] at hPx
    obtain ⟨hP, hD⟩ := va_join (wr := [(qo, .inl (cL, 1, .inr (.inl fo)))]) (w1 := WC cI cF h0 qx a jcx jsx jvx kx (capOf (nn (a 0 4)))) hP hD [0, 1, 2, 3, 4, 5, 6, 7, 8, 9, 10, 11, 12, 13, 14, 15, 16, 17, 18, 19, 20, 21, 22, 23, 24, 25, 26] [27] rfl rfl (by decide) (by decide) hk1 hFc hPx hDx
    have hP := hP.sub (ws' := WL cI cF cL h0 qx a jcx jsx jvx kx (capOf (nn (a 0 4))) qo fo) [1, 2, 3, 4, 5, 6, 7, 8, 9, 10, 11, 12, 13, 14, 15, 16, 17, 18, 19, 20, 21, 22, 23, 24, 25, 26, 27, 0] rfl
    have hD := hD.sub (ws' := WL cI cF cL h0 qx a jcx jsx jvx kx (capOf (nn (a 0 4))) qo fo) [1, 2, 3, 4, 5, 6, 7, 8, 9, 10, 11, 12, 13, 14, 15, 16, 17, 18, 19, 20, 21, 22, 23, 24, 25, 26, 27, 0] (by decide) rfl
    generalize H1 = H at hP hS hce ⊢
    rcases kRef_r a x am with h9 | h9 | h9 | h9
    · exact absurd h9 hw
    · have hE2 : E = exI := hE.trans (by rw [h9]; rfl)
      subst hE2
      refine vx_catch (name := exI) hown [] ⟨0, 12, 15, 13⟩ [⟨0, 12, 19, 21⟩, ⟨0, 12, 23, 15⟩] htab (fun z9 h8 => absurd h8 List.not_mem_nil) rfl (by decide) (hts (.classLink RL 13 "java/lang/IndexOutOfBoundsException") (List.mem_of_getElem? (i := 1) rfl)) (okV_use hV _ (by simp [vB])) hce hcv hcl ?_
      refine lv_astore (lv' := [(5, .ref q9), (0, .ref h0), (1, .int x), (2, .int am), (3, .int fb), (4, .ref qo)]) hx hb dL_refund_15 hl (by decide) rfl (fun ls hl => ?_)
      refine lv_iconst (v := 1) hx hb dL_refund_17 (by decide) ?_
      refine W.widen (k := 2) (n := 12) (Nat.le_of_eq (Nat.zero_add _)) (Nat.le_of_eq (Nat.zero_add _)) ?_
      have hP9 := hP
      have hD9 := hD
      have hK9 := hK
      exact W.iret (v := 1) hx hb hr (fun t ht hW => ⟨⟨1, fo, rfl, ⟨by rw [h9]; rfl, fun h8 => absurd (h9.symm.trans h8) (by decide)⟩, atL_n (fun h8 => absurd (h9.symm.trans h8) (by decide)) hCx (atW_end hP9 hD9 hK9 ht hW)⟩, hS.F ht⟩) hS.2.2 dL_refund_18
    · have hE2 : E = exA := hE.trans (by rw [h9]; rfl)
      subst hE2
      refine vx_catch (name := exA) hown [⟨0, 12, 15, 13⟩] ⟨0, 12, 19, 21⟩ [⟨0, 12, 23, 15⟩] htab (List.forall_mem_cons.mpr ⟨Or.inr ⟨by decide, exI, (hts (.classLink RL 13 "java/lang/IndexOutOfBoundsException") (List.mem_of_getElem? (i := 1) rfl)), hN.1⟩, fun z9 h8 => absurd h8 List.not_mem_nil⟩) rfl (by decide) (hts (.classLink RL 21 "java/lang/IllegalArgumentException") (List.mem_of_getElem? (i := 2) rfl)) (okV_use hV _ (by simp [vB])) hce hcv hcl ?_
      refine lv_astore (lv' := [(5, .ref q9), (0, .ref h0), (1, .int x), (2, .int am), (3, .int fb), (4, .ref qo)]) hx hb dL_refund_19 hl (by decide) rfl (fun ls hl => ?_)
      refine lv_iconst (v := 2) hx hb dL_refund_21 (by decide) ?_
      refine W.widen (k := 2) (n := 12) (Nat.le_of_eq (Nat.zero_add _)) (Nat.le_of_eq (Nat.zero_add _)) ?_
      have hP9 := hP
      have hD9 := hD
      have hK9 := hK
      exact W.iret (v := 2) hx hb hr (fun t ht hW => ⟨⟨2, fo, rfl, ⟨by rw [h9]; rfl, fun h8 => absurd (h9.symm.trans h8) (by decide)⟩, atL_n (fun h8 => absurd (h9.symm.trans h8) (by decide)) hCx (atW_end hP9 hD9 hK9 ht hW)⟩, hS.F ht⟩) hS.2.2 dL_refund_22
    · have hE2 : E = exS := hE.trans (by rw [h9]; rfl)
      subst hE2
      refine vx_catch (name := exS) hown [⟨0, 12, 15, 13⟩, ⟨0, 12, 19, 21⟩] ⟨0, 12, 23, 15⟩ [] htab (List.forall_mem_cons.mpr ⟨Or.inr ⟨by decide, exI, (hts (.classLink RL 13 "java/lang/IndexOutOfBoundsException") (List.mem_of_getElem? (i := 1) rfl)), hN.2.1⟩, List.forall_mem_cons.mpr ⟨Or.inr ⟨by decide, exA, (hts (.classLink RL 21 "java/lang/IllegalArgumentException") (List.mem_of_getElem? (i := 2) rfl)), hN.2.2⟩, fun z9 h8 => absurd h8 List.not_mem_nil⟩⟩) rfl (by decide) (hts (.classLink RL 15 "java/lang/IllegalStateException") (List.mem_of_getElem? (i := 3) rfl)) (okV_use hV _ (by simp [vB])) hce hcv hcl ?_
      refine lv_astore (lv' := [(5, .ref q9), (0, .ref h0), (1, .int x), (2, .int am), (3, .int fb), (4, .ref qo)]) hx hb dL_refund_23 hl (by decide) rfl (fun ls hl => ?_)
      refine lv_iconst (v := 3) hx hb dL_refund_25 (by decide) ?_
      refine W.widen (k := 2) (n := 12) (Nat.le_of_eq (Nat.zero_add _)) (Nat.le_of_eq (Nat.zero_add _)) ?_
      have hP9 := hP
      have hD9 := hD
      have hK9 := hK
      exact W.iret (v := 3) hx hb hr (fun t ht hW => ⟨⟨3, fo, rfl, ⟨by rw [h9]; rfl, fun h8 => absurd (h9.symm.trans h8) (by decide)⟩, atL_n (fun h8 => absurd (h9.symm.trans h8) (by decide)) hCx (atW_end hP9 hD9 hK9 ht hW)⟩, hS.F ht⟩) hS.2.2 dL_refund_26
  · obtain ⟨qy, jcy, jsy, jvy, ky, hCy, hPy, hKy, hDy⟩ := hB1
    rw [ht] at hPy
    obtain ⟨hP, hD⟩ := va_join (wr := [(qo, .inl (cL, 1, .inr (.inl fo)))]) (w1 := WC cI cF h0 qy (sRefund a (nn x) am (decide (¬ fb = 0))) jcy jsy jvy ky (capOf (nn ((sRefund a (nn x) am (decide (¬ fb = 0))) 0 4)))) hP hD [0, 1, 2, 3, 4, 5, 6, 7, 8, 9, 10, 11, 12, 13, 14, 15, 16, 17, 18, 19, 20, 21, 22, 23, 24, 25, 26] [27] rfl rfl (by decide) (by decide) hk1 hFc hPy hDy
    have hP := hP.sub (ws' := WL cI cF cL h0 qy (sRefund a (nn x) am (decide (¬ fb = 0))) jcy jsy jvy ky (capOf (nn ((sRefund a (nn x) am (decide (¬ fb = 0))) 0 4))) qo fo) [1, 2, 3, 4, 5, 6, 7, 8, 9, 10, 11, 12, 13, 14, 15, 16, 17, 18, 19, 20, 21, 22, 23, 24, 25, 26, 27, 0] rfl
    have hD := hD.sub (ws' := WL cI cF cL h0 qy (sRefund a (nn x) am (decide (¬ fb = 0))) jcy jsy jvy ky (capOf (nn ((sRefund a (nn x) am (decide (¬ fb = 0))) 0 4))) qo fo) [1, 2, 3, 4, 5, 6, 7, 8, 9, 10, 11, 12, 13, 14, 15, 16, 17, 18, 19, 20, 21, 22, 23, 24, 25, 26, 27, 0] (by decide) rfl
    generalize H1 = H at hP hS ⊢
    refine lv_i2l (v := (r).toInt64) hx hb dL_refund_10 rfl ?_
    refine y_lst hx hb hK hP hD hS 27 2 rfl rfl dL_refund_11 (fun H locs hP hD hS => ?_)
    have hP : va_P (dC, dI) vwCl (WL cI cF cL h0 qy (sRefund a (nn x) am (decide (¬ fb = 0))) jcy jsy jvy ky (capOf (nn ((sRefund a (nn x) am (decide (¬ fb = 0))) 0 4))) qo (vp_updL fo 0 (r).toInt64)) H := hP
    have hD : va_D A (WL cI cF cL h0 qy (sRefund a (nn x) am (decide (¬ fb = 0))) jcy jsy jvy ky (capOf (nn ((sRefund a (nn x) am (decide (¬ fb = 0))) 0 4))) qo (vp_updL fo 0 (r).toInt64)) := hD
    refine lv_goto (tgt := 27) hx hb dL_refund_12 (by decide) ?_
    refine lv_iconst (v := 0) hx hb dL_refund_27 (by decide) ?_
    refine W.widen (k := 2) (n := 12) (Nat.le_of_eq (Nat.zero_add _)) (Nat.le_of_eq (Nat.zero_add _)) ?_
    have hP9 := hP
    have hD9 := hD
    have hK9 := hK
    exact W.iret (v := 0) hx hb hr (fun t ht hW => ⟨⟨0, (vp_updL fo 0 (r).toInt64), rfl, ⟨by rw [hw.1]; rfl, fun _ => by rw [updL_0, hw.2]⟩, atL_y hw.1 hCy (atW_end hP9 hD9 hK9 ht hW)⟩, hS.F ht⟩) hS.2.2 dL_refund_28
theorem kPass_r (a : yA) (d : Int32) : kPass a d = 0 ∨ kPass a d = 1 ∨ kPass a d = 2 := by
  unfold kPass
  repeat' split
  all_goals decide
set_option maxHeartbeats 4000000 in
set_option maxRecDepth 100000 in
theorem c_L_pass (l : Launch) (dC : Nat → ClassId) (dI : Nat → Nat → Nat) (cI cF cL : ClassId) (h0 qo : Nat) (q : Nat → Nat) (sz : Nat) (a : yA) (jc js jv : Nat → Int32) (k : Nat) (fo : Nat → Int64) (hst : l.stackTraces = false) (hC : okC a jc js jv k) (hB : okB a) (hZ : okZ a) (d : Int32) (hday : kPass a d = 0 → ∀ i, i < nn d → dayOK (sPass a i)) : Met l yL_pass wsL_pass ({ frames := 8, cells := 2 + mcP a (sPass a (nn d)), slots := 12 + mcP a (sPass a (nn d)) * 6, locals := 171 } : Room) (va_Pc [.ref h0, .int d, .ref qo] (pcH dC dI [(cI, .int), (cF, .float), (cL, .long)] (WL cI cF cL h0 q a jc js jv k (capOf (nn (a 0 4))) qo fo) sz)) (va_Qi (fun (r : Int32) (g : Nat → Int64) => r = nI (kPass a d) ∧ (kPass a d = 0 → g 0 = (sPass a (nn d) 0 4 - a 0 4).toInt64)) (fun g t => atL dC dI cI cF cL (va_A (WL cI cF cL h0 q a jc js jv k (capOf (nn (a 0 4))) qo fo) sz) h0 qo (if kPass a d = 0 then sPass a (nn d) else a) g t) (va_A (WL cI cF cL h0 q a jc js jv k (capOf (nn (a 0 4))) qo fo) sz)) (2 + mcP a (sPass a (nn d))) (12 + mcP a (sPass a (nn d)) * 6) (va_A (WL cI cF cL h0 q a jc js jv k (capOf (nn (a 0 4))) qo fo) sz) := by
  refine va_MetW (cc := cL_pass) (maxL := 4) (ret := (some .int)) (hh := [(0, 9, 12, 21), (0, 9, 15, 15)]) (by decide) rfl ?_
  intro p e s m args below meth c s₁ B hml hv
  obtain ⟨rfl, ⟨⟨hsz, hP, hK, hD0⟩, hV⟩, hN⟩ := hv
  have hx := B.exec
  have hb := B.bytes
  have hr := B.returns
  have hts := atoms_spec (ws := wsL_pass) B.pre
  have hown : s.vm.findClass RL = some m.cls := findClass_of_methodNamed B.named
  have hlocks := B.notSynchronized
  subst hsz
  have hD := hD0.self (sz := s.heap.size)
  generalize hAe : va_A [(h0, .inr (4, [.ref (q 1), .ref (q 10), .ref (q 18), .ref (q 22), .ref (q 26), .int (a 0 2), .int (a 0 1), .int (a 0 5), .int (a 0 6), .int (a 0 7), .int (a 0 8)])), (q 1, .inr (3, [.ref (q 2), .ref (q 3), .ref (q 4), .ref (q 5), .ref (q 6), .ref (q 7), .ref (q 8), .ref (q 9), .int (a 0 0)])), (q 2, .inl (cI, 8, .inl (a 1))), (q 3, .inl (cI, 8, .inl (a 2))), (q 4, .inl (cI, 8, .inl (a 3))), (q 5, .inl (cI, 8, .inl (a 4))), (q 6, .inl (cI, 8, .inl (a 5))), (q 7, .inl (cI, 8, .inl (a 6))), (q 8, .inl (cI, 8, .inl (a 7))), (q 9, .inl (cI, 8, .inl (a 8))), (q 10, .inr (2, [.ref (q 11), .ref (q 12), .ref (q 13), .ref (q 14), .ref (q 15), .ref (q 16), .ref (q 17), .int (a 0 3)])), (q 11, .inl (cI, 100, .inl (a 10))), (q 12, .inl (cF, 100, .inr (.inr (.inl (fun j => shF (a 13 j)))))), (q 13, .inl (cI, 100, .inl (a 14))), (q 14, .inl (cI, 100, .inl (fun j => a 11 j - a 12 j))), (q 15, .inl (cI, 100, .inl (fun j => a 15 j - a 16 j))), (q 16, .inl (cI, 100, .inl (a 17))), (q 17, .inl (cI, 100, .inl (a 18))), (q 18, .inr (1, [.ref (q 19), .ref (q 20), .ref (q 21), .int (a 0 4)])), (q 19, .inl (cI, capOf (nn (a 0 4)), .inl (a 20))), (q 20, .inl (cI, capOf (nn (a 0 4)), .inl (a 19))), (q 21, .inl (cI, capOf (nn (a 0 4)), .inl (a 21))), (q 22, .inr (0, [.ref (q 23), .ref (q 24), .ref (q 25), .int (nI k)])), (q 23, .inl (cI, 8, .inl (jc))), (q 24, .inl (cI, 256, .inl (js))), (q 25, .inl (cI, 256, .inl (jv))), (q 26, .inl (cF, 4, .inr (.inr (.inl (fun j => shF (a 9 j)))))), (qo, .inl (cL, 1, .inr (.inl (fo))))] s.heap.size = A at hD hV ⊢
  have hA : ∀ q : Nat, s.heap.size ≤ q → A q := fun q h => by rw [← hAe]; exact Or.inr h
  have hS : va_S A s.heap s.heap [] := va_S.rf
  have hl := lv_entry ([.ref h0, .int d, .ref qo]) (n := 4) (Nat.le_of_ble_eq_true rfl)
  rw [lg_entry_eq]
  generalize (lg_sl ([.ref h0, .int d, .ref qo]) ++ List.replicate (4 - (lg_sl ([.ref h0, .int d, .ref qo])).length) Slot.unset).toArray = ls at hl ⊢
  have hl : lv_has ls 4 [(0, .ref h0), (1, .int d), (2, .ref qo)] := hl
  have hP : va_P (dC, dI) vwCl [(h0, .inr (4, [.ref (q 1), .ref (q 10), .ref (q 18), .ref (q 22), .ref (q 26), .int (a 0 2), .int (a 0 1), .int (a 0 5), .int (a 0 6), .int (a 0 7), .int (a 0 8)])), (q 1, .inr (3, [.ref (q 2), .ref (q 3), .ref (q 4), .ref (q 5), .ref (q 6), .ref (q 7), .ref (q 8), .ref (q 9), .int (a 0 0)])), (q 2, .inl (cI, 8, .inl (a 1))), (q 3, .inl (cI, 8, .inl (a 2))), (q 4, .inl (cI, 8, .inl (a 3))), (q 5, .inl (cI, 8, .inl (a 4))), (q 6, .inl (cI, 8, .inl (a 5))), (q 7, .inl (cI, 8, .inl (a 6))), (q 8, .inl (cI, 8, .inl (a 7))), (q 9, .inl (cI, 8, .inl (a 8))), (q 10, .inr (2, [.ref (q 11), .ref (q 12), .ref (q 13), .ref (q 14), .ref (q 15), .ref (q 16), .ref (q 17), .int (a 0 3)])), (q 11, .inl (cI, 100, .inl (a 10))), (q 12, .inl (cF, 100, .inr (.inr (.inl (fun j => shF (a 13 j)))))), (q 13, .inl (cI, 100, .inl (a 14))), (q 14, .inl (cI, 100, .inl (fun j => a 11 j - a 12 j))), (q 15, .inl (cI, 100, .inl (fun j => a 15 j - a 16 j))), (q 16, .inl (cI, 100, .inl (a 17))), (q 17, .inl (cI, 100, .inl (a 18))), (q 18, .inr (1, [.ref (q 19), .ref (q 20), .ref (q 21), .int (a 0 4)])), (q 19, .inl (cI, capOf (nn (a 0 4)), .inl (a 20))), (q 20, .inl (cI, capOf (nn (a 0 4)), .inl (a 19))), (q 21, .inl (cI, capOf (nn (a 0 4)), .inl (a 21))), (q 22, .inr (0, [.ref (q 23), .ref (q 24), .ref (q 25), .int (nI k)])), (q 23, .inl (cI, 8, .inl (jc))), (q 24, .inl (cI, 256, .inl (js))), (q 25, .inl (cI, 256, .inl (jv))), (q 26, .inl (cF, 4, .inr (.inr (.inl (fun j => shF (a 9 j)))))), (qo, .inl (cL, 1, .inr (.inl (fo))))] s.heap := hP
  refine y_enter (A := A) hP (fun H hP hS => ?_)
  have htab := vx_table (x := yL_pass) B (hts (.codeWith yL_pass cL_pass 4 (some .int) [(0, 9, 12, 21), (0, 9, 15, 15)]) List.mem_cons_self)
  refine lv_aload_n hx hb dL_pass_0 rfl (lv_at hl 2 rfl) ?_
  refine lv_iconst (v := 0) hx hb dL_pass_1 (by decide) ?_
  refine lv_aload_n hx hb dL_pass_2 rfl (lv_at hl 0 rfl) ?_
  refine lv_iload_n hx hb dL_pass_3 rfl (lv_at hl 1 rfl) ?_
  have hP : va_P (dC, dI) vwCl (WL cI cF cL h0 q a jc js jv k (capOf (nn (a 0 4))) qo fo) H := hP
  have hD : va_D A (WL cI cF cL h0 q a jc js jv k (capOf (nn (a 0 4))) qo fo) := hD
  have hPc := hP.sub (ws' := WC cI cF h0 q a jc js jv k (capOf (nn (a 0 4)))) [0, 1, 2, 3, 4, 5, 6, 7, 8, 9, 10, 11, 12, 13, 14, 15, 16, 17, 18, 19, 20, 21, 22, 23, 24, 25, 26] rfl
  have hDc := hD.sub (ws' := WC cI cF h0 q a jc js jv k (capOf (nn (a 0 4)))) [0, 1, 2, 3, 4, 5, 6, 7, 8, 9, 10, 11, 12, 13, 14, 15, 16, 17, 18, 19, 20, 21, 22, 23, 24, 25, 26] (by decide) rfl
  have hFc := va_free (wc := WC cI cF h0 q a jc js jv k (capOf (nn (a 0 4)))) hD hS hA [0, 1, 2, 3, 4, 5, 6, 7, 8, 9, 10, 11, 12, 13, 14, 15, 16, 17, 18, 19, 20, 21, 22, 23, 24, 25, 26] rfl
  have hKc := hK.sub (tys' := [(cI, .int), (cF, .float)]) [0, 1] rfl
  refine vx_calli (vx_runV (As := [.int d]) (rest := [.int 0, .ref qo]) ⟨hx, hb, hml, hown, hts⟩ (c_X4_pass l dC dI cI cF h0 q H.size a jc js jv k hst hC hB hZ d hday) (cwV 1 hts gL_pass_X4_pass rfl rfl rfl (by decide +kernel) ⟨Nat.le_of_ble_eq_true rfl, Nat.le_of_ble_eq_true rfl⟩) ⟨pcV_blind, va_recv hKc hPc (ci := 4) (q0 := 0) rfl rfl, fun U hU hW => pcV_pre hPc hDc hKc hV hS hFc hU hW⟩ rfl rfl hl.1 rfl (lv_room (Nat.le_of_ble_eq_true rfl)) dL_pass_4 ⟨Nat.le_of_eq (Nat.zero_add _), Nat.le_of_eq (Nat.zero_add _)⟩) hS (fun q _ h => hFc q h) hFc (fun q _ h => hFc q h) (fun E ce q9 u t H1 locs ht hvm hw hBx hz1 hk1 hS hce hcv hcl => ?_) (fun r u t H1 locs ht hvm hw hB1 hz1 hk1 hS => ?_)
  · obtain ⟨hE, qx, jcx, jsx, jvx, kx, hCx, hPx, hKx, hDx⟩ := hBx
    rw [ht] at hPx
    obtain ⟨hP, hD⟩ := va_join (wr := [(qo, .inl (cL, 1, .inr (.inl fo)))]) (w1 := WC cI cF h0 qx a jcx jsx jvx kx (capOf (nn (a 0 4)))) hP hD [0, 1, 2, 3, 4, 5, 6, 7, 8, 9, 10, 11, 12, 13, 14, 15, 16, 17, 18, 19, 20, 21, 22, 23, 24, 25, 26] [27] rfl rfl (by decide) (by decide) hk1 hFc hPx hDx
    have hP := hP.sub (ws' := WL cI cF cL h0 qx a jcx jsx jvx kx (capOf (nn (a 0 4))) qo fo) [1, 2, 3, 4, 5, 6, 7, 8, 9, 10, 11, 12, 13, 14, 15, 16, 17, 18, 19, 20, 21, 22, 23, 24, 25, 26, 27, 0] rfl
    have hD := hD.sub (ws' := WL cI cF cL h0 qx a jcx jsx jvx kx (capOf (nn (a 0 4))) qo fo) [1, 2, 3, 4, 5, 6, 7, 8, 9, 10, 11, 12, 13, 14, 15, 16, 17, 18, 19, 20, 21, 22, 23, 24, 25, 26, 27, 0] (by decide) rfl
    generalize H1 = H at hP hS hce ⊢
    rcases kPass_r a d with h9 | h9 | h9
    · exact absurd h9 hw
    · have hE2 : E = exA := hE.trans (by rw [h9]; rfl)
      subst hE2
      refine vx_catch (name := exA) hown [] ⟨0, 9, 12, 21⟩ [⟨0, 9, 15, 15⟩] htab (fun z9 h8 => absurd h8 List.not_mem_nil) rfl (by decide) (hts (.classLink RL 21 "java/lang/IllegalArgumentException") (List.mem_of_getElem? (i := 1) rfl)) (okV_use hV _ (by simp [vB])) hce hcv hcl ?_
      refine lv_astore_n (lv' := [(3, .ref q9), (0, .ref h0), (1, .int d), (2, .ref qo)]) hx hb dL_pass_12 rfl hl (by decide) rfl (fun ls hl => ?_)
      refine lv_iconst (v := 1) hx hb dL_pass_13 (by decide) ?_
      refine W.widen (k := 2 + mcP a (sPass a (nn d))) (n := 12 + mcP a (sPass a (nn d)) * 6) (Nat.le_of_eq (Nat.zero_add _)) (Nat.le_of_eq (Nat.zero_add _)) ?_
      have hP9 := hP
      have hD9 := hD
      have hK9 := hK
      exact W.iret (v := 1) hx hb hr (fun t ht hW => ⟨⟨1, fo, rfl, ⟨by rw [h9]; rfl, fun h8 => absurd (h9.symm.trans h8) (by decide)⟩, atL_n (fun h8 => absurd (h9.symm.trans h8) (by decide)) hCx (atW_end hP9 hD9 hK9 ht hW)⟩, hS.F ht⟩) hS.2.2 dL_pass_14
    · have hE2 : E = exS := hE.trans (by rw [h9]; rfl)
      subst hE2
      refine vx_catch (name := exS) hown [⟨0, 9, 12, 21⟩] ⟨0, 9, 15, 15⟩ [] htab (List.forall_mem_cons.mpr ⟨Or.inr ⟨by decide, exA, (hts (.classLink RL 21 "java/lang/IllegalArgumentException") (List.mem_of_getElem? (i := 1) rfl)), hN.2.2⟩, fun z9 h8 => absurd h8 List.not_mem_nil⟩) rfl (by decide) (hts (.classLink RL 15 "java/lang/IllegalStateException") (List.mem_of_getElem? (i := 2) rfl)) (okV_use hV _ (by simp [vB])) hce hcv hcl ?_
      refine lv_astore_n (lv' := [(3, .ref q9), (0, .ref h0), (1, .int d), (2, .ref qo)]) hx hb dL_pass_15 rfl hl (by decide) rfl (fun ls hl => ?_)
      refine lv_iconst (v := 2) hx hb dL_pass_16 (by decide) ?_
      refine W.widen (k := 2 + mcP a (sPass a (nn d))) (n := 12 + mcP a (sPass a (nn d)) * 6) (Nat.le_of_eq (Nat.zero_add _)) (Nat.le_of_eq (Nat.zero_add _)) ?_
      have hP9 := hP
      have hD9 := hD
      have hK9 := hK
      exact W.iret (v := 2) hx hb hr (fun t ht hW => ⟨⟨2, fo, rfl, ⟨by rw [h9]; rfl, fun h8 => absurd (h9.symm.trans h8) (by decide)⟩, atL_n (fun h8 => absurd (h9.symm.trans h8) (by decide)) hCx (atW_end hP9 hD9 hK9 ht hW)⟩, hS.F ht⟩) hS.2.2 dL_pass_17
  · obtain ⟨qy, jcy, jsy, jvy, ky, hCy, hPy, hKy, hDy⟩ := hB1
    rw [ht] at hPy
    obtain ⟨hP, hD⟩ := va_join (wr := [(qo, .inl (cL, 1, .inr (.inl fo)))]) (w1 := WC cI cF h0 qy (sPass a (nn d)) jcy jsy jvy ky (capOf (nn ((sPass a (nn d)) 0 4)))) hP hD [0, 1, 2, 3, 4, 5, 6, 7, 8, 9, 10, 11, 12, 13, 14, 15, 16, 17, 18, 19, 20, 21, 22, 23, 24, 25, 26] [27] rfl rfl (by decide) (by decide) hk1 hFc hPy hDy
    have hP := hP.sub (ws' := WL cI cF cL h0 qy (sPass a (nn d)) jcy jsy jvy ky (capOf (nn ((sPass a (nn d)) 0 4))) qo fo) [1, 2, 3, 4, 5, 6, 7, 8, 9, 10, 11, 12, 13, 14, 15, 16, 17, 18, 19, 20, 21, 22, 23, 24, 25, 26, 27, 0] rfl
    have hD := hD.sub (ws' := WL cI cF cL h0 qy (sPass a (nn d)) jcy jsy jvy ky (capOf (nn ((sPass a (nn d)) 0 4))) qo fo) [1, 2, 3, 4, 5, 6, 7, 8, 9, 10, 11, 12, 13, 14, 15, 16, 17, 18, 19, 20, 21, 22, 23, 24, 25, 26, 27, 0] (by decide) rfl
    generalize H1 = H at hP hS ⊢
    refine lv_i2l (v := (r).toInt64) hx hb dL_pass_7 rfl ?_
    refine y_lst hx hb hK hP hD hS 27 2 rfl rfl dL_pass_8 (fun H locs hP hD hS => ?_)
    have hP : va_P (dC, dI) vwCl (WL cI cF cL h0 qy (sPass a (nn d)) jcy jsy jvy ky (capOf (nn ((sPass a (nn d)) 0 4))) qo (vp_updL fo 0 (r).toInt64)) H := hP
    have hD : va_D A (WL cI cF cL h0 qy (sPass a (nn d)) jcy jsy jvy ky (capOf (nn ((sPass a (nn d)) 0 4))) qo (vp_updL fo 0 (r).toInt64)) := hD
    refine lv_goto (tgt := 18) hx hb dL_pass_9 (by decide) ?_
    refine lv_iconst (v := 0) hx hb dL_pass_18 (by decide) ?_
    refine W.widen (k := 2 + mcP a (sPass a (nn d))) (n := 12 + mcP a (sPass a (nn d)) * 6) (Nat.le_of_eq (Nat.zero_add _)) (Nat.le_of_eq (Nat.zero_add _)) ?_
    have hP9 := hP
    have hD9 := hD
    have hK9 := hK
    exact W.iret (v := 0) hx hb hr (fun t ht hW => ⟨⟨0, (vp_updL fo 0 (r).toInt64), rfl, ⟨by rw [hw.1]; rfl, fun _ => by rw [updL_0, hw.2]⟩, atL_y hw.1 hCy (atW_end hP9 hD9 hK9 ht hW)⟩, hS.F ht⟩) hS.2.2 dL_pass_19
theorem kFail_r (a : yA) (x : Int32) : kFail a x = 0 ∨ kFail a x = 1 ∨ kFail a x = 2 := by
  unfold kFail
  repeat' split
  all_goals decide
set_option maxHeartbeats 4000000 in
set_option maxRecDepth 100000 in
theorem c_L_fail (l : Launch) (dC : Nat → ClassId) (dI : Nat → Nat → Nat) (cI cF cL : ClassId) (h0 qo : Nat) (q : Nat → Nat) (sz : Nat) (a : yA) (jc js jv : Nat → Int32) (k : Nat) (fo : Nat → Int64) (hst : l.stackTraces = false) (hC : okC a jc js jv k) (hB : okB a) (x : Int32) : Met l yL_fail wsL_fail ({ frames := 8, cells := 2, slots := 12, locals := 134 } : Room) (va_Pc [.ref h0, .int x, .ref qo] (pcH dC dI [(cI, .int), (cF, .float), (cL, .long)] (WL cI cF cL h0 q a jc js jv k (capOf (nn (a 0 4))) qo fo) sz)) (va_Qi (fun (r : Int32) (g : Nat → Int64) => r = nI (kFail a x) ∧ (kFail a x = 0 → g 0 = (sFail a (nn x) 7 (nn (a 20 (nn x)))).toInt64)) (fun g t => atL dC dI cI cF cL (va_A (WL cI cF cL h0 q a jc js jv k (capOf (nn (a 0 4))) qo fo) sz) h0 qo (if kFail a x = 0 then sFail a (nn x) else a) g t) (va_A (WL cI cF cL h0 q a jc js jv k (capOf (nn (a 0 4))) qo fo) sz)) (2) (12) (va_A (WL cI cF cL h0 q a jc js jv k (capOf (nn (a 0 4))) qo fo) sz) := by
  refine va_MetW (cc := cL_fail) (maxL := 4) (ret := (some .int)) (hh := [(0, 9, 12, 13), (0, 9, 15, 15)]) (by decide) rfl ?_
  intro p e s m args below meth c s₁ B hml hv
  obtain ⟨rfl, ⟨⟨hsz, hP, hK, hD0⟩, hV⟩, hN⟩ := hv
  have hx := B.exec
  have hb := B.bytes
  have hr := B.returns
  have hts := atoms_spec (ws := wsL_fail) B.pre
  have hown : s.vm.findClass RL = some m.cls := findClass_of_methodNamed B.named
  have hlocks := B.notSynchronized
  subst hsz
  have hD := hD0.self (sz := s.heap.size)
  generalize hAe : va_A [(h0, .inr (4, [.ref (q 1), .ref (q 10), .ref (q 18), .ref (q 22), .ref (q 26), .int (a 0 2), .int (a 0 1), .int (a 0 5), .int (a 0 6), .int (a 0 7), .int (a 0 8)])), (q 1, .inr (3, [.ref (q 2), .ref (q 3), .ref (q 4), .ref (q 5), .ref (q 6), .ref (q 7), .ref (q 8), .ref (q 9), .int (a 0 0)])), (q 2, .inl (cI, 8, .inl (a 1))), (q 3, .inl (cI, 8, .inl (a 2))), (q 4, .inl (cI, 8, .inl (a 3))), (q 5, .inl (cI, 8, .inl (a 4))), (q 6, .inl (cI, 8, .inl (a 5))), (q 7, .inl (cI, 8, .inl (a 6))), (q 8, .inl (cI, 8, .inl (a 7))), (q 9, .inl (cI, 8, .inl (a 8))), (q 10, .inr (2, [.ref (q 11), .ref (q 12), .ref (q 13), .ref (q 14), .ref (q 15), .ref (q 16), .ref (q 17), .int (a 0 3)])), (q 11, .inl (cI, 100, .inl (a 10))), (q 12, .inl (cF, 100, .inr (.inr (.inl (fun j => shF (a 13 j)))))), (q 13, .inl (cI, 100, .inl (a 14))), (q 14, .inl (cI, 100, .inl (fun j => a 11 j - a 12 j))), (q 15, .inl (cI, 100, .inl (fun j => a 15 j - a 16 j))), (q 16, .inl (cI, 100, .inl (a 17))), (q 17, .inl (cI, 100, .inl (a 18))), (q 18, .inr (1, [.ref (q 19), .ref (q 20), .ref (q 21), .int (a 0 4)])), (q 19, .inl (cI, capOf (nn (a 0 4)), .inl (a 20))), (q 20, .inl (cI, capOf (nn (a 0 4)), .inl (a 19))), (q 21, .inl (cI, capOf (nn (a 0 4)), .inl (a 21))), (q 22, .inr (0, [.ref (q 23), .ref (q 24), .ref (q 25), .int (nI k)])), (q 23, .inl (cI, 8, .inl (jc))), (q 24, .inl (cI, 256, .inl (js))), (q 25, .inl (cI, 256, .inl (jv))), (q 26, .inl (cF, 4, .inr (.inr (.inl (fun j => shF (a 9 j)))))), (qo, .inl (cL, 1, .inr (.inl (fo))))] s.heap.size = A at hD hV ⊢
  have hA : ∀ q : Nat, s.heap.size ≤ q → A q := fun q h => by rw [← hAe]; exact Or.inr h
  have hS : va_S A s.heap s.heap [] := va_S.rf
  have hl := lv_entry ([.ref h0, .int x, .ref qo]) (n := 4) (Nat.le_of_ble_eq_true rfl)
  rw [lg_entry_eq]
  generalize (lg_sl ([.ref h0, .int x, .ref qo]) ++ List.replicate (4 - (lg_sl ([.ref h0, .int x, .ref qo])).length) Slot.unset).toArray = ls at hl ⊢
  have hl : lv_has ls 4 [(0, .ref h0), (1, .int x), (2, .ref qo)] := hl
  have hP : va_P (dC, dI) vwCl [(h0, .inr (4, [.ref (q 1), .ref (q 10), .ref (q 18), .ref (q 22), .ref (q 26), .int (a 0 2), .int (a 0 1), .int (a 0 5), .int (a 0 6), .int (a 0 7), .int (a 0 8)])), (q 1, .inr (3, [.ref (q 2), .ref (q 3), .ref (q 4), .ref (q 5), .ref (q 6), .ref (q 7), .ref (q 8), .ref (q 9), .int (a 0 0)])), (q 2, .inl (cI, 8, .inl (a 1))), (q 3, .inl (cI, 8, .inl (a 2))), (q 4, .inl (cI, 8, .inl (a 3))), (q 5, .inl (cI, 8, .inl (a 4))), (q 6, .inl (cI, 8, .inl (a 5))), (q 7, .inl (cI, 8, .inl (a 6))), (q 8, .inl (cI, 8, .inl (a 7))), (q 9, .inl (cI, 8, .inl (a 8))), (q 10, .inr (2, [.ref (q 11), .ref (q 12), .ref (q 13), .ref (q 14), .ref (q 15), .ref (q 16), .ref (q 17), .int (a 0 3)])), (q 11, .inl (cI, 100, .inl (a 10))), (q 12, .inl (cF, 100, .inr (.inr (.inl (fun j => shF (a 13 j)))))), (q 13, .inl (cI, 100, .inl (a 14))), (q 14, .inl (cI, 100, .inl (fun j => a 11 j - a 12 j))), (q 15, .inl (cI, 100, .inl (fun j => a 15 j - a 16 j))), (q 16, .inl (cI, 100, .inl (a 17))), (q 17, .inl (cI, 100, .inl (a 18))), (q 18, .inr (1, [.ref (q 19), .ref (q 20), .ref (q 21), .int (a 0 4)])), (q 19, .inl (cI, capOf (nn (a 0 4)), .inl (a 20))), (q 20, .inl (cI, capOf (nn (a 0 4)), .inl (a 19))), (q 21, .inl (cI, capOf (nn (a 0 4)), .inl (a 21))), (q 22, .inr (0, [.ref (q 23), .ref (q 24), .ref (q 25), .int (nI k)])), (q 23, .inl (cI, 8, .inl (jc))), (q 24, .inl (cI, 256, .inl (js))), (q 25, .inl (cI, 256, .inl (jv))), (q 26, .inl (cF, 4, .inr (.inr (.inl (fun j => shF (a 9 j)))))), (qo, .inl (cL, 1, .inr (.inl (fo))))] s.heap := hP
  refine y_enter (A := A) hP (fun H hP hS => ?_)
  have htab := vx_table (x := yL_fail) B (hts (.codeWith yL_fail cL_fail 4 (some .int) [(0, 9, 12, 13), (0, 9, 15, 15)]) List.mem_cons_self)
  refine lv_aload_n hx hb dL_fail_0 rfl (lv_at hl 2 rfl) ?_
  refine lv_iconst (v := 0) hx hb dL_fail_1 (by decide) ?_
  refine lv_aload_n hx hb dL_fail_2 rfl (lv_at hl 0 rfl) ?_
  refine lv_iload_n hx hb dL_fail_3 rfl (lv_at hl 1 rfl) ?_
  have hP : va_P (dC, dI) vwCl (WL cI cF cL h0 q a jc js jv k (capOf (nn (a 0 4))) qo fo) H := hP
  have hD : va_D A (WL cI cF cL h0 q a jc js jv k (capOf (nn (a 0 4))) qo fo) := hD
  have hPc := hP.sub (ws' := WC cI cF h0 q a jc js jv k (capOf (nn (a 0 4)))) [0, 1, 2, 3, 4, 5, 6, 7, 8, 9, 10, 11, 12, 13, 14, 15, 16, 17, 18, 19, 20, 21, 22, 23, 24, 25, 26] rfl
  have hDc := hD.sub (ws' := WC cI cF h0 q a jc js jv k (capOf (nn (a 0 4)))) [0, 1, 2, 3, 4, 5, 6, 7, 8, 9, 10, 11, 12, 13, 14, 15, 16, 17, 18, 19, 20, 21, 22, 23, 24, 25, 26] (by decide) rfl
  have hFc := va_free (wc := WC cI cF h0 q a jc js jv k (capOf (nn (a 0 4)))) hD hS hA [0, 1, 2, 3, 4, 5, 6, 7, 8, 9, 10, 11, 12, 13, 14, 15, 16, 17, 18, 19, 20, 21, 22, 23, 24, 25, 26] rfl
  have hKc := hK.sub (tys' := [(cI, .int), (cF, .float)]) [0, 1] rfl
  refine vx_calli (vx_runV (As := [.int x]) (rest := [.int 0, .ref qo]) ⟨hx, hb, hml, hown, hts⟩ (c_X4_fail l dC dI cI cF h0 q H.size a jc js jv k hst hC hB x) (cwV 1 hts gL_fail_X4_fail rfl rfl rfl (by decide +kernel) ⟨Nat.le_of_ble_eq_true rfl, Nat.le_of_ble_eq_true rfl⟩) ⟨pcV_blind, va_recv hKc hPc (ci := 4) (q0 := 0) rfl rfl, fun U hU hW => pcV_pre hPc hDc hKc hV hS hFc hU hW⟩ rfl rfl hl.1 rfl (lv_room (Nat.le_of_ble_eq_true rfl)) dL_fail_4 ⟨Nat.le_of_eq (Nat.zero_add _), Nat.le_of_eq (Nat.zero_add _)⟩) hS (fun q _ h => hFc q h) hFc (fun q _ h => hFc q h) (fun E ce q9 u t H1 locs ht hvm hw hBx hz1 hk1 hS hce hcv hcl => ?_) (fun r u t H1 locs ht hvm hw hB1 hz1 hk1 hS => ?_)
  · obtain ⟨hE, qx, jcx, jsx, jvx, kx, hCx, hPx, hKx, hDx⟩ := hBx
    rw [ht] at hPx
    obtain ⟨hP, hD⟩ := va_join (wr := [(qo, .inl (cL, 1, .inr (.inl fo)))]) (w1 := WC cI cF h0 qx a jcx jsx jvx kx (capOf (nn (a 0 4)))) hP hD [0, 1, 2, 3, 4, 5, 6, 7, 8, 9, 10, 11, 12, 13, 14, 15, 16, 17, 18, 19, 20, 21, 22, 23, 24, 25, 26] [27] rfl rfl (by decide) (by decide) hk1 hFc hPx hDx
    have hP := hP.sub (ws' := WL cI cF cL h0 qx a jcx jsx jvx kx (capOf (nn (a 0 4))) qo fo) [1, 2, 3, 4, 5, 6, 7, 8, 9, 10, 11, 12, 13, 14, 15, 16, 17, 18, 19, 20, 21, 22, 23, 24, 25, 26, 27, 0] rfl
    have hD := hD.sub (ws' := WL cI cF cL h0 qx a jcx jsx jvx kx (capOf (nn (a 0 4))) qo fo) [1, 2, 3, 4, 5, 6, 7, 8, 9, 10, 11, 12, 13, 14, 15, 16, 17, 18, 19, 20, 21, 22, 23, 24, 25, 26, 27, 0] (by decide) rfl
    generalize H1 = H at hP hS hce ⊢
    rcases kFail_r a x with h9 | h9 | h9
    · exact absurd h9 hw
    · have hE2 : E = exI := hE.trans (by rw [h9]; rfl)
      subst hE2
      refine vx_catch (name := exI) hown [] ⟨0, 9, 12, 13⟩ [⟨0, 9, 15, 15⟩] htab (fun z9 h8 => absurd h8 List.not_mem_nil) rfl (by decide) (hts (.classLink RL 13 "java/lang/IndexOutOfBoundsException") (List.mem_of_getElem? (i := 1) rfl)) (okV_use hV _ (by simp [vB])) hce hcv hcl ?_
      refine lv_astore_n (lv' := [(3, .ref q9), (0, .ref h0), (1, .int x), (2, .ref qo)]) hx hb dL_fail_12 rfl hl (by decide) rfl (fun ls hl => ?_)
      refine lv_iconst (v := 1) hx hb dL_fail_13 (by decide) ?_
      refine W.widen (k := 2) (n := 12) (Nat.le_of_eq (Nat.zero_add _)) (Nat.le_of_eq (Nat.zero_add _)) ?_
      have hP9 := hP
      have hD9 := hD
      have hK9 := hK
      exact W.iret (v := 1) hx hb hr (fun t ht hW => ⟨⟨1, fo, rfl, ⟨by rw [h9]; rfl, fun h8 => absurd (h9.symm.trans h8) (by decide)⟩, atL_n (fun h8 => absurd (h9.symm.trans h8) (by decide)) hCx (atW_end hP9 hD9 hK9 ht hW)⟩, hS.F ht⟩) hS.2.2 dL_fail_14
    · have hE2 : E = exS := hE.trans (by rw [h9]; rfl)
      subst hE2
      refine vx_catch (name := exS) hown [⟨0, 9, 12, 13⟩] ⟨0, 9, 15, 15⟩ [] htab (List.forall_mem_cons.mpr ⟨Or.inr ⟨by decide, exI, (hts (.classLink RL 13 "java/lang/IndexOutOfBoundsException") (List.mem_of_getElem? (i := 1) rfl)), hN.2.1⟩, fun z9 h8 => absurd h8 List.not_mem_nil⟩) rfl (by decide) (hts (.classLink RL 15 "java/lang/IllegalStateException") (List.mem_of_getElem? (i := 2) rfl)) (okV_use hV _ (by simp [vB])) hce hcv hcl ?_
      refine lv_astore_n (lv' := [(3, .ref q9), (0, .ref h0), (1, .int x), (2, .ref qo)]) hx hb dL_fail_15 rfl hl (by decide) rfl (fun ls hl => ?_)
      refine lv_iconst (v := 2) hx hb dL_fail_16 (by decide) ?_
      refine W.widen (k := 2) (n := 12) (Nat.le_of_eq (Nat.zero_add _)) (Nat.le_of_eq (Nat.zero_add _)) ?_
      have hP9 := hP
      have hD9 := hD
      have hK9 := hK
      exact W.iret (v := 2) hx hb hr (fun t ht hW => ⟨⟨2, fo, rfl, ⟨by rw [h9]; rfl, fun h8 => absurd (h9.symm.trans h8) (by decide)⟩, atL_n (fun h8 => absurd (h9.symm.trans h8) (by decide)) hCx (atW_end hP9 hD9 hK9 ht hW)⟩, hS.F ht⟩) hS.2.2 dL_fail_17
  · obtain ⟨qy, jcy, jsy, jvy, ky, hCy, hPy, hKy, hDy⟩ := hB1
    rw [ht] at hPy
    obtain ⟨hP, hD⟩ := va_join (wr := [(qo, .inl (cL, 1, .inr (.inl fo)))]) (w1 := WC cI cF h0 qy (sFail a (nn x)) jcy jsy jvy ky (capOf (nn ((sFail a (nn x)) 0 4)))) hP hD [0, 1, 2, 3, 4, 5, 6, 7, 8, 9, 10, 11, 12, 13, 14, 15, 16, 17, 18, 19, 20, 21, 22, 23, 24, 25, 26] [27] rfl rfl (by decide) (by decide) hk1 hFc hPy hDy
    have hP := hP.sub (ws' := WL cI cF cL h0 qy (sFail a (nn x)) jcy jsy jvy ky (capOf (nn ((sFail a (nn x)) 0 4))) qo fo) [1, 2, 3, 4, 5, 6, 7, 8, 9, 10, 11, 12, 13, 14, 15, 16, 17, 18, 19, 20, 21, 22, 23, 24, 25, 26, 27, 0] rfl
    have hD := hD.sub (ws' := WL cI cF cL h0 qy (sFail a (nn x)) jcy jsy jvy ky (capOf (nn ((sFail a (nn x)) 0 4))) qo fo) [1, 2, 3, 4, 5, 6, 7, 8, 9, 10, 11, 12, 13, 14, 15, 16, 17, 18, 19, 20, 21, 22, 23, 24, 25, 26, 27, 0] (by decide) rfl
    generalize H1 = H at hP hS ⊢
    refine lv_i2l (v := (r).toInt64) hx hb dL_fail_7 rfl ?_
    refine y_lst hx hb hK hP hD hS 27 2 rfl rfl dL_fail_8 (fun H locs hP hD hS => ?_)
    have hP : va_P (dC, dI) vwCl (WL cI cF cL h0 qy (sFail a (nn x)) jcy jsy jvy ky (capOf (nn ((sFail a (nn x)) 0 4))) qo (vp_updL fo 0 (r).toInt64)) H := hP
    have hD : va_D A (WL cI cF cL h0 qy (sFail a (nn x)) jcy jsy jvy ky (capOf (nn ((sFail a (nn x)) 0 4))) qo (vp_updL fo 0 (r).toInt64)) := hD
    refine lv_goto (tgt := 18) hx hb dL_fail_9 (by decide) ?_
    refine lv_iconst (v := 0) hx hb dL_fail_18 (by decide) ?_
    refine W.widen (k := 2) (n := 12) (Nat.le_of_eq (Nat.zero_add _)) (Nat.le_of_eq (Nat.zero_add _)) ?_
    have hP9 := hP
    have hD9 := hD
    have hK9 := hK
    exact W.iret (v := 0) hx hb hr (fun t ht hW => ⟨⟨0, (vp_updL fo 0 (r).toInt64), rfl, ⟨by rw [hw.1]; rfl, fun _ => by rw [updL_0, hw.2]⟩, atL_y hw.1 hCy (atW_end hP9 hD9 hK9 ht hW)⟩, hS.F ht⟩) hS.2.2 dL_fail_19
