theorem kPay_r (a : yA) (x : Int32) : kPay a x = 0 ∨ kPay a x = 1 := by
  unfold kPay
  repeat' split
  all_goals decide
set_option maxHeartbeats 4000000 in
set_option maxRecDepth 100000 in
theorem c_L_payout (l : Launch) (dC : Nat → ClassId) (dI : Nat → Nat → Nat) (cI cF cL : ClassId) (h0 qo : Nat) (q : Nat → Nat) (sz : Nat) (a : yA) (jc js jv : Nat → Int32) (k : Nat) (fo : Nat → Int64) (hst : l.stackTraces = false) (hC : okC a jc js jv k) (hB : okB a) (x : Int32) : Met l yL_payout wsL_payout ({ frames := 8, cells := 1, slots := 6, locals := 132 } : Room) (va_Pc [.ref h0, .int x, .ref qo] (pcH dC dI [(cI, .int), (cF, .float), (cL, .long)] (WL cI cF cL h0 q a jc js jv k (capOf (nn (a 0 4))) qo fo) sz)) (va_Qi (fun (r : Int32) (g : Nat → Int64) => r = nI (kPay a x) ∧ (kPay a x = 0 → g 0 = (a 19 (nn x)).toInt64)) (fun g t => atL dC dI cI cF cL (va_A (WL cI cF cL h0 q a jc js jv k (capOf (nn (a 0 4))) qo fo) sz) h0 qo (if kPay a x = 0 then a else a) g t) (va_A (WL cI cF cL h0 q a jc js jv k (capOf (nn (a 0 4))) qo fo) sz)) (1) (6) (va_A (WL cI cF cL h0 q a jc js jv k (capOf (nn (a 0 4))) qo fo) sz) := by
  refine va_MetW (cc := cL_payout) (maxL := 4) (ret := (some .int)) (hh := [(0, 9, 12, 13)]) (by decide) rfl ?_
  intro p e s m args below meth c s₁ B hml hv
  obtain ⟨rfl, ⟨⟨hsz, hP, hK, hD0⟩, hV⟩, hN⟩ := hv
  have hx := B.exec
  have hb := B.bytes
  have hr := B.returns
  have hts := atoms_spec (ws := wsL_payout) B.pre
  have hown : s.vm.findClass RL = some m.cls := findClass_of_methodNamed B.named
  have hlocks := B.notSynchronized
  subst hsz
  have hD := hD0.self (sz := s.heap.size)
  generalize hAe : va_A [(h0, .inr (4, [.ref (q 1), .ref (q 10), .ref (q 18), .ref (q 22), .ref (q 26), .int (a 0 2), .int (a 0 1), .int (a 0 5), .int (a 0 6), .int (a 0 7), .int (a 0 8)])), (q 1, .inr (3, [.ref (q 2), .ref (q 3), .ref (q 4), .ref (q 5), .ref (q 6), .ref (q 7), .ref (q 8), .ref (q 9), .int (a 0 0)])), (q 2, .inl (cI, 8, .inl (a 1))), (q 3, .inl (cI, 8, .inl (a 2))), (q 4, .inl (cI, 8, .inl (a 3))), (q 5, .inl (cI, 8, .inl (a 4))), (q 6, .inl (cI, 8, .inl (a 5))), (q 7, .inl (cI, 8, .inl (a 6))), (q 8, .inl (cI, 8, .inl (a 7))), (q 9, .inl (cI, 8, .inl (a 8))), (q 10, .inr (2, [.ref (q 11), .ref (q 12), .ref (q 13), .ref (q 14), .ref (q 15), .ref (q 16), .ref (q 17), .int (a 0 3)])), (q 11, .inl (cI, 100, .inl (a 10))), (q 12, .inl (cF, 100, .inr (.inr (.inl (fun j => shF (a 13 j)))))), (q 13, .inl (cI, 100, .inl (a 14))), (q 14, .inl (cI, 100, .inl (fun j => a 11 j - a 12 j))), (q 15, .inl (cI, 100, .inl (fun j => a 15 j - a 16 j))), (q 16, .inl (cI, 100, .inl (a 17))), (q 17, .inl (cI, 100, .inl (a 18))), (q 18, .inr (1, [.ref (q 19), .ref (q 20), .ref (q 21), .int (a 0 4)])), (q 19, .inl (cI, capOf (nn (a 0 4)), .inl (a 20))), (q 20, .inl (cI, capOf (nn (a 0 4)), .inl (a 19))), (q 21, .inl (cI, capOf (nn (a 0 4)), .inl (a 21))), (q 22, .inr (0, [.ref (q 23), .ref (q 24), .ref (q 25), .int (nI k)])), (q 23, .inl (cI, 8, .inl (jc))), (q 24, .inl (cI, 256, .inl (js))), (q 25, .inl (cI, 256, .inl (jv))), (q 26, .inl (cF, 4, .inr (.inr (.inl (fun j => shF (a 9 j)))))), (qo, .inl (cL, 1, .inr (.inl (fo))))] s.heap.size = A at hD hV ⊢
  have hA : ∀ q : Nat, s.heap.size ≤ q → A q := fun q h => by rw [← hAe]; exact Or.inr h
  have hS : va_S A s.heap s.heap [] := va_S.rf
  have hl := lv_entry ([.ref h0, .int x, .ref qo]) (n := 4) (Nat.le_of_ble_eq_true rfl)
  rw [lg_entry_eq]
  generalize (lg_sl ([.ref h0, .int x, .ref qo]) ++ List.replicate (4 - (lg_sl ([.ref h0, .int x, .ref qo])).length) Slot.unset).toArray = ls at hl ⊢
  have hl : lv_has ls 4 [(0, .ref h0), (1, .int x), (2, .ref qo)] := hl
  have hP : va_P (dC, dI) vwCl [(h0, .inr (4, [.ref (q 1), .ref (q 10), .ref (q 18), .ref (q 22), .ref (q 26), .int (a 0 2), .int (a 0 1), .int (a 0 5), .int (a 0 6), .int (a 0 7), .int (a 0 8)])), (q 1, .inr (3, [.ref (q 2), .ref (q 3), .ref (q 4), .ref (q 5), .ref (q 6), .ref (q 7), .ref (q 8), .ref (q 9), .int (a 0 0)])), (q 2, .inl (cI, 8, .inl (a 1))), (q 3, .inl (cI, 8, .inl (a 2))), (q 4, .inl (cI, 8, .inl (a 3))), (q 5, .inl (cI, 8, .inl (a 4))), (q 6, .inl (cI, 8, .inl (a 5))), (q 7, .inl (cI, 8, .inl (a 6))), (q 8, .inl (cI, 8, .inl (a 7))), (q 9, .inl (cI, 8, .inl (a 8))), (q 10, .inr (2, [.ref (q 11), .ref (q 12), .ref (q 13), .ref (q 14), .ref (q 15), .ref (q 16), .ref (q 17), .int (a 0 3)])), (q 11, .inl (cI, 100, .inl (a 10))), (q 12, .inl (cF, 100, .inr (.inr (.inl (fun j => shF (a 13 j)))))), (q 13, .inl (cI, 100, .inl (a 14))), (q 14, .inl (cI, 100, .inl (fun j => a 11 j - a 12 j))), (q 15, .inl (cI, 100, .inl (fun j => a 15 j - a 16 j))), (q 16, .inl (cI, 100, .inl (a 17))), (q 17, .inl (cI, 100, .inl (a 18))), (q 18, .inr (1, [.ref (q 19), .ref (q 20), .ref (q 21), .int (a 0 4)])), (q 19, .inl (cI, capOf (nn (a 0 4)), .inl (a 20))), (q 20, .inl (cI, capOf (nn (a 0 4)), .inl (a 19))), (q 21, .inl (cI, capOf (nn (a 0 4)), .inl (a 21))), (q 22, .inr (0, [.ref (q 23), .ref (q 24), .ref (q 25), .int (nI k)])), (q 23, .inl (cI, 8, .inl (jc))), (q 24, .inl (cI, 256, .inl (js))), (q 25, .inl (cI, 256, .inl (jv))), (q 26, .inl (cF, 4, .inr (.inr (.inl (fun j => shF (a 9 j)))))), (qo, .inl (cL, 1, .inr (.inl (fo))))] s.heap := hP
  refine y_enter (A := A) hP (fun H hP hS => ?_)
  have htab := vx_table (x := yL_payout) B (hts (.codeWith yL_payout cL_payout 4 (some .int) [(0, 9, 12, 13)]) List.mem_cons_self)
  refine lv_aload_n hx hb dL_payout_0 rfl (lv_at hl 2 rfl) ?_
  refine lv_iconst (v := 0) hx hb dL_payout_1 (by decide) ?_
  refine lv_aload_n hx hb dL_payout_2 rfl (lv_at hl 0 rfl) ?_
  refine lv_iload_n hx hb dL_payout_3 rfl (lv_at hl 1 rfl) ?_
  have hP : va_P (dC, dI) vwCl (WL cI cF cL h0 q a jc js jv k (capOf (nn (a 0 4))) qo fo) H := hP
  have hD : va_D A (WL cI cF cL h0 q a jc js jv k (capOf (nn (a 0 4))) qo fo) := hD
  have hPc := hP.sub (ws' := WC cI cF h0 q a jc js jv k (capOf (nn (a 0 4)))) [0, 1, 2, 3, 4, 5, 6, 7, 8, 9, 10, 11, 12, 13, 14, 15, 16, 17, 18, 19, 20, 21, 22, 23, 24, 25, 26] rfl
  have hDc := hD.sub (ws' := WC cI cF h0 q a jc js jv k (capOf (nn (a 0 4)))) [0, 1, 2, 3, 4, 5, 6, 7, 8, 9, 10, 11, 12, 13, 14, 15, 16, 17, 18, 19, 20, 21, 22, 23, 24, 25, 26] (by decide) rfl
  have hFc := va_free (wc := WC cI cF h0 q a jc js jv k (capOf (nn (a 0 4)))) hD hS hA [0, 1, 2, 3, 4, 5, 6, 7, 8, 9, 10, 11, 12, 13, 14, 15, 16, 17, 18, 19, 20, 21, 22, 23, 24, 25, 26] rfl
  have hKc := hK.sub (tys' := [(cI, .int), (cF, .float)]) [0, 1] rfl
  refine vx_calli (vx_runV (As := [.int x]) (rest := [.int 0, .ref qo]) ⟨hx, hb, hml, hown, hts⟩ (c_X4_payout l dC dI cI cF h0 q H.size a jc js jv k hst hC hB x) (cwV 1 hts gL_payout_X4_payout rfl rfl rfl (by decide +kernel) ⟨Nat.le_of_ble_eq_true rfl, Nat.le_of_ble_eq_true rfl⟩) ⟨pcV_blind, va_recv hKc hPc (ci := 4) (q0 := 0) rfl rfl, fun U hU hW => pcV_pre hPc hDc hKc hV hS hFc hU hW⟩ rfl rfl hl.1 rfl (lv_room (Nat.le_of_ble_eq_true rfl)) dL_payout_4 ⟨Nat.le_of_eq (Nat.zero_add _), Nat.le_of_eq (Nat.zero_add _)⟩) hS (fun q _ h => hFc q h) hFc (fun q _ h => hFc q h) (fun E ce q9 u t H1 locs ht hvm hw hBx hz1 hk1 hS hce hcv hcl => ?_) (fun r u t H1 locs ht hvm hw hB1 hz1 hk1 hS => ?_)
  · obtain ⟨hE, qx, jcx, jsx, jvx, kx, hCx, hPx, hKx, hDx⟩ := hBx
    rw [ht] at hPx
    obtain ⟨hP, hD⟩ := va_join (wr := [(qo, .inl (cL, 1, .inr (.inl fo)))]) (w1 := WC cI cF h0 qx a jcx jsx jvx kx (capOf (nn (a 0 4)))) hP hD [0, 1, 2, 3, 4, 5, 6, 7, 8, 9, 10, 11, 12, 13, 14, 15, 16, 17, 18, 19, 20, 21, 22, 23, 24, 25, 26] [27] rfl rfl (by decide) (by decide) hk1 hFc hPx hDx
    have hP := hP.sub (ws' := WL cI cF cL h0 qx a jcx jsx jvx kx (capOf (nn (a 0 4))) qo fo) [1, 2, 3, 4, 5, 6, 7, 8, 9, 10, 11, 12, 13, 14, 15, 16, 17, 18, 19, 20, 21, 22, 23, 24, 25, 26, 27, 0] rfl
    have hD := hD.sub (ws' := WL cI cF cL h0 qx a jcx jsx jvx kx (capOf (nn (a 0 4))) qo fo) [1, 2, 3, 4, 5, 6, 7, 8, 9, 10, 11, 12, 13, 14, 15, 16, 17, 18, 19, 20, 21, 22, 23, 24, 25, 26, 27, 0] (by decide) rfl
    generalize H1 = H at hP hS hce ⊢
    rcases kPay_r a x with h9 | h9
    · exact absurd h9 hw
    · have hE2 : E = exI := hE.trans (by rw [h9]; rfl)
      subst hE2
      refine vx_catch (name := exI) hown [] ⟨0, 9, 12, 13⟩ [] htab (fun z9 h8 => absurd h8 List.not_mem_nil) rfl (by decide) (hts (.classLink RL 13 "java/lang/IndexOutOfBoundsException") (List.mem_of_getElem? (i := 1) rfl)) (okV_use hV _ (by simp [vB])) hce hcv hcl ?_
      refine lv_astore_n (lv' := [(3, .ref q9), (0, .ref h0), (1, .int x), (2, .ref qo)]) hx hb dL_payout_12 rfl hl (by decide) rfl (fun ls hl => ?_)
      refine lv_iconst (v := 1) hx hb dL_payout_13 (by decide) ?_
      refine W.widen (k := 1) (n := 6) (Nat.le_of_eq (Nat.zero_add _)) (Nat.le_of_eq (Nat.zero_add _)) ?_
      have hP9 := hP
      have hD9 := hD
      have hK9 := hK
      exact W.iret (v := 1) hx hb hr (fun t ht hW => ⟨⟨1, fo, rfl, ⟨by rw [h9]; rfl, fun h8 => absurd (h9.symm.trans h8) (by decide)⟩, atL_n (fun h8 => absurd (h9.symm.trans h8) (by decide)) hCx (atW_end hP9 hD9 hK9 ht hW)⟩, hS.F ht⟩) hS.2.2 dL_payout_14
  · obtain ⟨qy, jcy, jsy, jvy, ky, hCy, hPy, hKy, hDy⟩ := hB1
    rw [ht] at hPy
    obtain ⟨hP, hD⟩ := va_join (wr := [(qo, .inl (cL, 1, .inr (.inl fo)))]) (w1 := WC cI cF h0 qy a jcy jsy jvy ky (capOf (nn (a 0 4)))) hP hD [0, 1, 2, 3, 4, 5, 6, 7, 8, 9, 10, 11, 12, 13, 14, 15, 16, 17, 18, 19, 20, 21, 22, 23, 24, 25, 26] [27] rfl rfl (by decide) (by decide) hk1 hFc hPy hDy
    have hP := hP.sub (ws' := WL cI cF cL h0 qy a jcy jsy jvy ky (capOf (nn (a 0 4))) qo fo) [1, 2, 3, 4, 5, 6, 7, 8, 9, 10, 11, 12, 13, 14, 15, 16, 17, 18, 19, 20, 21, 22, 23, 24, 25, 26, 27, 0] rfl
    have hD := hD.sub (ws' := WL cI cF cL h0 qy a jcy jsy jvy ky (capOf (nn (a 0 4))) qo fo) [1, 2, 3, 4, 5, 6, 7, 8, 9, 10, 11, 12, 13, 14, 15, 16, 17, 18, 19, 20, 21, 22, 23, 24, 25, 26, 27, 0] (by decide) rfl
    generalize H1 = H at hP hS ⊢
    refine lv_i2l (v := (r).toInt64) hx hb dL_payout_7 rfl ?_
    refine y_lst hx hb hK hP hD hS 27 2 rfl rfl dL_payout_8 (fun H locs hP hD hS => ?_)
    have hP : va_P (dC, dI) vwCl (WL cI cF cL h0 qy a jcy jsy jvy ky (capOf (nn (a 0 4))) qo (vp_updL fo 0 (r).toInt64)) H := hP
    have hD : va_D A (WL cI cF cL h0 qy a jcy jsy jvy ky (capOf (nn (a 0 4))) qo (vp_updL fo 0 (r).toInt64)) := hD
    refine lv_goto (tgt := 15) hx hb dL_payout_9 (by decide) ?_
    refine lv_iconst (v := 0) hx hb dL_payout_15 (by decide) ?_
    refine W.widen (k := 1) (n := 6) (Nat.le_of_eq (Nat.zero_add _)) (Nat.le_of_eq (Nat.zero_add _)) ?_
    have hP9 := hP
    have hD9 := hD
    have hK9 := hK
    exact W.iret (v := 0) hx hb hr (fun t ht hW => ⟨⟨0, (vp_updL fo 0 (r).toInt64), rfl, ⟨by rw [hw.1]; rfl, fun _ => by rw [updL_0, hw.2]⟩, atL_y hw.1 hCy (atW_end hP9 hD9 hK9 ht hW)⟩, hS.F ht⟩) hS.2.2 dL_payout_16
set_option maxHeartbeats 4000000 in
set_option maxRecDepth 100000 in
theorem c_L_sellerOf (l : Launch) (dC : Nat → ClassId) (dI : Nat → Nat → Nat) (cI cF cL : ClassId) (h0 qo : Nat) (q : Nat → Nat) (sz : Nat) (a : yA) (jc js jv : Nat → Int32) (k : Nat) (fo : Nat → Int64) (hst : l.stackTraces = false) (hC : okC a jc js jv k) (hB : okB a) (x : Int32) : Met l yL_sellerOf wsL_sellerOf ({ frames := 8, cells := 1, slots := 6, locals := 132 } : Room) (va_Pc [.ref h0, .int x, .ref qo] (pcH dC dI [(cI, .int), (cF, .float), (cL, .long)] (WL cI cF cL h0 q a jc js jv k (capOf (nn (a 0 4))) qo fo) sz)) (va_Qi (fun (r : Int32) (g : Nat → Int64) => r = nI (kPay a x) ∧ (kPay a x = 0 → g 0 = (a 20 (nn x)).toInt64)) (fun g t => atL dC dI cI cF cL (va_A (WL cI cF cL h0 q a jc js jv k (capOf (nn (a 0 4))) qo fo) sz) h0 qo (if kPay a x = 0 then a else a) g t) (va_A (WL cI cF cL h0 q a jc js jv k (capOf (nn (a 0 4))) qo fo) sz)) (1) (6) (va_A (WL cI cF cL h0 q a jc js jv k (capOf (nn (a 0 4))) qo fo) sz) := by
  refine va_MetW (cc := cL_sellerOf) (maxL := 4) (ret := (some .int)) (hh := [(0, 9, 12, 13)]) (by decide) rfl ?_
  intro p e s m args below meth c s₁ B hml hv
  obtain ⟨rfl, ⟨⟨hsz, hP, hK, hD0⟩, hV⟩, hN⟩ := hv
  have hx := B.exec
  have hb := B.bytes
  have hr := B.returns
  have hts := atoms_spec (ws := wsL_sellerOf) B.pre
  have hown : s.vm.findClass RL = some m.cls := findClass_of_methodNamed B.named
  have hlocks := B.notSynchronized
  subst hsz
  have hD := hD0.self (sz := s.heap.size)
  generalize hAe : va_A [(h0, .inr (4, [.ref (q 1), .ref (q 10), .ref (q 18), .ref (q 22), .ref (q 26), .int (a 0 2), .int (a 0 1), .int (a 0 5), .int (a 0 6), .int (a 0 7), .int (a 0 8)])), (q 1, .inr (3, [.ref (q 2), .ref (q 3), .ref (q 4), .ref (q 5), .ref (q 6), .ref (q 7), .ref (q 8), .ref (q 9), .int (a 0 0)])), (q 2, .inl (cI, 8, .inl (a 1))), (q 3, .inl (cI, 8, .inl (a 2))), (q 4, .inl (cI, 8, .inl (a 3))), (q 5, .inl (cI, 8, .inl (a 4))), (q 6, .inl (cI, 8, .inl (a 5))), (q 7, .inl (cI, 8, .inl (a 6))), (q 8, .inl (cI, 8, .inl (a 7))), (q 9, .inl (cI, 8, .inl (a 8))), (q 10, .inr (2, [.ref (q 11), .ref (q 12), .ref (q 13), .ref (q 14), .ref (q 15), .ref (q 16), .ref (q 17), .int (a 0 3)])), (q 11, .inl (cI, 100, .inl (a 10))), (q 12, .inl (cF, 100, .inr (.inr (.inl (fun j => shF (a 13 j)))))), (q 13, .inl (cI, 100, .inl (a 14))), (q 14, .inl (cI, 100, .inl (fun j => a 11 j - a 12 j))), (q 15, .inl (cI, 100, .inl (fun j => a 15 j - a 16 j))), (q 16, .inl (cI, 100, .inl (a 17))), (q 17, .inl (cI, 100, .inl (a 18))), (q 18, .inr (1, [.ref (q 19), .ref (q 20), .ref (q 21), .int (a 0 4)])), (q 19, .inl (cI, capOf (nn (a 0 4)), .inl (a 20))), (q 20, .inl (cI, capOf (nn (a 0 4)), .inl (a 19))), (q 21, .inl (cI, capOf (nn (a 0 4)), .inl (a 21))), (q 22, .inr (0, [.ref (q 23), .ref (q 24), .ref (q 25), .int (nI k)])), (q 23, .inl (cI, 8, .inl (jc))), (q 24, .inl (cI, 256, .inl (js))), (q 25, .inl (cI, 256, .inl (jv))), (q 26, .inl (cF, 4, .inr (.inr (.inl (fun j => shF (a 9 j)))))), (qo, .inl (cL, 1, .inr (.inl (fo))))] s.heap.size = A at hD hV ⊢
  have hA : ∀ q : Nat, s.heap.size ≤ q → A q := fun q h => by rw [← hAe]; exact Or.inr h
  have hS : va_S A s.heap s.heap [] := va_S.rf
  have hl := lv_entry ([.ref h0, .int x, .ref qo]) (n := 4) (Nat.le_of_ble_eq_true rfl)
  rw [lg_entry_eq]
  generalize (lg_sl ([.ref h0, .int x, .ref qo]) ++ List.replicate (4 - (lg_sl ([.ref h0, .int x, .ref qo])).length) Slot.unset).toArray = ls at hl ⊢
  have hl : lv_has ls 4 [(0, .ref h0), (1, .int x), (2, .ref qo)] := hl
  have hP : va_P (dC, dI) vwCl [(h0, .inr (4, [.ref (q 1), .ref (q 10), .ref (q 18), .ref (q 22), .ref (q 26), .int (a 0 2), .int (a 0 1), .int (a 0 5), .int (a 0 6), .int (a 0 7), .int (a 0 8)])), (q 1, .inr (3, [.ref (q 2), .ref (q 3), .ref (q 4), .ref (q 5), .ref (q 6), .ref (q 7), .ref (q 8), .ref (q 9), .int (a 0 0)])), (q 2, .inl (cI, 8, .inl (a 1))), (q 3, .inl (cI, 8, .inl (a 2))), (q 4, .inl (cI, 8, .inl (a 3))), (q 5, .inl (cI, 8, .inl (a 4))), (q 6, .inl (cI, 8, .inl (a 5))), (q 7, .inl (cI, 8, .inl (a 6))), (q 8, .inl (cI, 8, .inl (a 7))), (q 9, .inl (cI, 8, .inl (a 8))), (q 10, .inr (2, [.ref (q 11), .ref (q 12), .ref (q 13), .ref (q 14), .ref (q 15), .ref (q 16), .ref (q 17), .int (a 0 3)])), (q 11, .inl (cI, 100, .inl (a 10))), (q 12, .inl (cF, 100, .inr (.inr (.inl (fun j => shF (a 13 j)))))), (q 13, .inl (cI, 100, .inl (a 14))), (q 14, .inl (cI, 100, .inl (fun j => a 11 j - a 12 j))), (q 15, .inl (cI, 100, .inl (fun j => a 15 j - a 16 j))), (q 16, .inl (cI, 100, .inl (a 17))), (q 17, .inl (cI, 100, .inl (a 18))), (q 18, .inr (1, [.ref (q 19), .ref (q 20), .ref (q 21), .int (a 0 4)])), (q 19, .inl (cI, capOf (nn (a 0 4)), .inl (a 20))), (q 20, .inl (cI, capOf (nn (a 0 4)), .inl (a 19))), (q 21, .inl (cI, capOf (nn (a 0 4)), .inl (a 21))), (q 22, .inr (0, [.ref (q 23), .ref (q 24), .ref (q 25), .int (nI k)])), (q 23, .inl (cI, 8, .inl (jc))), (q 24, .inl (cI, 256, .inl (js))), (q 25, .inl (cI, 256, .inl (jv))), (q 26, .inl (cF, 4, .inr (.inr (.inl (fun j => shF (a 9 j)))))), (qo, .inl (cL, 1, .inr (.inl (fo))))] s.heap := hP
  refine y_enter (A := A) hP (fun H hP hS => ?_)
  have htab := vx_table (x := yL_sellerOf) B (hts (.codeWith yL_sellerOf cL_sellerOf 4 (some .int) [(0, 9, 12, 13)]) List.mem_cons_self)
  refine lv_aload_n hx hb dL_sellerOf_0 rfl (lv_at hl 2 rfl) ?_
  refine lv_iconst (v := 0) hx hb dL_sellerOf_1 (by decide) ?_
  refine lv_aload_n hx hb dL_sellerOf_2 rfl (lv_at hl 0 rfl) ?_
  refine lv_iload_n hx hb dL_sellerOf_3 rfl (lv_at hl 1 rfl) ?_
  have hP : va_P (dC, dI) vwCl (WL cI cF cL h0 q a jc js jv k (capOf (nn (a 0 4))) qo fo) H := hP
  have hD : va_D A (WL cI cF cL h0 q a jc js jv k (capOf (nn (a 0 4))) qo fo) := hD
  have hPc := hP.sub (ws' := WC cI cF h0 q a jc js jv k (capOf (nn (a 0 4)))) [0, 1, 2, 3, 4, 5, 6, 7, 8, 9, 10, 11, 12, 13, 14, 15, 16, 17, 18, 19, 20, 21, 22, 23, 24, 25, 26] rfl
  have hDc := hD.sub (ws' := WC cI cF h0 q a jc js jv k (capOf (nn (a 0 4)))) [0, 1, 2, 3, 4, 5, 6, 7, 8, 9, 10, 11, 12, 13, 14, 15, 16, 17, 18, 19, 20, 21, 22, 23, 24, 25, 26] (by decide) rfl
  have hFc := va_free (wc := WC cI cF h0 q a jc js jv k (capOf (nn (a 0 4)))) hD hS hA [0, 1, 2, 3, 4, 5, 6, 7, 8, 9, 10, 11, 12, 13, 14, 15, 16, 17, 18, 19, 20, 21, 22, 23, 24, 25, 26] rfl
  have hKc := hK.sub (tys' := [(cI, .int), (cF, .float)]) [0, 1] rfl
  refine vx_calli (vx_runV (As := [.int x]) (rest := [.int 0, .ref qo]) ⟨hx, hb, hml, hown, hts⟩ (c_X4_sellerOf l dC dI cI cF h0 q H.size a jc js jv k hst hC hB x) (cwV 1 hts gL_sellerOf_X4_sellerOf rfl rfl rfl (by decide +kernel) ⟨Nat.le_of_ble_eq_true rfl, Nat.le_of_ble_eq_true rfl⟩) ⟨pcV_blind, va_recv hKc hPc (ci := 4) (q0 := 0) rfl rfl, fun U hU hW => pcV_pre hPc hDc hKc hV hS hFc hU hW⟩ rfl rfl hl.1 rfl (lv_room (Nat.le_of_ble_eq_true rfl)) dL_sellerOf_4 ⟨Nat.le_of_eq (Nat.zero_add _), Nat.le_of_eq (Nat.zero_add _)⟩) hS (fun q _ h => hFc q h) hFc (fun q _ h => hFc q h) (fun E ce q9 u t H1 locs ht hvm hw hBx hz1 hk1 hS hce hcv hcl => ?_) (fun r u t H1 locs ht hvm hw hB1 hz1 hk1 hS => ?_)
  · obtain ⟨hE, qx, jcx, jsx, jvx, kx, hCx, hPx, hKx, hDx⟩ := hBx
    rw [ht] at hPx
    obtain ⟨hP, hD⟩ := va_join (wr := [(qo, .inl (cL, 1, .inr (.inl fo)))]) (w1 := WC cI cF h0 qx a jcx jsx jvx kx (capOf (nn (a 0 4)))) hP hD [0, 1, 2, 3, 4, 5, 6, 7, 8, 9, 10, 11, 12, 13, 14, 15, 16, 17, 18, 19, 20, 21, 22, 23, 24, 25, 26] [27] rfl rfl (by decide) (by decide) hk1 hFc hPx hDx
    have hP := hP.sub (ws' := WL cI cF cL h0 qx a jcx jsx jvx kx (capOf (nn (a 0 4))) qo fo) [1, 2, 3, 4, 5, 6, 7, 8, 9, 10, 11, 12, 13, 14, 15, 16, 17, 18, 19, 20, 21, 22, 23, 24, 25, 26, 27, 0] rfl
    have hD := hD.sub (ws' := WL cI cF cL h0 qx a jcx jsx jvx kx (capOf (nn (a 0 4))) qo fo) [1, 2, 3, 4, 5, 6, 7, 8, 9, 10, 11, 12, 13, 14, 15, 16, 17, 18, 19, 20, 21, 22, 23, 24, 25, 26, 27, 0] (by decide) rfl
    generalize H1 = H at hP hS hce ⊢
    rcases kPay_r a x with h9 | h9
    · exact absurd h9 hw
    · have hE2 : E = exI := hE.trans (by rw [h9]; rfl)
      subst hE2
      refine vx_catch (name := exI) hown [] ⟨0, 9, 12, 13⟩ [] htab (fun z9 h8 => absurd h8 List.not_mem_nil) rfl (by decide) (hts (.classLink RL 13 "java/lang/IndexOutOfBoundsException") (List.mem_of_getElem? (i := 1) rfl)) (okV_use hV _ (by simp [vB])) hce hcv hcl ?_
      refine lv_astore_n (lv' := [(3, .ref q9), (0, .ref h0), (1, .int x), (2, .ref qo)]) hx hb dL_sellerOf_12 rfl hl (by decide) rfl (fun ls hl => ?_)
      refine lv_iconst (v := 1) hx hb dL_sellerOf_13 (by decide) ?_
      refine W.widen (k := 1) (n := 6) (Nat.le_of_eq (Nat.zero_add _)) (Nat.le_of_eq (Nat.zero_add _)) ?_
      have hP9 := hP
      have hD9 := hD
      have hK9 := hK
      exact W.iret (v := 1) hx hb hr (fun t ht hW => ⟨⟨1, fo, rfl, ⟨by rw [h9]; rfl, fun h8 => absurd (h9.symm.trans h8) (by decide)⟩, atL_n (fun h8 => absurd (h9.symm.trans h8) (by decide)) hCx (atW_end hP9 hD9 hK9 ht hW)⟩, hS.F ht⟩) hS.2.2 dL_sellerOf_14
  · obtain ⟨qy, jcy, jsy, jvy, ky, hCy, hPy, hKy, hDy⟩ := hB1
    rw [ht] at hPy
    obtain ⟨hP, hD⟩ := va_join (wr := [(qo, .inl (cL, 1, .inr (.inl fo)))]) (w1 := WC cI cF h0 qy a jcy jsy jvy ky (capOf (nn (a 0 4)))) hP hD [0, 1, 2, 3, 4, 5, 6, 7, 8, 9, 10, 11, 12, 13, 14, 15, 16, 17, 18, 19, 20, 21, 22, 23, 24, 25, 26] [27] rfl rfl (by decide) (by decide) hk1 hFc hPy hDy
    have hP := hP.sub (ws' := WL cI cF cL h0 qy a jcy jsy jvy ky (capOf (nn (a 0 4))) qo fo) [1, 2, 3, 4, 5, 6, 7, 8, 9, 10, 11, 12, 13, 14, 15, 16, 17, 18, 19, 20, 21, 22, 23, 24, 25, 26, 27, 0] rfl
    have hD := hD.sub (ws' := WL cI cF cL h0 qy a jcy jsy jvy ky (capOf (nn (a 0 4))) qo fo) [1, 2, 3, 4, 5, 6, 7, 8, 9, 10, 11, 12, 13, 14, 15, 16, 17, 18, 19, 20, 21, 22, 23, 24, 25, 26, 27, 0] (by decide) rfl
    generalize H1 = H at hP hS ⊢
    refine lv_i2l (v := (r).toInt64) hx hb dL_sellerOf_7 rfl ?_
    refine y_lst hx hb hK hP hD hS 27 2 rfl rfl dL_sellerOf_8 (fun H locs hP hD hS => ?_)
    have hP : va_P (dC, dI) vwCl (WL cI cF cL h0 qy a jcy jsy jvy ky (capOf (nn (a 0 4))) qo (vp_updL fo 0 (r).toInt64)) H := hP
    have hD : va_D A (WL cI cF cL h0 qy a jcy jsy jvy ky (capOf (nn (a 0 4))) qo (vp_updL fo 0 (r).toInt64)) := hD
    refine lv_goto (tgt := 15) hx hb dL_sellerOf_9 (by decide) ?_
    refine lv_iconst (v := 0) hx hb dL_sellerOf_15 (by decide) ?_
    refine W.widen (k := 1) (n := 6) (Nat.le_of_eq (Nat.zero_add _)) (Nat.le_of_eq (Nat.zero_add _)) ?_
    have hP9 := hP
    have hD9 := hD
    have hK9 := hK
    exact W.iret (v := 0) hx hb hr (fun t ht hW => ⟨⟨0, (vp_updL fo 0 (r).toInt64), rfl, ⟨by rw [hw.1]; rfl, fun _ => by rw [updL_0, hw.2]⟩, atL_y hw.1 hCy (atW_end hP9 hD9 hK9 ht hW)⟩, hS.F ht⟩) hS.2.2 dL_sellerOf_16
theorem kSel_r (a : yA) (x : Int32) : kSel a x = 0 ∨ kSel a x = 1 := by
  unfold kSel
  repeat' split
  all_goals decide
set_option maxHeartbeats 4000000 in
set_option maxRecDepth 100000 in
theorem c_L_balance (l : Launch) (dC : Nat → ClassId) (dI : Nat → Nat → Nat) (cI cF cL : ClassId) (h0 qo : Nat) (q : Nat → Nat) (sz : Nat) (a : yA) (jc js jv : Nat → Int32) (k : Nat) (fo : Nat → Int64) (hst : l.stackTraces = false) (hC : okC a jc js jv k) (hB : okB a) (x : Int32) : Met l yL_balance wsL_balance ({ frames := 8, cells := 1, slots := 6, locals := 132 } : Room) (va_Pc [.ref h0, .int x, .ref qo] (pcH dC dI [(cI, .int), (cF, .float), (cL, .long)] (WL cI cF cL h0 q a jc js jv k (capOf (nn (a 0 4))) qo fo) sz)) (va_Qi (fun (r : Int32) (g : Nat → Int64) => r = nI (kSel a x) ∧ (kSel a x = 0 → g 0 = (a 7 (nn x)).toInt64)) (fun g t => atL dC dI cI cF cL (va_A (WL cI cF cL h0 q a jc js jv k (capOf (nn (a 0 4))) qo fo) sz) h0 qo (if kSel a x = 0 then a else a) g t) (va_A (WL cI cF cL h0 q a jc js jv k (capOf (nn (a 0 4))) qo fo) sz)) (1) (6) (va_A (WL cI cF cL h0 q a jc js jv k (capOf (nn (a 0 4))) qo fo) sz) := by
  refine va_MetW (cc := cL_balance) (maxL := 4) (ret := (some .int)) (hh := [(0, 9, 12, 13)]) (by decide) rfl ?_
  intro p e s m args below meth c s₁ B hml hv
  obtain ⟨rfl, ⟨⟨hsz, hP, hK, hD0⟩, hV⟩, hN⟩ := hv
  have hx := B.exec
  have hb := B.bytes
  have hr := B.returns
  have hts := atoms_spec (ws := wsL_balance) B.pre
  have hown : s.vm.findClass RL = some m.cls := findClass_of_methodNamed B.named
  have hlocks := B.notSynchronized
  subst hsz
  have hD := hD0.self (sz := s.heap.size)
  generalize hAe : va_A [(h0, .inr (4, [.ref (q 1), .ref (q 10), .ref (q 18), .ref (q 22), .ref (q 26), .int (a 0 2), .int (a 0 1), .int (a 0 5), .int (a 0 6), .int (a 0 7), .int (a 0 8)])), (q 1, .inr (3, [.ref (q 2), .ref (q 3), .ref (q 4), .ref (q 5), .ref (q 6), .ref (q 7), .ref (q 8), .ref (q 9), .int (a 0 0)])), (q 2, .inl (cI, 8, .inl (a 1))), (q 3, .inl (cI, 8, .inl (a 2))), (q 4, .inl (cI, 8, .inl (a 3))), (q 5, .inl (cI, 8, .inl (a 4))), (q 6, .inl (cI, 8, .inl (a 5))), (q 7, .inl (cI, 8, .inl (a 6))), (q 8, .inl (cI, 8, .inl (a 7))), (q 9, .inl (cI, 8, .inl (a 8))), (q 10, .inr (2, [.ref (q 11), .ref (q 12), .ref (q 13), .ref (q 14), .ref (q 15), .ref (q 16), .ref (q 17), .int (a 0 3)])), (q 11, .inl (cI, 100, .inl (a 10))), (q 12, .inl (cF, 100, .inr (.inr (.inl (fun j => shF (a 13 j)))))), (q 13, .inl (cI, 100, .inl (a 14))), (q 14, .inl (cI, 100, .inl (fun j => a 11 j - a 12 j))), (q 15, .inl (cI, 100, .inl (fun j => a 15 j - a 16 j))), (q 16, .inl (cI, 100, .inl (a 17))), (q 17, .inl (cI, 100, .inl (a 18))), (q 18, .inr (1, [.ref (q 19), .ref (q 20), .ref (q 21), .int (a 0 4)])), (q 19, .inl (cI, capOf (nn (a 0 4)), .inl (a 20))), (q 20, .inl (cI, capOf (nn (a 0 4)), .inl (a 19))), (q 21, .inl (cI, capOf (nn (a 0 4)), .inl (a 21))), (q 22, .inr (0, [.ref (q 23), .ref (q 24), .ref (q 25), .int (nI k)])), (q 23, .inl (cI, 8, .inl (jc))), (q 24, .inl (cI, 256, .inl (js))), (q 25, .inl (cI, 256, .inl (jv))), (q 26, .inl (cF, 4, .inr (.inr (.inl (fun j => shF (a 9 j)))))), (qo, .inl (cL, 1, .inr (.inl (fo))))] s.heap.size = A at hD hV ⊢
  have hA : ∀ q : Nat, s.heap.size ≤ q → A q := fun q h => by rw [← hAe]; exact Or.inr h
  have hS : va_S A s.heap s.heap [] := va_S.rf
  have hl := lv_entry ([.ref h0, .int x, .ref qo]) (n := 4) (Nat.le_of_ble_eq_true rfl)
  rw [lg_entry_eq]
  generalize (lg_sl ([.ref h0, .int x, .ref qo]) ++ List.replicate (4 - (lg_sl ([.ref h0, .int x, .ref qo])).length) Slot.unset).toArray = ls at hl ⊢
  have hl : lv_has ls 4 [(0, .ref h0), (1, .int x), (2, .ref qo)] := hl
  have hP : va_P (dC, dI) vwCl [(h0, .inr (4, [.ref (q 1), .ref (q 10), .ref (q 18), .ref (q 22), .ref (q 26), .int (a 0 2), .int (a 0 1), .int (a 0 5), .int (a 0 6), .int (a 0 7), .int (a 0 8)])), (q 1, .inr (3, [.ref (q 2), .ref (q 3), .ref (q 4), .ref (q 5), .ref (q 6), .ref (q 7), .ref (q 8), .ref (q 9), .int (a 0 0)])), (q 2, .inl (cI, 8, .inl (a 1))), (q 3, .inl (cI, 8, .inl (a 2))), (q 4, .inl (cI, 8, .inl (a 3))), (q 5, .inl (cI, 8, .inl (a 4))), (q 6, .inl (cI, 8, .inl (a 5))), (q 7, .inl (cI, 8, .inl (a 6))), (q 8, .inl (cI, 8, .inl (a 7))), (q 9, .inl (cI, 8, .inl (a 8))), (q 10, .inr (2, [.ref (q 11), .ref (q 12), .ref (q 13), .ref (q 14), .ref (q 15), .ref (q 16), .ref (q 17), .int (a 0 3)])), (q 11, .inl (cI, 100, .inl (a 10))), (q 12, .inl (cF, 100, .inr (.inr (.inl (fun j => shF (a 13 j)))))), (q 13, .inl (cI, 100, .inl (a 14))), (q 14, .inl (cI, 100, .inl (fun j => a 11 j - a 12 j))), (q 15, .inl (cI, 100, .inl (fun j => a 15 j - a 16 j))), (q 16, .inl (cI, 100, .inl (a 17))), (q 17, .inl (cI, 100, .inl (a 18))), (q 18, .inr (1, [.ref (q 19), .ref (q 20), .ref (q 21), .int (a 0 4)])), (q 19, .inl (cI, capOf (nn (a 0 4)), .inl (a 20))), (q 20, .inl (cI, capOf (nn (a 0 4)), .inl (a 19))), (q 21, .inl (cI, capOf (nn (a 0 4)), .inl (a 21))), (q 22, .inr (0, [.ref (q 23), .ref (q 24), .ref (q 25), .int (nI k)])), (q 23, .inl (cI, 8, .inl (jc))), (q 24, .inl (cI, 256, .inl (js))), (q 25, .inl (cI, 256, .inl (jv))), (q 26, .inl (cF, 4, .inr (.inr (.inl (fun j => shF (a 9 j)))))), (qo, .inl (cL, 1, .inr (.inl (fo))))] s.heap := hP
  refine y_enter (A := A) hP (fun H hP hS => ?_)
  have htab := vx_table (x := yL_balance) B (hts (.codeWith yL_balance cL_balance 4 (some .int) [(0, 9, 12, 13)]) List.mem_cons_self)
  refine lv_aload_n hx hb dL_balance_0 rfl (lv_at hl 2 rfl) ?_
  refine lv_iconst (v := 0) hx hb dL_balance_1 (by decide) ?_
  refine lv_aload_n hx hb dL_balance_2 rfl (lv_at hl 0 rfl) ?_
  refine lv_iload_n hx hb dL_balance_3 rfl (lv_at hl 1 rfl) ?_
  have hP : va_P (dC, dI) vwCl (WL cI cF cL h0 q a jc js jv k (capOf (nn (a 0 4))) qo fo) H := hP
  have hD : va_D A (WL cI cF cL h0 q a jc js jv k (capOf (nn (a 0 4))) qo fo) := hD
  have hPc := hP.sub (ws' := WC cI cF h0 q a jc js jv k (capOf (nn (a 0 4)))) [0, 1, 2, 3, 4, 5, 6, 7, 8, 9, 10, 11, 12, 13, 14, 15, 16, 17, 18, 19, 20, 21, 22, 23, 24, 25, 26] rfl
  have hDc := hD.sub (ws' := WC cI cF h0 q a jc js jv k (capOf (nn (a 0 4)))) [0, 1, 2, 3, 4, 5, 6, 7, 8, 9, 10, 11, 12, 13, 14, 15, 16, 17, 18, 19, 20, 21, 22, 23, 24, 25, 26] (by decide) rfl
  have hFc := va_free (wc := WC cI cF h0 q a jc js jv k (capOf (nn (a 0 4)))) hD hS hA [0, 1, 2, 3, 4, 5, 6, 7, 8, 9, 10, 11, 12, 13, 14, 15, 16, 17, 18, 19, 20, 21, 22, 23, 24, 25, 26] rfl
  have hKc := hK.sub (tys' := [(cI, .int), (cF, .float)]) [0, 1] rfl
  refine vx_calli (vx_runV (As := [.int x]) (rest := [.int 0, .ref qo]) ⟨hx, hb, hml, hown, hts⟩ (c_X4_balance l dC dI cI cF h0 q H.size a jc js jv k hst hC hB x) (cwV 1 hts gL_balance_X4_balance rfl rfl rfl (by decide +kernel) ⟨Nat.le_of_ble_eq_true rfl, Nat.le_of_ble_eq_true rfl⟩) ⟨pcV_blind, va_recv hKc hPc (ci := 4) (q0 := 0) rfl rfl, fun U hU hW => pcV_pre hPc hDc hKc hV hS hFc hU hW⟩ rfl rfl hl.1 rfl (lv_room (Nat.le_of_ble_eq_true rfl)) dL_balance_4 ⟨Nat.le_of_eq (Nat.zero_add _), Nat.le_of_eq (Nat.zero_add _)⟩) hS (fun q _ h => hFc q h) hFc (fun q _ h => hFc q h) (fun E ce q9 u t H1 locs ht hvm hw hBx hz1 hk1 hS hce hcv hcl => ?_) (fun r u t H1 locs ht hvm hw hB1 hz1 hk1 hS => ?_)
  · obtain ⟨hE, qx, jcx, jsx, jvx, kx, hCx, hPx, hKx, hDx⟩ := hBx
    rw [ht] at hPx
    obtain ⟨hP, hD⟩ := va_join (wr := [(qo, .inl (cL, 1, .inr (.inl fo)))]) (w1 := WC cI cF h0 qx a jcx jsx jvx kx (capOf (nn (a 0 4)))) hP hD [0, 1, 2, 3, 4, 5, 6, 7, 8, 9, 10, 11, 12, 13, 14, 15, 16, 17, 18, 19, 20, 21, 22, 23, 24, 25, 26] [27] rfl rfl (by decide) (by decide) hk1 hFc hPx hDx
    have hP := hP.sub (ws' := WL cI cF cL h0 qx a jcx jsx jvx kx (capOf (nn (a 0 4))) qo fo) [1, 2, 3, 4, 5, 6, 7, 8, 9, 10, 11, 12, 13, 14, 15, 16, 17, 18, 19, 20, 21, 22, 23, 24, 25, 26, 27, 0] rfl
    have hD := hD.sub (ws' := WL cI cF cL h0 qx a jcx jsx jvx kx (capOf (nn (a 0 4))) qo fo) [1, 2, 3, 4, 5, 6, 7, 8, 9, 10, 11, 12, 13, 14, 15, 16, 17, 18, 19, 20, 21, 22, 23, 24, 25, 26, 27, 0] (by decide) rfl
    generalize H1 = H at hP hS hce ⊢
    rcases kSel_r a x with h9 | h9
    · exact absurd h9 hw
    · have hE2 : E = exI := hE.trans (by rw [h9]; rfl)
      subst hE2
      refine vx_catch (name := exI) hown [] ⟨0, 9, 12, 13⟩ [] htab (fun z9 h8 => absurd h8 List.not_mem_nil) rfl (by decide) (hts (.classLink RL 13 "java/lang/IndexOutOfBoundsException") (List.mem_of_getElem? (i := 1) rfl)) (okV_use hV _ (by simp [vB])) hce hcv hcl ?_
      refine lv_astore_n (lv' := [(3, .ref q9), (0, .ref h0), (1, .int x), (2, .ref qo)]) hx hb dL_balance_12 rfl hl (by decide) rfl (fun ls hl => ?_)
      refine lv_iconst (v := 1) hx hb dL_balance_13 (by decide) ?_
      refine W.widen (k := 1) (n := 6) (Nat.le_of_eq (Nat.zero_add _)) (Nat.le_of_eq (Nat.zero_add _)) ?_
      have hP9 := hP
      have hD9 := hD
      have hK9 := hK
      exact W.iret (v := 1) hx hb hr (fun t ht hW => ⟨⟨1, fo, rfl, ⟨by rw [h9]; rfl, fun h8 => absurd (h9.symm.trans h8) (by decide)⟩, atL_n (fun h8 => absurd (h9.symm.trans h8) (by decide)) hCx (atW_end hP9 hD9 hK9 ht hW)⟩, hS.F ht⟩) hS.2.2 dL_balance_14
  · obtain ⟨qy, jcy, jsy, jvy, ky, hCy, hPy, hKy, hDy⟩ := hB1
    rw [ht] at hPy
    obtain ⟨hP, hD⟩ := va_join (wr := [(qo, .inl (cL, 1, .inr (.inl fo)))]) (w1 := WC cI cF h0 qy a jcy jsy jvy ky (capOf (nn (a 0 4)))) hP hD [0, 1, 2, 3, 4, 5, 6, 7, 8, 9, 10, 11, 12, 13, 14, 15, 16, 17, 18, 19, 20, 21, 22, 23, 24, 25, 26] [27] rfl rfl (by decide) (by decide) hk1 hFc hPy hDy
    have hP := hP.sub (ws' := WL cI cF cL h0 qy a jcy jsy jvy ky (capOf (nn (a 0 4))) qo fo) [1, 2, 3, 4, 5, 6, 7, 8, 9, 10, 11, 12, 13, 14, 15, 16, 17, 18, 19, 20, 21, 22, 23, 24, 25, 26, 27, 0] rfl
    have hD := hD.sub (ws' := WL cI cF cL h0 qy a jcy jsy jvy ky (capOf (nn (a 0 4))) qo fo) [1, 2, 3, 4, 5, 6, 7, 8, 9, 10, 11, 12, 13, 14, 15, 16, 17, 18, 19, 20, 21, 22, 23, 24, 25, 26, 27, 0] (by decide) rfl
    generalize H1 = H at hP hS ⊢
    refine lv_i2l (v := (r).toInt64) hx hb dL_balance_7 rfl ?_
    refine y_lst hx hb hK hP hD hS 27 2 rfl rfl dL_balance_8 (fun H locs hP hD hS => ?_)
    have hP : va_P (dC, dI) vwCl (WL cI cF cL h0 qy a jcy jsy jvy ky (capOf (nn (a 0 4))) qo (vp_updL fo 0 (r).toInt64)) H := hP
    have hD : va_D A (WL cI cF cL h0 qy a jcy jsy jvy ky (capOf (nn (a 0 4))) qo (vp_updL fo 0 (r).toInt64)) := hD
    refine lv_goto (tgt := 15) hx hb dL_balance_9 (by decide) ?_
    refine lv_iconst (v := 0) hx hb dL_balance_15 (by decide) ?_
    refine W.widen (k := 1) (n := 6) (Nat.le_of_eq (Nat.zero_add _)) (Nat.le_of_eq (Nat.zero_add _)) ?_
    have hP9 := hP
    have hD9 := hD
    have hK9 := hK
    exact W.iret (v := 0) hx hb hr (fun t ht hW => ⟨⟨0, (vp_updL fo 0 (r).toInt64), rfl, ⟨by rw [hw.1]; rfl, fun _ => by rw [updL_0, hw.2]⟩, atL_y hw.1 hCy (atW_end hP9 hD9 hK9 ht hW)⟩, hS.F ht⟩) hS.2.2 dL_balance_16
set_option maxHeartbeats 4000000 in
set_option maxRecDepth 100000 in
theorem c_L_balanceByEntries (l : Launch) (dC : Nat → ClassId) (dI : Nat → Nat → Nat) (cI cF cL : ClassId) (h0 qo : Nat) (q : Nat → Nat) (sz : Nat) (a : yA) (jc js jv : Nat → Int32) (k : Nat) (fo : Nat → Int64) (hst : l.stackTraces = false) (hC : okC a jc js jv k) (hB : okB a) (x : Int32) : Met l yL_balanceByEntries wsL_balanceByEntries ({ frames := 8, cells := 1, slots := 6, locals := 132 } : Room) (va_Pc [.ref h0, .int x, .ref qo] (pcH dC dI [(cI, .int), (cF, .float), (cL, .long)] (WL cI cF cL h0 q a jc js jv k (capOf (nn (a 0 4))) qo fo) sz)) (va_Qi (fun (r : Int32) (g : Nat → Int64) => r = nI (kSel a x) ∧ (kSel a x = 0 → g 0 = (a 7 (nn x)).toInt64)) (fun g t => atL dC dI cI cF cL (va_A (WL cI cF cL h0 q a jc js jv k (capOf (nn (a 0 4))) qo fo) sz) h0 qo (if kSel a x = 0 then a else a) g t) (va_A (WL cI cF cL h0 q a jc js jv k (capOf (nn (a 0 4))) qo fo) sz)) (1) (6) (va_A (WL cI cF cL h0 q a jc js jv k (capOf (nn (a 0 4))) qo fo) sz) := by
  refine va_MetW (cc := cL_balanceByEntries) (maxL := 4) (ret := (some .int)) (hh := [(0, 9, 12, 13)]) (by decide) rfl ?_
  intro p e s m args below meth c s₁ B hml hv
  obtain ⟨rfl, ⟨⟨hsz, hP, hK, hD0⟩, hV⟩, hN⟩ := hv
  have hx := B.exec
  have hb := B.bytes
  have hr := B.returns
  have hts := atoms_spec (ws := wsL_balanceByEntries) B.pre
  have hown : s.vm.findClass RL = some m.cls := findClass_of_methodNamed B.named
  have hlocks := B.notSynchronized
  subst hsz
  have hD := hD0.self (sz := s.heap.size)
  generalize hAe : va_A [(h0, .inr (4, [.ref (q 1), .ref (q 10), .ref (q 18), .ref (q 22), .ref (q 26), .int (a 0 2), .int (a 0 1), .int (a 0 5), .int (a 0 6), .int (a 0 7), .int (a 0 8)])), (q 1, .inr (3, [.ref (q 2), .ref (q 3), .ref (q 4), .ref (q 5), .ref (q 6), .ref (q 7), .ref (q 8), .ref (q 9), .int (a 0 0)])), (q 2, .inl (cI, 8, .inl (a 1))), (q 3, .inl (cI, 8, .inl (a 2))), (q 4, .inl (cI, 8, .inl (a 3))), (q 5, .inl (cI, 8, .inl (a 4))), (q 6, .inl (cI, 8, .inl (a 5))), (q 7, .inl (cI, 8, .inl (a 6))), (q 8, .inl (cI, 8, .inl (a 7))), (q 9, .inl (cI, 8, .inl (a 8))), (q 10, .inr (2, [.ref (q 11), .ref (q 12), .ref (q 13), .ref (q 14), .ref (q 15), .ref (q 16), .ref (q 17), .int (a 0 3)])), (q 11, .inl (cI, 100, .inl (a 10))), (q 12, .inl (cF, 100, .inr (.inr (.inl (fun j => shF (a 13 j)))))), (q 13, .inl (cI, 100, .inl (a 14))), (q 14, .inl (cI, 100, .inl (fun j => a 11 j - a 12 j))), (q 15, .inl (cI, 100, .inl (fun j => a 15 j - a 16 j))), (q 16, .inl (cI, 100, .inl (a 17))), (q 17, .inl (cI, 100, .inl (a 18))), (q 18, .inr (1, [.ref (q 19), .ref (q 20), .ref (q 21), .int (a 0 4)])), (q 19, .inl (cI, capOf (nn (a 0 4)), .inl (a 20))), (q 20, .inl (cI, capOf (nn (a 0 4)), .inl (a 19))), (q 21, .inl (cI, capOf (nn (a 0 4)), .inl (a 21))), (q 22, .inr (0, [.ref (q 23), .ref (q 24), .ref (q 25), .int (nI k)])), (q 23, .inl (cI, 8, .inl (jc))), (q 24, .inl (cI, 256, .inl (js))), (q 25, .inl (cI, 256, .inl (jv))), (q 26, .inl (cF, 4, .inr (.inr (.inl (fun j => shF (a 9 j)))))), (qo, .inl (cL, 1, .inr (.inl (fo))))] s.heap.size = A at hD hV ⊢
  have hA : ∀ q : Nat, s.heap.size ≤ q → A q := fun q h => by rw [← hAe]; exact Or.inr h
  have hS : va_S A s.heap s.heap [] := va_S.rf
  have hl := lv_entry ([.ref h0, .int x, .ref qo]) (n := 4) (Nat.le_of_ble_eq_true rfl)
  rw [lg_entry_eq]
  generalize (lg_sl ([.ref h0, .int x, .ref qo]) ++ List.replicate (4 - (lg_sl ([.ref h0, .int x, .ref qo])).length) Slot.unset).toArray = ls at hl ⊢
  have hl : lv_has ls 4 [(0, .ref h0), (1, .int x), (2, .ref qo)] := hl
  have hP : va_P (dC, dI) vwCl [(h0, .inr (4, [.ref (q 1), .ref (q 10), .ref (q 18), .ref (q 22), .ref (q 26), .int (a 0 2), .int (a 0 1), .int (a 0 5), .int (a 0 6), .int (a 0 7), .int (a 0 8)])), (q 1, .inr (3, [.ref (q 2), .ref (q 3), .ref (q 4), .ref (q 5), .ref (q 6), .ref (q 7), .ref (q 8), .ref (q 9), .int (a 0 0)])), (q 2, .inl (cI, 8, .inl (a 1))), (q 3, .inl (cI, 8, .inl (a 2))), (q 4, .inl (cI, 8, .inl (a 3))), (q 5, .inl (cI, 8, .inl (a 4))), (q 6, .inl (cI, 8, .inl (a 5))), (q 7, .inl (cI, 8, .inl (a 6))), (q 8, .inl (cI, 8, .inl (a 7))), (q 9, .inl (cI, 8, .inl (a 8))), (q 10, .inr (2, [.ref (q 11), .ref (q 12), .ref (q 13), .ref (q 14), .ref (q 15), .ref (q 16), .ref (q 17), .int (a 0 3)])), (q 11, .inl (cI, 100, .inl (a 10))), (q 12, .inl (cF, 100, .inr (.inr (.inl (fun j => shF (a 13 j)))))), (q 13, .inl (cI, 100, .inl (a 14))), (q 14, .inl (cI, 100, .inl (fun j => a 11 j - a 12 j))), (q 15, .inl (cI, 100, .inl (fun j => a 15 j - a 16 j))), (q 16, .inl (cI, 100, .inl (a 17))), (q 17, .inl (cI, 100, .inl (a 18))), (q 18, .inr (1, [.ref (q 19), .ref (q 20), .ref (q 21), .int (a 0 4)])), (q 19, .inl (cI, capOf (nn (a 0 4)), .inl (a 20))), (q 20, .inl (cI, capOf (nn (a 0 4)), .inl (a 19))), (q 21, .inl (cI, capOf (nn (a 0 4)), .inl (a 21))), (q 22, .inr (0, [.ref (q 23), .ref (q 24), .ref (q 25), .int (nI k)])), (q 23, .inl (cI, 8, .inl (jc))), (q 24, .inl (cI, 256, .inl (js))), (q 25, .inl (cI, 256, .inl (jv))), (q 26, .inl (cF, 4, .inr (.inr (.inl (fun j => shF (a 9 j)))))), (qo, .inl (cL, 1, .inr (.inl (fo))))] s.heap := hP
  refine y_enter (A := A) hP (fun H hP hS => ?_)
  have htab := vx_table (x := yL_balanceByEntries) B (hts (.codeWith yL_balanceByEntries cL_balanceByEntries 4 (some .int) [(0, 9, 12, 13)]) List.mem_cons_self)
  refine lv_aload_n hx hb dL_balanceByEntries_0 rfl (lv_at hl 2 rfl) ?_
  refine lv_iconst (v := 0) hx hb dL_balanceByEntries_1 (by decide) ?_
  refine lv_aload_n hx hb dL_balanceByEntries_2 rfl (lv_at hl 0 rfl) ?_
  refine lv_iload_n hx hb dL_balanceByEntries_3 rfl (lv_at hl 1 rfl) ?_
  have hP : va_P (dC, dI) vwCl (WL cI cF cL h0 q a jc js jv k (capOf (nn (a 0 4))) qo fo) H := hP
  have hD : va_D A (WL cI cF cL h0 q a jc js jv k (capOf (nn (a 0 4))) qo fo) := hD
  have hPc := hP.sub (ws' := WC cI cF h0 q a jc js jv k (capOf (nn (a 0 4)))) [0, 1, 2, 3, 4, 5, 6, 7, 8, 9, 10, 11, 12, 13, 14, 15, 16, 17, 18, 19, 20, 21, 22, 23, 24, 25, 26] rfl
  have hDc := hD.sub (ws' := WC cI cF h0 q a jc js jv k (capOf (nn (a 0 4)))) [0, 1, 2, 3, 4, 5, 6, 7, 8, 9, 10, 11, 12, 13, 14, 15, 16, 17, 18, 19, 20, 21, 22, 23, 24, 25, 26] (by decide) rfl
  have hFc := va_free (wc := WC cI cF h0 q a jc js jv k (capOf (nn (a 0 4)))) hD hS hA [0, 1, 2, 3, 4, 5, 6, 7, 8, 9, 10, 11, 12, 13, 14, 15, 16, 17, 18, 19, 20, 21, 22, 23, 24, 25, 26] rfl
  have hKc := hK.sub (tys' := [(cI, .int), (cF, .float)]) [0, 1] rfl
  refine vx_calli (vx_runV (As := [.int x]) (rest := [.int 0, .ref qo]) ⟨hx, hb, hml, hown, hts⟩ (c_X4_balanceByEntries l dC dI cI cF h0 q H.size a jc js jv k hst hC hB x) (cwV 1 hts gL_balanceByEntries_X4_balanceByEntries rfl rfl rfl (by decide +kernel) ⟨Nat.le_of_ble_eq_true rfl, Nat.le_of_ble_eq_true rfl⟩) ⟨pcV_blind, va_recv hKc hPc (ci := 4) (q0 := 0) rfl rfl, fun U hU hW => pcV_pre hPc hDc hKc hV hS hFc hU hW⟩ rfl rfl hl.1 rfl (lv_room (Nat.le_of_ble_eq_true rfl)) dL_balanceByEntries_4 ⟨Nat.le_of_eq (Nat.zero_add _), Nat.le_of_eq (Nat.zero_add _)⟩) hS (fun q _ h => hFc q h) hFc (fun q _ h => hFc q h) (fun E ce q9 u t H1 locs ht hvm hw hBx hz1 hk1 hS hce hcv hcl => ?_) (fun r u t H1 locs ht hvm hw hB1 hz1 hk1 hS => ?_)
  · obtain ⟨hE, qx, jcx, jsx, jvx, kx, hCx, hPx, hKx, hDx⟩ := hBx
    rw [ht] at hPx
    obtain ⟨hP, hD⟩ := va_join (wr := [(qo, .inl (cL, 1, .inr (.inl fo)))]) (w1 := WC cI cF h0 qx a jcx jsx jvx kx (capOf (nn (a 0 4)))) hP hD [0, 1, 2, 3, 4, 5, 6, 7, 8, 9, 10, 11, 12, 13, 14, 15, 16, 17, 18, 19, 20, 21, 22, 23, 24, 25, 26] [27] rfl rfl (by decide) (by decide) hk1 hFc hPx hDx
    have hP := hP.sub (ws' := WL cI cF cL h0 qx a jcx jsx jvx kx (capOf (nn (a 0 4))) qo fo) [1, 2, 3, 4, 5, 6, 7, 8, 9, 10, 11, 12, 13, 14, 15, 16, 17, 18, 19, 20, 21, 22, 23, 24, 25, 26, 27, 0] rfl
    have hD := hD.sub (ws' := WL cI cF cL h0 qx a jcx jsx jvx kx (capOf (nn (a 0 4))) qo fo) [1, 2, 3, 4, 5, 6, 7, 8, 9, 10, 11, 12, 13, 14, 15, 16, 17, 18, 19, 20, 21, 22, 23, 24, 25, 26, 27, 0] (by decide) rfl
    generalize H1 = H at hP hS hce ⊢
    rcases kSel_r a x with h9 | h9
    · exact absurd h9 hw
    · have hE2 : E = exI := hE.trans (by rw [h9]; rfl)
      subst hE2
      refine vx_catch (name := exI) hown [] ⟨0, 9, 12, 13⟩ [] htab (fun z9 h8 => absurd h8 List.not_mem_nil) rfl (by decide) (hts (.classLink RL 13 "java/lang/IndexOutOfBoundsException") (List.mem_of_getElem? (i := 1) rfl)) (okV_use hV _ (by simp [vB])) hce hcv hcl ?_
      refine lv_astore_n (lv' := [(3, .ref q9), (0, .ref h0), (1, .int x), (2, .ref qo)]) hx hb dL_balanceByEntries_12 rfl hl (by decide) rfl (fun ls hl => ?_)
      refine lv_iconst (v := 1) hx hb dL_balanceByEntries_13 (by decide) ?_
      refine W.widen (k := 1) (n := 6) (Nat.le_of_eq (Nat.zero_add _)) (Nat.le_of_eq (Nat.zero_add _)) ?_
      have hP9 := hP
      have hD9 := hD
      have hK9 := hK
      exact W.iret (v := 1) hx hb hr (fun t ht hW => ⟨⟨1, fo, rfl, ⟨by rw [h9]; rfl, fun h8 => absurd (h9.symm.trans h8) (by decide)⟩, atL_n (fun h8 => absurd (h9.symm.trans h8) (by decide)) hCx (atW_end hP9 hD9 hK9 ht hW)⟩, hS.F ht⟩) hS.2.2 dL_balanceByEntries_14
  · obtain ⟨qy, jcy, jsy, jvy, ky, hCy, hPy, hKy, hDy⟩ := hB1
    rw [ht] at hPy
    obtain ⟨hP, hD⟩ := va_join (wr := [(qo, .inl (cL, 1, .inr (.inl fo)))]) (w1 := WC cI cF h0 qy a jcy jsy jvy ky (capOf (nn (a 0 4)))) hP hD [0, 1, 2, 3, 4, 5, 6, 7, 8, 9, 10, 11, 12, 13, 14, 15, 16, 17, 18, 19, 20, 21, 22, 23, 24, 25, 26] [27] rfl rfl (by decide) (by decide) hk1 hFc hPy hDy
    have hP := hP.sub (ws' := WL cI cF cL h0 qy a jcy jsy jvy ky (capOf (nn (a 0 4))) qo fo) [1, 2, 3, 4, 5, 6, 7, 8, 9, 10, 11, 12, 13, 14, 15, 16, 17, 18, 19, 20, 21, 22, 23, 24, 25, 26, 27, 0] rfl
    have hD := hD.sub (ws' := WL cI cF cL h0 qy a jcy jsy jvy ky (capOf (nn (a 0 4))) qo fo) [1, 2, 3, 4, 5, 6, 7, 8, 9, 10, 11, 12, 13, 14, 15, 16, 17, 18, 19, 20, 21, 22, 23, 24, 25, 26, 27, 0] (by decide) rfl
    generalize H1 = H at hP hS ⊢
    refine lv_i2l (v := (r).toInt64) hx hb dL_balanceByEntries_7 rfl ?_
    refine y_lst hx hb hK hP hD hS 27 2 rfl rfl dL_balanceByEntries_8 (fun H locs hP hD hS => ?_)
    have hP : va_P (dC, dI) vwCl (WL cI cF cL h0 qy a jcy jsy jvy ky (capOf (nn (a 0 4))) qo (vp_updL fo 0 (r).toInt64)) H := hP
    have hD : va_D A (WL cI cF cL h0 qy a jcy jsy jvy ky (capOf (nn (a 0 4))) qo (vp_updL fo 0 (r).toInt64)) := hD
    refine lv_goto (tgt := 15) hx hb dL_balanceByEntries_9 (by decide) ?_
    refine lv_iconst (v := 0) hx hb dL_balanceByEntries_15 (by decide) ?_
    refine W.widen (k := 1) (n := 6) (Nat.le_of_eq (Nat.zero_add _)) (Nat.le_of_eq (Nat.zero_add _)) ?_
    have hP9 := hP
    have hD9 := hD
    have hK9 := hK
    exact W.iret (v := 0) hx hb hr (fun t ht hW => ⟨⟨0, (vp_updL fo 0 (r).toInt64), rfl, ⟨by rw [hw.1]; rfl, fun _ => by rw [updL_0, hw.2]⟩, atL_y hw.1 hCy (atW_end hP9 hD9 hK9 ht hW)⟩, hS.F ht⟩) hS.2.2 dL_balanceByEntries_16
set_option maxHeartbeats 4000000 in
set_option maxRecDepth 100000 in
theorem c_L_reserve (l : Launch) (dC : Nat → ClassId) (dI : Nat → Nat → Nat) (cI cF cL : ClassId) (h0 qo : Nat) (q : Nat → Nat) (sz : Nat) (a : yA) (jc js jv : Nat → Int32) (k : Nat) (fo : Nat → Int64) (hst : l.stackTraces = false) (hC : okC a jc js jv k) (hB : okB a) (x : Int32) : Met l yL_reserve wsL_reserve ({ frames := 8, cells := 1, slots := 6, locals := 132 } : Room) (va_Pc [.ref h0, .int x, .ref qo] (pcH dC dI [(cI, .int), (cF, .float), (cL, .long)] (WL cI cF cL h0 q a jc js jv k (capOf (nn (a 0 4))) qo fo) sz)) (va_Qi (fun (r : Int32) (g : Nat → Int64) => r = nI (kSel a x) ∧ (kSel a x = 0 → g 0 = (sHsum a (nn x) (nn (a 0 3))).toInt64)) (fun g t => atL dC dI cI cF cL (va_A (WL cI cF cL h0 q a jc js jv k (capOf (nn (a 0 4))) qo fo) sz) h0 qo (if kSel a x = 0 then a else a) g t) (va_A (WL cI cF cL h0 q a jc js jv k (capOf (nn (a 0 4))) qo fo) sz)) (1) (6) (va_A (WL cI cF cL h0 q a jc js jv k (capOf (nn (a 0 4))) qo fo) sz) := by
  refine va_MetW (cc := cL_reserve) (maxL := 4) (ret := (some .int)) (hh := [(0, 9, 12, 13)]) (by decide) rfl ?_
  intro p e s m args below meth c s₁ B hml hv
  obtain ⟨rfl, ⟨⟨hsz, hP, hK, hD0⟩, hV⟩, hN⟩ := hv
  have hx := B.exec
  have hb := B.bytes
  have hr := B.returns
  have hts := atoms_spec (ws := wsL_reserve) B.pre
  have hown : s.vm.findClass RL = some m.cls := findClass_of_methodNamed B.named
  have hlocks := B.notSynchronized
  subst hsz
  have hD := hD0.self (sz := s.heap.size)
  generalize hAe : va_A [(h0, .inr (4, [.ref (q 1), .ref (q 10), .ref (q 18), .ref (q 22), .ref (q 26), .int (a 0 2), .int (a 0 1), .int (a 0 5), .int (a 0 6), .int (a 0 7), .int (a 0 8)])), (q 1, .inr (3, [.ref (q 2), .ref (q 3), .ref (q 4), .ref (q 5), .ref (q 6), .ref (q 7), .ref (q 8), .ref (q 9), .int (a 0 0)])), (q 2, .inl (cI, 8, .inl (a 1))), (q 3, .inl (cI, 8, .inl (a 2))), (q 4, .inl (cI, 8, .inl (a 3))), (q 5, .inl (cI, 8, .inl (a 4))), (q 6, .inl (cI, 8, .inl (a 5))), (q 7, .inl (cI, 8, .inl (a 6))), (q 8, .inl (cI, 8, .inl (a 7))), (q 9, .inl (cI, 8, .inl (a 8))), (q 10, .inr (2, [.ref (q 11), .ref (q 12), .ref (q 13), .ref (q 14), .ref (q 15), .ref (q 16), .ref (q 17), .int (a 0 3)])), (q 11, .inl (cI, 100, .inl (a 10))), (q 12, .inl (cF, 100, .inr (.inr (.inl (fun j => shF (a 13 j)))))), (q 13, .inl (cI, 100, .inl (a 14))), (q 14, .inl (cI, 100, .inl (fun j => a 11 j - a 12 j))), (q 15, .inl (cI, 100, .inl (fun j => a 15 j - a 16 j))), (q 16, .inl (cI, 100, .inl (a 17))), (q 17, .inl (cI, 100, .inl (a 18))), (q 18, .inr (1, [.ref (q 19), .ref (q 20), .ref (q 21), .int (a 0 4)])), (q 19, .inl (cI, capOf (nn (a 0 4)), .inl (a 20))), (q 20, .inl (cI, capOf (nn (a 0 4)), .inl (a 19))), (q 21, .inl (cI, capOf (nn (a 0 4)), .inl (a 21))), (q 22, .inr (0, [.ref (q 23), .ref (q 24), .ref (q 25), .int (nI k)])), (q 23, .inl (cI, 8, .inl (jc))), (q 24, .inl (cI, 256, .inl (js))), (q 25, .inl (cI, 256, .inl (jv))), (q 26, .inl (cF, 4, .inr (.inr (.inl (fun j => shF (a 9 j)))))), (qo, .inl (cL, 1, .inr (.inl (fo))))] s.heap.size = A at hD hV ⊢
  have hA : ∀ q : Nat, s.heap.size ≤ q → A q := fun q h => by rw [← hAe]; exact Or.inr h
  have hS : va_S A s.heap s.heap [] := va_S.rf
  have hl := lv_entry ([.ref h0, .int x, .ref qo]) (n := 4) (Nat.le_of_ble_eq_true rfl)
  rw [lg_entry_eq]
  generalize (lg_sl ([.ref h0, .int x, .ref qo]) ++ List.replicate (4 - (lg_sl ([.ref h0, .int x, .ref qo])).length) Slot.unset).toArray = ls at hl ⊢
  have hl : lv_has ls 4 [(0, .ref h0), (1, .int x), (2, .ref qo)] := hl
  have hP : va_P (dC, dI) vwCl [(h0, .inr (4, [.ref (q 1), .ref (q 10), .ref (q 18), .ref (q 22), .ref (q 26), .int (a 0 2), .int (a 0 1), .int (a 0 5), .int (a 0 6), .int (a 0 7), .int (a 0 8)])), (q 1, .inr (3, [.ref (q 2), .ref (q 3), .ref (q 4), .ref (q 5), .ref (q 6), .ref (q 7), .ref (q 8), .ref (q 9), .int (a 0 0)])), (q 2, .inl (cI, 8, .inl (a 1))), (q 3, .inl (cI, 8, .inl (a 2))), (q 4, .inl (cI, 8, .inl (a 3))), (q 5, .inl (cI, 8, .inl (a 4))), (q 6, .inl (cI, 8, .inl (a 5))), (q 7, .inl (cI, 8, .inl (a 6))), (q 8, .inl (cI, 8, .inl (a 7))), (q 9, .inl (cI, 8, .inl (a 8))), (q 10, .inr (2, [.ref (q 11), .ref (q 12), .ref (q 13), .ref (q 14), .ref (q 15), .ref (q 16), .ref (q 17), .int (a 0 3)])), (q 11, .inl (cI, 100, .inl (a 10))), (q 12, .inl (cF, 100, .inr (.inr (.inl (fun j => shF (a 13 j)))))), (q 13, .inl (cI, 100, .inl (a 14))), (q 14, .inl (cI, 100, .inl (fun j => a 11 j - a 12 j))), (q 15, .inl (cI, 100, .inl (fun j => a 15 j - a 16 j))), (q 16, .inl (cI, 100, .inl (a 17))), (q 17, .inl (cI, 100, .inl (a 18))), (q 18, .inr (1, [.ref (q 19), .ref (q 20), .ref (q 21), .int (a 0 4)])), (q 19, .inl (cI, capOf (nn (a 0 4)), .inl (a 20))), (q 20, .inl (cI, capOf (nn (a 0 4)), .inl (a 19))), (q 21, .inl (cI, capOf (nn (a 0 4)), .inl (a 21))), (q 22, .inr (0, [.ref (q 23), .ref (q 24), .ref (q 25), .int (nI k)])), (q 23, .inl (cI, 8, .inl (jc))), (q 24, .inl (cI, 256, .inl (js))), (q 25, .inl (cI, 256, .inl (jv))), (q 26, .inl (cF, 4, .inr (.inr (.inl (fun j => shF (a 9 j)))))), (qo, .inl (cL, 1, .inr (.inl (fo))))] s.heap := hP
  refine y_enter (A := A) hP (fun H hP hS => ?_)
  have htab := vx_table (x := yL_reserve) B (hts (.codeWith yL_reserve cL_reserve 4 (some .int) [(0, 9, 12, 13)]) List.mem_cons_self)
  refine lv_aload_n hx hb dL_reserve_0 rfl (lv_at hl 2 rfl) ?_
  refine lv_iconst (v := 0) hx hb dL_reserve_1 (by decide) ?_
  refine lv_aload_n hx hb dL_reserve_2 rfl (lv_at hl 0 rfl) ?_
  refine lv_iload_n hx hb dL_reserve_3 rfl (lv_at hl 1 rfl) ?_
  have hP : va_P (dC, dI) vwCl (WL cI cF cL h0 q a jc js jv k (capOf (nn (a 0 4))) qo fo) H := hP
  have hD : va_D A (WL cI cF cL h0 q a jc js jv k (capOf (nn (a 0 4))) qo fo) := hD
  have hPc := hP.sub (ws' := WC cI cF h0 q a jc js jv k (capOf (nn (a 0 4)))) [0, 1, 2, 3, 4, 5, 6, 7, 8, 9, 10, 11, 12, 13, 14, 15, 16, 17, 18, 19, 20, 21, 22, 23, 24, 25, 26] rfl
  have hDc := hD.sub (ws' := WC cI cF h0 q a jc js jv k (capOf (nn (a 0 4)))) [0, 1, 2, 3, 4, 5, 6, 7, 8, 9, 10, 11, 12, 13, 14, 15, 16, 17, 18, 19, 20, 21, 22, 23, 24, 25, 26] (by decide) rfl
  have hFc := va_free (wc := WC cI cF h0 q a jc js jv k (capOf (nn (a 0 4)))) hD hS hA [0, 1, 2, 3, 4, 5, 6, 7, 8, 9, 10, 11, 12, 13, 14, 15, 16, 17, 18, 19, 20, 21, 22, 23, 24, 25, 26] rfl
  have hKc := hK.sub (tys' := [(cI, .int), (cF, .float)]) [0, 1] rfl
  refine vx_calli (vx_runV (As := [.int x]) (rest := [.int 0, .ref qo]) ⟨hx, hb, hml, hown, hts⟩ (c_X4_reserve l dC dI cI cF h0 q H.size a jc js jv k hst hC hB x) (cwV 1 hts gL_reserve_X4_reserve rfl rfl rfl (by decide +kernel) ⟨Nat.le_of_ble_eq_true rfl, Nat.le_of_ble_eq_true rfl⟩) ⟨pcV_blind, va_recv hKc hPc (ci := 4) (q0 := 0) rfl rfl, fun U hU hW => pcV_pre hPc hDc hKc hV hS hFc hU hW⟩ rfl rfl hl.1 rfl (lv_room (Nat.le_of_ble_eq_true rfl)) dL_reserve_4 ⟨Nat.le_of_eq (Nat.zero_add _), Nat.le_of_eq (Nat.zero_add _)⟩) hS (fun q _ h => hFc q h) hFc (fun q _ h => hFc q h) (fun E ce q9 u t H1 locs ht hvm hw hBx hz1 hk1 hS hce hcv hcl => ?_) (fun r u t H1 locs ht hvm hw hB1 hz1 hk1 hS => ?_)
  · obtain ⟨hE, qx, jcx, jsx, jvx, kx, hCx, hPx, hKx, hDx⟩ := hBx
    rw [ht] at hPx
    obtain ⟨hP, hD⟩ := va_join (wr := [(qo, .inl (cL, 1, .inr (.inl fo)))]) (w1 := WC cI cF h0 qx a jcx jsx jvx kx (capOf (nn (a 0 4)))) hP hD [0, 1, 2, 3, 4, 5, 6, 7, 8, 9, 10, 11, 12, 13, 14, 15, 16, 17, 18, 19, 20, 21, 22, 23, 24, 25, 26] [27] rfl rfl (by decide) (by decide) hk1 hFc hPx hDx
    have hP := hP.sub (ws' := WL cI cF cL h0 qx a jcx jsx jvx kx (capOf (nn (a 0 4))) qo fo) [1, 2, 3, 4, 5, 6, 7, 8, 9, 10, 11, 12, 13, 14, 15, 16, 17, 18, 19, 20, 21, 22, 23, 24, 25, 26, 27, 0] rfl
    have hD := hD.sub (ws' := WL cI cF cL h0 qx a jcx jsx jvx kx (capOf (nn (a 0 4))) qo fo) [1, 2, 3, 4, 5, 6, 7, 8, 9, 10, 11, 12, 13, 14, 15, 16, 17, 18, 19, 20, 21, 22, 23, 24, 25, 26, 27, 0] (by decide) rfl
    generalize H1 = H at hP hS hce ⊢
    rcases kSel_r a x with h9 | h9
    · exact absurd h9 hw
    · have hE2 : E = exI := hE.trans (by rw [h9]; rfl)
      subst hE2
      refine vx_catch (name := exI) hown [] ⟨0, 9, 12, 13⟩ [] htab (fun z9 h8 => absurd h8 List.not_mem_nil) rfl (by decide) (hts (.classLink RL 13 "java/lang/IndexOutOfBoundsException") (List.mem_of_getElem? (i := 1) rfl)) (okV_use hV _ (by simp [vB])) hce hcv hcl ?_
      refine lv_astore_n (lv' := [(3, .ref q9), (0, .ref h0), (1, .int x), (2, .ref qo)]) hx hb dL_reserve_12 rfl hl (by decide) rfl (fun ls hl => ?_)
      refine lv_iconst (v := 1) hx hb dL_reserve_13 (by decide) ?_
      refine W.widen (k := 1) (n := 6) (Nat.le_of_eq (Nat.zero_add _)) (Nat.le_of_eq (Nat.zero_add _)) ?_
      have hP9 := hP
      have hD9 := hD
      have hK9 := hK
      exact W.iret (v := 1) hx hb hr (fun t ht hW => ⟨⟨1, fo, rfl, ⟨by rw [h9]; rfl, fun h8 => absurd (h9.symm.trans h8) (by decide)⟩, atL_n (fun h8 => absurd (h9.symm.trans h8) (by decide)) hCx (atW_end hP9 hD9 hK9 ht hW)⟩, hS.F ht⟩) hS.2.2 dL_reserve_14
  · obtain ⟨qy, jcy, jsy, jvy, ky, hCy, hPy, hKy, hDy⟩ := hB1
    rw [ht] at hPy
    obtain ⟨hP, hD⟩ := va_join (wr := [(qo, .inl (cL, 1, .inr (.inl fo)))]) (w1 := WC cI cF h0 qy a jcy jsy jvy ky (capOf (nn (a 0 4)))) hP hD [0, 1, 2, 3, 4, 5, 6, 7, 8, 9, 10, 11, 12, 13, 14, 15, 16, 17, 18, 19, 20, 21, 22, 23, 24, 25, 26] [27] rfl rfl (by decide) (by decide) hk1 hFc hPy hDy
    have hP := hP.sub (ws' := WL cI cF cL h0 qy a jcy jsy jvy ky (capOf (nn (a 0 4))) qo fo) [1, 2, 3, 4, 5, 6, 7, 8, 9, 10, 11, 12, 13, 14, 15, 16, 17, 18, 19, 20, 21, 22, 23, 24, 25, 26, 27, 0] rfl
    have hD := hD.sub (ws' := WL cI cF cL h0 qy a jcy jsy jvy ky (capOf (nn (a 0 4))) qo fo) [1, 2, 3, 4, 5, 6, 7, 8, 9, 10, 11, 12, 13, 14, 15, 16, 17, 18, 19, 20, 21, 22, 23, 24, 25, 26, 27, 0] (by decide) rfl
    generalize H1 = H at hP hS ⊢
    refine lv_i2l (v := (r).toInt64) hx hb dL_reserve_7 rfl ?_
    refine y_lst hx hb hK hP hD hS 27 2 rfl rfl dL_reserve_8 (fun H locs hP hD hS => ?_)
    have hP : va_P (dC, dI) vwCl (WL cI cF cL h0 qy a jcy jsy jvy ky (capOf (nn (a 0 4))) qo (vp_updL fo 0 (r).toInt64)) H := hP
    have hD : va_D A (WL cI cF cL h0 qy a jcy jsy jvy ky (capOf (nn (a 0 4))) qo (vp_updL fo 0 (r).toInt64)) := hD
    refine lv_goto (tgt := 15) hx hb dL_reserve_9 (by decide) ?_
    refine lv_iconst (v := 0) hx hb dL_reserve_15 (by decide) ?_
    refine W.widen (k := 1) (n := 6) (Nat.le_of_eq (Nat.zero_add _)) (Nat.le_of_eq (Nat.zero_add _)) ?_
    have hP9 := hP
    have hD9 := hD
    have hK9 := hK
    exact W.iret (v := 0) hx hb hr (fun t ht hW => ⟨⟨0, (vp_updL fo 0 (r).toInt64), rfl, ⟨by rw [hw.1]; rfl, fun _ => by rw [updL_0, hw.2]⟩, atL_y hw.1 hCy (atW_end hP9 hD9 hK9 ht hW)⟩, hS.F ht⟩) hS.2.2 dL_reserve_16
set_option maxHeartbeats 4000000 in
set_option maxRecDepth 100000 in
theorem c_L_paidTo (l : Launch) (dC : Nat → ClassId) (dI : Nat → Nat → Nat) (cI cF cL : ClassId) (h0 qo : Nat) (q : Nat → Nat) (sz : Nat) (a : yA) (jc js jv : Nat → Int32) (k : Nat) (fo : Nat → Int64) (hst : l.stackTraces = false) (hC : okC a jc js jv k) (hB : okB a) (x : Int32) : Met l yL_paidTo wsL_paidTo ({ frames := 8, cells := 1, slots := 6, locals := 132 } : Room) (va_Pc [.ref h0, .int x, .ref qo] (pcH dC dI [(cI, .int), (cF, .float), (cL, .long)] (WL cI cF cL h0 q a jc js jv k (capOf (nn (a 0 4))) qo fo) sz)) (va_Qi (fun (r : Int32) (g : Nat → Int64) => r = nI (kSel a x) ∧ (kSel a x = 0 → g 0 = (a 8 (nn x)).toInt64)) (fun g t => atL dC dI cI cF cL (va_A (WL cI cF cL h0 q a jc js jv k (capOf (nn (a 0 4))) qo fo) sz) h0 qo (if kSel a x = 0 then a else a) g t) (va_A (WL cI cF cL h0 q a jc js jv k (capOf (nn (a 0 4))) qo fo) sz)) (1) (6) (va_A (WL cI cF cL h0 q a jc js jv k (capOf (nn (a 0 4))) qo fo) sz) := by
  refine va_MetW (cc := cL_paidTo) (maxL := 4) (ret := (some .int)) (hh := [(0, 9, 12, 13)]) (by decide) rfl ?_
  intro p e s m args below meth c s₁ B hml hv
  obtain ⟨rfl, ⟨⟨hsz, hP, hK, hD0⟩, hV⟩, hN⟩ := hv
  have hx := B.exec
  have hb := B.bytes
  have hr := B.returns
  have hts := atoms_spec (ws := wsL_paidTo) B.pre
  have hown : s.vm.findClass RL = some m.cls := findClass_of_methodNamed B.named
  have hlocks := B.notSynchronized
  subst hsz
  have hD := hD0.self (sz := s.heap.size)
  generalize hAe : va_A [(h0, .inr (4, [.ref (q 1), .ref (q 10), .ref (q 18), .ref (q 22), .ref (q 26), .int (a 0 2), .int (a 0 1), .int (a 0 5), .int (a 0 6), .int (a 0 7), .int (a 0 8)])), (q 1, .inr (3, [.ref (q 2), .ref (q 3), .ref (q 4), .ref (q 5), .ref (q 6), .ref (q 7), .ref (q 8), .ref (q 9), .int (a 0 0)])), (q 2, .inl (cI, 8, .inl (a 1))), (q 3, .inl (cI, 8, .inl (a 2))), (q 4, .inl (cI, 8, .inl (a 3))), (q 5, .inl (cI, 8, .inl (a 4))), (q 6, .inl (cI, 8, .inl (a 5))), (q 7, .inl (cI, 8, .inl (a 6))), (q 8, .inl (cI, 8, .inl (a 7))), (q 9, .inl (cI, 8, .inl (a 8))), (q 10, .inr (2, [.ref (q 11), .ref (q 12), .ref (q 13), .ref (q 14), .ref (q 15), .ref (q 16), .ref (q 17), .int (a 0 3)])), (q 11, .inl (cI, 100, .inl (a 10))), (q 12, .inl (cF, 100, .inr (.inr (.inl (fun j => shF (a 13 j)))))), (q 13, .inl (cI, 100, .inl (a 14))), (q 14, .inl (cI, 100, .inl (fun j => a 11 j - a 12 j))), (q 15, .inl (cI, 100, .inl (fun j => a 15 j - a 16 j))), (q 16, .inl (cI, 100, .inl (a 17))), (q 17, .inl (cI, 100, .inl (a 18))), (q 18, .inr (1, [.ref (q 19), .ref (q 20), .ref (q 21), .int (a 0 4)])), (q 19, .inl (cI, capOf (nn (a 0 4)), .inl (a 20))), (q 20, .inl (cI, capOf (nn (a 0 4)), .inl (a 19))), (q 21, .inl (cI, capOf (nn (a 0 4)), .inl (a 21))), (q 22, .inr (0, [.ref (q 23), .ref (q 24), .ref (q 25), .int (nI k)])), (q 23, .inl (cI, 8, .inl (jc))), (q 24, .inl (cI, 256, .inl (js))), (q 25, .inl (cI, 256, .inl (jv))), (q 26, .inl (cF, 4, .inr (.inr (.inl (fun j => shF (a 9 j)))))), (qo, .inl (cL, 1, .inr (.inl (fo))))] s.heap.size = A at hD hV ⊢
  have hA : ∀ q : Nat, s.heap.size ≤ q → A q := fun q h => by rw [← hAe]; exact Or.inr h
  have hS : va_S A s.heap s.heap [] := va_S.rf
  have hl := lv_entry ([.ref h0, .int x, .ref qo]) (n := 4) (Nat.le_of_ble_eq_true rfl)
  rw [lg_entry_eq]
  generalize (lg_sl ([.ref h0, .int x, .ref qo]) ++ List.replicate (4 - (lg_sl ([.ref h0, .int x, .ref qo])).length) Slot.unset).toArray = ls at hl ⊢
  have hl : lv_has ls 4 [(0, .ref h0), (1, .int x), (2, .ref qo)] := hl
  have hP : va_P (dC, dI) vwCl [(h0, .inr (4, [.ref (q 1), .ref (q 10), .ref (q 18), .ref (q 22), .ref (q 26), .int (a 0 2), .int (a 0 1), .int (a 0 5), .int (a 0 6), .int (a 0 7), .int (a 0 8)])), (q 1, .inr (3, [.ref (q 2), .ref (q 3), .ref (q 4), .ref (q 5), .ref (q 6), .ref (q 7), .ref (q 8), .ref (q 9), .int (a 0 0)])), (q 2, .inl (cI, 8, .inl (a 1))), (q 3, .inl (cI, 8, .inl (a 2))), (q 4, .inl (cI, 8, .inl (a 3))), (q 5, .inl (cI, 8, .inl (a 4))), (q 6, .inl (cI, 8, .inl (a 5))), (q 7, .inl (cI, 8, .inl (a 6))), (q 8, .inl (cI, 8, .inl (a 7))), (q 9, .inl (cI, 8, .inl (a 8))), (q 10, .inr (2, [.ref (q 11), .ref (q 12), .ref (q 13), .ref (q 14), .ref (q 15), .ref (q 16), .ref (q 17), .int (a 0 3)])), (q 11, .inl (cI, 100, .inl (a 10))), (q 12, .inl (cF, 100, .inr (.inr (.inl (fun j => shF (a 13 j)))))), (q 13, .inl (cI, 100, .inl (a 14))), (q 14, .inl (cI, 100, .inl (fun j => a 11 j - a 12 j))), (q 15, .inl (cI, 100, .inl (fun j => a 15 j - a 16 j))), (q 16, .inl (cI, 100, .inl (a 17))), (q 17, .inl (cI, 100, .inl (a 18))), (q 18, .inr (1, [.ref (q 19), .ref (q 20), .ref (q 21), .int (a 0 4)])), (q 19, .inl (cI, capOf (nn (a 0 4)), .inl (a 20))), (q 20, .inl (cI, capOf (nn (a 0 4)), .inl (a 19))), (q 21, .inl (cI, capOf (nn (a 0 4)), .inl (a 21))), (q 22, .inr (0, [.ref (q 23), .ref (q 24), .ref (q 25), .int (nI k)])), (q 23, .inl (cI, 8, .inl (jc))), (q 24, .inl (cI, 256, .inl (js))), (q 25, .inl (cI, 256, .inl (jv))), (q 26, .inl (cF, 4, .inr (.inr (.inl (fun j => shF (a 9 j)))))), (qo, .inl (cL, 1, .inr (.inl (fo))))] s.heap := hP
  refine y_enter (A := A) hP (fun H hP hS => ?_)
  have htab := vx_table (x := yL_paidTo) B (hts (.codeWith yL_paidTo cL_paidTo 4 (some .int) [(0, 9, 12, 13)]) List.mem_cons_self)
  refine lv_aload_n hx hb dL_paidTo_0 rfl (lv_at hl 2 rfl) ?_
  refine lv_iconst (v := 0) hx hb dL_paidTo_1 (by decide) ?_
  refine lv_aload_n hx hb dL_paidTo_2 rfl (lv_at hl 0 rfl) ?_
  refine lv_iload_n hx hb dL_paidTo_3 rfl (lv_at hl 1 rfl) ?_
  have hP : va_P (dC, dI) vwCl (WL cI cF cL h0 q a jc js jv k (capOf (nn (a 0 4))) qo fo) H := hP
  have hD : va_D A (WL cI cF cL h0 q a jc js jv k (capOf (nn (a 0 4))) qo fo) := hD
  have hPc := hP.sub (ws' := WC cI cF h0 q a jc js jv k (capOf (nn (a 0 4)))) [0, 1, 2, 3, 4, 5, 6, 7, 8, 9, 10, 11, 12, 13, 14, 15, 16, 17, 18, 19, 20, 21, 22, 23, 24, 25, 26] rfl
  have hDc := hD.sub (ws' := WC cI cF h0 q a jc js jv k (capOf (nn (a 0 4)))) [0, 1, 2, 3, 4, 5, 6, 7, 8, 9, 10, 11, 12, 13, 14, 15, 16, 17, 18, 19, 20, 21, 22, 23, 24, 25, 26] (by decide) rfl
  have hFc := va_free (wc := WC cI cF h0 q a jc js jv k (capOf (nn (a 0 4)))) hD hS hA [0, 1, 2, 3, 4, 5, 6, 7, 8, 9, 10, 11, 12, 13, 14, 15, 16, 17, 18, 19, 20, 21, 22, 23, 24, 25, 26] rfl
  have hKc := hK.sub (tys' := [(cI, .int), (cF, .float)]) [0, 1] rfl
  refine vx_calli (vx_runV (As := [.int x]) (rest := [.int 0, .ref qo]) ⟨hx, hb, hml, hown, hts⟩ (c_X4_paidTo l dC dI cI cF h0 q H.size a jc js jv k hst hC hB x) (cwV 1 hts gL_paidTo_X4_paidTo rfl rfl rfl (by decide +kernel) ⟨Nat.le_of_ble_eq_true rfl, Nat.le_of_ble_eq_true rfl⟩) ⟨pcV_blind, va_recv hKc hPc (ci := 4) (q0 := 0) rfl rfl, fun U hU hW => pcV_pre hPc hDc hKc hV hS hFc hU hW⟩ rfl rfl hl.1 rfl (lv_room (Nat.le_of_ble_eq_true rfl)) dL_paidTo_4 ⟨Nat.le_of_eq (Nat.zero_add _), Nat.le_of_eq (Nat.zero_add _)⟩) hS (fun q _ h => hFc q h) hFc (fun q _ h => hFc q h) (fun E ce q9 u t H1 locs ht hvm hw hBx hz1 hk1 hS hce hcv hcl => ?_) (fun r u t H1 locs ht hvm hw hB1 hz1 hk1 hS => ?_)
  · obtain ⟨hE, qx, jcx, jsx, jvx, kx, hCx, hPx, hKx, hDx⟩ := hBx
    rw [ht] at hPx
    obtain ⟨hP, hD⟩ := va_join (wr := [(qo, .inl (cL, 1, .inr (.inl fo)))]) (w1 := WC cI cF h0 qx a jcx jsx jvx kx (capOf (nn (a 0 4)))) hP hD [0, 1, 2, 3, 4, 5, 6, 7, 8, 9, 10, 11, 12, 13, 14, 15, 16, 17, 18, 19, 20, 21, 22, 23, 24, 25, 26] [27] rfl rfl (by decide) (by decide) hk1 hFc hPx hDx
    have hP := hP.sub (ws' := WL cI cF cL h0 qx a jcx jsx jvx kx (capOf (nn (a 0 4))) qo fo) [1, 2, 3, 4, 5, 6, 7, 8, 9, 10, 11, 12, 13, 14, 15, 16, 17, 18, 19, 20, 21, 22, 23, 24, 25, 26, 27, 0] rfl
    have hD := hD.sub (ws' := WL cI cF cL h0 qx a jcx jsx jvx kx (capOf (nn (a 0 4))) qo fo) [1, 2, 3, 4, 5, 6, 7, 8, 9, 10, 11, 12, 13, 14, 15, 16, 17, 18, 19, 20, 21, 22, 23, 24, 25, 26, 27, 0] (by decide) rfl
    generalize H1 = H at hP hS hce ⊢
    rcases kSel_r a x with h9 | h9
    · exact absurd h9 hw
    · have hE2 : E = exI := hE.trans (by rw [h9]; rfl)
      subst hE2
      refine vx_catch (name := exI) hown [] ⟨0, 9, 12, 13⟩ [] htab (fun z9 h8 => absurd h8 List.not_mem_nil) rfl (by decide) (hts (.classLink RL 13 "java/lang/IndexOutOfBoundsException") (List.mem_of_getElem? (i := 1) rfl)) (okV_use hV _ (by simp [vB])) hce hcv hcl ?_
      refine lv_astore_n (lv' := [(3, .ref q9), (0, .ref h0), (1, .int x), (2, .ref qo)]) hx hb dL_paidTo_12 rfl hl (by decide) rfl (fun ls hl => ?_)
      refine lv_iconst (v := 1) hx hb dL_paidTo_13 (by decide) ?_
      refine W.widen (k := 1) (n := 6) (Nat.le_of_eq (Nat.zero_add _)) (Nat.le_of_eq (Nat.zero_add _)) ?_
      have hP9 := hP
      have hD9 := hD
      have hK9 := hK
      exact W.iret (v := 1) hx hb hr (fun t ht hW => ⟨⟨1, fo, rfl, ⟨by rw [h9]; rfl, fun h8 => absurd (h9.symm.trans h8) (by decide)⟩, atL_n (fun h8 => absurd (h9.symm.trans h8) (by decide)) hCx (atW_end hP9 hD9 hK9 ht hW)⟩, hS.F ht⟩) hS.2.2 dL_paidTo_14
  · obtain ⟨qy, jcy, jsy, jvy, ky, hCy, hPy, hKy, hDy⟩ := hB1
    rw [ht] at hPy
    obtain ⟨hP, hD⟩ := va_join (wr := [(qo, .inl (cL, 1, .inr (.inl fo)))]) (w1 := WC cI cF h0 qy a jcy jsy jvy ky (capOf (nn (a 0 4)))) hP hD [0, 1, 2, 3, 4, 5, 6, 7, 8, 9, 10, 11, 12, 13, 14, 15, 16, 17, 18, 19, 20, 21, 22, 23, 24, 25, 26] [27] rfl rfl (by decide) (by decide) hk1 hFc hPy hDy
    have hP := hP.sub (ws' := WL cI cF cL h0 qy a jcy jsy jvy ky (capOf (nn (a 0 4))) qo fo) [1, 2, 3, 4, 5, 6, 7, 8, 9, 10, 11, 12, 13, 14, 15, 16, 17, 18, 19, 20, 21, 22, 23, 24, 25, 26, 27, 0] rfl
    have hD := hD.sub (ws' := WL cI cF cL h0 qy a jcy jsy jvy ky (capOf (nn (a 0 4))) qo fo) [1, 2, 3, 4, 5, 6, 7, 8, 9, 10, 11, 12, 13, 14, 15, 16, 17, 18, 19, 20, 21, 22, 23, 24, 25, 26, 27, 0] (by decide) rfl
    generalize H1 = H at hP hS ⊢
    refine lv_i2l (v := (r).toInt64) hx hb dL_paidTo_7 rfl ?_
    refine y_lst hx hb hK hP hD hS 27 2 rfl rfl dL_paidTo_8 (fun H locs hP hD hS => ?_)
    have hP : va_P (dC, dI) vwCl (WL cI cF cL h0 qy a jcy jsy jvy ky (capOf (nn (a 0 4))) qo (vp_updL fo 0 (r).toInt64)) H := hP
    have hD : va_D A (WL cI cF cL h0 qy a jcy jsy jvy ky (capOf (nn (a 0 4))) qo (vp_updL fo 0 (r).toInt64)) := hD
    refine lv_goto (tgt := 15) hx hb dL_paidTo_9 (by decide) ?_
    refine lv_iconst (v := 0) hx hb dL_paidTo_15 (by decide) ?_
    refine W.widen (k := 1) (n := 6) (Nat.le_of_eq (Nat.zero_add _)) (Nat.le_of_eq (Nat.zero_add _)) ?_
    have hP9 := hP
    have hD9 := hD
    have hK9 := hK
    exact W.iret (v := 0) hx hb hr (fun t ht hW => ⟨⟨0, (vp_updL fo 0 (r).toInt64), rfl, ⟨by rw [hw.1]; rfl, fun _ => by rw [updL_0, hw.2]⟩, atL_y hw.1 hCy (atW_end hP9 hD9 hK9 ht hW)⟩, hS.F ht⟩) hS.2.2 dL_paidTo_16
