theorem kAdd_r (a : yA) (o : Int32) : kAdd a o = 0 ∨ kAdd a o = 1 ∨ kAdd a o = 2 := by
  unfold kAdd
  repeat' split
  all_goals decide
theorem kVer_r (a : yA) (x st : Int32) : kVer a x st = 0 ∨ kVer a x st = 1 ∨ kVer a x st = 2 := by
  unfold kVer
  repeat' split
  all_goals decide
theorem kShr_r (kd th : Int32) : kShr kd th = 0 ∨ kShr kd th = 1 ∨ kShr kd th = 2 := by
  unfold kShr
  repeat' split
  all_goals decide
theorem kTax_r (th : Int32) : kTax th = 0 ∨ kTax th = 1 := by
  unfold kTax
  repeat' split
  all_goals decide
theorem kSell_r (a : yA) (x kd am : Int32) : kSell a x kd am = 0 ∨ kSell a x kd am = 1 ∨ kSell a x kd am = 2 ∨ kSell a x kd am = 3 := by
  unfold kSell
  repeat' split
  all_goals decide
theorem kOrd_r (a : yA) (x kd am : Int32) : kOrd a x kd am = 0 ∨ kOrd a x kd am = 1 ∨ kOrd a x kd am = 2 ∨ kOrd a x kd am = 3 := by
  unfold kOrd
  repeat' split
  all_goals decide
theorem kPass_r (a : yA) (d : Int32) : kPass a d = 0 ∨ kPass a d = 1 ∨ kPass a d = 2 := by
  unfold kPass
  repeat' split
  all_goals decide
theorem kFail_r (a : yA) (x : Int32) : kFail a x = 0 ∨ kFail a x = 1 ∨ kFail a x = 2 := by
  unfold kFail
  repeat' split
  all_goals decide
theorem kPO_r (a : yA) (x wd le : Int32) : kPO a x wd le = 0 ∨ kPO a x wd le = 1 ∨ kPO a x wd le = 2 := by
  unfold kPO
  repeat' split
  all_goals decide
theorem kRes_r (a : yA) (x th d : Int32) : kRes a x th d = 0 ∨ kRes a x th d = 1 ∨ kRes a x th d = 2 := by
  unfold kRes
  repeat' split
  all_goals decide
theorem kSet_r (a : yA) (fl x y z : Int32) : kSet a fl x y z = 0 ∨ kSet a fl x y z = 1 ∨ kSet a fl x y z = 2 := by
  unfold kSet
  split
  · exact kRes_r a x y z
  · exact kPO_r a x y z
set_option maxHeartbeats 4000000 in
set_option maxRecDepth 100000 in
theorem c_L_does (l : Launch) (dC : Nat → ClassId) (dI : Nat → Nat → Nat) (cI cF : ClassId) (h0 : Nat) (q : Nat → Nat) (sz : Nat) (a : yA) (jc js jv : Nat → Int32) (k : Nat) (hst : l.stackTraces = false) (hC : okC a jc js jv k) {n : Nat} (hI : okA a n) (hn : n < 512) (how x y z : Int32) : Met l yL_does wsL_does ({ frames := 9, cells := 1026, slots := 6156, locals := 171 } : Room) (va_Pc [.ref h0, .int how, .int x, .int y, .int z] (pcH dC dI [(cI, .int), (cF, .float)] (WC cI cF h0 q a jc js jv k (capOf (nn (a 0 4)))) sz)) (va_Qi (fun (r : Int32) (_ : Unit) => r = dA a how x y z) (fun _ t => atC dC dI cI cF (va_A (WC cI cF h0 q a jc js jv k (capOf (nn (a 0 4)))) sz) h0 (dT a how x y z) t) (va_A (WC cI cF h0 q a jc js jv k (capOf (nn (a 0 4)))) sz)) (1026) (6156) (va_A (WC cI cF h0 q a jc js jv k (capOf (nn (a 0 4)))) sz) := by
  refine va_MetW (cc := cL_does) (maxL := 6) (ret := (some .int)) (hh := [(0, 140, 141, 43), (0, 140, 146, 46), (0, 140, 151, 48)]) (by decide) rfl ?_
  intro p e s m args below meth c s₁ B hml hv
  obtain ⟨rfl, ⟨⟨hsz, hP, hK, hD0⟩, hV⟩, hN⟩ := hv
  have hx := B.exec
  have hb := B.bytes
  have hr := B.returns
  have hts := atoms_spec (ws := wsL_does) B.pre
  have hown : s.vm.findClass RL = some m.cls := findClass_of_methodNamed B.named
  have hlocks := B.notSynchronized
  subst hsz
  have hD := hD0.self (sz := s.heap.size)
  generalize hAe : va_A [(h0, .inr (4, [.ref (q 1), .ref (q 10), .ref (q 18), .ref (q 22), .ref (q 26), .int (a 0 2), .int (a 0 1), .int (a 0 5), .int (a 0 6), .int (a 0 7), .int (a 0 8)])), (q 1, .inr (3, [.ref (q 2), .ref (q 3), .ref (q 4), .ref (q 5), .ref (q 6), .ref (q 7), .ref (q 8), .ref (q 9), .int (a 0 0)])), (q 2, .inl (cI, 8, .inl (a 1))), (q 3, .inl (cI, 8, .inl (a 2))), (q 4, .inl (cI, 8, .inl (a 3))), (q 5, .inl (cI, 8, .inl (a 4))), (q 6, .inl (cI, 8, .inl (a 5))), (q 7, .inl (cI, 8, .inl (a 6))), (q 8, .inl (cI, 8, .inl (a 7))), (q 9, .inl (cI, 8, .inl (a 8))), (q 10, .inr (2, [.ref (q 11), .ref (q 12), .ref (q 13), .ref (q 14), .ref (q 15), .ref (q 16), .ref (q 17), .int (a 0 3)])), (q 11, .inl (cI, 100, .inl (a 10))), (q 12, .inl (cF, 100, .inr (.inr (.inl (fun j => shF (a 13 j)))))), (q 13, .inl (cI, 100, .inl (a 14))), (q 14, .inl (cI, 100, .inl (fun j => a 11 j - a 12 j))), (q 15, .inl (cI, 100, .inl (fun j => a 15 j - a 16 j))), (q 16, .inl (cI, 100, .inl (a 17))), (q 17, .inl (cI, 100, .inl (a 18))), (q 18, .inr (1, [.ref (q 19), .ref (q 20), .ref (q 21), .int (a 0 4)])), (q 19, .inl (cI, capOf (nn (a 0 4)), .inl (a 20))), (q 20, .inl (cI, capOf (nn (a 0 4)), .inl (a 19))), (q 21, .inl (cI, capOf (nn (a 0 4)), .inl (a 21))), (q 22, .inr (0, [.ref (q 23), .ref (q 24), .ref (q 25), .int (nI k)])), (q 23, .inl (cI, 8, .inl (jc))), (q 24, .inl (cI, 256, .inl (js))), (q 25, .inl (cI, 256, .inl (jv))), (q 26, .inl (cF, 4, .inr (.inr (.inl (fun j => shF (a 9 j))))))] s.heap.size = A at hD hV ⊢
  have hA : ∀ q : Nat, s.heap.size ≤ q → A q := fun q h => by rw [← hAe]; exact Or.inr h
  have hS : va_S A s.heap s.heap [] := va_S.rf
  have hl := lv_entry ([.ref h0, .int how, .int x, .int y, .int z]) (n := 6) (Nat.le_of_ble_eq_true rfl)
  rw [lg_entry_eq]
  generalize (lg_sl ([.ref h0, .int how, .int x, .int y, .int z]) ++ List.replicate (6 - (lg_sl ([.ref h0, .int how, .int x, .int y, .int z])).length) Slot.unset).toArray = ls at hl ⊢
  have hl : lv_has ls 6 [(0, .ref h0), (1, .int how), (2, .int x), (3, .int y), (4, .int z)] := hl
  have hP : va_P (dC, dI) vwCl [(h0, .inr (4, [.ref (q 1), .ref (q 10), .ref (q 18), .ref (q 22), .ref (q 26), .int (a 0 2), .int (a 0 1), .int (a 0 5), .int (a 0 6), .int (a 0 7), .int (a 0 8)])), (q 1, .inr (3, [.ref (q 2), .ref (q 3), .ref (q 4), .ref (q 5), .ref (q 6), .ref (q 7), .ref (q 8), .ref (q 9), .int (a 0 0)])), (q 2, .inl (cI, 8, .inl (a 1))), (q 3, .inl (cI, 8, .inl (a 2))), (q 4, .inl (cI, 8, .inl (a 3))), (q 5, .inl (cI, 8, .inl (a 4))), (q 6, .inl (cI, 8, .inl (a 5))), (q 7, .inl (cI, 8, .inl (a 6))), (q 8, .inl (cI, 8, .inl (a 7))), (q 9, .inl (cI, 8, .inl (a 8))), (q 10, .inr (2, [.ref (q 11), .ref (q 12), .ref (q 13), .ref (q 14), .ref (q 15), .ref (q 16), .ref (q 17), .int (a 0 3)])), (q 11, .inl (cI, 100, .inl (a 10))), (q 12, .inl (cF, 100, .inr (.inr (.inl (fun j => shF (a 13 j)))))), (q 13, .inl (cI, 100, .inl (a 14))), (q 14, .inl (cI, 100, .inl (fun j => a 11 j - a 12 j))), (q 15, .inl (cI, 100, .inl (fun j => a 15 j - a 16 j))), (q 16, .inl (cI, 100, .inl (a 17))), (q 17, .inl (cI, 100, .inl (a 18))), (q 18, .inr (1, [.ref (q 19), .ref (q 20), .ref (q 21), .int (a 0 4)])), (q 19, .inl (cI, capOf (nn (a 0 4)), .inl (a 20))), (q 20, .inl (cI, capOf (nn (a 0 4)), .inl (a 19))), (q 21, .inl (cI, capOf (nn (a 0 4)), .inl (a 21))), (q 22, .inr (0, [.ref (q 23), .ref (q 24), .ref (q 25), .int (nI k)])), (q 23, .inl (cI, 8, .inl (jc))), (q 24, .inl (cI, 256, .inl (js))), (q 25, .inl (cI, 256, .inl (jv))), (q 26, .inl (cF, 4, .inr (.inr (.inl (fun j => shF (a 9 j))))))] s.heap := hP
  refine y_enter (A := A) hP (fun H hP hS => ?_)
  have htab := vx_table (x := yL_does) B (hts (.codeWith yL_does cL_does 6 (some .int) [(0, 140, 141, 43), (0, 140, 146, 46), (0, 140, 151, 48)]) List.mem_cons_self)
  have hB := okA_B hI
  have hY := hI.2.1
  have hZ := hI.1.2.2.1
  refine lv_iload_n hx hb dL_does_0 rfl (lv_at hl 1 rfl) ?_
  refine lv_if_ne (tgt := 12) hx hb dL_does_1 (by decide) (fun c_1 => ?_) (fun c_1 => ?_)
  · refine lv_iload_n hx hb dL_does_12 rfl (lv_at hl 1 rfl) ?_
    refine lv_iconst (v := 1) hx hb dL_does_13 (by decide) ?_
    refine lv_icmp_ne (tgt := 26) hx hb dL_does_14 (by decide) (fun c_2 => ?_) (fun c_2 => ?_)
    · refine lv_iload_n hx hb dL_does_26 rfl (lv_at hl 1 rfl) ?_
      refine lv_iconst (v := 2) hx hb dL_does_27 (by decide) ?_
      refine lv_icmp_ne (tgt := 43) hx hb dL_does_28 (by decide) (fun c_3 => ?_) (fun c_3 => ?_)
      · refine lv_iload_n hx hb dL_does_43 rfl (lv_at hl 1 rfl) ?_
        refine lv_iconst (v := 3) hx hb dL_does_44 (by decide) ?_
        refine lv_icmp_ne (tgt := 60) hx hb dL_does_45 (by decide) (fun c_4 => ?_) (fun c_4 => ?_)
        · refine lv_iload_n hx hb dL_does_60 rfl (lv_at hl 1 rfl) ?_
          refine lv_iconst (v := 4) hx hb dL_does_61 (by decide) ?_
          refine lv_icmp_ne (tgt := 74) hx hb dL_does_62 (by decide) (fun c_5 => ?_) (fun c_5 => ?_)
          · refine lv_iload_n hx hb dL_does_74 rfl (lv_at hl 1 rfl) ?_
            refine lv_iconst (v := 5) hx hb dL_does_75 (by decide) ?_
            refine lv_icmp_ne (tgt := 87) hx hb dL_does_76 (by decide) (fun c_6 => ?_) (fun c_6 => ?_)
            · refine lv_iload_n hx hb dL_does_87 rfl (lv_at hl 1 rfl) ?_
              refine lv_bipush (v := 6) hx hb dL_does_88 (by decide) ?_
              refine lv_icmp_ne (tgt := 104) hx hb dL_does_90 (by decide) (fun c_7 => ?_) (fun c_7 => ?_)
              · refine lv_iload_n hx hb dL_does_104 rfl (lv_at hl 1 rfl) ?_
                refine lv_bipush (v := 7) hx hb dL_does_105 (by decide) ?_
                refine lv_icmp_ne (tgt := 121) hx hb dL_does_107 (by decide) (fun c_8 => ?_) (fun c_8 => ?_)
                · refine lv_iload_n hx hb dL_does_121 rfl (lv_at hl 1 rfl) ?_
                  refine lv_bipush (v := 8) hx hb dL_does_122 (by decide) ?_
                  refine lv_icmp_ne (tgt := 135) hx hb dL_does_124 (by decide) (fun c_9 => ?_) (fun c_9 => ?_)
                  · refine lv_aload_n hx hb dL_does_135 rfl (lv_at hl 0 rfl) ?_
                    refine lv_iload_n hx hb dL_does_136 rfl (lv_at hl 2 rfl) ?_
                    have eK : dK a how x y z = kFail a x := by unfold dK; rw [if_neg c_1, if_neg c_2, if_neg c_3, if_neg c_4, if_neg c_5, if_neg c_6, if_neg c_7, if_neg c_8, if_neg c_9]
                    have eV : dV a how x y z = sFail a (nn x) 7 (nn (a 20 (nn x))) := by unfold dV; rw [if_neg c_1, if_neg c_2, if_neg c_3, if_neg c_4, if_neg c_5, if_neg c_6, if_neg c_7, if_neg c_8, if_neg c_9]
                    have eS : dS a how x y z = sFail a (nn x) := by unfold dS; rw [if_neg c_1, if_neg c_2, if_neg c_3, if_neg c_4, if_neg c_5, if_neg c_6, if_neg c_7, if_neg c_8, if_neg c_9]
                    have hP : va_P (dC, dI) vwCl (WC cI cF h0 q a jc js jv k (capOf (nn (a 0 4)))) H := hP
                    have hD : va_D A (WC cI cF h0 q a jc js jv k (capOf (nn (a 0 4)))) := hD
                    have hFc := y_free hD hS hA
                    refine vx_calli (vx_runV (As := [.int x]) (rest := []) ⟨hx, hb, hml, hown, hts⟩ (c_X4_fail l dC dI cI cF h0 q H.size a jc js jv k hst hC hB x) (cwV 1 hts gL_does_X4_fail rfl rfl rfl (by decide +kernel) ⟨Nat.le_of_ble_eq_true rfl, Nat.le_of_ble_eq_true rfl⟩) ⟨pcV_blind, va_recv hK hP (ci := 4) (q0 := 0) rfl rfl, fun U hU hW => pcV_pre hP hD hK hV hS hFc hU hW⟩ rfl rfl hl.1 rfl (lv_room (Nat.le_of_ble_eq_true rfl)) dL_does_137 ⟨Nat.le_of_ble_eq_true rfl, Nat.le_of_ble_eq_true rfl⟩) hS (fun q _ h => hFc q h) hFc (fun q _ h => hFc q h) (fun E ce q9 u t H1 locs ht hvm hw hBx hz1 hk1 hS hce hcv hcl => ?_) (fun r u t H1 locs ht hvm hw hB1 hz1 hk1 hS => ?_)
                    · obtain ⟨hE, qx, jcx, jsx, jvx, kx, hCx, hPx, hKx, hDx⟩ := hBx
                      rw [ht] at hPx
                      have hP : va_P (dC, dI) vwCl (WC cI cF h0 qx a jcx jsx jvx kx (capOf (nn (a 0 4)))) _ := hPx
                      have hD : va_D A (WC cI cF h0 qx a jcx jsx jvx kx (capOf (nn (a 0 4)))) := hDx.weaken (fun kk qq _ h => hFc qq.1 h)
                      generalize H1 = H at hP hS hce ⊢
                      rcases kFail_r a x with h9 | h9 | h9
                      · exact absurd h9 hw
                      · have hE2 : E = exI := hE.trans (by rw [h9]; rfl)
                        subst hE2
                        refine vx_catch (name := exI) hown [] ⟨0, 140, 141, 43⟩ [⟨0, 140, 146, 46⟩, ⟨0, 140, 151, 48⟩] htab (fun z9 h8 => absurd h8 List.not_mem_nil) rfl (by decide) (hts (.classLink RL 43 "java/lang/IndexOutOfBoundsException") (List.mem_of_getElem? (i := 1) rfl)) (okV_use hV _ (by simp [vB])) hce hcv hcl ?_
                        refine lv_astore (lv' := [(5, .ref q9), (0, .ref h0), (1, .int how), (2, .int x), (3, .int y), (4, .int z)]) hx hb dL_does_141 hl (by decide) rfl (fun ls hl => ?_)
                        refine lv_ldc hx hb hown (hts (.constant RL 45 (-2000000001)) (List.mem_of_getElem? (i := 4) rfl)) dL_does_143 ?_
                        refine W.widen (k := 1026) (n := 6156) (Nat.le_of_ble_eq_true rfl) (Nat.le_of_ble_eq_true rfl) ?_
                        have hk : ¬ dK a how x y z = 0 := by rw [eK, h9]; decide
                        have hP9 := hP
                        have hD9 := hD
                        have hK9 := hK
                        exact W.iret (v := -2000000001) hx hb hr (fun t ht hW => ⟨⟨-2000000001, (), rfl, (dA_n hk).symm, atC_e (dT_n hk) hCx (atW_end hP9 hD9 hK9 ht hW)⟩, hS.F ht⟩) hS.2.2 dL_does_145
                      · have hE2 : E = exS := hE.trans (by rw [h9]; rfl)
                        subst hE2
                        refine vx_catch (name := exS) hown [⟨0, 140, 141, 43⟩, ⟨0, 140, 146, 46⟩] ⟨0, 140, 151, 48⟩ [] htab (List.forall_mem_cons.mpr ⟨Or.inr ⟨by decide, exI, (hts (.classLink RL 43 "java/lang/IndexOutOfBoundsException") (List.mem_of_getElem? (i := 1) rfl)), hN.2.1⟩, List.forall_mem_cons.mpr ⟨Or.inr ⟨by decide, exA, (hts (.classLink RL 46 "java/lang/IllegalArgumentException") (List.mem_of_getElem? (i := 2) rfl)), hN.2.2⟩, fun z9 h8 => absurd h8 List.not_mem_nil⟩⟩) rfl (by decide) (hts (.classLink RL 48 "java/lang/IllegalStateException") (List.mem_of_getElem? (i := 3) rfl)) (okV_use hV _ (by simp [vB])) hce hcv hcl ?_
                        refine lv_astore (lv' := [(5, .ref q9), (0, .ref h0), (1, .int how), (2, .int x), (3, .int y), (4, .int z)]) hx hb dL_does_151 hl (by decide) rfl (fun ls hl => ?_)
                        refine lv_ldc hx hb hown (hts (.constant RL 45 (-2000000001)) (List.mem_of_getElem? (i := 4) rfl)) dL_does_153 ?_
                        refine W.widen (k := 1026) (n := 6156) (Nat.le_of_ble_eq_true rfl) (Nat.le_of_ble_eq_true rfl) ?_
                        have hk : ¬ dK a how x y z = 0 := by rw [eK, h9]; decide
                        have hP9 := hP
                        have hD9 := hD
                        have hK9 := hK
                        exact W.iret (v := -2000000001) hx hb hr (fun t ht hW => ⟨⟨-2000000001, (), rfl, (dA_n hk).symm, atC_e (dT_n hk) hCx (atW_end hP9 hD9 hK9 ht hW)⟩, hS.F ht⟩) hS.2.2 dL_does_155
                    · obtain ⟨qy, jcy, jsy, jvy, ky, hCy, hPy, hKy, hDy⟩ := hB1
                      rw [ht] at hPy
                      have hP : va_P (dC, dI) vwCl (WC cI cF h0 qy (sFail a (nn x)) jcy jsy jvy ky (capOf (nn ((sFail a (nn x)) 0 4)))) _ := hPy
                      have hD : va_D A (WC cI cF h0 qy (sFail a (nn x)) jcy jsy jvy ky (capOf (nn ((sFail a (nn x)) 0 4)))) := hDy.weaken (fun kk qq _ h => hFc qq.1 h)
                      generalize H1 = H at hP hS ⊢
                      have hk : dK a how x y z = 0 := eK.trans hw.1
                      refine W.widen (k := 1026) (n := 6156) (Nat.le_of_ble_eq_true rfl) (Nat.le_of_ble_eq_true rfl) ?_
                      have hP9 := hP
                      have hD9 := hD
                      have hK9 := hK
                      exact W.iret (v := r) hx hb hr (fun t ht hW => ⟨⟨r, (), rfl, hw.2.trans (eV.symm.trans (dA_y hk).symm), atC_e ((dT_y hk).trans eS) hCy (atW_end hP9 hD9 hK9 ht hW)⟩, hS.F ht⟩) hS.2.2 dL_does_140
                  · have eK : dK a how x y z = kPass a x := by unfold dK; rw [if_neg c_1, if_neg c_2, if_neg c_3, if_neg c_4, if_neg c_5, if_neg c_6, if_neg c_7, if_neg c_8, if_pos c_9]
                    have eV : dV a how x y z = sPass a (nn x) 0 4 - a 0 4 := by unfold dV; rw [if_neg c_1, if_neg c_2, if_neg c_3, if_neg c_4, if_neg c_5, if_neg c_6, if_neg c_7, if_neg c_8, if_pos c_9]
                    have eS : dS a how x y z = sPass a (nn x) := by unfold dS; rw [if_neg c_1, if_neg c_2, if_neg c_3, if_neg c_4, if_neg c_5, if_neg c_6, if_neg c_7, if_neg c_8, if_pos c_9]
                    refine lv_aload_n hx hb dL_does_127 rfl (lv_at hl 0 rfl) ?_
                    refine lv_iload_n hx hb dL_does_128 rfl (lv_at hl 2 rfl) ?_
                    have hmp := mcP_le (a := a) (b := sPass a (nn x))
                    have hP : va_P (dC, dI) vwCl (WC cI cF h0 q a jc js jv k (capOf (nn (a 0 4)))) H := hP
                    have hD : va_D A (WC cI cF h0 q a jc js jv k (capOf (nn (a 0 4)))) := hD
                    have hFc := y_free hD hS hA
                    refine vx_calli (vx_runV (As := [.int x]) (rest := []) ⟨hx, hb, hml, hown, hts⟩ (c_X4_pass l dC dI cI cF h0 q H.size a jc js jv k hst hC hB hZ x (fun h9 i9 hi9 => ((passA_ok hI hn h9).2 i9 hi9).2.2)) (cwV 1 hts gL_does_X4_pass rfl rfl rfl (by decide +kernel) ⟨Nat.le_of_ble_eq_true rfl, Nat.le_of_ble_eq_true rfl⟩) ⟨pcV_blind, va_recv hK hP (ci := 4) (q0 := 0) rfl rfl, fun U hU hW => pcV_pre hP hD hK hV hS hFc hU hW⟩ rfl rfl hl.1 rfl (lv_room (Nat.le_of_ble_eq_true rfl)) dL_does_129 ⟨(by show 0 + (2 + mcP a (sPass a (nn x))) ≤ 1026; omega), (by show 0 + (12 + mcP a (sPass a (nn x)) * 6) ≤ 6156; omega)⟩) hS (fun q _ h => hFc q h) hFc (fun q _ h => hFc q h) (fun E ce q9 u t H1 locs ht hvm hw hBx hz1 hk1 hS hce hcv hcl => ?_) (fun r u t H1 locs ht hvm hw hB1 hz1 hk1 hS => ?_)
                    · obtain ⟨hE, qx, jcx, jsx, jvx, kx, hCx, hPx, hKx, hDx⟩ := hBx
                      rw [ht] at hPx
                      have hP : va_P (dC, dI) vwCl (WC cI cF h0 qx a jcx jsx jvx kx (capOf (nn (a 0 4)))) _ := hPx
                      have hD : va_D A (WC cI cF h0 qx a jcx jsx jvx kx (capOf (nn (a 0 4)))) := hDx.weaken (fun kk qq _ h => hFc qq.1 h)
                      generalize H1 = H at hP hS hce ⊢
                      rcases kPass_r a x with h9 | h9 | h9
                      · exact absurd h9 hw
                      · have hE2 : E = exA := hE.trans (by rw [h9]; rfl)
                        subst hE2
                        refine vx_catch (name := exA) hown [⟨0, 140, 141, 43⟩] ⟨0, 140, 146, 46⟩ [⟨0, 140, 151, 48⟩] htab (List.forall_mem_cons.mpr ⟨Or.inr ⟨by decide, exI, (hts (.classLink RL 43 "java/lang/IndexOutOfBoundsException") (List.mem_of_getElem? (i := 1) rfl)), hN.1⟩, fun z9 h8 => absurd h8 List.not_mem_nil⟩) rfl (by decide) (hts (.classLink RL 46 "java/lang/IllegalArgumentException") (List.mem_of_getElem? (i := 2) rfl)) (okV_use hV _ (by simp [vB])) hce hcv hcl ?_
                        refine lv_astore (lv' := [(5, .ref q9), (0, .ref h0), (1, .int how), (2, .int x), (3, .int y), (4, .int z)]) hx hb dL_does_146 hl (by decide) rfl (fun ls hl => ?_)
                        refine lv_ldc hx hb hown (hts (.constant RL 45 (-2000000001)) (List.mem_of_getElem? (i := 4) rfl)) dL_does_148 ?_
                        refine W.widen (k := 1026) (n := 6156) (by show 0 + _ ≤ _; omega) (by show 0 + _ ≤ _; omega) ?_
                        have hk : ¬ dK a how x y z = 0 := by rw [eK, h9]; decide
                        have hP9 := hP
                        have hD9 := hD
                        have hK9 := hK
                        exact W.iret (v := -2000000001) hx hb hr (fun t ht hW => ⟨⟨-2000000001, (), rfl, (dA_n hk).symm, atC_e (dT_n hk) hCx (atW_end hP9 hD9 hK9 ht hW)⟩, hS.F ht⟩) hS.2.2 dL_does_150
                      · have hE2 : E = exS := hE.trans (by rw [h9]; rfl)
                        subst hE2
                        refine vx_catch (name := exS) hown [⟨0, 140, 141, 43⟩, ⟨0, 140, 146, 46⟩] ⟨0, 140, 151, 48⟩ [] htab (List.forall_mem_cons.mpr ⟨Or.inr ⟨by decide, exI, (hts (.classLink RL 43 "java/lang/IndexOutOfBoundsException") (List.mem_of_getElem? (i := 1) rfl)), hN.2.1⟩, List.forall_mem_cons.mpr ⟨Or.inr ⟨by decide, exA, (hts (.classLink RL 46 "java/lang/IllegalArgumentException") (List.mem_of_getElem? (i := 2) rfl)), hN.2.2⟩, fun z9 h8 => absurd h8 List.not_mem_nil⟩⟩) rfl (by decide) (hts (.classLink RL 48 "java/lang/IllegalStateException") (List.mem_of_getElem? (i := 3) rfl)) (okV_use hV _ (by simp [vB])) hce hcv hcl ?_
                        refine lv_astore (lv' := [(5, .ref q9), (0, .ref h0), (1, .int how), (2, .int x), (3, .int y), (4, .int z)]) hx hb dL_does_151 hl (by decide) rfl (fun ls hl => ?_)
                        refine lv_ldc hx hb hown (hts (.constant RL 45 (-2000000001)) (List.mem_of_getElem? (i := 4) rfl)) dL_does_153 ?_
                        refine W.widen (k := 1026) (n := 6156) (by show 0 + _ ≤ _; omega) (by show 0 + _ ≤ _; omega) ?_
                        have hk : ¬ dK a how x y z = 0 := by rw [eK, h9]; decide
                        have hP9 := hP
                        have hD9 := hD
                        have hK9 := hK
                        exact W.iret (v := -2000000001) hx hb hr (fun t ht hW => ⟨⟨-2000000001, (), rfl, (dA_n hk).symm, atC_e (dT_n hk) hCx (atW_end hP9 hD9 hK9 ht hW)⟩, hS.F ht⟩) hS.2.2 dL_does_155
                    · obtain ⟨qy, jcy, jsy, jvy, ky, hCy, hPy, hKy, hDy⟩ := hB1
                      rw [ht] at hPy
                      have hP : va_P (dC, dI) vwCl (WC cI cF h0 qy (sPass a (nn x)) jcy jsy jvy ky (capOf (nn ((sPass a (nn x)) 0 4)))) _ := hPy
                      have hD : va_D A (WC cI cF h0 qy (sPass a (nn x)) jcy jsy jvy ky (capOf (nn ((sPass a (nn x)) 0 4)))) := hDy.weaken (fun kk qq _ h => hFc qq.1 h)
                      generalize H1 = H at hP hS ⊢
                      refine lv_goto (tgt := 140) hx hb dL_does_132 (by decide) ?_
                      have hk : dK a how x y z = 0 := eK.trans hw.1
                      refine W.widen (k := 1026) (n := 6156) (by show 0 + _ ≤ _; omega) (by show 0 + _ ≤ _; omega) ?_
                      have hP9 := hP
                      have hD9 := hD
                      have hK9 := hK
                      exact W.iret (v := r) hx hb hr (fun t ht hW => ⟨⟨r, (), rfl, hw.2.trans (eV.symm.trans (dA_y hk).symm), atC_e ((dT_y hk).trans eS) hCy (atW_end hP9 hD9 hK9 ht hW)⟩, hS.F ht⟩) hS.2.2 dL_does_140
                · have eK : dK a how x y z = kOrd a x y z := by unfold dK; rw [if_neg c_1, if_neg c_2, if_neg c_3, if_neg c_4, if_neg c_5, if_neg c_6, if_neg c_7, if_pos c_8]
                  have eV : dV a how x y z = nI (min (cntB (nn x) 8) (nn z)) := by unfold dV; rw [if_neg c_1, if_neg c_2, if_neg c_3, if_neg c_4, if_neg c_5, if_neg c_6, if_neg c_7, if_pos c_8]
                  have eS : dS a how x y z = sOrder a x y z := by unfold dS; rw [if_neg c_1, if_neg c_2, if_neg c_3, if_neg c_4, if_neg c_5, if_neg c_6, if_neg c_7, if_pos c_8]
                  refine lv_aload_n hx hb dL_does_110 rfl (lv_at hl 0 rfl) ?_
                  refine lv_iload_n hx hb dL_does_111 rfl (lv_at hl 2 rfl) ?_
                  refine lv_iload_n hx hb dL_does_112 rfl (lv_at hl 3 rfl) ?_
                  refine lv_iload hx hb dL_does_113 (lv_at hl 4 rfl) ?_
                  have hP : va_P (dC, dI) vwCl (WC cI cF h0 q a jc js jv k (capOf (nn (a 0 4)))) H := hP
                  have hD : va_D A (WC cI cF h0 q a jc js jv k (capOf (nn (a 0 4)))) := hD
                  have hFc := y_free hD hS hA
                  refine vx_calli (vx_runV (As := [.int x, .int y, .int z]) (rest := []) ⟨hx, hb, hml, hown, hts⟩ (c_X4_order l dC dI cI cF h0 q H.size a jc js jv k hst hC hB hY x y z) (cwV 3 hts gL_does_X4_order rfl rfl rfl (by decide +kernel) ⟨Nat.le_of_ble_eq_true rfl, Nat.le_of_ble_eq_true rfl⟩) ⟨pcV_blind, va_recv hK hP (ci := 4) (q0 := 0) rfl rfl, fun U hU hW => pcV_pre hP hD hK hV hS hFc hU hW⟩ rfl rfl hl.1 rfl (lv_room (Nat.le_of_ble_eq_true rfl)) dL_does_115 ⟨Nat.le_of_ble_eq_true rfl, Nat.le_of_ble_eq_true rfl⟩) hS (fun q _ h => hFc q h) hFc (fun q _ h => hFc q h) (fun E ce q9 u t H1 locs ht hvm hw hBx hz1 hk1 hS hce hcv hcl => ?_) (fun r u t H1 locs ht hvm hw hB1 hz1 hk1 hS => ?_)
                  · obtain ⟨hE, qx, jcx, jsx, jvx, kx, hCx, hPx, hKx, hDx⟩ := hBx
                    rw [ht] at hPx
                    have hP : va_P (dC, dI) vwCl (WC cI cF h0 qx a jcx jsx jvx kx (capOf (nn (a 0 4)))) _ := hPx
                    have hD : va_D A (WC cI cF h0 qx a jcx jsx jvx kx (capOf (nn (a 0 4)))) := hDx.weaken (fun kk qq _ h => hFc qq.1 h)
                    generalize H1 = H at hP hS hce ⊢
                    rcases kOrd_r a x y z with h9 | h9 | h9 | h9
                    · exact absurd h9 hw
                    · have hE2 : E = exI := hE.trans (by rw [h9]; rfl)
                      subst hE2
                      refine vx_catch (name := exI) hown [] ⟨0, 140, 141, 43⟩ [⟨0, 140, 146, 46⟩, ⟨0, 140, 151, 48⟩] htab (fun z9 h8 => absurd h8 List.not_mem_nil) rfl (by decide) (hts (.classLink RL 43 "java/lang/IndexOutOfBoundsException") (List.mem_of_getElem? (i := 1) rfl)) (okV_use hV _ (by simp [vB])) hce hcv hcl ?_
                      refine lv_astore (lv' := [(5, .ref q9), (0, .ref h0), (1, .int how), (2, .int x), (3, .int y), (4, .int z)]) hx hb dL_does_141 hl (by decide) rfl (fun ls hl => ?_)
                      refine lv_ldc hx hb hown (hts (.constant RL 45 (-2000000001)) (List.mem_of_getElem? (i := 4) rfl)) dL_does_143 ?_
                      refine W.widen (k := 1026) (n := 6156) (Nat.le_of_ble_eq_true rfl) (Nat.le_of_ble_eq_true rfl) ?_
                      have hk : ¬ dK a how x y z = 0 := by rw [eK, h9]; decide
                      have hP9 := hP
                      have hD9 := hD
                      have hK9 := hK
                      exact W.iret (v := -2000000001) hx hb hr (fun t ht hW => ⟨⟨-2000000001, (), rfl, (dA_n hk).symm, atC_e (dT_n hk) hCx (atW_end hP9 hD9 hK9 ht hW)⟩, hS.F ht⟩) hS.2.2 dL_does_145
                    · have hE2 : E = exA := hE.trans (by rw [h9]; rfl)
                      subst hE2
                      refine vx_catch (name := exA) hown [⟨0, 140, 141, 43⟩] ⟨0, 140, 146, 46⟩ [⟨0, 140, 151, 48⟩] htab (List.forall_mem_cons.mpr ⟨Or.inr ⟨by decide, exI, (hts (.classLink RL 43 "java/lang/IndexOutOfBoundsException") (List.mem_of_getElem? (i := 1) rfl)), hN.1⟩, fun z9 h8 => absurd h8 List.not_mem_nil⟩) rfl (by decide) (hts (.classLink RL 46 "java/lang/IllegalArgumentException") (List.mem_of_getElem? (i := 2) rfl)) (okV_use hV _ (by simp [vB])) hce hcv hcl ?_
                      refine lv_astore (lv' := [(5, .ref q9), (0, .ref h0), (1, .int how), (2, .int x), (3, .int y), (4, .int z)]) hx hb dL_does_146 hl (by decide) rfl (fun ls hl => ?_)
                      refine lv_ldc hx hb hown (hts (.constant RL 45 (-2000000001)) (List.mem_of_getElem? (i := 4) rfl)) dL_does_148 ?_
                      refine W.widen (k := 1026) (n := 6156) (Nat.le_of_ble_eq_true rfl) (Nat.le_of_ble_eq_true rfl) ?_
                      have hk : ¬ dK a how x y z = 0 := by rw [eK, h9]; decide
                      have hP9 := hP
                      have hD9 := hD
                      have hK9 := hK
                      exact W.iret (v := -2000000001) hx hb hr (fun t ht hW => ⟨⟨-2000000001, (), rfl, (dA_n hk).symm, atC_e (dT_n hk) hCx (atW_end hP9 hD9 hK9 ht hW)⟩, hS.F ht⟩) hS.2.2 dL_does_150
                    · have hE2 : E = exS := hE.trans (by rw [h9]; rfl)
                      subst hE2
                      refine vx_catch (name := exS) hown [⟨0, 140, 141, 43⟩, ⟨0, 140, 146, 46⟩] ⟨0, 140, 151, 48⟩ [] htab (List.forall_mem_cons.mpr ⟨Or.inr ⟨by decide, exI, (hts (.classLink RL 43 "java/lang/IndexOutOfBoundsException") (List.mem_of_getElem? (i := 1) rfl)), hN.2.1⟩, List.forall_mem_cons.mpr ⟨Or.inr ⟨by decide, exA, (hts (.classLink RL 46 "java/lang/IllegalArgumentException") (List.mem_of_getElem? (i := 2) rfl)), hN.2.2⟩, fun z9 h8 => absurd h8 List.not_mem_nil⟩⟩) rfl (by decide) (hts (.classLink RL 48 "java/lang/IllegalStateException") (List.mem_of_getElem? (i := 3) rfl)) (okV_use hV _ (by simp [vB])) hce hcv hcl ?_
                      refine lv_astore (lv' := [(5, .ref q9), (0, .ref h0), (1, .int how), (2, .int x), (3, .int y), (4, .int z)]) hx hb dL_does_151 hl (by decide) rfl (fun ls hl => ?_)
                      refine lv_ldc hx hb hown (hts (.constant RL 45 (-2000000001)) (List.mem_of_getElem? (i := 4) rfl)) dL_does_153 ?_
                      refine W.widen (k := 1026) (n := 6156) (Nat.le_of_ble_eq_true rfl) (Nat.le_of_ble_eq_true rfl) ?_
                      have hk : ¬ dK a how x y z = 0 := by rw [eK, h9]; decide
                      have hP9 := hP
                      have hD9 := hD
                      have hK9 := hK
                      exact W.iret (v := -2000000001) hx hb hr (fun t ht hW => ⟨⟨-2000000001, (), rfl, (dA_n hk).symm, atC_e (dT_n hk) hCx (atW_end hP9 hD9 hK9 ht hW)⟩, hS.F ht⟩) hS.2.2 dL_does_155
                  · obtain ⟨qy, jcy, jsy, jvy, ky, hCy, hPy, hKy, hDy⟩ := hB1
                    rw [ht] at hPy
                    have hP : va_P (dC, dI) vwCl (WC cI cF h0 qy (sOrder a x y z) jcy jsy jvy ky (capOf (nn ((sOrder a x y z) 0 4)))) _ := hPy
                    have hD : va_D A (WC cI cF h0 qy (sOrder a x y z) jcy jsy jvy ky (capOf (nn ((sOrder a x y z) 0 4)))) := hDy.weaken (fun kk qq _ h => hFc qq.1 h)
                    generalize H1 = H at hP hS ⊢
                    refine lv_goto (tgt := 140) hx hb dL_does_118 (by decide) ?_
                    have hk : dK a how x y z = 0 := eK.trans hw.1
                    refine W.widen (k := 1026) (n := 6156) (Nat.le_of_ble_eq_true rfl) (Nat.le_of_ble_eq_true rfl) ?_
                    have hP9 := hP
                    have hD9 := hD
                    have hK9 := hK
                    exact W.iret (v := r) hx hb hr (fun t ht hW => ⟨⟨r, (), rfl, hw.2.trans (eV.symm.trans (dA_y hk).symm), atC_e ((dT_y hk).trans eS) hCy (atW_end hP9 hD9 hK9 ht hW)⟩, hS.F ht⟩) hS.2.2 dL_does_140
              · have eK : dK a how x y z = kSell a x y z := by unfold dK; rw [if_neg c_1, if_neg c_2, if_neg c_3, if_neg c_4, if_neg c_5, if_neg c_6, if_pos c_7]
                have eV : dV a how x y z = a 0 3 := by unfold dV; rw [if_neg c_1, if_neg c_2, if_neg c_3, if_neg c_4, if_neg c_5, if_neg c_6, if_pos c_7]
                have eS : dS a how x y z = sSell a x y z := by unfold dS; rw [if_neg c_1, if_neg c_2, if_neg c_3, if_neg c_4, if_neg c_5, if_neg c_6, if_pos c_7]
                refine lv_aload_n hx hb dL_does_93 rfl (lv_at hl 0 rfl) ?_
                refine lv_iload_n hx hb dL_does_94 rfl (lv_at hl 2 rfl) ?_
                refine lv_iload_n hx hb dL_does_95 rfl (lv_at hl 3 rfl) ?_
                refine lv_iload hx hb dL_does_96 (lv_at hl 4 rfl) ?_
                have hP : va_P (dC, dI) vwCl (WC cI cF h0 q a jc js jv k (capOf (nn (a 0 4)))) H := hP
                have hD : va_D A (WC cI cF h0 q a jc js jv k (capOf (nn (a 0 4)))) := hD
                have hFc := y_free hD hS hA
                refine vx_calli (vx_runV (As := [.int x, .int y, .int z]) (rest := []) ⟨hx, hb, hml, hown, hts⟩ (c_X4_sell l dC dI cI cF h0 q H.size a jc js jv k hst hC hB hY x y z) (cwV 3 hts gL_does_X4_sell rfl rfl rfl (by decide +kernel) ⟨Nat.le_of_ble_eq_true rfl, Nat.le_of_ble_eq_true rfl⟩) ⟨pcV_blind, va_recv hK hP (ci := 4) (q0 := 0) rfl rfl, fun U hU hW => pcV_pre hP hD hK hV hS hFc hU hW⟩ rfl rfl hl.1 rfl (lv_room (Nat.le_of_ble_eq_true rfl)) dL_does_98 ⟨Nat.le_of_ble_eq_true rfl, Nat.le_of_ble_eq_true rfl⟩) hS (fun q _ h => hFc q h) hFc (fun q _ h => hFc q h) (fun E ce q9 u t H1 locs ht hvm hw hBx hz1 hk1 hS hce hcv hcl => ?_) (fun r u t H1 locs ht hvm hw hB1 hz1 hk1 hS => ?_)
                · obtain ⟨hE, qx, jcx, jsx, jvx, kx, hCx, hPx, hKx, hDx⟩ := hBx
                  rw [ht] at hPx
                  have hP : va_P (dC, dI) vwCl (WC cI cF h0 qx a jcx jsx jvx kx (capOf (nn (a 0 4)))) _ := hPx
                  have hD : va_D A (WC cI cF h0 qx a jcx jsx jvx kx (capOf (nn (a 0 4)))) := hDx.weaken (fun kk qq _ h => hFc qq.1 h)
                  generalize H1 = H at hP hS hce ⊢
                  rcases kSell_r a x y z with h9 | h9 | h9 | h9
                  · exact absurd h9 hw
                  · have hE2 : E = exI := hE.trans (by rw [h9]; rfl)
                    subst hE2
                    refine vx_catch (name := exI) hown [] ⟨0, 140, 141, 43⟩ [⟨0, 140, 146, 46⟩, ⟨0, 140, 151, 48⟩] htab (fun z9 h8 => absurd h8 List.not_mem_nil) rfl (by decide) (hts (.classLink RL 43 "java/lang/IndexOutOfBoundsException") (List.mem_of_getElem? (i := 1) rfl)) (okV_use hV _ (by simp [vB])) hce hcv hcl ?_
                    refine lv_astore (lv' := [(5, .ref q9), (0, .ref h0), (1, .int how), (2, .int x), (3, .int y), (4, .int z)]) hx hb dL_does_141 hl (by decide) rfl (fun ls hl => ?_)
                    refine lv_ldc hx hb hown (hts (.constant RL 45 (-2000000001)) (List.mem_of_getElem? (i := 4) rfl)) dL_does_143 ?_
                    refine W.widen (k := 1026) (n := 6156) (Nat.le_of_ble_eq_true rfl) (Nat.le_of_ble_eq_true rfl) ?_
                    have hk : ¬ dK a how x y z = 0 := by rw [eK, h9]; decide
                    have hP9 := hP
                    have hD9 := hD
                    have hK9 := hK
                    exact W.iret (v := -2000000001) hx hb hr (fun t ht hW => ⟨⟨-2000000001, (), rfl, (dA_n hk).symm, atC_e (dT_n hk) hCx (atW_end hP9 hD9 hK9 ht hW)⟩, hS.F ht⟩) hS.2.2 dL_does_145
                  · have hE2 : E = exA := hE.trans (by rw [h9]; rfl)
                    subst hE2
                    refine vx_catch (name := exA) hown [⟨0, 140, 141, 43⟩] ⟨0, 140, 146, 46⟩ [⟨0, 140, 151, 48⟩] htab (List.forall_mem_cons.mpr ⟨Or.inr ⟨by decide, exI, (hts (.classLink RL 43 "java/lang/IndexOutOfBoundsException") (List.mem_of_getElem? (i := 1) rfl)), hN.1⟩, fun z9 h8 => absurd h8 List.not_mem_nil⟩) rfl (by decide) (hts (.classLink RL 46 "java/lang/IllegalArgumentException") (List.mem_of_getElem? (i := 2) rfl)) (okV_use hV _ (by simp [vB])) hce hcv hcl ?_
                    refine lv_astore (lv' := [(5, .ref q9), (0, .ref h0), (1, .int how), (2, .int x), (3, .int y), (4, .int z)]) hx hb dL_does_146 hl (by decide) rfl (fun ls hl => ?_)
                    refine lv_ldc hx hb hown (hts (.constant RL 45 (-2000000001)) (List.mem_of_getElem? (i := 4) rfl)) dL_does_148 ?_
                    refine W.widen (k := 1026) (n := 6156) (Nat.le_of_ble_eq_true rfl) (Nat.le_of_ble_eq_true rfl) ?_
                    have hk : ¬ dK a how x y z = 0 := by rw [eK, h9]; decide
                    have hP9 := hP
                    have hD9 := hD
                    have hK9 := hK
                    exact W.iret (v := -2000000001) hx hb hr (fun t ht hW => ⟨⟨-2000000001, (), rfl, (dA_n hk).symm, atC_e (dT_n hk) hCx (atW_end hP9 hD9 hK9 ht hW)⟩, hS.F ht⟩) hS.2.2 dL_does_150
                  · have hE2 : E = exS := hE.trans (by rw [h9]; rfl)
                    subst hE2
                    refine vx_catch (name := exS) hown [⟨0, 140, 141, 43⟩, ⟨0, 140, 146, 46⟩] ⟨0, 140, 151, 48⟩ [] htab (List.forall_mem_cons.mpr ⟨Or.inr ⟨by decide, exI, (hts (.classLink RL 43 "java/lang/IndexOutOfBoundsException") (List.mem_of_getElem? (i := 1) rfl)), hN.2.1⟩, List.forall_mem_cons.mpr ⟨Or.inr ⟨by decide, exA, (hts (.classLink RL 46 "java/lang/IllegalArgumentException") (List.mem_of_getElem? (i := 2) rfl)), hN.2.2⟩, fun z9 h8 => absurd h8 List.not_mem_nil⟩⟩) rfl (by decide) (hts (.classLink RL 48 "java/lang/IllegalStateException") (List.mem_of_getElem? (i := 3) rfl)) (okV_use hV _ (by simp [vB])) hce hcv hcl ?_
                    refine lv_astore (lv' := [(5, .ref q9), (0, .ref h0), (1, .int how), (2, .int x), (3, .int y), (4, .int z)]) hx hb dL_does_151 hl (by decide) rfl (fun ls hl => ?_)
                    refine lv_ldc hx hb hown (hts (.constant RL 45 (-2000000001)) (List.mem_of_getElem? (i := 4) rfl)) dL_does_153 ?_
                    refine W.widen (k := 1026) (n := 6156) (Nat.le_of_ble_eq_true rfl) (Nat.le_of_ble_eq_true rfl) ?_
                    have hk : ¬ dK a how x y z = 0 := by rw [eK, h9]; decide
                    have hP9 := hP
                    have hD9 := hD
                    have hK9 := hK
                    exact W.iret (v := -2000000001) hx hb hr (fun t ht hW => ⟨⟨-2000000001, (), rfl, (dA_n hk).symm, atC_e (dT_n hk) hCx (atW_end hP9 hD9 hK9 ht hW)⟩, hS.F ht⟩) hS.2.2 dL_does_155
                · obtain ⟨qy, jcy, jsy, jvy, ky, hCy, hPy, hKy, hDy⟩ := hB1
                  rw [ht] at hPy
                  have hP : va_P (dC, dI) vwCl (WC cI cF h0 qy (sSell a x y z) jcy jsy jvy ky (capOf (nn ((sSell a x y z) 0 4)))) _ := hPy
                  have hD : va_D A (WC cI cF h0 qy (sSell a x y z) jcy jsy jvy ky (capOf (nn ((sSell a x y z) 0 4)))) := hDy.weaken (fun kk qq _ h => hFc qq.1 h)
                  generalize H1 = H at hP hS ⊢
                  refine lv_goto (tgt := 140) hx hb dL_does_101 (by decide) ?_
                  have hk : dK a how x y z = 0 := eK.trans hw.1
                  refine W.widen (k := 1026) (n := 6156) (Nat.le_of_ble_eq_true rfl) (Nat.le_of_ble_eq_true rfl) ?_
                  have hP9 := hP
                  have hD9 := hD
                  have hK9 := hK
                  exact W.iret (v := r) hx hb hr (fun t ht hW => ⟨⟨r, (), rfl, hw.2.trans (eV.symm.trans (dA_y hk).symm), atC_e ((dT_y hk).trans eS) hCy (atW_end hP9 hD9 hK9 ht hW)⟩, hS.F ht⟩) hS.2.2 dL_does_140
            · have eK : dK a how x y z = kTax x := by unfold dK; rw [if_neg c_1, if_neg c_2, if_neg c_3, if_neg c_4, if_neg c_5, if_pos c_6]
              have eV : dV a how x y z = a 0 2 := by unfold dV; rw [if_neg c_1, if_neg c_2, if_neg c_3, if_neg c_4, if_neg c_5, if_pos c_6]
              have eS : dS a how x y z = sTaxS a x := by unfold dS; rw [if_neg c_1, if_neg c_2, if_neg c_3, if_neg c_4, if_neg c_5, if_pos c_6]
              refine lv_aload_n hx hb dL_does_79 rfl (lv_at hl 0 rfl) ?_
              refine lv_iload_n hx hb dL_does_80 rfl (lv_at hl 2 rfl) ?_
              have hP : va_P (dC, dI) vwCl (WC cI cF h0 q a jc js jv k (capOf (nn (a 0 4)))) H := hP
              have hD : va_D A (WC cI cF h0 q a jc js jv k (capOf (nn (a 0 4)))) := hD
              have hFc := y_free hD hS hA
              refine vx_calli (vx_runV (As := [.int x]) (rest := []) ⟨hx, hb, hml, hown, hts⟩ (c_X4_setTax l dC dI cI cF h0 q H.size a jc js jv k hst hC hB x) (cwV 1 hts gL_does_X4_setTax rfl rfl rfl (by decide +kernel) ⟨Nat.le_of_ble_eq_true rfl, Nat.le_of_ble_eq_true rfl⟩) ⟨pcV_blind, va_recv hK hP (ci := 4) (q0 := 0) rfl rfl, fun U hU hW => pcV_pre hP hD hK hV hS hFc hU hW⟩ rfl rfl hl.1 rfl (lv_room (Nat.le_of_ble_eq_true rfl)) dL_does_81 ⟨Nat.le_of_ble_eq_true rfl, Nat.le_of_ble_eq_true rfl⟩) hS (fun q _ h => hFc q h) hFc (fun q _ h => hFc q h) (fun E ce q9 u t H1 locs ht hvm hw hBx hz1 hk1 hS hce hcv hcl => ?_) (fun r u t H1 locs ht hvm hw hB1 hz1 hk1 hS => ?_)
              · obtain ⟨hE, qx, jcx, jsx, jvx, kx, hCx, hPx, hKx, hDx⟩ := hBx
                rw [ht] at hPx
                have hP : va_P (dC, dI) vwCl (WC cI cF h0 qx a jcx jsx jvx kx (capOf (nn (a 0 4)))) _ := hPx
                have hD : va_D A (WC cI cF h0 qx a jcx jsx jvx kx (capOf (nn (a 0 4)))) := hDx.weaken (fun kk qq _ h => hFc qq.1 h)
                generalize H1 = H at hP hS hce ⊢
                rcases kTax_r x with h9 | h9
                · exact absurd h9 hw
                · have hE2 : E = exA := hE.trans (by rw [h9]; rfl)
                  subst hE2
                  refine vx_catch (name := exA) hown [⟨0, 140, 141, 43⟩] ⟨0, 140, 146, 46⟩ [⟨0, 140, 151, 48⟩] htab (List.forall_mem_cons.mpr ⟨Or.inr ⟨by decide, exI, (hts (.classLink RL 43 "java/lang/IndexOutOfBoundsException") (List.mem_of_getElem? (i := 1) rfl)), hN.1⟩, fun z9 h8 => absurd h8 List.not_mem_nil⟩) rfl (by decide) (hts (.classLink RL 46 "java/lang/IllegalArgumentException") (List.mem_of_getElem? (i := 2) rfl)) (okV_use hV _ (by simp [vB])) hce hcv hcl ?_
                  refine lv_astore (lv' := [(5, .ref q9), (0, .ref h0), (1, .int how), (2, .int x), (3, .int y), (4, .int z)]) hx hb dL_does_146 hl (by decide) rfl (fun ls hl => ?_)
                  refine lv_ldc hx hb hown (hts (.constant RL 45 (-2000000001)) (List.mem_of_getElem? (i := 4) rfl)) dL_does_148 ?_
                  refine W.widen (k := 1026) (n := 6156) (Nat.le_of_ble_eq_true rfl) (Nat.le_of_ble_eq_true rfl) ?_
                  have hk : ¬ dK a how x y z = 0 := by rw [eK, h9]; decide
                  have hP9 := hP
                  have hD9 := hD
                  have hK9 := hK
                  exact W.iret (v := -2000000001) hx hb hr (fun t ht hW => ⟨⟨-2000000001, (), rfl, (dA_n hk).symm, atC_e (dT_n hk) hCx (atW_end hP9 hD9 hK9 ht hW)⟩, hS.F ht⟩) hS.2.2 dL_does_150
              · obtain ⟨qy, jcy, jsy, jvy, ky, hCy, hPy, hKy, hDy⟩ := hB1
                rw [ht] at hPy
                have hP : va_P (dC, dI) vwCl (WC cI cF h0 qy (sTaxS a x) jcy jsy jvy ky (capOf (nn ((sTaxS a x) 0 4)))) _ := hPy
                have hD : va_D A (WC cI cF h0 qy (sTaxS a x) jcy jsy jvy ky (capOf (nn ((sTaxS a x) 0 4)))) := hDy.weaken (fun kk qq _ h => hFc qq.1 h)
                generalize H1 = H at hP hS ⊢
                refine lv_goto (tgt := 140) hx hb dL_does_84 (by decide) ?_
                have hk : dK a how x y z = 0 := eK.trans hw.1
                refine W.widen (k := 1026) (n := 6156) (Nat.le_of_ble_eq_true rfl) (Nat.le_of_ble_eq_true rfl) ?_
                have hP9 := hP
                have hD9 := hD
                have hK9 := hK
                exact W.iret (v := r) hx hb hr (fun t ht hW => ⟨⟨r, (), rfl, hw.2.trans (eV.symm.trans (dA_y hk).symm), atC_e ((dT_y hk).trans eS) hCy (atW_end hP9 hD9 hK9 ht hW)⟩, hS.F ht⟩) hS.2.2 dL_does_140
          · have eK : dK a how x y z = kShr x y := by unfold dK; rw [if_neg c_1, if_neg c_2, if_neg c_3, if_neg c_4, if_pos c_5]
            have eV : dV a how x y z = shB (nn y) := by unfold dV; rw [if_neg c_1, if_neg c_2, if_neg c_3, if_neg c_4, if_pos c_5]
            have eS : dS a how x y z = sShr a x y := by unfold dS; rw [if_neg c_1, if_neg c_2, if_neg c_3, if_neg c_4, if_pos c_5]
            refine lv_aload_n hx hb dL_does_65 rfl (lv_at hl 0 rfl) ?_
            refine lv_iload_n hx hb dL_does_66 rfl (lv_at hl 2 rfl) ?_
            refine lv_iload_n hx hb dL_does_67 rfl (lv_at hl 3 rfl) ?_
            have hP : va_P (dC, dI) vwCl (WC cI cF h0 q a jc js jv k (capOf (nn (a 0 4)))) H := hP
            have hD : va_D A (WC cI cF h0 q a jc js jv k (capOf (nn (a 0 4)))) := hD
            have hFc := y_free hD hS hA
            refine vx_calli (vx_runV (As := [.int x, .int y]) (rest := []) ⟨hx, hb, hml, hown, hts⟩ (c_X4_setShare l dC dI cI cF h0 q H.size a jc js jv k hst hC hB x y) (cwV 2 hts gL_does_X4_setShare rfl rfl rfl (by decide +kernel) ⟨Nat.le_of_ble_eq_true rfl, Nat.le_of_ble_eq_true rfl⟩) ⟨pcV_blind, va_recv hK hP (ci := 4) (q0 := 0) rfl rfl, fun U hU hW => pcV_pre hP hD hK hV hS hFc hU hW⟩ rfl rfl hl.1 rfl (lv_room (Nat.le_of_ble_eq_true rfl)) dL_does_68 ⟨Nat.le_of_ble_eq_true rfl, Nat.le_of_ble_eq_true rfl⟩) hS (fun q _ h => hFc q h) hFc (fun q _ h => hFc q h) (fun E ce q9 u t H1 locs ht hvm hw hBx hz1 hk1 hS hce hcv hcl => ?_) (fun r u t H1 locs ht hvm hw hB1 hz1 hk1 hS => ?_)
            · obtain ⟨hE, qx, jcx, jsx, jvx, kx, hCx, hPx, hKx, hDx⟩ := hBx
              rw [ht] at hPx
              have hP : va_P (dC, dI) vwCl (WC cI cF h0 qx a jcx jsx jvx kx (capOf (nn (a 0 4)))) _ := hPx
              have hD : va_D A (WC cI cF h0 qx a jcx jsx jvx kx (capOf (nn (a 0 4)))) := hDx.weaken (fun kk qq _ h => hFc qq.1 h)
              generalize H1 = H at hP hS hce ⊢
              rcases kShr_r x y with h9 | h9 | h9
              · exact absurd h9 hw
              · have hE2 : E = exI := hE.trans (by rw [h9]; rfl)
                subst hE2
                refine vx_catch (name := exI) hown [] ⟨0, 140, 141, 43⟩ [⟨0, 140, 146, 46⟩, ⟨0, 140, 151, 48⟩] htab (fun z9 h8 => absurd h8 List.not_mem_nil) rfl (by decide) (hts (.classLink RL 43 "java/lang/IndexOutOfBoundsException") (List.mem_of_getElem? (i := 1) rfl)) (okV_use hV _ (by simp [vB])) hce hcv hcl ?_
                refine lv_astore (lv' := [(5, .ref q9), (0, .ref h0), (1, .int how), (2, .int x), (3, .int y), (4, .int z)]) hx hb dL_does_141 hl (by decide) rfl (fun ls hl => ?_)
                refine lv_ldc hx hb hown (hts (.constant RL 45 (-2000000001)) (List.mem_of_getElem? (i := 4) rfl)) dL_does_143 ?_
                refine W.widen (k := 1026) (n := 6156) (Nat.le_of_ble_eq_true rfl) (Nat.le_of_ble_eq_true rfl) ?_
                have hk : ¬ dK a how x y z = 0 := by rw [eK, h9]; decide
                have hP9 := hP
                have hD9 := hD
                have hK9 := hK
                exact W.iret (v := -2000000001) hx hb hr (fun t ht hW => ⟨⟨-2000000001, (), rfl, (dA_n hk).symm, atC_e (dT_n hk) hCx (atW_end hP9 hD9 hK9 ht hW)⟩, hS.F ht⟩) hS.2.2 dL_does_145
              · have hE2 : E = exA := hE.trans (by rw [h9]; rfl)
                subst hE2
                refine vx_catch (name := exA) hown [⟨0, 140, 141, 43⟩] ⟨0, 140, 146, 46⟩ [⟨0, 140, 151, 48⟩] htab (List.forall_mem_cons.mpr ⟨Or.inr ⟨by decide, exI, (hts (.classLink RL 43 "java/lang/IndexOutOfBoundsException") (List.mem_of_getElem? (i := 1) rfl)), hN.1⟩, fun z9 h8 => absurd h8 List.not_mem_nil⟩) rfl (by decide) (hts (.classLink RL 46 "java/lang/IllegalArgumentException") (List.mem_of_getElem? (i := 2) rfl)) (okV_use hV _ (by simp [vB])) hce hcv hcl ?_
                refine lv_astore (lv' := [(5, .ref q9), (0, .ref h0), (1, .int how), (2, .int x), (3, .int y), (4, .int z)]) hx hb dL_does_146 hl (by decide) rfl (fun ls hl => ?_)
                refine lv_ldc hx hb hown (hts (.constant RL 45 (-2000000001)) (List.mem_of_getElem? (i := 4) rfl)) dL_does_148 ?_
                refine W.widen (k := 1026) (n := 6156) (Nat.le_of_ble_eq_true rfl) (Nat.le_of_ble_eq_true rfl) ?_
                have hk : ¬ dK a how x y z = 0 := by rw [eK, h9]; decide
                have hP9 := hP
                have hD9 := hD
                have hK9 := hK
                exact W.iret (v := -2000000001) hx hb hr (fun t ht hW => ⟨⟨-2000000001, (), rfl, (dA_n hk).symm, atC_e (dT_n hk) hCx (atW_end hP9 hD9 hK9 ht hW)⟩, hS.F ht⟩) hS.2.2 dL_does_150
            · obtain ⟨qy, jcy, jsy, jvy, ky, hCy, hPy, hKy, hDy⟩ := hB1
              rw [ht] at hPy
              have hP : va_P (dC, dI) vwCl (WC cI cF h0 qy (sShr a x y) jcy jsy jvy ky (capOf (nn ((sShr a x y) 0 4)))) _ := hPy
              have hD : va_D A (WC cI cF h0 qy (sShr a x y) jcy jsy jvy ky (capOf (nn ((sShr a x y) 0 4)))) := hDy.weaken (fun kk qq _ h => hFc qq.1 h)
              generalize H1 = H at hP hS ⊢
              refine lv_goto (tgt := 140) hx hb dL_does_71 (by decide) ?_
              have hk : dK a how x y z = 0 := eK.trans hw.1
              refine W.widen (k := 1026) (n := 6156) (Nat.le_of_ble_eq_true rfl) (Nat.le_of_ble_eq_true rfl) ?_
              have hP9 := hP
              have hD9 := hD
              have hK9 := hK
              exact W.iret (v := r) hx hb hr (fun t ht hW => ⟨⟨r, (), rfl, hw.2.trans (eV.symm.trans (dA_y hk).symm), atC_e ((dT_y hk).trans eS) hCy (atW_end hP9 hD9 hK9 ht hW)⟩, hS.F ht⟩) hS.2.2 dL_does_140
        · have eK : dK a how x y z = kSet a 0 x y z := by unfold dK; rw [if_neg c_1, if_neg c_2, if_neg c_3, if_pos c_4]; rfl
          have eV : dV a how x y z = 0 := by unfold dV; rw [if_neg c_1, if_neg c_2, if_neg c_3, if_pos c_4]
          have eS : dS a how x y z = sSet a 0 x y z := by unfold dS; rw [if_neg c_1, if_neg c_2, if_neg c_3, if_pos c_4]; rfl
          refine lv_aload_n hx hb dL_does_48 rfl (lv_at hl 0 rfl) ?_
          refine lv_iconst (v := 0) hx hb dL_does_49 (by decide) ?_
          refine lv_iload_n hx hb dL_does_50 rfl (lv_at hl 2 rfl) ?_
          refine lv_iload_n hx hb dL_does_51 rfl (lv_at hl 3 rfl) ?_
          refine lv_iload hx hb dL_does_52 (lv_at hl 4 rfl) ?_
          have hP : va_P (dC, dI) vwCl (WC cI cF h0 q a jc js jv k (capOf (nn (a 0 4)))) H := hP
          have hD : va_D A (WC cI cF h0 q a jc js jv k (capOf (nn (a 0 4)))) := hD
          have hFc := y_free hD hS hA
          refine vx_calli (vx_runS (As := [.ref h0, .int 0, .int x, .int y, .int z]) (rest := []) ⟨hx, hb, hml, hown, hts⟩ (c_L_sets l dC dI cI cF h0 q H.size a jc js jv k hst hC hB 0 x y z) (va_cwS 5 hts gL_does_L_sets rfl rfl rfl (by decide +kernel) ⟨Nat.le_of_ble_eq_true rfl, Nat.le_of_ble_eq_true rfl⟩) ⟨pcV_blind, fun U hU hW => pcV_pre hP hD hK hV hS hFc hU hW⟩ rfl rfl hl.1 rfl (lv_room (Nat.le_of_ble_eq_true rfl)) dL_does_54 ⟨Nat.le_of_ble_eq_true rfl, Nat.le_of_ble_eq_true rfl⟩) hS (fun q _ h => hFc q h) hFc (fun q _ h => hFc q h) (fun E ce q9 u t H1 locs ht hvm hw hBx hz1 hk1 hS hce hcv hcl => ?_) (fun r u t H1 locs ht hvm hw hB1 hz1 hk1 hS => ?_)
          · obtain ⟨hE, qx, jcx, jsx, jvx, kx, hCx, hPx, hKx, hDx⟩ := hBx
            rw [ht] at hPx
            have hP : va_P (dC, dI) vwCl (WC cI cF h0 qx a jcx jsx jvx kx (capOf (nn (a 0 4)))) _ := hPx
            have hD : va_D A (WC cI cF h0 qx a jcx jsx jvx kx (capOf (nn (a 0 4)))) := hDx.weaken (fun kk qq _ h => hFc qq.1 h)
            generalize H1 = H at hP hS hce ⊢
            rcases kSet_r a 0 x y z with h9 | h9 | h9
            · exact absurd h9 hw
            · have hE2 : E = exI := hE.trans (by rw [h9]; rfl)
              subst hE2
              refine vx_catch (name := exI) hown [] ⟨0, 140, 141, 43⟩ [⟨0, 140, 146, 46⟩, ⟨0, 140, 151, 48⟩] htab (fun z9 h8 => absurd h8 List.not_mem_nil) rfl (by decide) (hts (.classLink RL 43 "java/lang/IndexOutOfBoundsException") (List.mem_of_getElem? (i := 1) rfl)) (okV_use hV _ (by simp [vB])) hce hcv hcl ?_
              refine lv_astore (lv' := [(5, .ref q9), (0, .ref h0), (1, .int how), (2, .int x), (3, .int y), (4, .int z)]) hx hb dL_does_141 hl (by decide) rfl (fun ls hl => ?_)
              refine lv_ldc hx hb hown (hts (.constant RL 45 (-2000000001)) (List.mem_of_getElem? (i := 4) rfl)) dL_does_143 ?_
              refine W.widen (k := 1026) (n := 6156) (Nat.le_of_ble_eq_true rfl) (Nat.le_of_ble_eq_true rfl) ?_
              have hk : ¬ dK a how x y z = 0 := by rw [eK, h9]; decide
              have hP9 := hP
              have hD9 := hD
              have hK9 := hK
              exact W.iret (v := -2000000001) hx hb hr (fun t ht hW => ⟨⟨-2000000001, (), rfl, (dA_n hk).symm, atC_e (dT_n hk) hCx (atW_end hP9 hD9 hK9 ht hW)⟩, hS.F ht⟩) hS.2.2 dL_does_145
            · have hE2 : E = exA := hE.trans (by rw [h9]; rfl)
              subst hE2
              refine vx_catch (name := exA) hown [⟨0, 140, 141, 43⟩] ⟨0, 140, 146, 46⟩ [⟨0, 140, 151, 48⟩] htab (List.forall_mem_cons.mpr ⟨Or.inr ⟨by decide, exI, (hts (.classLink RL 43 "java/lang/IndexOutOfBoundsException") (List.mem_of_getElem? (i := 1) rfl)), hN.1⟩, fun z9 h8 => absurd h8 List.not_mem_nil⟩) rfl (by decide) (hts (.classLink RL 46 "java/lang/IllegalArgumentException") (List.mem_of_getElem? (i := 2) rfl)) (okV_use hV _ (by simp [vB])) hce hcv hcl ?_
              refine lv_astore (lv' := [(5, .ref q9), (0, .ref h0), (1, .int how), (2, .int x), (3, .int y), (4, .int z)]) hx hb dL_does_146 hl (by decide) rfl (fun ls hl => ?_)
              refine lv_ldc hx hb hown (hts (.constant RL 45 (-2000000001)) (List.mem_of_getElem? (i := 4) rfl)) dL_does_148 ?_
              refine W.widen (k := 1026) (n := 6156) (Nat.le_of_ble_eq_true rfl) (Nat.le_of_ble_eq_true rfl) ?_
              have hk : ¬ dK a how x y z = 0 := by rw [eK, h9]; decide
              have hP9 := hP
              have hD9 := hD
              have hK9 := hK
              exact W.iret (v := -2000000001) hx hb hr (fun t ht hW => ⟨⟨-2000000001, (), rfl, (dA_n hk).symm, atC_e (dT_n hk) hCx (atW_end hP9 hD9 hK9 ht hW)⟩, hS.F ht⟩) hS.2.2 dL_does_150
          · obtain ⟨qy, jcy, jsy, jvy, ky, hCy, hPy, hKy, hDy⟩ := hB1
            rw [ht] at hPy
            have hP : va_P (dC, dI) vwCl (WC cI cF h0 qy (sSet a 0 x y z) jcy jsy jvy ky (capOf (nn ((sSet a 0 x y z) 0 4)))) _ := hPy
            have hD : va_D A (WC cI cF h0 qy (sSet a 0 x y z) jcy jsy jvy ky (capOf (nn ((sSet a 0 x y z) 0 4)))) := hDy.weaken (fun kk qq _ h => hFc qq.1 h)
            generalize H1 = H at hP hS ⊢
            refine lv_goto (tgt := 140) hx hb dL_does_57 (by decide) ?_
            have hk : dK a how x y z = 0 := eK.trans hw.1
            refine W.widen (k := 1026) (n := 6156) (Nat.le_of_ble_eq_true rfl) (Nat.le_of_ble_eq_true rfl) ?_
            have hP9 := hP
            have hD9 := hD
            have hK9 := hK
            exact W.iret (v := r) hx hb hr (fun t ht hW => ⟨⟨r, (), rfl, hw.2.trans (eV.symm.trans (dA_y hk).symm), atC_e ((dT_y hk).trans eS) hCy (atW_end hP9 hD9 hK9 ht hW)⟩, hS.F ht⟩) hS.2.2 dL_does_140
      · have eK : dK a how x y z = kSet a 1 x y z := by unfold dK; rw [if_neg c_1, if_neg c_2, if_pos c_3]; rfl
        have eV : dV a how x y z = 0 := by unfold dV; rw [if_neg c_1, if_neg c_2, if_pos c_3]
        have eS : dS a how x y z = sSet a 1 x y z := by unfold dS; rw [if_neg c_1, if_neg c_2, if_pos c_3]; rfl
        refine lv_aload_n hx hb dL_does_31 rfl (lv_at hl 0 rfl) ?_
        refine lv_iconst (v := 1) hx hb dL_does_32 (by decide) ?_
        refine lv_iload_n hx hb dL_does_33 rfl (lv_at hl 2 rfl) ?_
        refine lv_iload_n hx hb dL_does_34 rfl (lv_at hl 3 rfl) ?_
        refine lv_iload hx hb dL_does_35 (lv_at hl 4 rfl) ?_
        have hP : va_P (dC, dI) vwCl (WC cI cF h0 q a jc js jv k (capOf (nn (a 0 4)))) H := hP
        have hD : va_D A (WC cI cF h0 q a jc js jv k (capOf (nn (a 0 4)))) := hD
        have hFc := y_free hD hS hA
        refine vx_calli (vx_runS (As := [.ref h0, .int 1, .int x, .int y, .int z]) (rest := []) ⟨hx, hb, hml, hown, hts⟩ (c_L_sets l dC dI cI cF h0 q H.size a jc js jv k hst hC hB 1 x y z) (va_cwS 5 hts gL_does_L_sets rfl rfl rfl (by decide +kernel) ⟨Nat.le_of_ble_eq_true rfl, Nat.le_of_ble_eq_true rfl⟩) ⟨pcV_blind, fun U hU hW => pcV_pre hP hD hK hV hS hFc hU hW⟩ rfl rfl hl.1 rfl (lv_room (Nat.le_of_ble_eq_true rfl)) dL_does_37 ⟨Nat.le_of_ble_eq_true rfl, Nat.le_of_ble_eq_true rfl⟩) hS (fun q _ h => hFc q h) hFc (fun q _ h => hFc q h) (fun E ce q9 u t H1 locs ht hvm hw hBx hz1 hk1 hS hce hcv hcl => ?_) (fun r u t H1 locs ht hvm hw hB1 hz1 hk1 hS => ?_)
        · obtain ⟨hE, qx, jcx, jsx, jvx, kx, hCx, hPx, hKx, hDx⟩ := hBx
          rw [ht] at hPx
          have hP : va_P (dC, dI) vwCl (WC cI cF h0 qx a jcx jsx jvx kx (capOf (nn (a 0 4)))) _ := hPx
          have hD : va_D A (WC cI cF h0 qx a jcx jsx jvx kx (capOf (nn (a 0 4)))) := hDx.weaken (fun kk qq _ h => hFc qq.1 h)
          generalize H1 = H at hP hS hce ⊢
          rcases kSet_r a 1 x y z with h9 | h9 | h9
          · exact absurd h9 hw
          · have hE2 : E = exI := hE.trans (by rw [h9]; rfl)
            subst hE2
            refine vx_catch (name := exI) hown [] ⟨0, 140, 141, 43⟩ [⟨0, 140, 146, 46⟩, ⟨0, 140, 151, 48⟩] htab (fun z9 h8 => absurd h8 List.not_mem_nil) rfl (by decide) (hts (.classLink RL 43 "java/lang/IndexOutOfBoundsException") (List.mem_of_getElem? (i := 1) rfl)) (okV_use hV _ (by simp [vB])) hce hcv hcl ?_
            refine lv_astore (lv' := [(5, .ref q9), (0, .ref h0), (1, .int how), (2, .int x), (3, .int y), (4, .int z)]) hx hb dL_does_141 hl (by decide) rfl (fun ls hl => ?_)
            refine lv_ldc hx hb hown (hts (.constant RL 45 (-2000000001)) (List.mem_of_getElem? (i := 4) rfl)) dL_does_143 ?_
            refine W.widen (k := 1026) (n := 6156) (Nat.le_of_ble_eq_true rfl) (Nat.le_of_ble_eq_true rfl) ?_
            have hk : ¬ dK a how x y z = 0 := by rw [eK, h9]; decide
            have hP9 := hP
            have hD9 := hD
            have hK9 := hK
            exact W.iret (v := -2000000001) hx hb hr (fun t ht hW => ⟨⟨-2000000001, (), rfl, (dA_n hk).symm, atC_e (dT_n hk) hCx (atW_end hP9 hD9 hK9 ht hW)⟩, hS.F ht⟩) hS.2.2 dL_does_145
          · have hE2 : E = exA := hE.trans (by rw [h9]; rfl)
            subst hE2
            refine vx_catch (name := exA) hown [⟨0, 140, 141, 43⟩] ⟨0, 140, 146, 46⟩ [⟨0, 140, 151, 48⟩] htab (List.forall_mem_cons.mpr ⟨Or.inr ⟨by decide, exI, (hts (.classLink RL 43 "java/lang/IndexOutOfBoundsException") (List.mem_of_getElem? (i := 1) rfl)), hN.1⟩, fun z9 h8 => absurd h8 List.not_mem_nil⟩) rfl (by decide) (hts (.classLink RL 46 "java/lang/IllegalArgumentException") (List.mem_of_getElem? (i := 2) rfl)) (okV_use hV _ (by simp [vB])) hce hcv hcl ?_
            refine lv_astore (lv' := [(5, .ref q9), (0, .ref h0), (1, .int how), (2, .int x), (3, .int y), (4, .int z)]) hx hb dL_does_146 hl (by decide) rfl (fun ls hl => ?_)
            refine lv_ldc hx hb hown (hts (.constant RL 45 (-2000000001)) (List.mem_of_getElem? (i := 4) rfl)) dL_does_148 ?_
            refine W.widen (k := 1026) (n := 6156) (Nat.le_of_ble_eq_true rfl) (Nat.le_of_ble_eq_true rfl) ?_
            have hk : ¬ dK a how x y z = 0 := by rw [eK, h9]; decide
            have hP9 := hP
            have hD9 := hD
            have hK9 := hK
            exact W.iret (v := -2000000001) hx hb hr (fun t ht hW => ⟨⟨-2000000001, (), rfl, (dA_n hk).symm, atC_e (dT_n hk) hCx (atW_end hP9 hD9 hK9 ht hW)⟩, hS.F ht⟩) hS.2.2 dL_does_150
        · obtain ⟨qy, jcy, jsy, jvy, ky, hCy, hPy, hKy, hDy⟩ := hB1
          rw [ht] at hPy
          have hP : va_P (dC, dI) vwCl (WC cI cF h0 qy (sSet a 1 x y z) jcy jsy jvy ky (capOf (nn ((sSet a 1 x y z) 0 4)))) _ := hPy
          have hD : va_D A (WC cI cF h0 qy (sSet a 1 x y z) jcy jsy jvy ky (capOf (nn ((sSet a 1 x y z) 0 4)))) := hDy.weaken (fun kk qq _ h => hFc qq.1 h)
          generalize H1 = H at hP hS ⊢
          refine lv_goto (tgt := 140) hx hb dL_does_40 (by decide) ?_
          have hk : dK a how x y z = 0 := eK.trans hw.1
          refine W.widen (k := 1026) (n := 6156) (Nat.le_of_ble_eq_true rfl) (Nat.le_of_ble_eq_true rfl) ?_
          have hP9 := hP
          have hD9 := hD
          have hK9 := hK
          exact W.iret (v := r) hx hb hr (fun t ht hW => ⟨⟨r, (), rfl, hw.2.trans (eV.symm.trans (dA_y hk).symm), atC_e ((dT_y hk).trans eS) hCy (atW_end hP9 hD9 hK9 ht hW)⟩, hS.F ht⟩) hS.2.2 dL_does_140
    · have eK : dK a how x y z = kVer a x y := by unfold dK; rw [if_neg c_1, if_pos c_2]
      have eV : dV a how x y z = a 2 (nn x) := by unfold dV; rw [if_neg c_1, if_pos c_2]
      have eS : dS a how x y z = sVer a x y := by unfold dS; rw [if_neg c_1, if_pos c_2]
      refine lv_aload_n hx hb dL_does_17 rfl (lv_at hl 0 rfl) ?_
      refine lv_iload_n hx hb dL_does_18 rfl (lv_at hl 2 rfl) ?_
      refine lv_iload_n hx hb dL_does_19 rfl (lv_at hl 3 rfl) ?_
      have hP : va_P (dC, dI) vwCl (WC cI cF h0 q a jc js jv k (capOf (nn (a 0 4)))) H := hP
      have hD : va_D A (WC cI cF h0 q a jc js jv k (capOf (nn (a 0 4)))) := hD
      have hFc := y_free hD hS hA
      refine vx_calli (vx_runV (As := [.int x, .int y]) (rest := []) ⟨hx, hb, hml, hown, hts⟩ (c_X4_verify l dC dI cI cF h0 q H.size a jc js jv k hst hC hB x y) (cwV 2 hts gL_does_X4_verify rfl rfl rfl (by decide +kernel) ⟨Nat.le_of_ble_eq_true rfl, Nat.le_of_ble_eq_true rfl⟩) ⟨pcV_blind, va_recv hK hP (ci := 4) (q0 := 0) rfl rfl, fun U hU hW => pcV_pre hP hD hK hV hS hFc hU hW⟩ rfl rfl hl.1 rfl (lv_room (Nat.le_of_ble_eq_true rfl)) dL_does_20 ⟨Nat.le_of_ble_eq_true rfl, Nat.le_of_ble_eq_true rfl⟩) hS (fun q _ h => hFc q h) hFc (fun q _ h => hFc q h) (fun E ce q9 u t H1 locs ht hvm hw hBx hz1 hk1 hS hce hcv hcl => ?_) (fun r u t H1 locs ht hvm hw hB1 hz1 hk1 hS => ?_)
      · obtain ⟨hE, qx, jcx, jsx, jvx, kx, hCx, hPx, hKx, hDx⟩ := hBx
        rw [ht] at hPx
        have hP : va_P (dC, dI) vwCl (WC cI cF h0 qx a jcx jsx jvx kx (capOf (nn (a 0 4)))) _ := hPx
        have hD : va_D A (WC cI cF h0 qx a jcx jsx jvx kx (capOf (nn (a 0 4)))) := hDx.weaken (fun kk qq _ h => hFc qq.1 h)
        generalize H1 = H at hP hS hce ⊢
        rcases kVer_r a x y with h9 | h9 | h9
        · exact absurd h9 hw
        · have hE2 : E = exI := hE.trans (by rw [h9]; rfl)
          subst hE2
          refine vx_catch (name := exI) hown [] ⟨0, 140, 141, 43⟩ [⟨0, 140, 146, 46⟩, ⟨0, 140, 151, 48⟩] htab (fun z9 h8 => absurd h8 List.not_mem_nil) rfl (by decide) (hts (.classLink RL 43 "java/lang/IndexOutOfBoundsException") (List.mem_of_getElem? (i := 1) rfl)) (okV_use hV _ (by simp [vB])) hce hcv hcl ?_
          refine lv_astore (lv' := [(5, .ref q9), (0, .ref h0), (1, .int how), (2, .int x), (3, .int y), (4, .int z)]) hx hb dL_does_141 hl (by decide) rfl (fun ls hl => ?_)
          refine lv_ldc hx hb hown (hts (.constant RL 45 (-2000000001)) (List.mem_of_getElem? (i := 4) rfl)) dL_does_143 ?_
          refine W.widen (k := 1026) (n := 6156) (Nat.le_of_ble_eq_true rfl) (Nat.le_of_ble_eq_true rfl) ?_
          have hk : ¬ dK a how x y z = 0 := by rw [eK, h9]; decide
          have hP9 := hP
          have hD9 := hD
          have hK9 := hK
          exact W.iret (v := -2000000001) hx hb hr (fun t ht hW => ⟨⟨-2000000001, (), rfl, (dA_n hk).symm, atC_e (dT_n hk) hCx (atW_end hP9 hD9 hK9 ht hW)⟩, hS.F ht⟩) hS.2.2 dL_does_145
        · have hE2 : E = exA := hE.trans (by rw [h9]; rfl)
          subst hE2
          refine vx_catch (name := exA) hown [⟨0, 140, 141, 43⟩] ⟨0, 140, 146, 46⟩ [⟨0, 140, 151, 48⟩] htab (List.forall_mem_cons.mpr ⟨Or.inr ⟨by decide, exI, (hts (.classLink RL 43 "java/lang/IndexOutOfBoundsException") (List.mem_of_getElem? (i := 1) rfl)), hN.1⟩, fun z9 h8 => absurd h8 List.not_mem_nil⟩) rfl (by decide) (hts (.classLink RL 46 "java/lang/IllegalArgumentException") (List.mem_of_getElem? (i := 2) rfl)) (okV_use hV _ (by simp [vB])) hce hcv hcl ?_
          refine lv_astore (lv' := [(5, .ref q9), (0, .ref h0), (1, .int how), (2, .int x), (3, .int y), (4, .int z)]) hx hb dL_does_146 hl (by decide) rfl (fun ls hl => ?_)
          refine lv_ldc hx hb hown (hts (.constant RL 45 (-2000000001)) (List.mem_of_getElem? (i := 4) rfl)) dL_does_148 ?_
          refine W.widen (k := 1026) (n := 6156) (Nat.le_of_ble_eq_true rfl) (Nat.le_of_ble_eq_true rfl) ?_
          have hk : ¬ dK a how x y z = 0 := by rw [eK, h9]; decide
          have hP9 := hP
          have hD9 := hD
          have hK9 := hK
          exact W.iret (v := -2000000001) hx hb hr (fun t ht hW => ⟨⟨-2000000001, (), rfl, (dA_n hk).symm, atC_e (dT_n hk) hCx (atW_end hP9 hD9 hK9 ht hW)⟩, hS.F ht⟩) hS.2.2 dL_does_150
      · obtain ⟨qy, jcy, jsy, jvy, ky, hCy, hPy, hKy, hDy⟩ := hB1
        rw [ht] at hPy
        have hP : va_P (dC, dI) vwCl (WC cI cF h0 qy (sVer a x y) jcy jsy jvy ky (capOf (nn ((sVer a x y) 0 4)))) _ := hPy
        have hD : va_D A (WC cI cF h0 qy (sVer a x y) jcy jsy jvy ky (capOf (nn ((sVer a x y) 0 4)))) := hDy.weaken (fun kk qq _ h => hFc qq.1 h)
        generalize H1 = H at hP hS ⊢
        refine lv_goto (tgt := 140) hx hb dL_does_23 (by decide) ?_
        have hk : dK a how x y z = 0 := eK.trans hw.1
        refine W.widen (k := 1026) (n := 6156) (Nat.le_of_ble_eq_true rfl) (Nat.le_of_ble_eq_true rfl) ?_
        have hP9 := hP
        have hD9 := hD
        have hK9 := hK
        exact W.iret (v := r) hx hb hr (fun t ht hW => ⟨⟨r, (), rfl, hw.2.trans (eV.symm.trans (dA_y hk).symm), atC_e ((dT_y hk).trans eS) hCy (atW_end hP9 hD9 hK9 ht hW)⟩, hS.F ht⟩) hS.2.2 dL_does_140
  · have eK : dK a how x y z = kAdd a x := by unfold dK; rw [if_pos c_1]
    have eV : dV a how x y z = a 0 0 := by unfold dV; rw [if_pos c_1]
    have eS : dS a how x y z = sAdd a x := by unfold dS; rw [if_pos c_1]
    refine lv_aload_n hx hb dL_does_4 rfl (lv_at hl 0 rfl) ?_
    refine lv_iload_n hx hb dL_does_5 rfl (lv_at hl 2 rfl) ?_
    have hP : va_P (dC, dI) vwCl (WC cI cF h0 q a jc js jv k (capOf (nn (a 0 4)))) H := hP
    have hD : va_D A (WC cI cF h0 q a jc js jv k (capOf (nn (a 0 4)))) := hD
    have hFc := y_free hD hS hA
    refine vx_calli (vx_runV (As := [.int x]) (rest := []) ⟨hx, hb, hml, hown, hts⟩ (c_X4_addSeller l dC dI cI cF h0 q H.size a jc js jv k hst hC hB x) (cwV 1 hts gL_does_X4_addSeller rfl rfl rfl (by decide +kernel) ⟨Nat.le_of_ble_eq_true rfl, Nat.le_of_ble_eq_true rfl⟩) ⟨pcV_blind, va_recv hK hP (ci := 4) (q0 := 0) rfl rfl, fun U hU hW => pcV_pre hP hD hK hV hS hFc hU hW⟩ rfl rfl hl.1 rfl (lv_room (Nat.le_of_ble_eq_true rfl)) dL_does_6 ⟨Nat.le_of_ble_eq_true rfl, Nat.le_of_ble_eq_true rfl⟩) hS (fun q _ h => hFc q h) hFc (fun q _ h => hFc q h) (fun E ce q9 u t H1 locs ht hvm hw hBx hz1 hk1 hS hce hcv hcl => ?_) (fun r u t H1 locs ht hvm hw hB1 hz1 hk1 hS => ?_)
    · obtain ⟨hE, qx, jcx, jsx, jvx, kx, hCx, hPx, hKx, hDx⟩ := hBx
      rw [ht] at hPx
      have hP : va_P (dC, dI) vwCl (WC cI cF h0 qx a jcx jsx jvx kx (capOf (nn (a 0 4)))) _ := hPx
      have hD : va_D A (WC cI cF h0 qx a jcx jsx jvx kx (capOf (nn (a 0 4)))) := hDx.weaken (fun kk qq _ h => hFc qq.1 h)
      generalize H1 = H at hP hS hce ⊢
      rcases kAdd_r a x with h9 | h9 | h9
      · exact absurd h9 hw
      · have hE2 : E = exI := hE.trans (by rw [h9]; rfl)
        subst hE2
        refine vx_catch (name := exI) hown [] ⟨0, 140, 141, 43⟩ [⟨0, 140, 146, 46⟩, ⟨0, 140, 151, 48⟩] htab (fun z9 h8 => absurd h8 List.not_mem_nil) rfl (by decide) (hts (.classLink RL 43 "java/lang/IndexOutOfBoundsException") (List.mem_of_getElem? (i := 1) rfl)) (okV_use hV _ (by simp [vB])) hce hcv hcl ?_
        refine lv_astore (lv' := [(5, .ref q9), (0, .ref h0), (1, .int how), (2, .int x), (3, .int y), (4, .int z)]) hx hb dL_does_141 hl (by decide) rfl (fun ls hl => ?_)
        refine lv_ldc hx hb hown (hts (.constant RL 45 (-2000000001)) (List.mem_of_getElem? (i := 4) rfl)) dL_does_143 ?_
        refine W.widen (k := 1026) (n := 6156) (Nat.le_of_ble_eq_true rfl) (Nat.le_of_ble_eq_true rfl) ?_
        have hk : ¬ dK a how x y z = 0 := by rw [eK, h9]; decide
        have hP9 := hP
        have hD9 := hD
        have hK9 := hK
        exact W.iret (v := -2000000001) hx hb hr (fun t ht hW => ⟨⟨-2000000001, (), rfl, (dA_n hk).symm, atC_e (dT_n hk) hCx (atW_end hP9 hD9 hK9 ht hW)⟩, hS.F ht⟩) hS.2.2 dL_does_145
      · have hE2 : E = exS := hE.trans (by rw [h9]; rfl)
        subst hE2
        refine vx_catch (name := exS) hown [⟨0, 140, 141, 43⟩, ⟨0, 140, 146, 46⟩] ⟨0, 140, 151, 48⟩ [] htab (List.forall_mem_cons.mpr ⟨Or.inr ⟨by decide, exI, (hts (.classLink RL 43 "java/lang/IndexOutOfBoundsException") (List.mem_of_getElem? (i := 1) rfl)), hN.2.1⟩, List.forall_mem_cons.mpr ⟨Or.inr ⟨by decide, exA, (hts (.classLink RL 46 "java/lang/IllegalArgumentException") (List.mem_of_getElem? (i := 2) rfl)), hN.2.2⟩, fun z9 h8 => absurd h8 List.not_mem_nil⟩⟩) rfl (by decide) (hts (.classLink RL 48 "java/lang/IllegalStateException") (List.mem_of_getElem? (i := 3) rfl)) (okV_use hV _ (by simp [vB])) hce hcv hcl ?_
        refine lv_astore (lv' := [(5, .ref q9), (0, .ref h0), (1, .int how), (2, .int x), (3, .int y), (4, .int z)]) hx hb dL_does_151 hl (by decide) rfl (fun ls hl => ?_)
        refine lv_ldc hx hb hown (hts (.constant RL 45 (-2000000001)) (List.mem_of_getElem? (i := 4) rfl)) dL_does_153 ?_
        refine W.widen (k := 1026) (n := 6156) (Nat.le_of_ble_eq_true rfl) (Nat.le_of_ble_eq_true rfl) ?_
        have hk : ¬ dK a how x y z = 0 := by rw [eK, h9]; decide
        have hP9 := hP
        have hD9 := hD
        have hK9 := hK
        exact W.iret (v := -2000000001) hx hb hr (fun t ht hW => ⟨⟨-2000000001, (), rfl, (dA_n hk).symm, atC_e (dT_n hk) hCx (atW_end hP9 hD9 hK9 ht hW)⟩, hS.F ht⟩) hS.2.2 dL_does_155
    · obtain ⟨qy, jcy, jsy, jvy, ky, hCy, hPy, hKy, hDy⟩ := hB1
      rw [ht] at hPy
      have hP : va_P (dC, dI) vwCl (WC cI cF h0 qy (sAdd a x) jcy jsy jvy ky (capOf (nn ((sAdd a x) 0 4)))) _ := hPy
      have hD : va_D A (WC cI cF h0 qy (sAdd a x) jcy jsy jvy ky (capOf (nn ((sAdd a x) 0 4)))) := hDy.weaken (fun kk qq _ h => hFc qq.1 h)
      generalize H1 = H at hP hS ⊢
      refine lv_goto (tgt := 140) hx hb dL_does_9 (by decide) ?_
      have hk : dK a how x y z = 0 := eK.trans hw.1
      refine W.widen (k := 1026) (n := 6156) (Nat.le_of_ble_eq_true rfl) (Nat.le_of_ble_eq_true rfl) ?_
      have hP9 := hP
      have hD9 := hD
      have hK9 := hK
      exact W.iret (v := r) hx hb hr (fun t ht hW => ⟨⟨r, (), rfl, hw.2.trans (eV.symm.trans (dA_y hk).symm), atC_e ((dT_y hk).trans eS) hCy (atW_end hP9 hD9 hK9 ht hW)⟩, hS.F ht⟩) hS.2.2 dL_does_140
