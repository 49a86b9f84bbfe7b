set_option maxHeartbeats 4000000 in
set_option maxRecDepth 100000 in
theorem c_X4_partOf (l : Launch) (x y : Int32)  : Met l yX4_partOf wsX4_partOf ({ frames := 0, cells := 0, slots := 0, locals := 0 } : Room) (va_Pc [.int x, .int y] (fun _ => True)) (va_Qi (fun (r : Int32) (_ : Unit) => r = x * y / 1000) (fun _ _ => True) (fun _ => False)) 0 0 (fun _ => False) := by
  refine Met.ofW (cc := cX4_partOf) (maxL := 2) (ret := (some .int)) (by decide) rfl ?_
  intro p e s m args below meth c s₁ B hml hv
  obtain ⟨rfl, -⟩ := hv
  have hx := B.exec
  have hb := B.bytes
  have hr := B.returns
  have hts := atoms_spec (ws := wsX4_partOf) B.pre
  have hown : s.vm.findClass RX4 = some m.cls := findClass_of_methodNamed B.named
  have hlocks := B.notSynchronized
  have hS : va_S (fun _ => False) s.heap s.heap [] := va_S.rf
  have hl := lv_entry ([.int x, .int y]) (n := 2) (Nat.le_of_ble_eq_true rfl)
  rw [lg_entry_eq]
  generalize (lg_sl ([.int x, .int y]) ++ List.replicate (2 - (lg_sl ([.int x, .int y])).length) Slot.unset).toArray = ls at hl ⊢
  have hl : lv_has ls 2 [(0, .int x), (1, .int y)] := hl
  refine lv_iload_n hx hb dX4_partOf_0 rfl (lv_at hl 0 rfl) ?_
  refine lv_iload_n hx hb dX4_partOf_1 rfl (lv_at hl 1 rfl) ?_
  refine lv_imul hx hb dX4_partOf_2 ?_
  refine lv_sipush (v := 1000) hx hb dX4_partOf_3 (by decide) ?_
  refine lv_idiv hx hb dX4_partOf_6 (by decide) ?_
  exact W.iret (v := (x * y) / 1000) hx hb hr (fun t ht hW => ⟨⟨(x * y) / 1000, (), rfl, rfl, trivial⟩, hS.F ht⟩) hS.2.2 dX4_partOf_7
set_option maxHeartbeats 4000000 in
set_option maxRecDepth 100000 in
theorem c_X4_shareOf (l : Launch) (k : Nat) (hk : k ≤ 999) : Met l yX4_shareOf wsX4_shareOf ({ frames := 0, cells := 0, slots := 0, locals := 0 } : Room) (va_Pc [.int (nI k)] (fun _ => True)) (va_Qf (fun (r : UInt32) (_ : Unit) => r = shF (nI k)) (fun _ _ => True) (fun _ => False)) 0 0 (fun _ => False) := by
  refine Met.ofW (cc := cX4_shareOf) (maxL := 1) (ret := (some .float)) (by decide) rfl ?_
  intro p e s m args below meth c s₁ B hml hv
  obtain ⟨rfl, -⟩ := hv
  have hx := B.exec
  have hb := B.bytes
  have hr := B.returns
  have hts := atoms_spec (ws := wsX4_shareOf) B.pre
  have hown : s.vm.findClass RX4 = some m.cls := findClass_of_methodNamed B.named
  have hlocks := B.notSynchronized
  have hS : va_S (fun _ => False) s.heap s.heap [] := va_S.rf
  have hl := lv_entry ([.int (nI k)]) (n := 1) (Nat.le_of_ble_eq_true rfl)
  rw [lg_entry_eq]
  generalize (lg_sl ([.int (nI k)]) ++ List.replicate (1 - (lg_sl ([.int (nI k)])).length) Slot.unset).toArray = ls at hl ⊢
  have hl : lv_has ls 1 [(0, .int (nI k))] := hl
  refine lv_iload_n hx hb dX4_shareOf_0 rfl (lv_at hl 0 rfl) ?_
  refine lv_i2f hx hb dX4_shareOf_1 ?_
  refine lv_ldcf hx hb hown (hts (.constantFloat RX4 214 (1148846080)) (List.mem_of_getElem? (i := 1) rfl)) dX4_shareOf_2 ?_
  refine lv_fdiv hx hb dX4_shareOf_4 (shF_n hk) ?_
  exact W.fret (v := FP.fdiv (FP.i2f (nI k)) 1148846080) hx hb hr (fun t ht hW => ⟨⟨FP.fdiv (FP.i2f (nI k)) 1148846080, (), rfl, rfl, trivial⟩, hS.F ht⟩) hS.2.2 dX4_shareOf_5
set_option maxHeartbeats 4000000 in
set_option maxRecDepth 100000 in
theorem c_X4_feeOn (l : Launch) (x k : Nat) (h0 : 1 ≤ x) (h1 : x ≤ 1000000) (hk : k ≤ 999) : Met l yX4_feeOn wsX4_feeOn ({ frames := 0, cells := 0, slots := 0, locals := 0 } : Room) (va_Pc [.int (nI x), .float (shF (nI k))] (fun _ => True)) (va_Qi (fun (r : Int32) (_ : Unit) => r = feeI (nI x) (nI k)) (fun _ _ => True) (fun _ => False)) 0 0 (fun _ => False) := by
  refine Met.ofW (cc := cX4_feeOn) (maxL := 2) (ret := (some .int)) (by decide) rfl ?_
  intro p e s m args below meth c s₁ B hml hv
  obtain ⟨rfl, -⟩ := hv
  have hx := B.exec
  have hb := B.bytes
  have hr := B.returns
  have hts := atoms_spec (ws := wsX4_feeOn) B.pre
  have hown : s.vm.findClass RX4 = some m.cls := findClass_of_methodNamed B.named
  have hlocks := B.notSynchronized
  have hS : va_S (fun _ => False) s.heap s.heap [] := va_S.rf
  have hl := lv_entry ([.int (nI x), .float (shF (nI k))]) (n := 2) (Nat.le_of_ble_eq_true rfl)
  rw [lg_entry_eq]
  generalize (lg_sl ([.int (nI x), .float (shF (nI k))]) ++ List.replicate (2 - (lg_sl ([.int (nI x), .float (shF (nI k))])).length) Slot.unset).toArray = ls at hl ⊢
  have hl : lv_has ls 2 [(0, .int (nI x)), (1, .float (shF (nI k)))] := hl
  refine lv_iload_n hx hb dX4_feeOn_0 rfl (lv_at hl 0 rfl) ?_
  refine lv_i2f hx hb dX4_feeOn_1 ?_
  refine lv_fload_n hx hb dX4_feeOn_2 rfl (lv_at hl 1 rfl) ?_
  refine lv_fmul hx hb dX4_feeOn_3 (fp_mul h0 h1 hk).1 ?_
  refine lv_f2i hx hb dX4_feeOn_4 ?_
  exact W.iret (v := FP.f2i (FP.fmul (FP.i2f (nI x)) (shF (nI k)))) hx hb hr (fun t ht hW => ⟨⟨FP.f2i (FP.fmul (FP.i2f (nI x)) (shF (nI k))), (), rfl, rfl, trivial⟩, hS.F ht⟩) hS.2.2 dX4_feeOn_5
set_option maxHeartbeats 4000000 in
set_option maxRecDepth 100000 in
theorem c_X2_enter (l : Launch) (dC : Nat → ClassId) (dI : Nat → Nat → Nat) (cI : ClassId) (h0 p1 p2 p3 p4 p5 p6 p7 sz : Nat) (f1 f4 : Nat → Int32) (mm : Nat) (cnt : Int32) (hcnt : cnt = nI mm) (hm : mm < 100) (zz x : Int32) : Met l yX2_enter wsX2_enter ({ frames := 0, cells := 0, slots := 0, locals := 0 } : Room) (va_Pc [.ref h0, .int zz, .int x] (pcW dC dI [(cI, .int)] [(h0, .inr (2, [.ref p1, .ref p2, .ref p3, .ref p4, .ref p5, .ref p6, .ref p7, .int cnt])), (p1, .inl (cI, 100, .inl (f1))), (p4, .inl (cI, 100, .inl (f4)))] sz)) (va_Qi (fun (r : Int32) (_ : Unit) => r = nI mm) (fun _ t => atW dC dI [(cI, .int)] (va_A [(h0, .inr (2, [.ref p1, .ref p2, .ref p3, .ref p4, .ref p5, .ref p6, .ref p7, .int cnt])), (p1, .inl (cI, 100, .inl (f1))), (p4, .inl (cI, 100, .inl (f4)))] sz) [(h0, .inr (2, [.ref p1, .ref p2, .ref p3, .ref p4, .ref p5, .ref p6, .ref p7, .int (cnt + 1)])), (p1, .inl (cI, 100, .inl (upd f1 mm zz))), (p4, .inl (cI, 100, .inl (upd f4 mm x)))] t) (va_A [(h0, .inr (2, [.ref p1, .ref p2, .ref p3, .ref p4, .ref p5, .ref p6, .ref p7, .int cnt])), (p1, .inl (cI, 100, .inl (f1))), (p4, .inl (cI, 100, .inl (f4)))] sz)) 0 0 (va_A [(h0, .inr (2, [.ref p1, .ref p2, .ref p3, .ref p4, .ref p5, .ref p6, .ref p7, .int cnt])), (p1, .inl (cI, 100, .inl (f1))), (p4, .inl (cI, 100, .inl (f4)))] sz) := by
  refine Met.ofW (cc := cX2_enter) (maxL := 4) (ret := (some .int)) (by decide) rfl ?_
  intro p e s m args below meth c s₁ B hml hv
  obtain ⟨rfl, hsz, hP, hK, hD0⟩ := hv
  have hx := B.exec
  have hb := B.bytes
  have hr := B.returns
  have hts := atoms_spec (ws := wsX2_enter) B.pre
  have hown : s.vm.findClass RX2 = some m.cls := findClass_of_methodNamed B.named
  have hlocks := B.notSynchronized
  subst hsz
  have hD := hD0.self (sz := s.heap.size)
  generalize hAe : va_A [(h0, .inr (2, [.ref p1, .ref p2, .ref p3, .ref p4, .ref p5, .ref p6, .ref p7, .int cnt])), (p1, .inl (cI, 100, .inl (f1))), (p4, .inl (cI, 100, .inl (f4)))] s.heap.size = A at hD ⊢
  have hA : ∀ q : Nat, s.heap.size ≤ q → A q := fun q h => by rw [← hAe]; exact Or.inr h
  have hS : va_S A s.heap s.heap [] := va_S.rf
  have hl := lv_entry ([.ref h0, .int zz, .int x]) (n := 4) (Nat.le_of_ble_eq_true rfl)
  rw [lg_entry_eq]
  generalize (lg_sl ([.ref h0, .int zz, .int x]) ++ List.replicate (4 - (lg_sl ([.ref h0, .int zz, .int x])).length) Slot.unset).toArray = ls at hl ⊢
  have hl : lv_has ls 4 [(0, .ref h0), (1, .int zz), (2, .int x)] := hl
  have hiX2 : ∀ w ∈ wsX20, w ∈ wsX2_enter := fun w h => List.mem_cons_of_mem _ (List.mem_append_right _ h)
  have hP : va_P (dC, dI) vwCl [(h0, .inr (2, [.ref p1, .ref p2, .ref p3, .ref p4, .ref p5, .ref p6, .ref p7, .int cnt])), (p1, .inl (cI, 100, .inl (f1))), (p4, .inl (cI, 100, .inl (f4)))] s.heap := hP
  refine y_enter (A := A) hP (fun H hP hS => ?_)
  subst hcnt
  refine lv_aload_n hx hb dX2_enter_0 rfl (lv_at hl 0 rfl) ?_
  refine va_get (D := (dC, dI)) (ci := 2) (v := .int (nI mm)) (C := RX2) (T := TX2) (N := 8) hx hb hts hiX2 hown hK hP 0 rfl rfl 7 (by decide) (hts (.fieldLink RX2 34 "Payoutnet$Sales" "count" "I") (List.mem_of_getElem? (i := 1) rfl)) (fun _ h9 => h9) rfl dX2_enter_1 ?_
  refine lv_istore_n (lv' := [(3, .int (nI mm)), (0, .ref h0), (1, .int zz), (2, .int x)]) hx hb dX2_enter_4 rfl hl (by decide) rfl (fun ls hl => ?_)
  refine lv_aload_n hx hb dX2_enter_5 rfl (lv_at hl 1 rfl) ?_
  refine va_get (D := (dC, dI)) (ci := 2) (v := .ref p1) (C := RX2) (T := TX2) (N := 8) hx hb hts hiX2 hown hK hP 0 rfl rfl 0 (by decide) (hts (.fieldLink RX2 9 "Payoutnet$Sales" "seller" "[I") (List.mem_of_getElem? (i := 2) rfl)) (fun _ h9 => h9) rfl dX2_enter_6 ?_
  refine lv_iload_n hx hb dX2_enter_9 rfl (lv_at hl 0 rfl) ?_
  refine lv_iload_n hx hb dX2_enter_10 rfl (lv_at hl 2 rfl) ?_
  refine y_ist hx hb hK hP hD hS 1 0 rfl rfl (t := mm) (by omega) (Nat.le_of_ble_eq_true rfl) dX2_enter_11 (fun H locs hP hD hS => ?_)
  have hP : va_P (dC, dI) vwCl [(h0, .inr (2, [.ref p1, .ref p2, .ref p3, .ref p4, .ref p5, .ref p6, .ref p7, .int (nI mm)])), (p1, .inl (cI, 100, .inl (upd f1 mm zz))), (p4, .inl (cI, 100, .inl (f4)))] H := hP
  have hD : va_D A [(h0, .inr (2, [.ref p1, .ref p2, .ref p3, .ref p4, .ref p5, .ref p6, .ref p7, .int (nI mm)])), (p1, .inl (cI, 100, .inl (upd f1 mm zz))), (p4, .inl (cI, 100, .inl (f4)))] := hD
  refine lv_aload_n hx hb dX2_enter_12 rfl (lv_at hl 1 rfl) ?_
  refine va_get (D := (dC, dI)) (ci := 2) (v := .ref p4) (C := RX2) (T := TX2) (N := 8) hx hb hts hiX2 hown hK hP 0 rfl rfl 3 (by decide) (hts (.fieldLink RX2 22 "Payoutnet$Sales" "unrefunded" "[I") (List.mem_of_getElem? (i := 3) rfl)) (fun _ h9 => h9) rfl dX2_enter_13 ?_
  refine lv_iload_n hx hb dX2_enter_16 rfl (lv_at hl 0 rfl) ?_
  refine lv_iload_n hx hb dX2_enter_17 rfl (lv_at hl 3 rfl) ?_
  refine y_ist hx hb hK hP hD hS 2 0 rfl rfl (t := mm) (by omega) (Nat.le_of_ble_eq_true rfl) dX2_enter_18 (fun H locs hP hD hS => ?_)
  have hP : va_P (dC, dI) vwCl [(h0, .inr (2, [.ref p1, .ref p2, .ref p3, .ref p4, .ref p5, .ref p6, .ref p7, .int (nI mm)])), (p1, .inl (cI, 100, .inl (upd f1 mm zz))), (p4, .inl (cI, 100, .inl (upd f4 mm x)))] H := hP
  have hD : va_D A [(h0, .inr (2, [.ref p1, .ref p2, .ref p3, .ref p4, .ref p5, .ref p6, .ref p7, .int (nI mm)])), (p1, .inl (cI, 100, .inl (upd f1 mm zz))), (p4, .inl (cI, 100, .inl (upd f4 mm x)))] := hD
  refine lv_aload_n hx hb dX2_enter_19 rfl (lv_at hl 1 rfl) ?_
  refine lv_dup hx hb dX2_enter_20 rfl ?_
  refine va_get (D := (dC, dI)) (ci := 2) (v := .int (nI mm)) (C := RX2) (T := TX2) (N := 8) hx hb hts hiX2 hown hK hP 0 rfl rfl 7 (by decide) (hts (.fieldLink RX2 34 "Payoutnet$Sales" "count" "I") (List.mem_of_getElem? (i := 1) rfl)) (fun _ h9 => h9) rfl dX2_enter_21 ?_
  refine lv_iconst (v := 1) hx hb dX2_enter_24 (by decide) ?_
  refine lv_iadd hx hb dX2_enter_25 ?_
  refine va_put (D := (dC, dI)) (ci := 2) (v := .int ((nI mm) + 1)) (ty := .int) (C := RX2) (T := TX2) (N := 8) hx hb hts hiX2 tyX2 tyX2_ok nmX2 hown hK hP hD hS 0 rfl rfl 7 (by decide) (hts (.fieldLink RX2 34 "Payoutnet$Sales" "count" "I") (List.mem_of_getElem? (i := 1) rfl)) (fun _ h9 => h9) rfl (tyX2_ok 7 (by decide)) rfl rfl (Nat.le_of_ble_eq_true rfl) dX2_enter_26 (fun H locs hP hD hS => ?_)
  have hP : va_P (dC, dI) vwCl [(h0, .inr (2, [.ref p1, .ref p2, .ref p3, .ref p4, .ref p5, .ref p6, .ref p7, .int ((nI mm) + 1)])), (p1, .inl (cI, 100, .inl (upd f1 mm zz))), (p4, .inl (cI, 100, .inl (upd f4 mm x)))] H := hP
  have hD : va_D A [(h0, .inr (2, [.ref p1, .ref p2, .ref p3, .ref p4, .ref p5, .ref p6, .ref p7, .int ((nI mm) + 1)])), (p1, .inl (cI, 100, .inl (upd f1 mm zz))), (p4, .inl (cI, 100, .inl (upd f4 mm x)))] := hD
  refine lv_iload_n hx hb dX2_enter_29 rfl (lv_at hl 0 rfl) ?_
  have hP9 := hP
  have hD9 := hD
  have hK9 := hK
  exact W.iret (v := nI mm) hx hb hr (fun t ht hW => ⟨⟨nI mm, (), rfl, rfl, atW_end hP9 hD9 hK9 ht hW⟩, hS.F ht⟩) hS.2.2 dX2_enter_30
set_option maxHeartbeats 4000000 in
set_option maxRecDepth 100000 in
theorem c_X2_heldFor (l : Launch) (dC : Nat → ClassId) (dI : Nat → Nat → Nat) (cI : ClassId) (h0 p1 p2 p3 p4 p5 p6 p7 sz : Nat) (f1 f4 : Nat → Int32) (mm : Nat) (cnt : Int32) (hcnt : cnt = nI mm) (hm : mm ≤ 100) (z : Nat) : Met l yX2_heldFor wsX2_heldFor ({ frames := 0, cells := 0, slots := 0, locals := 0 } : Room) (va_Pc [.ref h0, .int (nI z)] (pcW dC dI [(cI, .int)] [(h0, .inr (2, [.ref p1, .ref p2, .ref p3, .ref p4, .ref p5, .ref p6, .ref p7, .int cnt])), (p1, .inl (cI, 100, .inl (f1))), (p6, .inl (cI, 100, .inl (f4)))] sz)) (va_Qi (fun (r : Int32) (_ : Unit) => r = hsm f1 f4 z mm) (fun _ t => atW dC dI [(cI, .int)] (va_A [(h0, .inr (2, [.ref p1, .ref p2, .ref p3, .ref p4, .ref p5, .ref p6, .ref p7, .int cnt])), (p1, .inl (cI, 100, .inl (f1))), (p6, .inl (cI, 100, .inl (f4)))] sz) [(h0, .inr (2, [.ref p1, .ref p2, .ref p3, .ref p4, .ref p5, .ref p6, .ref p7, .int cnt])), (p1, .inl (cI, 100, .inl (f1))), (p6, .inl (cI, 100, .inl (f4)))] t) (va_A [(h0, .inr (2, [.ref p1, .ref p2, .ref p3, .ref p4, .ref p5, .ref p6, .ref p7, .int cnt])), (p1, .inl (cI, 100, .inl (f1))), (p6, .inl (cI, 100, .inl (f4)))] sz)) 0 0 (va_A [(h0, .inr (2, [.ref p1, .ref p2, .ref p3, .ref p4, .ref p5, .ref p6, .ref p7, .int cnt])), (p1, .inl (cI, 100, .inl (f1))), (p6, .inl (cI, 100, .inl (f4)))] sz) := by
  refine Met.ofW (cc := cX2_heldFor) (maxL := 4) (ret := (some .int)) (by decide) rfl ?_
  intro p e s m args below meth c s₁ B hml hv
  obtain ⟨rfl, hsz, hP, hK, hD0⟩ := hv
  have hx := B.exec
  have hb := B.bytes
  have hr := B.returns
  have hts := atoms_spec (ws := wsX2_heldFor) B.pre
  have hown : s.vm.findClass RX2 = some m.cls := findClass_of_methodNamed B.named
  have hlocks := B.notSynchronized
  subst hsz
  have hD := hD0.self (sz := s.heap.size)
  generalize hAe : va_A [(h0, .inr (2, [.ref p1, .ref p2, .ref p3, .ref p4, .ref p5, .ref p6, .ref p7, .int cnt])), (p1, .inl (cI, 100, .inl (f1))), (p6, .inl (cI, 100, .inl (f4)))] s.heap.size = A at hD ⊢
  have hA : ∀ q : Nat, s.heap.size ≤ q → A q := fun q h => by rw [← hAe]; exact Or.inr h
  have hS : va_S A s.heap s.heap [] := va_S.rf
  have hl := lv_entry ([.ref h0, .int (nI z)]) (n := 4) (Nat.le_of_ble_eq_true rfl)
  rw [lg_entry_eq]
  generalize (lg_sl ([.ref h0, .int (nI z)]) ++ List.replicate (4 - (lg_sl ([.ref h0, .int (nI z)])).length) Slot.unset).toArray = ls at hl ⊢
  have hl : lv_has ls 4 [(0, .ref h0), (1, .int (nI z))] := hl
  have hiX2 : ∀ w ∈ wsX20, w ∈ wsX2_heldFor := fun w h => List.mem_cons_of_mem _ (List.mem_append_right _ h)
  have hP : va_P (dC, dI) vwCl [(h0, .inr (2, [.ref p1, .ref p2, .ref p3, .ref p4, .ref p5, .ref p6, .ref p7, .int cnt])), (p1, .inl (cI, 100, .inl (f1))), (p6, .inl (cI, 100, .inl (f4)))] s.heap := hP
  refine y_enter (A := A) hP (fun H hP hS => ?_)
  refine lv_iconst (v := 0) hx hb dX2_heldFor_0 (by decide) ?_
  refine lv_istore_n (lv' := [(2, .int 0), (0, .ref h0), (1, .int (nI z))]) hx hb dX2_heldFor_1 rfl hl (by decide) rfl (fun ls hl => ?_)
  refine lv_iconst (v := 0) hx hb dX2_heldFor_2 (by decide) ?_
  refine lv_istore_n (lv' := [(3, .int 0), (2, .int 0), (0, .ref h0), (1, .int (nI z))]) hx hb dX2_heldFor_3 rfl hl (by decide) rfl (fun ls hl => ?_)
  refine y_loop (fun k9 H locs ls => ∃ (i : Nat), k9 + i = mm ∧ va_P (dC, dI) vwCl [(h0, .inr (2, [.ref p1, .ref p2, .ref p3, .ref p4, .ref p5, .ref p6, .ref p7, .int cnt])), (p1, .inl (cI, 100, .inl (f1))), (p6, .inl (cI, 100, .inl (f4)))] H ∧ va_D A [(h0, .inr (2, [.ref p1, .ref p2, .ref p3, .ref p4, .ref p5, .ref p6, .ref p7, .int cnt])), (p1, .inl (cI, 100, .inl (f1))), (p6, .inl (cI, 100, .inl (f4)))] ∧ va_S A s.heap H locs ∧ lv_has ls 4 [(3, .int (nI i)), (2, .int (hsm f1 f4 z i)), (1, .int (nI z)), (0, .ref h0)]) (mm) ⟨0, by omega, hP, hD, hS, lv_sub hl [0, 1, 3, 2] rfl⟩ (fun k9 H locs ls hI ih => ?_)
  obtain ⟨i, hf0, hP, hD, hS, hl⟩ := hI
  refine lv_iload_n hx hb dX2_heldFor_4 rfl (lv_at hl 0 rfl) ?_
  refine lv_aload_n hx hb dX2_heldFor_5 rfl (lv_at hl 3 rfl) ?_
  refine va_get (D := (dC, dI)) (ci := 2) (v := .int cnt) (C := RX2) (T := TX2) (N := 8) hx hb hts hiX2 hown hK hP 0 rfl rfl 7 (by decide) (hts (.fieldLink RX2 34 "Payoutnet$Sales" "count" "I") (List.mem_of_getElem? (i := 1) rfl)) (fun _ h9 => h9) rfl dX2_heldFor_6 ?_
  refine y_topi (y := nI mm) hcnt ?_
  refine lv_icmp_ge (tgt := 37) hx hb dX2_heldFor_9 (by decide) (fun c_1 => ?_) (fun c_1 => ?_)
  · have hik : i = mm := by have := (nI_leI (a := mm) (b := i) (by omega) (by omega)).mp c_1; omega
    refine lv_iload_n hx hb dX2_heldFor_37 rfl (lv_at hl 1 rfl) ?_
    have hP9 := hP
    have hD9 := hD
    have hK9 := hK
    exact W.iret (v := hsm f1 f4 z i) hx hb hr (fun t ht hW => ⟨⟨hsm f1 f4 z i, (), rfl, by rw [hik], atW_end hP9 hD9 hK9 ht hW⟩, hS.F ht⟩) hS.2.2 dX2_heldFor_38
  · have hik : i < mm := Nat.lt_of_not_le (fun h => c_1 ((nI_leI (a := mm) (b := i) (by omega) (by omega)).mpr h))
    refine lv_aload_n hx hb dX2_heldFor_12 rfl (lv_at hl 3 rfl) ?_
    refine va_get (D := (dC, dI)) (ci := 2) (v := .ref p1) (C := RX2) (T := TX2) (N := 8) hx hb hts hiX2 hown hK hP 0 rfl rfl 0 (by decide) (hts (.fieldLink RX2 9 "Payoutnet$Sales" "seller" "[I") (List.mem_of_getElem? (i := 2) rfl)) (fun _ h9 => h9) rfl dX2_heldFor_13 ?_
    refine lv_iload_n hx hb dX2_heldFor_16 rfl (lv_at hl 0 rfl) ?_
    refine y_ild hx hb hK hP 1 0 rfl rfl (t := i) (by omega) (Nat.le_of_ble_eq_true rfl) dX2_heldFor_17 ?_
    refine lv_iload_n hx hb dX2_heldFor_18 rfl (lv_at hl 2 rfl) ?_
    refine lv_icmp_ne (tgt := 31) hx hb dX2_heldFor_19 (by decide) (fun c_2 => ?_) (fun c_2 => ?_)
    · have e9 : hsm f1 f4 z (i + 1) = hsm f1 f4 z i := if_neg c_2
      rw [← e9] at hl
      refine lv_iinc (v := nI (i + 1)) (lv' := [(3, .int (nI (i + 1))), (2, .int (hsm f1 f4 z (i + 1))), (1, .int (nI z)), (0, .ref h0)]) hx hb dX2_heldFor_31 hl (k := 0) rfl (nI_1 i) (by decide) rfl (fun ls hl => ?_)
      refine lv_goto (tgt := 4) hx hb dX2_heldFor_34 (by decide) ?_
      exact ih (k9 - 1) H locs ls (by omega) ⟨i + 1, by omega, hP, hD, hS, lv_sub hl [0, 1, 2, 3] rfl⟩
    · have e9 : hsm f1 f4 z (i + 1) = hsm f1 f4 z i + f4 i := if_pos c_2
      refine lv_iload_n hx hb dX2_heldFor_22 rfl (lv_at hl 1 rfl) ?_
      refine lv_aload_n hx hb dX2_heldFor_23 rfl (lv_at hl 3 rfl) ?_
      refine va_get (D := (dC, dI)) (ci := 2) (v := .ref p6) (C := RX2) (T := TX2) (N := 8) hx hb hts hiX2 hown hK hP 0 rfl rfl 5 (by decide) (hts (.fieldLink RX2 28 "Payoutnet$Sales" "held" "[I") (List.mem_of_getElem? (i := 3) rfl)) (fun _ h9 => h9) rfl dX2_heldFor_24 ?_
      refine lv_iload_n hx hb dX2_heldFor_27 rfl (lv_at hl 0 rfl) ?_
      refine y_ild hx hb hK hP 2 0 rfl rfl (t := i) (by omega) (Nat.le_of_ble_eq_true rfl) dX2_heldFor_28 ?_
      refine lv_iadd hx hb dX2_heldFor_29 ?_
      refine y_topi (y := hsm f1 f4 z (i + 1)) e9.symm ?_
      refine lv_istore_n (lv' := [(2, .int (hsm f1 f4 z (i + 1))), (3, .int (nI i)), (1, .int (nI z)), (0, .ref h0)]) hx hb dX2_heldFor_30 rfl hl (by decide) rfl (fun ls hl => ?_)
      refine lv_iinc (v := nI (i + 1)) (lv' := [(3, .int (nI (i + 1))), (2, .int (hsm f1 f4 z (i + 1))), (1, .int (nI z)), (0, .ref h0)]) hx hb dX2_heldFor_31 hl (k := 1) rfl (nI_1 i) (by decide) rfl (fun ls hl => ?_)
      refine lv_goto (tgt := 4) hx hb dX2_heldFor_34 (by decide) ?_
      exact ih (k9 - 1) H locs ls (by omega) ⟨i + 1, by omega, hP, hD, hS, lv_sub hl [0, 1, 2, 3] rfl⟩
set_option maxHeartbeats 4000000 in
set_option maxRecDepth 100000 in
theorem c_X3_enter (l : Launch) (dC : Nat → ClassId) (dI : Nat → Nat → Nat) (cI : ClassId) (h0 p1 p2 p3 p4 p5 p6 p7 p8 sz : Nat) (f1 f4 f6 : Nat → Int32) (mm : Nat) (cnt : Int32) (hcnt : cnt = nI mm) (hm : mm < 8) (o : Int32) : Met l yX3_enter wsX3_enter ({ frames := 0, cells := 0, slots := 0, locals := 0 } : Room) (va_Pc [.ref h0, .int o] (pcW dC dI [(cI, .int)] [(h0, .inr (3, [.ref p1, .ref p2, .ref p3, .ref p4, .ref p5, .ref p6, .ref p7, .ref p8, .int cnt])), (p1, .inl (cI, 8, .inl (f1))), (p4, .inl (cI, 8, .inl (f4))), (p6, .inl (cI, 8, .inl (f6)))] sz)) (va_Qi (fun (r : Int32) (_ : Unit) => r = nI mm) (fun _ t => atW dC dI [(cI, .int)] (va_A [(h0, .inr (3, [.ref p1, .ref p2, .ref p3, .ref p4, .ref p5, .ref p6, .ref p7, .ref p8, .int cnt])), (p1, .inl (cI, 8, .inl (f1))), (p4, .inl (cI, 8, .inl (f4))), (p6, .inl (cI, 8, .inl (f6)))] sz) [(h0, .inr (3, [.ref p1, .ref p2, .ref p3, .ref p4, .ref p5, .ref p6, .ref p7, .ref p8, .int (cnt + 1)])), (p1, .inl (cI, 8, .inl (upd f1 mm o))), (p4, .inl (cI, 8, .inl (upd f4 mm 1))), (p6, .inl (cI, 8, .inl (upd f6 mm 30)))] t) (va_A [(h0, .inr (3, [.ref p1, .ref p2, .ref p3, .ref p4, .ref p5, .ref p6, .ref p7, .ref p8, .int cnt])), (p1, .inl (cI, 8, .inl (f1))), (p4, .inl (cI, 8, .inl (f4))), (p6, .inl (cI, 8, .inl (f6)))] sz)) 0 0 (va_A [(h0, .inr (3, [.ref p1, .ref p2, .ref p3, .ref p4, .ref p5, .ref p6, .ref p7, .ref p8, .int cnt])), (p1, .inl (cI, 8, .inl (f1))), (p4, .inl (cI, 8, .inl (f4))), (p6, .inl (cI, 8, .inl (f6)))] sz) := by
  refine Met.ofW (cc := cX3_enter) (maxL := 3) (ret := (some .int)) (by decide) rfl ?_
  intro p e s m args below meth c s₁ B hml hv
  obtain ⟨rfl, hsz, hP, hK, hD0⟩ := hv
  have hx := B.exec
  have hb := B.bytes
  have hr := B.returns
  have hts := atoms_spec (ws := wsX3_enter) B.pre
  have hown : s.vm.findClass RX3 = some m.cls := findClass_of_methodNamed B.named
  have hlocks := B.notSynchronized
  subst hsz
  have hD := hD0.self (sz := s.heap.size)
  generalize hAe : va_A [(h0, .inr (3, [.ref p1, .ref p2, .ref p3, .ref p4, .ref p5, .ref p6, .ref p7, .ref p8, .int cnt])), (p1, .inl (cI, 8, .inl (f1))), (p4, .inl (cI, 8, .inl (f4))), (p6, .inl (cI, 8, .inl (f6)))] s.heap.size = A at hD ⊢
  have hA : ∀ q : Nat, s.heap.size ≤ q → A q := fun q h => by rw [← hAe]; exact Or.inr h
  have hS : va_S A s.heap s.heap [] := va_S.rf
  have hl := lv_entry ([.ref h0, .int o]) (n := 3) (Nat.le_of_ble_eq_true rfl)
  rw [lg_entry_eq]
  generalize (lg_sl ([.ref h0, .int o]) ++ List.replicate (3 - (lg_sl ([.ref h0, .int o])).length) Slot.unset).toArray = ls at hl ⊢
  have hl : lv_has ls 3 [(0, .ref h0), (1, .int o)] := hl
  have hiX3 : ∀ w ∈ wsX30, w ∈ wsX3_enter := fun w h => List.mem_cons_of_mem _ (List.mem_append_right _ h)
  have hP : va_P (dC, dI) vwCl [(h0, .inr (3, [.ref p1, .ref p2, .ref p3, .ref p4, .ref p5, .ref p6, .ref p7, .ref p8, .int cnt])), (p1, .inl (cI, 8, .inl (f1))), (p4, .inl (cI, 8, .inl (f4))), (p6, .inl (cI, 8, .inl (f6)))] s.heap := hP
  refine y_enter (A := A) hP (fun H hP hS => ?_)
  subst hcnt
  refine lv_aload_n hx hb dX3_enter_0 rfl (lv_at hl 0 rfl) ?_
  refine va_get (D := (dC, dI)) (ci := 3) (v := .int (nI mm)) (C := RX3) (T := TX3) (N := 9) hx hb hts hiX3 hown hK hP 0 rfl rfl 8 (by decide) (hts (.fieldLink RX3 36 "Payoutnet$Shops" "count" "I") (List.mem_of_getElem? (i := 1) rfl)) (fun _ h9 => h9) rfl dX3_enter_1 ?_
  refine lv_istore_n (lv' := [(2, .int (nI mm)), (0, .ref h0), (1, .int o)]) hx hb dX3_enter_4 rfl hl (by decide) rfl (fun ls hl => ?_)
  refine lv_aload_n hx hb dX3_enter_5 rfl (lv_at hl 1 rfl) ?_
  refine va_get (D := (dC, dI)) (ci := 3) (v := .ref p1) (C := RX3) (T := TX3) (N := 9) hx hb hts hiX3 hown hK hP 0 rfl rfl 0 (by decide) (hts (.fieldLink RX3 9 "Payoutnet$Shops" "owner" "[I") (List.mem_of_getElem? (i := 2) rfl)) (fun _ h9 => h9) rfl dX3_enter_6 ?_
  refine lv_iload_n hx hb dX3_enter_9 rfl (lv_at hl 0 rfl) ?_
  refine lv_iload_n hx hb dX3_enter_10 rfl (lv_at hl 2 rfl) ?_
  refine y_ist hx hb hK hP hD hS 1 0 rfl rfl (t := mm) (by omega) (Nat.le_of_ble_eq_true rfl) dX3_enter_11 (fun H locs hP hD hS => ?_)
  have hP : va_P (dC, dI) vwCl [(h0, .inr (3, [.ref p1, .ref p2, .ref p3, .ref p4, .ref p5, .ref p6, .ref p7, .ref p8, .int (nI mm)])), (p1, .inl (cI, 8, .inl (upd f1 mm o))), (p4, .inl (cI, 8, .inl (f4))), (p6, .inl (cI, 8, .inl (f6)))] H := hP
  have hD : va_D A [(h0, .inr (3, [.ref p1, .ref p2, .ref p3, .ref p4, .ref p5, .ref p6, .ref p7, .ref p8, .int (nI mm)])), (p1, .inl (cI, 8, .inl (upd f1 mm o))), (p4, .inl (cI, 8, .inl (f4))), (p6, .inl (cI, 8, .inl (f6)))] := hD
  refine lv_aload_n hx hb dX3_enter_12 rfl (lv_at hl 1 rfl) ?_
  refine va_get (D := (dC, dI)) (ci := 3) (v := .ref p4) (C := RX3) (T := TX3) (N := 9) hx hb hts hiX3 hown hK hP 0 rfl rfl 3 (by decide) (hts (.fieldLink RX3 21 "Payoutnet$Shops" "least" "[I") (List.mem_of_getElem? (i := 3) rfl)) (fun _ h9 => h9) rfl dX3_enter_13 ?_
  refine lv_iload_n hx hb dX3_enter_16 rfl (lv_at hl 0 rfl) ?_
  refine lv_iconst (v := 1) hx hb dX3_enter_17 (by decide) ?_
  refine y_ist hx hb hK hP hD hS 2 0 rfl rfl (t := mm) (by omega) (Nat.le_of_ble_eq_true rfl) dX3_enter_18 (fun H locs hP hD hS => ?_)
  have hP : va_P (dC, dI) vwCl [(h0, .inr (3, [.ref p1, .ref p2, .ref p3, .ref p4, .ref p5, .ref p6, .ref p7, .ref p8, .int (nI mm)])), (p1, .inl (cI, 8, .inl (upd f1 mm o))), (p4, .inl (cI, 8, .inl (upd f4 mm 1))), (p6, .inl (cI, 8, .inl (f6)))] H := hP
  have hD : va_D A [(h0, .inr (3, [.ref p1, .ref p2, .ref p3, .ref p4, .ref p5, .ref p6, .ref p7, .ref p8, .int (nI mm)])), (p1, .inl (cI, 8, .inl (upd f1 mm o))), (p4, .inl (cI, 8, .inl (upd f4 mm 1))), (p6, .inl (cI, 8, .inl (f6)))] := hD
  refine lv_aload_n hx hb dX3_enter_19 rfl (lv_at hl 1 rfl) ?_
  refine va_get (D := (dC, dI)) (ci := 3) (v := .ref p6) (C := RX3) (T := TX3) (N := 9) hx hb hts hiX3 hown hK hP 0 rfl rfl 5 (by decide) (hts (.fieldLink RX3 27 "Payoutnet$Shops" "reserveDays" "[I") (List.mem_of_getElem? (i := 4) rfl)) (fun _ h9 => h9) rfl dX3_enter_20 ?_
  refine lv_iload_n hx hb dX3_enter_23 rfl (lv_at hl 0 rfl) ?_
  refine lv_bipush (v := 30) hx hb dX3_enter_24 (by decide) ?_
  refine y_ist hx hb hK hP hD hS 3 0 rfl rfl (t := mm) (by omega) (Nat.le_of_ble_eq_true rfl) dX3_enter_26 (fun H locs hP hD hS => ?_)
  have hP : va_P (dC, dI) vwCl [(h0, .inr (3, [.ref p1, .ref p2, .ref p3, .ref p4, .ref p5, .ref p6, .ref p7, .ref p8, .int (nI mm)])), (p1, .inl (cI, 8, .inl (upd f1 mm o))), (p4, .inl (cI, 8, .inl (upd f4 mm 1))), (p6, .inl (cI, 8, .inl (upd f6 mm 30)))] H := hP
  have hD : va_D A [(h0, .inr (3, [.ref p1, .ref p2, .ref p3, .ref p4, .ref p5, .ref p6, .ref p7, .ref p8, .int (nI mm)])), (p1, .inl (cI, 8, .inl (upd f1 mm o))), (p4, .inl (cI, 8, .inl (upd f4 mm 1))), (p6, .inl (cI, 8, .inl (upd f6 mm 30)))] := hD
  refine lv_aload_n hx hb dX3_enter_27 rfl (lv_at hl 1 rfl) ?_
  refine lv_dup hx hb dX3_enter_28 rfl ?_
  refine va_get (D := (dC, dI)) (ci := 3) (v := .int (nI mm)) (C := RX3) (T := TX3) (N := 9) hx hb hts hiX3 hown hK hP 0 rfl rfl 8 (by decide) (hts (.fieldLink RX3 36 "Payoutnet$Shops" "count" "I") (List.mem_of_getElem? (i := 1) rfl)) (fun _ h9 => h9) rfl dX3_enter_29 ?_
  refine lv_iconst (v := 1) hx hb dX3_enter_32 (by decide) ?_
  refine lv_iadd hx hb dX3_enter_33 ?_
  refine va_put (D := (dC, dI)) (ci := 3) (v := .int ((nI mm) + 1)) (ty := .int) (C := RX3) (T := TX3) (N := 9) hx hb hts hiX3 tyX3 tyX3_ok nmX3 hown hK hP hD hS 0 rfl rfl 8 (by decide) (hts (.fieldLink RX3 36 "Payoutnet$Shops" "count" "I") (List.mem_of_getElem? (i := 1) rfl)) (fun _ h9 => h9) rfl (tyX3_ok 8 (by decide)) rfl rfl (Nat.le_of_ble_eq_true rfl) dX3_enter_34 (fun H locs hP hD hS => ?_)
  have hP : va_P (dC, dI) vwCl [(h0, .inr (3, [.ref p1, .ref p2, .ref p3, .ref p4, .ref p5, .ref p6, .ref p7, .ref p8, .int ((nI mm) + 1)])), (p1, .inl (cI, 8, .inl (upd f1 mm o))), (p4, .inl (cI, 8, .inl (upd f4 mm 1))), (p6, .inl (cI, 8, .inl (upd f6 mm 30)))] H := hP
  have hD : va_D A [(h0, .inr (3, [.ref p1, .ref p2, .ref p3, .ref p4, .ref p5, .ref p6, .ref p7, .ref p8, .int ((nI mm) + 1)])), (p1, .inl (cI, 8, .inl (upd f1 mm o))), (p4, .inl (cI, 8, .inl (upd f4 mm 1))), (p6, .inl (cI, 8, .inl (upd f6 mm 30)))] := hD
  refine lv_iload_n hx hb dX3_enter_37 rfl (lv_at hl 0 rfl) ?_
  have hP9 := hP
  have hD9 := hD
  have hK9 := hK
  exact W.iret (v := nI mm) hx hb hr (fun t ht hW => ⟨⟨nI mm, (), rfl, rfl, atW_end hP9 hD9 hK9 ht hW⟩, hS.F ht⟩) hS.2.2 dX3_enter_38
theorem unr_upd {f g : Nat → Int32} {n : Nat} (h : g n = 0) (x : Int32) : upd (fun j => f j - g j) n x = fun j => upd f n x j - g j := by
  funext j
  by_cases hj : j = n
  · subst hj; simp [upd, h]
  · simp [upd, hj]
/-- behind the last sale nothing is refunded, given back or held -/
def okY (a : yA) : Prop := ∀ j, nn (a 0 3) ≤ j → a 12 j = 0 ∧ a 16 j = 0 ∧ a 17 j = 0
theorem okB_sale {a : yA} (h : okB a) {z k x : Nat} (hz : z < 8) (hk : k < 4) (hx : x ≤ 1000000) (hn : nn (a 0 3) + 1 ≤ 100) : okB (sSale a z k (nI x) (nn (a 0 3))) := by
  unfold sSale
  refine okB_free (okB_free (okB_free (okB_free (okB_free (okB_free (okB_put (okB_put (okB_put (okB_put (okB_put h ?_) ?_) ?_) ?_) ?_) rfl) rfl) rfl) rfl) rfl) rfl
  · intro b hb; cases hb; exact lim_nI (by omega) (by omega)
  · intro b hb; cases hb; exact lim_nI hx (by omega)
  · intro b hb; cases hb; exact lim_inc (h 0 3 100 rfl) hn (by omega)
  · intro b hb; cases hb; exact h 9 k 999 rfl
  · intro b hb; cases hb; exact h 0 2 500 rfl
theorem okB_settle {a : yA} (h : okB a) {z k x : Nat} (hz : z < 8) (hk : k < 4) (hx : x ≤ 1000000) (hn : nn (a 0 3) + 1 ≤ 100) : okB (sSettle a z k (nI x)) := okB_post (okB_sale h hz hk hx hn) _ _
theorem sSale_03 (a : yA) (z k : Nat) (x : Int32) (n : Nat) : sSale a z k x n 0 3 = a 0 3 + 1 := rfl
theorem sSettle_03 (a : yA) (z k : Nat) (x : Int32) : sSettle a z k x 0 3 = a 0 3 + 1 := rfl
theorem okY_settle {a : yA} (h : okY a) (hB : okB a) (z k : Nat) (x : Int32) : okY (sSettle a z k x) := by
  intro j hj
  rw [sSettle_03, nn_inc (hB 0 3 100 rfl) (by omega)] at hj
  obtain ⟨h1, h2, h3⟩ := h j (by omega)
  refine ⟨h1, h2, ?_⟩
  show (if j = nn (a 0 3) then _ else a 17 j) = 0
  rw [if_neg (by omega), h3]
set_option maxHeartbeats 4000000 in
set_option maxRecDepth 100000 in
theorem c_X4_settle (l : Launch) (dC : Nat → ClassId) (dI : Nat → Nat → Nat) (cI cF : ClassId) (h0 : Nat) (q : Nat → Nat) (sz : Nat) (a : yA) (jc js jv : Nat → Int32) (k : Nat) (hC : okC a jc js jv k) (hB : okB a) (hY : okY a) (z kd x : Nat) (hz : z < 8) (hkd : kd < 4) (hx0 : 1 ≤ x) (hx1 : x ≤ 1000000) (hn : nn (a 0 3) + 1 ≤ 100) : Met l yX4_settle wsX4_settle ({ frames := 3, cells := 0, slots := 0, locals := 65 } : Room) (va_Pc [.ref h0, .int (nI z), .int (nI kd), .int (nI x)] (pcW dC dI [(cI, .int), (cF, .float)] (WC cI cF h0 q a jc js jv k (capOf (nn (a 0 4)))) sz)) (va_Qi (fun (r : Int32) (_ : Unit) => r = nI (nn (a 0 3))) (fun _ t => atC dC dI cI cF (va_A (WC cI cF h0 q a jc js jv k (capOf (nn (a 0 4)))) sz) h0 (sSettle a z kd (nI x)) t) (va_A (WC cI cF h0 q a jc js jv k (capOf (nn (a 0 4)))) sz)) 0 0 (va_A (WC cI cF h0 q a jc js jv k (capOf (nn (a 0 4)))) sz) := by
  refine Met.ofW (cc := cX4_settle) (maxL := 10) (ret := (some .int)) (by decide) rfl ?_
  intro p e s m args below meth c s₁ B hml hv
  obtain ⟨rfl, hsz, hP, hK, hD0⟩ := hv
  have hx := B.exec
  have hb := B.bytes
  have hr := B.returns
  have hts := atoms_spec (ws := wsX4_settle) B.pre
  have hown : s.vm.findClass RX4 = some m.cls := findClass_of_methodNamed B.named
  have hlocks := B.notSynchronized
  subst hsz
  have hD := hD0.self (sz := s.heap.size)
  generalize hAe : va_A [(h0, .inr (4, [.ref (q 1), .ref (q 10), .ref (q 18), .ref (q 22), .ref (q 26), .int (a 0 2), .int (a 0 1), .int (a 0 5), .int (a 0 6), .int (a 0 7), .int (a 0 8)])), (q 1, .inr (3, [.ref (q 2), .ref (q 3), .ref (q 4), .ref (q 5), .ref (q 6), .ref (q 7), .ref (q 8), .ref (q 9), .int (a 0 0)])), (q 2, .inl (cI, 8, .inl (a 1))), (q 3, .inl (cI, 8, .inl (a 2))), (q 4, .inl (cI, 8, .inl (a 3))), (q 5, .inl (cI, 8, .inl (a 4))), (q 6, .inl (cI, 8, .inl (a 5))), (q 7, .inl (cI, 8, .inl (a 6))), (q 8, .inl (cI, 8, .inl (a 7))), (q 9, .inl (cI, 8, .inl (a 8))), (q 10, .inr (2, [.ref (q 11), .ref (q 12), .ref (q 13), .ref (q 14), .ref (q 15), .ref (q 16), .ref (q 17), .int (a 0 3)])), (q 11, .inl (cI, 100, .inl (a 10))), (q 12, .inl (cF, 100, .inr (.inr (.inl (fun j => shF (a 13 j)))))), (q 13, .inl (cI, 100, .inl (a 14))), (q 14, .inl (cI, 100, .inl (fun j => a 11 j - a 12 j))), (q 15, .inl (cI, 100, .inl (fun j => a 15 j - a 16 j))), (q 16, .inl (cI, 100, .inl (a 17))), (q 17, .inl (cI, 100, .inl (a 18))), (q 18, .inr (1, [.ref (q 19), .ref (q 20), .ref (q 21), .int (a 0 4)])), (q 19, .inl (cI, capOf (nn (a 0 4)), .inl (a 20))), (q 20, .inl (cI, capOf (nn (a 0 4)), .inl (a 19))), (q 21, .inl (cI, capOf (nn (a 0 4)), .inl (a 21))), (q 22, .inr (0, [.ref (q 23), .ref (q 24), .ref (q 25), .int (nI k)])), (q 23, .inl (cI, 8, .inl (jc))), (q 24, .inl (cI, 256, .inl (js))), (q 25, .inl (cI, 256, .inl (jv))), (q 26, .inl (cF, 4, .inr (.inr (.inl (fun j => shF (a 9 j))))))] s.heap.size = A at hD ⊢
  have hA : ∀ q : Nat, s.heap.size ≤ q → A q := fun q h => by rw [← hAe]; exact Or.inr h
  have hS : va_S A s.heap s.heap [] := va_S.rf
  have hl := lv_entry ([.ref h0, .int (nI z), .int (nI kd), .int (nI x)]) (n := 10) (Nat.le_of_ble_eq_true rfl)
  rw [lg_entry_eq]
  generalize (lg_sl ([.ref h0, .int (nI z), .int (nI kd), .int (nI x)]) ++ List.replicate (10 - (lg_sl ([.ref h0, .int (nI z), .int (nI kd), .int (nI x)])).length) Slot.unset).toArray = ls at hl ⊢
  have hl : lv_has ls 10 [(0, .ref h0), (1, .int (nI z)), (2, .int (nI kd)), (3, .int (nI x))] := hl
  have hiX4 : ∀ w ∈ wsX40, w ∈ wsX4_settle := fun w h => List.mem_cons_of_mem _ (List.mem_append_left _ (List.mem_append_left _ (List.mem_append_left _ (List.mem_append_right _ h))))
  have hiX3 : ∀ w ∈ wsX30, w ∈ wsX4_settle := fun w h => List.mem_cons_of_mem _ (List.mem_append_left _ (List.mem_append_left _ (List.mem_append_right _ h)))
  have hiX2 : ∀ w ∈ wsX20, w ∈ wsX4_settle := fun w h => List.mem_cons_of_mem _ (List.mem_append_left _ (List.mem_append_right _ h))
  have hP : va_P (dC, dI) vwCl [(h0, .inr (4, [.ref (q 1), .ref (q 10), .ref (q 18), .ref (q 22), .ref (q 26), .int (a 0 2), .int (a 0 1), .int (a 0 5), .int (a 0 6), .int (a 0 7), .int (a 0 8)])), (q 1, .inr (3, [.ref (q 2), .ref (q 3), .ref (q 4), .ref (q 5), .ref (q 6), .ref (q 7), .ref (q 8), .ref (q 9), .int (a 0 0)])), (q 2, .inl (cI, 8, .inl (a 1))), (q 3, .inl (cI, 8, .inl (a 2))), (q 4, .inl (cI, 8, .inl (a 3))), (q 5, .inl (cI, 8, .inl (a 4))), (q 6, .inl (cI, 8, .inl (a 5))), (q 7, .inl (cI, 8, .inl (a 6))), (q 8, .inl (cI, 8, .inl (a 7))), (q 9, .inl (cI, 8, .inl (a 8))), (q 10, .inr (2, [.ref (q 11), .ref (q 12), .ref (q 13), .ref (q 14), .ref (q 15), .ref (q 16), .ref (q 17), .int (a 0 3)])), (q 11, .inl (cI, 100, .inl (a 10))), (q 12, .inl (cF, 100, .inr (.inr (.inl (fun j => shF (a 13 j)))))), (q 13, .inl (cI, 100, .inl (a 14))), (q 14, .inl (cI, 100, .inl (fun j => a 11 j - a 12 j))), (q 15, .inl (cI, 100, .inl (fun j => a 15 j - a 16 j))), (q 16, .inl (cI, 100, .inl (a 17))), (q 17, .inl (cI, 100, .inl (a 18))), (q 18, .inr (1, [.ref (q 19), .ref (q 20), .ref (q 21), .int (a 0 4)])), (q 19, .inl (cI, capOf (nn (a 0 4)), .inl (a 20))), (q 20, .inl (cI, capOf (nn (a 0 4)), .inl (a 19))), (q 21, .inl (cI, capOf (nn (a 0 4)), .inl (a 21))), (q 22, .inr (0, [.ref (q 23), .ref (q 24), .ref (q 25), .int (nI k)])), (q 23, .inl (cI, 8, .inl (jc))), (q 24, .inl (cI, 256, .inl (js))), (q 25, .inl (cI, 256, .inl (jv))), (q 26, .inl (cF, 4, .inr (.inr (.inl (fun j => shF (a 9 j))))))] s.heap := hP
  refine y_enter (A := A) hP (fun H hP hS => ?_)
  have hsh := hB 9 kd 999 rfl
  have hn3 := hB 0 3 100 rfl
  refine lv_aload_n hx hb dX4_settle_0 rfl (lv_at hl 0 rfl) ?_
  refine va_get (D := (dC, dI)) (ci := 4) (v := .ref (q 26)) (C := RX4) (T := TX4) (N := 11) hx hb hts hiX4 hown hK hP 0 rfl rfl 4 (by decide) (hts (.fieldLink RX4 37 "Payoutnet" "shares" "[F") (List.mem_of_getElem? (i := 1) rfl)) (fun _ h9 => h9) rfl dX4_settle_1 ?_
  refine lv_iload_n hx hb dX4_settle_4 rfl (lv_at hl 2 rfl) ?_
  refine y_fld hx hb hK hP 26 1 rfl rfl (t := kd) (by omega) (Nat.le_of_ble_eq_true rfl) dX4_settle_5 ?_
  refine lv_fstore (lv' := [(4, .float (shF (a 9 kd))), (0, .ref h0), (1, .int (nI z)), (2, .int (nI kd)), (3, .int (nI x))]) hx hb dX4_settle_6 hl (by decide) rfl (fun ls hl => ?_)
  refine lv_iload_n hx hb dX4_settle_8 rfl (lv_at hl 4 rfl) ?_
  refine lv_aload_n hx hb dX4_settle_9 rfl (lv_at hl 1 rfl) ?_
  refine va_get (D := (dC, dI)) (ci := 4) (v := .int (a 0 2)) (C := RX4) (T := TX4) (N := 11) hx hb hts hiX4 hown hK hP 0 rfl rfl 5 (by decide) (hts (.fieldLink RX4 97 "Payoutnet" "taxThousandths" "I") (List.mem_of_getElem? (i := 2) rfl)) (fun _ h9 => h9) rfl dX4_settle_10 ?_
  refine va_calli (va_runS (As := [.int (nI x), .int (a 0 2)]) (rest := []) ⟨hx, hb, hml, hown, hts⟩ (c_X4_partOf l (nI x) (a 0 2)) (va_cwS 2 hts gX4_settle_X4_partOf rfl rfl rfl (by decide +kernel) ⟨Nat.le_of_ble_eq_true rfl, Nat.le_of_ble_eq_true rfl⟩) ⟨pcT_blind, fun U hU hW => pcT_pre⟩ rfl rfl hl.1 rfl (lv_room (Nat.le_of_ble_eq_true rfl)) dX4_settle_13 ⟨(Nat.zero_le _), (Nat.zero_le _)⟩) hS (fun q _ h => h.elim) (fun q h => h.elim) (fun r u t H1 locs ht hvm hw hB1 hz1 hk1 hS => ?_)
  have hP := y_keptP hP hk1
  generalize H1 = H at hP hS ⊢
  refine y_topi (y := sTax a (nI x)) hw ?_
  refine lv_istore (lv' := [(5, .int (sTax a (nI x))), (4, .float (shF (a 9 kd))), (0, .ref h0), (1, .int (nI z)), (2, .int (nI kd)), (3, .int (nI x))]) hx hb dX4_settle_16 hl (by decide) rfl (fun ls hl => ?_)
  refine lv_iload_n hx hb dX4_settle_18 rfl (lv_at hl 5 rfl) ?_
  refine lv_fload hx hb dX4_settle_19 (lv_at hl 1 rfl) ?_
  have esh : shF (a 9 kd) = shF (nI (nn (a 9 kd))) := by rw [← hsh.1]
  refine y_topf (y := shF (nI (nn (a 9 kd)))) esh ?_
  refine va_calli (va_runS (As := [.int (nI x), .float (shF (nI (nn (a 9 kd))))]) (rest := []) ⟨hx, hb, hml, hown, hts⟩ (c_X4_feeOn l x (nn (a 9 kd)) hx0 hx1 hsh.2) (va_cwS 2 hts gX4_settle_X4_feeOn rfl rfl rfl (by decide +kernel) ⟨Nat.le_of_ble_eq_true rfl, Nat.le_of_ble_eq_true rfl⟩) ⟨pcT_blind, fun U hU hW => pcT_pre⟩ rfl rfl hl.1 rfl (lv_room (Nat.le_of_ble_eq_true rfl)) dX4_settle_21 ⟨(Nat.zero_le _), (Nat.zero_le _)⟩) hS (fun q _ h => h.elim) (fun q h => h.elim) (fun r u t H1 locs ht hvm hw hB1 hz1 hk1 hS => ?_)
  have hP := y_keptP hP hk1
  generalize H1 = H at hP hS ⊢
  refine y_topi (y := feeI (nI x) (a 9 kd)) (by rw [hw, ← hsh.1]) ?_
  refine lv_iload_n hx hb dX4_settle_24 rfl (lv_at hl 5 rfl) ?_
  refine lv_iload hx hb dX4_settle_25 (lv_at hl 0 rfl) ?_
  refine lv_isub hx hb dX4_settle_27 ?_
  refine va_mmin hx hb (hml.trans hl.1.symm) hown (hts (.methodLink RX4 119 Lib.Math.min.name) (List.mem_of_getElem? (i := 3) rfl)) (hts (.static Lib.Math.min.name) (List.mem_of_getElem? (i := 4) rfl)) (hts (.initialized "java/lang/Math") (List.mem_of_getElem? (i := 5) rfl)) (hts (.code Lib.Math.min.name Lib.Math.min.code 2 (some .int)) (List.mem_of_getElem? (i := 6) rfl)) (Nat.le_of_ble_eq_true rfl) (Nat.le_of_ble_eq_true rfl) (Nat.zero_le _) (Nat.zero_le _) dX4_settle_28 ?_
  refine y_topi (y := sFee a kd (nI x)) rfl ?_
  refine lv_istore (lv' := [(6, .int (sFee a kd (nI x))), (5, .int (sTax a (nI x))), (4, .float (shF (a 9 kd))), (0, .ref h0), (1, .int (nI z)), (2, .int (nI kd)), (3, .int (nI x))]) hx hb dX4_settle_31 hl (by decide) rfl (fun ls hl => ?_)
  refine lv_iload_n hx hb dX4_settle_33 rfl (lv_at hl 6 rfl) ?_
  refine lv_iload hx hb dX4_settle_34 (lv_at hl 1 rfl) ?_
  refine lv_isub hx hb dX4_settle_36 ?_
  refine lv_iload hx hb dX4_settle_37 (lv_at hl 0 rfl) ?_
  refine lv_isub hx hb dX4_settle_39 ?_
  refine y_topi (y := sLeft a kd (nI x)) rfl ?_
  refine lv_istore (lv' := [(7, .int (sLeft a kd (nI x))), (6, .int (sFee a kd (nI x))), (5, .int (sTax a (nI x))), (4, .float (shF (a 9 kd))), (0, .ref h0), (1, .int (nI z)), (2, .int (nI kd)), (3, .int (nI x))]) hx hb dX4_settle_40 hl (by decide) rfl (fun ls hl => ?_)
  refine lv_iload hx hb dX4_settle_42 (lv_at hl 0 rfl) ?_
  refine lv_aload_n hx hb dX4_settle_44 rfl (lv_at hl 4 rfl) ?_
  refine va_get (D := (dC, dI)) (ci := 4) (v := .ref (q 1)) (C := RX4) (T := TX4) (N := 11) hx hb hts hiX4 hown hK hP 0 rfl rfl 0 (by decide) (hts (.fieldLink RX4 10 "Payoutnet" "shops" "LPayoutnet$Shops;") (List.mem_of_getElem? (i := 7) rfl)) (fun _ h9 => h9) rfl dX4_settle_45 ?_
  refine va_get (D := (dC, dI)) (ci := 3) (v := .ref (q 6)) (C := RX3) (T := TX3) (N := 9) hx hb hts hiX3 hown hK hP 1 rfl rfl 4 (by decide) (hts (.fieldLink RX4 84 "Payoutnet$Shops" "reserveThousandths" "[I") (List.mem_of_getElem? (i := 8) rfl)) (fun _ h9 => h9) rfl dX4_settle_48 ?_
  refine lv_iload_n hx hb dX4_settle_51 rfl (lv_at hl 5 rfl) ?_
  refine y_ild hx hb hK hP 6 0 rfl rfl (t := z) (by omega) (Nat.le_of_ble_eq_true rfl) dX4_settle_52 ?_
  refine va_calli (va_runS (As := [.int (sLeft a kd (nI x)), .int ((a 5) z)]) (rest := []) ⟨hx, hb, hml, hown, hts⟩ (c_X4_partOf l (sLeft a kd (nI x)) (a 5 z)) (va_cwS 2 hts gX4_settle_X4_partOf rfl rfl rfl (by decide +kernel) ⟨Nat.le_of_ble_eq_true rfl, Nat.le_of_ble_eq_true rfl⟩) ⟨pcT_blind, fun U hU hW => pcT_pre⟩ rfl rfl hl.1 rfl (lv_room (Nat.le_of_ble_eq_true rfl)) dX4_settle_53 ⟨(Nat.zero_le _), (Nat.zero_le _)⟩) hS (fun q _ h => h.elim) (fun q h => h.elim) (fun r u t H1 locs ht hvm hw hB1 hz1 hk1 hS => ?_)
  have hP := y_keptP hP hk1
  generalize H1 = H at hP hS ⊢
  refine y_topi (y := sHeld a z kd (nI x)) hw ?_
  refine lv_istore (lv' := [(8, .int (sHeld a z kd (nI x))), (7, .int (sLeft a kd (nI x))), (6, .int (sFee a kd (nI x))), (5, .int (sTax a (nI x))), (4, .float (shF (a 9 kd))), (0, .ref h0), (1, .int (nI z)), (2, .int (nI kd)), (3, .int (nI x))]) hx hb dX4_settle_56 hl (by decide) rfl (fun ls hl => ?_)
  refine lv_aload_n hx hb dX4_settle_58 rfl (lv_at hl 5 rfl) ?_
  refine va_get (D := (dC, dI)) (ci := 4) (v := .ref (q 10)) (C := RX4) (T := TX4) (N := 11) hx hb hts hiX4 hown hK hP 0 rfl rfl 1 (by decide) (hts (.fieldLink RX4 19 "Payoutnet" "sales" "LPayoutnet$Sales;") (List.mem_of_getElem? (i := 9) rfl)) (fun _ h9 => h9) rfl dX4_settle_59 ?_
  refine lv_iload_n hx hb dX4_settle_62 rfl (lv_at hl 6 rfl) ?_
  refine lv_iload_n hx hb dX4_settle_63 rfl (lv_at hl 8 rfl) ?_
  have hPc := hP.sub (ws' := [(q 10, .inr (2, [.ref (q 11), .ref (q 12), .ref (q 13), .ref (q 14), .ref (q 15), .ref (q 16), .ref (q 17), .int (a 0 3)])), (q 11, .inl (cI, 100, .inl (a 10))), (q 14, .inl (cI, 100, .inl (fun j => a 11 j - a 12 j)))]) [10, 11, 14] rfl
  have hDc := hD.sub (ws' := [(q 10, .inr (2, [.ref (q 11), .ref (q 12), .ref (q 13), .ref (q 14), .ref (q 15), .ref (q 16), .ref (q 17), .int (a 0 3)])), (q 11, .inl (cI, 100, .inl (a 10))), (q 14, .inl (cI, 100, .inl (fun j => a 11 j - a 12 j)))]) [10, 11, 14] (by decide) rfl
  have hFc := va_free (wc := [(q 10, .inr (2, [.ref (q 11), .ref (q 12), .ref (q 13), .ref (q 14), .ref (q 15), .ref (q 16), .ref (q 17), .int (a 0 3)])), (q 11, .inl (cI, 100, .inl (a 10))), (q 14, .inl (cI, 100, .inl (fun j => a 11 j - a 12 j)))]) hD hS hA [10, 11, 14] rfl
  have hKc := hK.sub (tys' := [(cI, .int)]) [0] rfl
  refine va_calli (va_runV (As := [.int (nI z), .int (nI x)]) (rest := []) ⟨hx, hb, hml, hown, hts⟩ (c_X2_enter l dC dI cI (q 10) (q 11) (q 12) (q 13) (q 14) (q 15) (q 16) (q 17) H.size (a 10) (fun j => a 11 j - a 12 j) (nn (a 0 3)) (a 0 3) hn3.1 (by omega) (nI z) (nI x)) (cwV 2 hts gX4_settle_X2_enter rfl rfl rfl (by decide +kernel) ⟨Nat.le_of_ble_eq_true rfl, Nat.le_of_ble_eq_true rfl⟩) ⟨pcW_blind, va_recv hKc hPc (ci := 2) (q0 := 0) rfl rfl, fun U hU hW => pcW_pre hPc hDc hKc hU hW⟩ rfl rfl hl.1 rfl (lv_room (Nat.le_of_ble_eq_true rfl)) dX4_settle_64 ⟨(Nat.zero_le _), (Nat.zero_le _)⟩) hS (fun q _ h => hFc q h) hFc (fun r u t H1 locs ht hvm hw hB hz1 hk1 hS => ?_)
  obtain ⟨hP1, hK1, hD1⟩ := hB
  rw [ht] at hP1
  rw [unr_upd (hY (nn (a 0 3)) (Nat.le_refl _)).1] at hP1 hD1
  obtain ⟨hP, hD⟩ := va_join (wr := [(h0, .inr (4, [.ref (q 1), .ref (q 10), .ref (q 18), .ref (q 22), .ref (q 26), .int (a 0 2), .int (a 0 1), .int (a 0 5), .int (a 0 6), .int (a 0 7), .int (a 0 8)])), (q 1, .inr (3, [.ref (q 2), .ref (q 3), .ref (q 4), .ref (q 5), .ref (q 6), .ref (q 7), .ref (q 8), .ref (q 9), .int (a 0 0)])), (q 2, .inl (cI, 8, .inl (a 1))), (q 3, .inl (cI, 8, .inl (a 2))), (q 4, .inl (cI, 8, .inl (a 3))), (q 5, .inl (cI, 8, .inl (a 4))), (q 6, .inl (cI, 8, .inl (a 5))), (q 7, .inl (cI, 8, .inl (a 6))), (q 8, .inl (cI, 8, .inl (a 7))), (q 9, .inl (cI, 8, .inl (a 8))), (q 12, .inl (cF, 100, .inr (.inr (.inl (fun j => shF (a 13 j)))))), (q 13, .inl (cI, 100, .inl (a 14))), (q 15, .inl (cI, 100, .inl (fun j => a 15 j - a 16 j))), (q 16, .inl (cI, 100, .inl (a 17))), (q 17, .inl (cI, 100, .inl (a 18))), (q 18, .inr (1, [.ref (q 19), .ref (q 20), .ref (q 21), .int (a 0 4)])), (q 19, .inl (cI, capOf (nn (a 0 4)), .inl (a 20))), (q 20, .inl (cI, capOf (nn (a 0 4)), .inl (a 19))), (q 21, .inl (cI, capOf (nn (a 0 4)), .inl (a 21))), (q 22, .inr (0, [.ref (q 23), .ref (q 24), .ref (q 25), .int (nI k)])), (q 23, .inl (cI, 8, .inl (jc))), (q 24, .inl (cI, 256, .inl (js))), (q 25, .inl (cI, 256, .inl (jv))), (q 26, .inl (cF, 4, .inr (.inr (.inl (fun j => shF (a 9 j))))))]) (w1 := [(q 10, .inr (2, [.ref (q 11), .ref (q 12), .ref (q 13), .ref (q 14), .ref (q 15), .ref (q 16), .ref (q 17), .int (a 0 3 + 1)])), (q 11, .inl (cI, 100, .inl (upd (a 10) (nn (a 0 3)) (nI z)))), (q 14, .inl (cI, 100, .inl (fun j => upd (a 11) (nn (a 0 3)) (nI x) j - a 12 j)))]) hP hD [10, 11, 14] [0, 1, 2, 3, 4, 5, 6, 7, 8, 9, 12, 13, 15, 16, 17, 18, 19, 20, 21, 22, 23, 24, 25, 26] rfl rfl (by decide) (by decide) hk1 hFc hP1 hD1
  generalize H1 = H at hP hS ⊢
  have hP := hP.sub (ws' := [(h0, .inr (4, [.ref (q 1), .ref (q 10), .ref (q 18), .ref (q 22), .ref (q 26), .int (a 0 2), .int (a 0 1), .int (a 0 5), .int (a 0 6), .int (a 0 7), .int (a 0 8)])), (q 1, .inr (3, [.ref (q 2), .ref (q 3), .ref (q 4), .ref (q 5), .ref (q 6), .ref (q 7), .ref (q 8), .ref (q 9), .int (a 0 0)])), (q 2, .inl (cI, 8, .inl (a 1))), (q 3, .inl (cI, 8, .inl (a 2))), (q 4, .inl (cI, 8, .inl (a 3))), (q 5, .inl (cI, 8, .inl (a 4))), (q 6, .inl (cI, 8, .inl (a 5))), (q 7, .inl (cI, 8, .inl (a 6))), (q 8, .inl (cI, 8, .inl (a 7))), (q 9, .inl (cI, 8, .inl (a 8))), (q 10, .inr (2, [.ref (q 11), .ref (q 12), .ref (q 13), .ref (q 14), .ref (q 15), .ref (q 16), .ref (q 17), .int (a 0 3 + 1)])), (q 11, .inl (cI, 100, .inl (upd (a 10) (nn (a 0 3)) (nI z)))), (q 12, .inl (cF, 100, .inr (.inr (.inl (fun j => shF (a 13 j)))))), (q 13, .inl (cI, 100, .inl (a 14))), (q 14, .inl (cI, 100, .inl (fun j => upd (a 11) (nn (a 0 3)) (nI x) j - a 12 j))), (q 15, .inl (cI, 100, .inl (fun j => a 15 j - a 16 j))), (q 16, .inl (cI, 100, .inl (a 17))), (q 17, .inl (cI, 100, .inl (a 18))), (q 18, .inr (1, [.ref (q 19), .ref (q 20), .ref (q 21), .int (a 0 4)])), (q 19, .inl (cI, capOf (nn (a 0 4)), .inl (a 20))), (q 20, .inl (cI, capOf (nn (a 0 4)), .inl (a 19))), (q 21, .inl (cI, capOf (nn (a 0 4)), .inl (a 21))), (q 22, .inr (0, [.ref (q 23), .ref (q 24), .ref (q 25), .int (nI k)])), (q 23, .inl (cI, 8, .inl (jc))), (q 24, .inl (cI, 256, .inl (js))), (q 25, .inl (cI, 256, .inl (jv))), (q 26, .inl (cF, 4, .inr (.inr (.inl (fun j => shF (a 9 j))))))]) [0, 1, 2, 3, 4, 5, 6, 7, 8, 9, 24, 25, 10, 11, 26, 12, 13, 14, 15, 16, 17, 18, 19, 20, 21, 22, 23] rfl
  have hD := hD.sub (ws' := [(h0, .inr (4, [.ref (q 1), .ref (q 10), .ref (q 18), .ref (q 22), .ref (q 26), .int (a 0 2), .int (a 0 1), .int (a 0 5), .int (a 0 6), .int (a 0 7), .int (a 0 8)])), (q 1, .inr (3, [.ref (q 2), .ref (q 3), .ref (q 4), .ref (q 5), .ref (q 6), .ref (q 7), .ref (q 8), .ref (q 9), .int (a 0 0)])), (q 2, .inl (cI, 8, .inl (a 1))), (q 3, .inl (cI, 8, .inl (a 2))), (q 4, .inl (cI, 8, .inl (a 3))), (q 5, .inl (cI, 8, .inl (a 4))), (q 6, .inl (cI, 8, .inl (a 5))), (q 7, .inl (cI, 8, .inl (a 6))), (q 8, .inl (cI, 8, .inl (a 7))), (q 9, .inl (cI, 8, .inl (a 8))), (q 10, .inr (2, [.ref (q 11), .ref (q 12), .ref (q 13), .ref (q 14), .ref (q 15), .ref (q 16), .ref (q 17), .int (a 0 3 + 1)])), (q 11, .inl (cI, 100, .inl (upd (a 10) (nn (a 0 3)) (nI z)))), (q 12, .inl (cF, 100, .inr (.inr (.inl (fun j => shF (a 13 j)))))), (q 13, .inl (cI, 100, .inl (a 14))), (q 14, .inl (cI, 100, .inl (fun j => upd (a 11) (nn (a 0 3)) (nI x) j - a 12 j))), (q 15, .inl (cI, 100, .inl (fun j => a 15 j - a 16 j))), (q 16, .inl (cI, 100, .inl (a 17))), (q 17, .inl (cI, 100, .inl (a 18))), (q 18, .inr (1, [.ref (q 19), .ref (q 20), .ref (q 21), .int (a 0 4)])), (q 19, .inl (cI, capOf (nn (a 0 4)), .inl (a 20))), (q 20, .inl (cI, capOf (nn (a 0 4)), .inl (a 19))), (q 21, .inl (cI, capOf (nn (a 0 4)), .inl (a 21))), (q 22, .inr (0, [.ref (q 23), .ref (q 24), .ref (q 25), .int (nI k)])), (q 23, .inl (cI, 8, .inl (jc))), (q 24, .inl (cI, 256, .inl (js))), (q 25, .inl (cI, 256, .inl (jv))), (q 26, .inl (cF, 4, .inr (.inr (.inl (fun j => shF (a 9 j))))))]) [0, 1, 2, 3, 4, 5, 6, 7, 8, 9, 24, 25, 10, 11, 26, 12, 13, 14, 15, 16, 17, 18, 19, 20, 21, 22, 23] (by decide) rfl
  refine y_topi (y := nI (nn (a 0 3))) hw ?_
  refine lv_istore (lv' := [(9, .int (nI (nn (a 0 3)))), (8, .int (sHeld a z kd (nI x))), (7, .int (sLeft a kd (nI x))), (6, .int (sFee a kd (nI x))), (5, .int (sTax a (nI x))), (4, .float (shF (a 9 kd))), (0, .ref h0), (1, .int (nI z)), (2, .int (nI kd)), (3, .int (nI x))]) hx hb dX4_settle_67 hl (by decide) rfl (fun ls hl => ?_)
  refine lv_aload_n hx hb dX4_settle_69 rfl (lv_at hl 6 rfl) ?_
  refine va_get (D := (dC, dI)) (ci := 4) (v := .ref (q 10)) (C := RX4) (T := TX4) (N := 11) hx hb hts hiX4 hown hK hP 0 rfl rfl 1 (by decide) (hts (.fieldLink RX4 19 "Payoutnet" "sales" "LPayoutnet$Sales;") (List.mem_of_getElem? (i := 9) rfl)) (fun _ h9 => h9) rfl dX4_settle_70 ?_
  refine va_get (D := (dC, dI)) (ci := 2) (v := .ref (q 12)) (C := RX2) (T := TX2) (N := 8) hx hb hts hiX2 hown hK hP 10 rfl rfl 1 (by decide) (hts (.fieldLink RX4 145 "Payoutnet$Sales" "share" "[F") (List.mem_of_getElem? (i := 10) rfl)) (fun _ h9 => h9) rfl dX4_settle_73 ?_
  refine lv_iload hx hb dX4_settle_76 (lv_at hl 0 rfl) ?_
  refine lv_fload hx hb dX4_settle_78 (lv_at hl 5 rfl) ?_
  refine y_fst hx hb hK hP hD hS 12 1 rfl rfl (t := nn (a 0 3)) (by omega) (Nat.le_of_ble_eq_true rfl) dX4_settle_80 (fun H locs hP hD hS => ?_)
  have hP : va_P (dC, dI) vwCl [(h0, .inr (4, [.ref (q 1), .ref (q 10), .ref (q 18), .ref (q 22), .ref (q 26), .int (a 0 2), .int (a 0 1), .int (a 0 5), .int (a 0 6), .int (a 0 7), .int (a 0 8)])), (q 1, .inr (3, [.ref (q 2), .ref (q 3), .ref (q 4), .ref (q 5), .ref (q 6), .ref (q 7), .ref (q 8), .ref (q 9), .int (a 0 0)])), (q 2, .inl (cI, 8, .inl (a 1))), (q 3, .inl (cI, 8, .inl (a 2))), (q 4, .inl (cI, 8, .inl (a 3))), (q 5, .inl (cI, 8, .inl (a 4))), (q 6, .inl (cI, 8, .inl (a 5))), (q 7, .inl (cI, 8, .inl (a 6))), (q 8, .inl (cI, 8, .inl (a 7))), (q 9, .inl (cI, 8, .inl (a 8))), (q 10, .inr (2, [.ref (q 11), .ref (q 12), .ref (q 13), .ref (q 14), .ref (q 15), .ref (q 16), .ref (q 17), .int (a 0 3 + 1)])), (q 11, .inl (cI, 100, .inl (upd (a 10) (nn (a 0 3)) (nI z)))), (q 12, .inl (cF, 100, .inr (.inr (.inl (vf_upd (fun j => shF (a 13 j)) (nn (a 0 3)) (shF (a 9 kd))))))), (q 13, .inl (cI, 100, .inl (a 14))), (q 14, .inl (cI, 100, .inl (fun j => upd (a 11) (nn (a 0 3)) (nI x) j - a 12 j))), (q 15, .inl (cI, 100, .inl (fun j => a 15 j - a 16 j))), (q 16, .inl (cI, 100, .inl (a 17))), (q 17, .inl (cI, 100, .inl (a 18))), (q 18, .inr (1, [.ref (q 19), .ref (q 20), .ref (q 21), .int (a 0 4)])), (q 19, .inl (cI, capOf (nn (a 0 4)), .inl (a 20))), (q 20, .inl (cI, capOf (nn (a 0 4)), .inl (a 19))), (q 21, .inl (cI, capOf (nn (a 0 4)), .inl (a 21))), (q 22, .inr (0, [.ref (q 23), .ref (q 24), .ref (q 25), .int (nI k)])), (q 23, .inl (cI, 8, .inl (jc))), (q 24, .inl (cI, 256, .inl (js))), (q 25, .inl (cI, 256, .inl (jv))), (q 26, .inl (cF, 4, .inr (.inr (.inl (fun j => shF (a 9 j))))))] H := hP
  have hD : va_D A [(h0, .inr (4, [.ref (q 1), .ref (q 10), .ref (q 18), .ref (q 22), .ref (q 26), .int (a 0 2), .int (a 0 1), .int (a 0 5), .int (a 0 6), .int (a 0 7), .int (a 0 8)])), (q 1, .inr (3, [.ref (q 2), .ref (q 3), .ref (q 4), .ref (q 5), .ref (q 6), .ref (q 7), .ref (q 8), .ref (q 9), .int (a 0 0)])), (q 2, .inl (cI, 8, .inl (a 1))), (q 3, .inl (cI, 8, .inl (a 2))), (q 4, .inl (cI, 8, .inl (a 3))), (q 5, .inl (cI, 8, .inl (a 4))), (q 6, .inl (cI, 8, .inl (a 5))), (q 7, .inl (cI, 8, .inl (a 6))), (q 8, .inl (cI, 8, .inl (a 7))), (q 9, .inl (cI, 8, .inl (a 8))), (q 10, .inr (2, [.ref (q 11), .ref (q 12), .ref (q 13), .ref (q 14), .ref (q 15), .ref (q 16), .ref (q 17), .int (a 0 3 + 1)])), (q 11, .inl (cI, 100, .inl (upd (a 10) (nn (a 0 3)) (nI z)))), (q 12, .inl (cF, 100, .inr (.inr (.inl (vf_upd (fun j => shF (a 13 j)) (nn (a 0 3)) (shF (a 9 kd))))))), (q 13, .inl (cI, 100, .inl (a 14))), (q 14, .inl (cI, 100, .inl (fun j => upd (a 11) (nn (a 0 3)) (nI x) j - a 12 j))), (q 15, .inl (cI, 100, .inl (fun j => a 15 j - a 16 j))), (q 16, .inl (cI, 100, .inl (a 17))), (q 17, .inl (cI, 100, .inl (a 18))), (q 18, .inr (1, [.ref (q 19), .ref (q 20), .ref (q 21), .int (a 0 4)])), (q 19, .inl (cI, capOf (nn (a 0 4)), .inl (a 20))), (q 20, .inl (cI, capOf (nn (a 0 4)), .inl (a 19))), (q 21, .inl (cI, capOf (nn (a 0 4)), .inl (a 21))), (q 22, .inr (0, [.ref (q 23), .ref (q 24), .ref (q 25), .int (nI k)])), (q 23, .inl (cI, 8, .inl (jc))), (q 24, .inl (cI, 256, .inl (js))), (q 25, .inl (cI, 256, .inl (jv))), (q 26, .inl (cF, 4, .inr (.inr (.inl (fun j => shF (a 9 j))))))] := hD
  rw [shF_upd] at hP hD
  refine lv_aload_n hx hb dX4_settle_81 rfl (lv_at hl 6 rfl) ?_
  refine va_get (D := (dC, dI)) (ci := 4) (v := .ref (q 10)) (C := RX4) (T := TX4) (N := 11) hx hb hts hiX4 hown hK hP 0 rfl rfl 1 (by decide) (hts (.fieldLink RX4 19 "Payoutnet" "sales" "LPayoutnet$Sales;") (List.mem_of_getElem? (i := 9) rfl)) (fun _ h9 => h9) rfl dX4_settle_82 ?_
  refine va_get (D := (dC, dI)) (ci := 2) (v := .ref (q 13)) (C := RX2) (T := TX2) (N := 8) hx hb hts hiX2 hown hK hP 10 rfl rfl 2 (by decide) (hts (.fieldLink RX4 140 "Payoutnet$Sales" "taxThousandths" "[I") (List.mem_of_getElem? (i := 11) rfl)) (fun _ h9 => h9) rfl dX4_settle_85 ?_
  refine lv_iload hx hb dX4_settle_88 (lv_at hl 0 rfl) ?_
  refine lv_aload_n hx hb dX4_settle_90 rfl (lv_at hl 6 rfl) ?_
  refine va_get (D := (dC, dI)) (ci := 4) (v := .int (a 0 2)) (C := RX4) (T := TX4) (N := 11) hx hb hts hiX4 hown hK hP 0 rfl rfl 5 (by decide) (hts (.fieldLink RX4 97 "Payoutnet" "taxThousandths" "I") (List.mem_of_getElem? (i := 2) rfl)) (fun _ h9 => h9) rfl dX4_settle_91 ?_
  refine y_ist hx hb hK hP hD hS 13 0 rfl rfl (t := nn (a 0 3)) (by omega) (Nat.le_of_ble_eq_true rfl) dX4_settle_94 (fun H locs hP hD hS => ?_)
  have hP : va_P (dC, dI) vwCl [(h0, .inr (4, [.ref (q 1), .ref (q 10), .ref (q 18), .ref (q 22), .ref (q 26), .int (a 0 2), .int (a 0 1), .int (a 0 5), .int (a 0 6), .int (a 0 7), .int (a 0 8)])), (q 1, .inr (3, [.ref (q 2), .ref (q 3), .ref (q 4), .ref (q 5), .ref (q 6), .ref (q 7), .ref (q 8), .ref (q 9), .int (a 0 0)])), (q 2, .inl (cI, 8, .inl (a 1))), (q 3, .inl (cI, 8, .inl (a 2))), (q 4, .inl (cI, 8, .inl (a 3))), (q 5, .inl (cI, 8, .inl (a 4))), (q 6, .inl (cI, 8, .inl (a 5))), (q 7, .inl (cI, 8, .inl (a 6))), (q 8, .inl (cI, 8, .inl (a 7))), (q 9, .inl (cI, 8, .inl (a 8))), (q 10, .inr (2, [.ref (q 11), .ref (q 12), .ref (q 13), .ref (q 14), .ref (q 15), .ref (q 16), .ref (q 17), .int (a 0 3 + 1)])), (q 11, .inl (cI, 100, .inl (upd (a 10) (nn (a 0 3)) (nI z)))), (q 12, .inl (cF, 100, .inr (.inr (.inl (fun j => shF (upd (a 13) (nn (a 0 3)) (a 9 kd) j)))))), (q 13, .inl (cI, 100, .inl (upd (a 14) (nn (a 0 3)) (a 0 2)))), (q 14, .inl (cI, 100, .inl (fun j => upd (a 11) (nn (a 0 3)) (nI x) j - a 12 j))), (q 15, .inl (cI, 100, .inl (fun j => a 15 j - a 16 j))), (q 16, .inl (cI, 100, .inl (a 17))), (q 17, .inl (cI, 100, .inl (a 18))), (q 18, .inr (1, [.ref (q 19), .ref (q 20), .ref (q 21), .int (a 0 4)])), (q 19, .inl (cI, capOf (nn (a 0 4)), .inl (a 20))), (q 20, .inl (cI, capOf (nn (a 0 4)), .inl (a 19))), (q 21, .inl (cI, capOf (nn (a 0 4)), .inl (a 21))), (q 22, .inr (0, [.ref (q 23), .ref (q 24), .ref (q 25), .int (nI k)])), (q 23, .inl (cI, 8, .inl (jc))), (q 24, .inl (cI, 256, .inl (js))), (q 25, .inl (cI, 256, .inl (jv))), (q 26, .inl (cF, 4, .inr (.inr (.inl (fun j => shF (a 9 j))))))] H := hP
  have hD : va_D A [(h0, .inr (4, [.ref (q 1), .ref (q 10), .ref (q 18), .ref (q 22), .ref (q 26), .int (a 0 2), .int (a 0 1), .int (a 0 5), .int (a 0 6), .int (a 0 7), .int (a 0 8)])), (q 1, .inr (3, [.ref (q 2), .ref (q 3), .ref (q 4), .ref (q 5), .ref (q 6), .ref (q 7), .ref (q 8), .ref (q 9), .int (a 0 0)])), (q 2, .inl (cI, 8, .inl (a 1))), (q 3, .inl (cI, 8, .inl (a 2))), (q 4, .inl (cI, 8, .inl (a 3))), (q 5, .inl (cI, 8, .inl (a 4))), (q 6, .inl (cI, 8, .inl (a 5))), (q 7, .inl (cI, 8, .inl (a 6))), (q 8, .inl (cI, 8, .inl (a 7))), (q 9, .inl (cI, 8, .inl (a 8))), (q 10, .inr (2, [.ref (q 11), .ref (q 12), .ref (q 13), .ref (q 14), .ref (q 15), .ref (q 16), .ref (q 17), .int (a 0 3 + 1)])), (q 11, .inl (cI, 100, .inl (upd (a 10) (nn (a 0 3)) (nI z)))), (q 12, .inl (cF, 100, .inr (.inr (.inl (fun j => shF (upd (a 13) (nn (a 0 3)) (a 9 kd) j)))))), (q 13, .inl (cI, 100, .inl (upd (a 14) (nn (a 0 3)) (a 0 2)))), (q 14, .inl (cI, 100, .inl (fun j => upd (a 11) (nn (a 0 3)) (nI x) j - a 12 j))), (q 15, .inl (cI, 100, .inl (fun j => a 15 j - a 16 j))), (q 16, .inl (cI, 100, .inl (a 17))), (q 17, .inl (cI, 100, .inl (a 18))), (q 18, .inr (1, [.ref (q 19), .ref (q 20), .ref (q 21), .int (a 0 4)])), (q 19, .inl (cI, capOf (nn (a 0 4)), .inl (a 20))), (q 20, .inl (cI, capOf (nn (a 0 4)), .inl (a 19))), (q 21, .inl (cI, capOf (nn (a 0 4)), .inl (a 21))), (q 22, .inr (0, [.ref (q 23), .ref (q 24), .ref (q 25), .int (nI k)])), (q 23, .inl (cI, 8, .inl (jc))), (q 24, .inl (cI, 256, .inl (js))), (q 25, .inl (cI, 256, .inl (jv))), (q 26, .inl (cF, 4, .inr (.inr (.inl (fun j => shF (a 9 j))))))] := hD
  refine lv_aload_n hx hb dX4_settle_95 rfl (lv_at hl 6 rfl) ?_
  refine va_get (D := (dC, dI)) (ci := 4) (v := .ref (q 10)) (C := RX4) (T := TX4) (N := 11) hx hb hts hiX4 hown hK hP 0 rfl rfl 1 (by decide) (hts (.fieldLink RX4 19 "Payoutnet" "sales" "LPayoutnet$Sales;") (List.mem_of_getElem? (i := 9) rfl)) (fun _ h9 => h9) rfl dX4_settle_96 ?_
  refine va_get (D := (dC, dI)) (ci := 2) (v := .ref (q 15)) (C := RX2) (T := TX2) (N := 8) hx hb hts hiX2 hown hK hP 10 rfl rfl 4 (by decide) (hts (.fieldLink RX4 152 "Payoutnet$Sales" "feeKept" "[I") (List.mem_of_getElem? (i := 12) rfl)) (fun _ h9 => h9) rfl dX4_settle_99 ?_
  refine lv_iload hx hb dX4_settle_102 (lv_at hl 0 rfl) ?_
  refine lv_iload hx hb dX4_settle_104 (lv_at hl 3 rfl) ?_
  refine y_ist hx hb hK hP hD hS 15 0 rfl rfl (t := nn (a 0 3)) (by omega) (Nat.le_of_ble_eq_true rfl) dX4_settle_106 (fun H locs hP hD hS => ?_)
  have hP : va_P (dC, dI) vwCl [(h0, .inr (4, [.ref (q 1), .ref (q 10), .ref (q 18), .ref (q 22), .ref (q 26), .int (a 0 2), .int (a 0 1), .int (a 0 5), .int (a 0 6), .int (a 0 7), .int (a 0 8)])), (q 1, .inr (3, [.ref (q 2), .ref (q 3), .ref (q 4), .ref (q 5), .ref (q 6), .ref (q 7), .ref (q 8), .ref (q 9), .int (a 0 0)])), (q 2, .inl (cI, 8, .inl (a 1))), (q 3, .inl (cI, 8, .inl (a 2))), (q 4, .inl (cI, 8, .inl (a 3))), (q 5, .inl (cI, 8, .inl (a 4))), (q 6, .inl (cI, 8, .inl (a 5))), (q 7, .inl (cI, 8, .inl (a 6))), (q 8, .inl (cI, 8, .inl (a 7))), (q 9, .inl (cI, 8, .inl (a 8))), (q 10, .inr (2, [.ref (q 11), .ref (q 12), .ref (q 13), .ref (q 14), .ref (q 15), .ref (q 16), .ref (q 17), .int (a 0 3 + 1)])), (q 11, .inl (cI, 100, .inl (upd (a 10) (nn (a 0 3)) (nI z)))), (q 12, .inl (cF, 100, .inr (.inr (.inl (fun j => shF (upd (a 13) (nn (a 0 3)) (a 9 kd) j)))))), (q 13, .inl (cI, 100, .inl (upd (a 14) (nn (a 0 3)) (a 0 2)))), (q 14, .inl (cI, 100, .inl (fun j => upd (a 11) (nn (a 0 3)) (nI x) j - a 12 j))), (q 15, .inl (cI, 100, .inl (upd (fun j => a 15 j - a 16 j) (nn (a 0 3)) (sFee a kd (nI x))))), (q 16, .inl (cI, 100, .inl (a 17))), (q 17, .inl (cI, 100, .inl (a 18))), (q 18, .inr (1, [.ref (q 19), .ref (q 20), .ref (q 21), .int (a 0 4)])), (q 19, .inl (cI, capOf (nn (a 0 4)), .inl (a 20))), (q 20, .inl (cI, capOf (nn (a 0 4)), .inl (a 19))), (q 21, .inl (cI, capOf (nn (a 0 4)), .inl (a 21))), (q 22, .inr (0, [.ref (q 23), .ref (q 24), .ref (q 25), .int (nI k)])), (q 23, .inl (cI, 8, .inl (jc))), (q 24, .inl (cI, 256, .inl (js))), (q 25, .inl (cI, 256, .inl (jv))), (q 26, .inl (cF, 4, .inr (.inr (.inl (fun j => shF (a 9 j))))))] H := hP
  have hD : va_D A [(h0, .inr (4, [.ref (q 1), .ref (q 10), .ref (q 18), .ref (q 22), .ref (q 26), .int (a 0 2), .int (a 0 1), .int (a 0 5), .int (a 0 6), .int (a 0 7), .int (a 0 8)])), (q 1, .inr (3, [.ref (q 2), .ref (q 3), .ref (q 4), .ref (q 5), .ref (q 6), .ref (q 7), .ref (q 8), .ref (q 9), .int (a 0 0)])), (q 2, .inl (cI, 8, .inl (a 1))), (q 3, .inl (cI, 8, .inl (a 2))), (q 4, .inl (cI, 8, .inl (a 3))), (q 5, .inl (cI, 8, .inl (a 4))), (q 6, .inl (cI, 8, .inl (a 5))), (q 7, .inl (cI, 8, .inl (a 6))), (q 8, .inl (cI, 8, .inl (a 7))), (q 9, .inl (cI, 8, .inl (a 8))), (q 10, .inr (2, [.ref (q 11), .ref (q 12), .ref (q 13), .ref (q 14), .ref (q 15), .ref (q 16), .ref (q 17), .int (a 0 3 + 1)])), (q 11, .inl (cI, 100, .inl (upd (a 10) (nn (a 0 3)) (nI z)))), (q 12, .inl (cF, 100, .inr (.inr (.inl (fun j => shF (upd (a 13) (nn (a 0 3)) (a 9 kd) j)))))), (q 13, .inl (cI, 100, .inl (upd (a 14) (nn (a 0 3)) (a 0 2)))), (q 14, .inl (cI, 100, .inl (fun j => upd (a 11) (nn (a 0 3)) (nI x) j - a 12 j))), (q 15, .inl (cI, 100, .inl (upd (fun j => a 15 j - a 16 j) (nn (a 0 3)) (sFee a kd (nI x))))), (q 16, .inl (cI, 100, .inl (a 17))), (q 17, .inl (cI, 100, .inl (a 18))), (q 18, .inr (1, [.ref (q 19), .ref (q 20), .ref (q 21), .int (a 0 4)])), (q 19, .inl (cI, capOf (nn (a 0 4)), .inl (a 20))), (q 20, .inl (cI, capOf (nn (a 0 4)), .inl (a 19))), (q 21, .inl (cI, capOf (nn (a 0 4)), .inl (a 21))), (q 22, .inr (0, [.ref (q 23), .ref (q 24), .ref (q 25), .int (nI k)])), (q 23, .inl (cI, 8, .inl (jc))), (q 24, .inl (cI, 256, .inl (js))), (q 25, .inl (cI, 256, .inl (jv))), (q 26, .inl (cF, 4, .inr (.inr (.inl (fun j => shF (a 9 j))))))] := hD
  rw [unr_upd (hY (nn (a 0 3)) (Nat.le_refl _)).2.1] at hP hD
  refine lv_aload_n hx hb dX4_settle_107 rfl (lv_at hl 6 rfl) ?_
  refine va_get (D := (dC, dI)) (ci := 4) (v := .ref (q 10)) (C := RX4) (T := TX4) (N := 11) hx hb hts hiX4 hown hK hP 0 rfl rfl 1 (by decide) (hts (.fieldLink RX4 19 "Payoutnet" "sales" "LPayoutnet$Sales;") (List.mem_of_getElem? (i := 9) rfl)) (fun _ h9 => h9) rfl dX4_settle_108 ?_
  refine va_get (D := (dC, dI)) (ci := 2) (v := .ref (q 16)) (C := RX2) (T := TX2) (N := 8) hx hb hts hiX2 hown hK hP 10 rfl rfl 5 (by decide) (hts (.fieldLink RX4 218 "Payoutnet$Sales" "held" "[I") (List.mem_of_getElem? (i := 13) rfl)) (fun _ h9 => h9) rfl dX4_settle_111 ?_
  refine lv_iload hx hb dX4_settle_114 (lv_at hl 0 rfl) ?_
  refine lv_iload hx hb dX4_settle_116 (lv_at hl 1 rfl) ?_
  refine y_ist hx hb hK hP hD hS 16 0 rfl rfl (t := nn (a 0 3)) (by omega) (Nat.le_of_ble_eq_true rfl) dX4_settle_118 (fun H locs hP hD hS => ?_)
  have hP : va_P (dC, dI) vwCl [(h0, .inr (4, [.ref (q 1), .ref (q 10), .ref (q 18), .ref (q 22), .ref (q 26), .int (a 0 2), .int (a 0 1), .int (a 0 5), .int (a 0 6), .int (a 0 7), .int (a 0 8)])), (q 1, .inr (3, [.ref (q 2), .ref (q 3), .ref (q 4), .ref (q 5), .ref (q 6), .ref (q 7), .ref (q 8), .ref (q 9), .int (a 0 0)])), (q 2, .inl (cI, 8, .inl (a 1))), (q 3, .inl (cI, 8, .inl (a 2))), (q 4, .inl (cI, 8, .inl (a 3))), (q 5, .inl (cI, 8, .inl (a 4))), (q 6, .inl (cI, 8, .inl (a 5))), (q 7, .inl (cI, 8, .inl (a 6))), (q 8, .inl (cI, 8, .inl (a 7))), (q 9, .inl (cI, 8, .inl (a 8))), (q 10, .inr (2, [.ref (q 11), .ref (q 12), .ref (q 13), .ref (q 14), .ref (q 15), .ref (q 16), .ref (q 17), .int (a 0 3 + 1)])), (q 11, .inl (cI, 100, .inl (upd (a 10) (nn (a 0 3)) (nI z)))), (q 12, .inl (cF, 100, .inr (.inr (.inl (fun j => shF (upd (a 13) (nn (a 0 3)) (a 9 kd) j)))))), (q 13, .inl (cI, 100, .inl (upd (a 14) (nn (a 0 3)) (a 0 2)))), (q 14, .inl (cI, 100, .inl (fun j => upd (a 11) (nn (a 0 3)) (nI x) j - a 12 j))), (q 15, .inl (cI, 100, .inl (fun j => upd (a 15) (nn (a 0 3)) (sFee a kd (nI x)) j - a 16 j))), (q 16, .inl (cI, 100, .inl (upd (a 17) (nn (a 0 3)) (sHeld a z kd (nI x))))), (q 17, .inl (cI, 100, .inl (a 18))), (q 18, .inr (1, [.ref (q 19), .ref (q 20), .ref (q 21), .int (a 0 4)])), (q 19, .inl (cI, capOf (nn (a 0 4)), .inl (a 20))), (q 20, .inl (cI, capOf (nn (a 0 4)), .inl (a 19))), (q 21, .inl (cI, capOf (nn (a 0 4)), .inl (a 21))), (q 22, .inr (0, [.ref (q 23), .ref (q 24), .ref (q 25), .int (nI k)])), (q 23, .inl (cI, 8, .inl (jc))), (q 24, .inl (cI, 256, .inl (js))), (q 25, .inl (cI, 256, .inl (jv))), (q 26, .inl (cF, 4, .inr (.inr (.inl (fun j => shF (a 9 j))))))] H := hP
  have hD : va_D A [(h0, .inr (4, [.ref (q 1), .ref (q 10), .ref (q 18), .ref (q 22), .ref (q 26), .int (a 0 2), .int (a 0 1), .int (a 0 5), .int (a 0 6), .int (a 0 7), .int (a 0 8)])), (q 1, .inr (3, [.ref (q 2), .ref (q 3), .ref (q 4), .ref (q 5), .ref (q 6), .ref (q 7), .ref (q 8), .ref (q 9), .int (a 0 0)])), (q 2, .inl (cI, 8, .inl (a 1))), (q 3, .inl (cI, 8, .inl (a 2))), (q 4, .inl (cI, 8, .inl (a 3))), (q 5, .inl (cI, 8, .inl (a 4))), (q 6, .inl (cI, 8, .inl (a 5))), (q 7, .inl (cI, 8, .inl (a 6))), (q 8, .inl (cI, 8, .inl (a 7))), (q 9, .inl (cI, 8, .inl (a 8))), (q 10, .inr (2, [.ref (q 11), .ref (q 12), .ref (q 13), .ref (q 14), .ref (q 15), .ref (q 16), .ref (q 17), .int (a 0 3 + 1)])), (q 11, .inl (cI, 100, .inl (upd (a 10) (nn (a 0 3)) (nI z)))), (q 12, .inl (cF, 100, .inr (.inr (.inl (fun j => shF (upd (a 13) (nn (a 0 3)) (a 9 kd) j)))))), (q 13, .inl (cI, 100, .inl (upd (a 14) (nn (a 0 3)) (a 0 2)))), (q 14, .inl (cI, 100, .inl (fun j => upd (a 11) (nn (a 0 3)) (nI x) j - a 12 j))), (q 15, .inl (cI, 100, .inl (fun j => upd (a 15) (nn (a 0 3)) (sFee a kd (nI x)) j - a 16 j))), (q 16, .inl (cI, 100, .inl (upd (a 17) (nn (a 0 3)) (sHeld a z kd (nI x))))), (q 17, .inl (cI, 100, .inl (a 18))), (q 18, .inr (1, [.ref (q 19), .ref (q 20), .ref (q 21), .int (a 0 4)])), (q 19, .inl (cI, capOf (nn (a 0 4)), .inl (a 20))), (q 20, .inl (cI, capOf (nn (a 0 4)), .inl (a 19))), (q 21, .inl (cI, capOf (nn (a 0 4)), .inl (a 21))), (q 22, .inr (0, [.ref (q 23), .ref (q 24), .ref (q 25), .int (nI k)])), (q 23, .inl (cI, 8, .inl (jc))), (q 24, .inl (cI, 256, .inl (js))), (q 25, .inl (cI, 256, .inl (jv))), (q 26, .inl (cF, 4, .inr (.inr (.inl (fun j => shF (a 9 j))))))] := hD
  refine lv_aload_n hx hb dX4_settle_119 rfl (lv_at hl 6 rfl) ?_
  refine va_get (D := (dC, dI)) (ci := 4) (v := .ref (q 10)) (C := RX4) (T := TX4) (N := 11) hx hb hts hiX4 hown hK hP 0 rfl rfl 1 (by decide) (hts (.fieldLink RX4 19 "Payoutnet" "sales" "LPayoutnet$Sales;") (List.mem_of_getElem? (i := 9) rfl)) (fun _ h9 => h9) rfl dX4_settle_120 ?_
  refine va_get (D := (dC, dI)) (ci := 2) (v := .ref (q 17)) (C := RX2) (T := TX2) (N := 8) hx hb hts hiX2 hown hK hP 10 rfl rfl 6 (by decide) (hts (.fieldLink RX4 221 "Payoutnet$Sales" "heldUntil" "[I") (List.mem_of_getElem? (i := 14) rfl)) (fun _ h9 => h9) rfl dX4_settle_123 ?_
  refine lv_iload hx hb dX4_settle_126 (lv_at hl 0 rfl) ?_
  refine lv_aload_n hx hb dX4_settle_128 rfl (lv_at hl 6 rfl) ?_
  refine va_get (D := (dC, dI)) (ci := 4) (v := .int (a 0 1)) (C := RX4) (T := TX4) (N := 11) hx hb hts hiX4 hown hK hP 0 rfl rfl 6 (by decide) (hts (.fieldLink RX4 171 "Payoutnet" "today" "I") (List.mem_of_getElem? (i := 15) rfl)) (fun _ h9 => h9) rfl dX4_settle_129 ?_
  refine lv_aload_n hx hb dX4_settle_132 rfl (lv_at hl 6 rfl) ?_
  refine va_get (D := (dC, dI)) (ci := 4) (v := .ref (q 1)) (C := RX4) (T := TX4) (N := 11) hx hb hts hiX4 hown hK hP 0 rfl rfl 0 (by decide) (hts (.fieldLink RX4 10 "Payoutnet" "shops" "LPayoutnet$Shops;") (List.mem_of_getElem? (i := 7) rfl)) (fun _ h9 => h9) rfl dX4_settle_133 ?_
  refine va_get (D := (dC, dI)) (ci := 3) (v := .ref (q 7)) (C := RX3) (T := TX3) (N := 9) hx hb hts hiX3 hown hK hP 1 rfl rfl 5 (by decide) (hts (.fieldLink RX4 87 "Payoutnet$Shops" "reserveDays" "[I") (List.mem_of_getElem? (i := 16) rfl)) (fun _ h9 => h9) rfl dX4_settle_136 ?_
  refine lv_iload_n hx hb dX4_settle_139 rfl (lv_at hl 7 rfl) ?_
  refine y_ild hx hb hK hP 7 0 rfl rfl (t := z) (by omega) (Nat.le_of_ble_eq_true rfl) dX4_settle_140 ?_
  refine lv_iadd hx hb dX4_settle_141 ?_
  refine y_ist hx hb hK hP hD hS 17 0 rfl rfl (t := nn (a 0 3)) (by omega) (Nat.le_of_ble_eq_true rfl) dX4_settle_142 (fun H locs hP hD hS => ?_)
  have hP : va_P (dC, dI) vwCl [(h0, .inr (4, [.ref (q 1), .ref (q 10), .ref (q 18), .ref (q 22), .ref (q 26), .int (a 0 2), .int (a 0 1), .int (a 0 5), .int (a 0 6), .int (a 0 7), .int (a 0 8)])), (q 1, .inr (3, [.ref (q 2), .ref (q 3), .ref (q 4), .ref (q 5), .ref (q 6), .ref (q 7), .ref (q 8), .ref (q 9), .int (a 0 0)])), (q 2, .inl (cI, 8, .inl (a 1))), (q 3, .inl (cI, 8, .inl (a 2))), (q 4, .inl (cI, 8, .inl (a 3))), (q 5, .inl (cI, 8, .inl (a 4))), (q 6, .inl (cI, 8, .inl (a 5))), (q 7, .inl (cI, 8, .inl (a 6))), (q 8, .inl (cI, 8, .inl (a 7))), (q 9, .inl (cI, 8, .inl (a 8))), (q 10, .inr (2, [.ref (q 11), .ref (q 12), .ref (q 13), .ref (q 14), .ref (q 15), .ref (q 16), .ref (q 17), .int (a 0 3 + 1)])), (q 11, .inl (cI, 100, .inl (upd (a 10) (nn (a 0 3)) (nI z)))), (q 12, .inl (cF, 100, .inr (.inr (.inl (fun j => shF (upd (a 13) (nn (a 0 3)) (a 9 kd) j)))))), (q 13, .inl (cI, 100, .inl (upd (a 14) (nn (a 0 3)) (a 0 2)))), (q 14, .inl (cI, 100, .inl (fun j => upd (a 11) (nn (a 0 3)) (nI x) j - a 12 j))), (q 15, .inl (cI, 100, .inl (fun j => upd (a 15) (nn (a 0 3)) (sFee a kd (nI x)) j - a 16 j))), (q 16, .inl (cI, 100, .inl (upd (a 17) (nn (a 0 3)) (sHeld a z kd (nI x))))), (q 17, .inl (cI, 100, .inl (upd (a 18) (nn (a 0 3)) ((a 0 1) + ((a 6) z))))), (q 18, .inr (1, [.ref (q 19), .ref (q 20), .ref (q 21), .int (a 0 4)])), (q 19, .inl (cI, capOf (nn (a 0 4)), .inl (a 20))), (q 20, .inl (cI, capOf (nn (a 0 4)), .inl (a 19))), (q 21, .inl (cI, capOf (nn (a 0 4)), .inl (a 21))), (q 22, .inr (0, [.ref (q 23), .ref (q 24), .ref (q 25), .int (nI k)])), (q 23, .inl (cI, 8, .inl (jc))), (q 24, .inl (cI, 256, .inl (js))), (q 25, .inl (cI, 256, .inl (jv))), (q 26, .inl (cF, 4, .inr (.inr (.inl (fun j => shF (a 9 j))))))] H := hP
  have hD : va_D A [(h0, .inr (4, [.ref (q 1), .ref (q 10), .ref (q 18), .ref (q 22), .ref (q 26), .int (a 0 2), .int (a 0 1), .int (a 0 5), .int (a 0 6), .int (a 0 7), .int (a 0 8)])), (q 1, .inr (3, [.ref (q 2), .ref (q 3), .ref (q 4), .ref (q 5), .ref (q 6), .ref (q 7), .ref (q 8), .ref (q 9), .int (a 0 0)])), (q 2, .inl (cI, 8, .inl (a 1))), (q 3, .inl (cI, 8, .inl (a 2))), (q 4, .inl (cI, 8, .inl (a 3))), (q 5, .inl (cI, 8, .inl (a 4))), (q 6, .inl (cI, 8, .inl (a 5))), (q 7, .inl (cI, 8, .inl (a 6))), (q 8, .inl (cI, 8, .inl (a 7))), (q 9, .inl (cI, 8, .inl (a 8))), (q 10, .inr (2, [.ref (q 11), .ref (q 12), .ref (q 13), .ref (q 14), .ref (q 15), .ref (q 16), .ref (q 17), .int (a 0 3 + 1)])), (q 11, .inl (cI, 100, .inl (upd (a 10) (nn (a 0 3)) (nI z)))), (q 12, .inl (cF, 100, .inr (.inr (.inl (fun j => shF (upd (a 13) (nn (a 0 3)) (a 9 kd) j)))))), (q 13, .inl (cI, 100, .inl (upd (a 14) (nn (a 0 3)) (a 0 2)))), (q 14, .inl (cI, 100, .inl (fun j => upd (a 11) (nn (a 0 3)) (nI x) j - a 12 j))), (q 15, .inl (cI, 100, .inl (fun j => upd (a 15) (nn (a 0 3)) (sFee a kd (nI x)) j - a 16 j))), (q 16, .inl (cI, 100, .inl (upd (a 17) (nn (a 0 3)) (sHeld a z kd (nI x))))), (q 17, .inl (cI, 100, .inl (upd (a 18) (nn (a 0 3)) ((a 0 1) + ((a 6) z))))), (q 18, .inr (1, [.ref (q 19), .ref (q 20), .ref (q 21), .int (a 0 4)])), (q 19, .inl (cI, capOf (nn (a 0 4)), .inl (a 20))), (q 20, .inl (cI, capOf (nn (a 0 4)), .inl (a 19))), (q 21, .inl (cI, capOf (nn (a 0 4)), .inl (a 21))), (q 22, .inr (0, [.ref (q 23), .ref (q 24), .ref (q 25), .int (nI k)])), (q 23, .inl (cI, 8, .inl (jc))), (q 24, .inl (cI, 256, .inl (js))), (q 25, .inl (cI, 256, .inl (jv))), (q 26, .inl (cF, 4, .inr (.inr (.inl (fun j => shF (a 9 j))))))] := hD
  refine lv_aload_n hx hb dX4_settle_143 rfl (lv_at hl 6 rfl) ?_
  refine lv_dup hx hb dX4_settle_144 rfl ?_
  refine va_get (D := (dC, dI)) (ci := 4) (v := .int (a 0 5)) (C := RX4) (T := TX4) (N := 11) hx hb hts hiX4 hown hK hP 0 rfl rfl 7 (by decide) (hts (.fieldLink RX4 201 "Payoutnet" "received" "I") (List.mem_of_getElem? (i := 17) rfl)) (fun _ h9 => h9) rfl dX4_settle_145 ?_
  refine lv_iload_n hx hb dX4_settle_148 rfl (lv_at hl 9 rfl) ?_
  refine lv_iadd hx hb dX4_settle_149 ?_
  refine va_put (D := (dC, dI)) (ci := 4) (v := .int ((a 0 5) + (nI x))) (ty := .int) (C := RX4) (T := TX4) (N := 11) hx hb hts hiX4 tyX4 tyX4_ok nmX4 hown hK hP hD hS 0 rfl rfl 7 (by decide) (hts (.fieldLink RX4 201 "Payoutnet" "received" "I") (List.mem_of_getElem? (i := 17) rfl)) (fun _ h9 => h9) rfl (tyX4_ok 7 (by decide)) rfl rfl (Nat.le_of_ble_eq_true rfl) dX4_settle_150 (fun H locs hP hD hS => ?_)
  have hP : va_P (dC, dI) vwCl [(h0, .inr (4, [.ref (q 1), .ref (q 10), .ref (q 18), .ref (q 22), .ref (q 26), .int (a 0 2), .int (a 0 1), .int ((a 0 5) + (nI x)), .int (a 0 6), .int (a 0 7), .int (a 0 8)])), (q 1, .inr (3, [.ref (q 2), .ref (q 3), .ref (q 4), .ref (q 5), .ref (q 6), .ref (q 7), .ref (q 8), .ref (q 9), .int (a 0 0)])), (q 2, .inl (cI, 8, .inl (a 1))), (q 3, .inl (cI, 8, .inl (a 2))), (q 4, .inl (cI, 8, .inl (a 3))), (q 5, .inl (cI, 8, .inl (a 4))), (q 6, .inl (cI, 8, .inl (a 5))), (q 7, .inl (cI, 8, .inl (a 6))), (q 8, .inl (cI, 8, .inl (a 7))), (q 9, .inl (cI, 8, .inl (a 8))), (q 10, .inr (2, [.ref (q 11), .ref (q 12), .ref (q 13), .ref (q 14), .ref (q 15), .ref (q 16), .ref (q 17), .int (a 0 3 + 1)])), (q 11, .inl (cI, 100, .inl (upd (a 10) (nn (a 0 3)) (nI z)))), (q 12, .inl (cF, 100, .inr (.inr (.inl (fun j => shF (upd (a 13) (nn (a 0 3)) (a 9 kd) j)))))), (q 13, .inl (cI, 100, .inl (upd (a 14) (nn (a 0 3)) (a 0 2)))), (q 14, .inl (cI, 100, .inl (fun j => upd (a 11) (nn (a 0 3)) (nI x) j - a 12 j))), (q 15, .inl (cI, 100, .inl (fun j => upd (a 15) (nn (a 0 3)) (sFee a kd (nI x)) j - a 16 j))), (q 16, .inl (cI, 100, .inl (upd (a 17) (nn (a 0 3)) (sHeld a z kd (nI x))))), (q 17, .inl (cI, 100, .inl (upd (a 18) (nn (a 0 3)) ((a 0 1) + ((a 6) z))))), (q 18, .inr (1, [.ref (q 19), .ref (q 20), .ref (q 21), .int (a 0 4)])), (q 19, .inl (cI, capOf (nn (a 0 4)), .inl (a 20))), (q 20, .inl (cI, capOf (nn (a 0 4)), .inl (a 19))), (q 21, .inl (cI, capOf (nn (a 0 4)), .inl (a 21))), (q 22, .inr (0, [.ref (q 23), .ref (q 24), .ref (q 25), .int (nI k)])), (q 23, .inl (cI, 8, .inl (jc))), (q 24, .inl (cI, 256, .inl (js))), (q 25, .inl (cI, 256, .inl (jv))), (q 26, .inl (cF, 4, .inr (.inr (.inl (fun j => shF (a 9 j))))))] H := hP
  have hD : va_D A [(h0, .inr (4, [.ref (q 1), .ref (q 10), .ref (q 18), .ref (q 22), .ref (q 26), .int (a 0 2), .int (a 0 1), .int ((a 0 5) + (nI x)), .int (a 0 6), .int (a 0 7), .int (a 0 8)])), (q 1, .inr (3, [.ref (q 2), .ref (q 3), .ref (q 4), .ref (q 5), .ref (q 6), .ref (q 7), .ref (q 8), .ref (q 9), .int (a 0 0)])), (q 2, .inl (cI, 8, .inl (a 1))), (q 3, .inl (cI, 8, .inl (a 2))), (q 4, .inl (cI, 8, .inl (a 3))), (q 5, .inl (cI, 8, .inl (a 4))), (q 6, .inl (cI, 8, .inl (a 5))), (q 7, .inl (cI, 8, .inl (a 6))), (q 8, .inl (cI, 8, .inl (a 7))), (q 9, .inl (cI, 8, .inl (a 8))), (q 10, .inr (2, [.ref (q 11), .ref (q 12), .ref (q 13), .ref (q 14), .ref (q 15), .ref (q 16), .ref (q 17), .int (a 0 3 + 1)])), (q 11, .inl (cI, 100, .inl (upd (a 10) (nn (a 0 3)) (nI z)))), (q 12, .inl (cF, 100, .inr (.inr (.inl (fun j => shF (upd (a 13) (nn (a 0 3)) (a 9 kd) j)))))), (q 13, .inl (cI, 100, .inl (upd (a 14) (nn (a 0 3)) (a 0 2)))), (q 14, .inl (cI, 100, .inl (fun j => upd (a 11) (nn (a 0 3)) (nI x) j - a 12 j))), (q 15, .inl (cI, 100, .inl (fun j => upd (a 15) (nn (a 0 3)) (sFee a kd (nI x)) j - a 16 j))), (q 16, .inl (cI, 100, .inl (upd (a 17) (nn (a 0 3)) (sHeld a z kd (nI x))))), (q 17, .inl (cI, 100, .inl (upd (a 18) (nn (a 0 3)) ((a 0 1) + ((a 6) z))))), (q 18, .inr (1, [.ref (q 19), .ref (q 20), .ref (q 21), .int (a 0 4)])), (q 19, .inl (cI, capOf (nn (a 0 4)), .inl (a 20))), (q 20, .inl (cI, capOf (nn (a 0 4)), .inl (a 19))), (q 21, .inl (cI, capOf (nn (a 0 4)), .inl (a 21))), (q 22, .inr (0, [.ref (q 23), .ref (q 24), .ref (q 25), .int (nI k)])), (q 23, .inl (cI, 8, .inl (jc))), (q 24, .inl (cI, 256, .inl (js))), (q 25, .inl (cI, 256, .inl (jv))), (q 26, .inl (cF, 4, .inr (.inr (.inl (fun j => shF (a 9 j))))))] := hD
  refine lv_aload_n hx hb dX4_settle_153 rfl (lv_at hl 6 rfl) ?_
  refine lv_dup hx hb dX4_settle_154 rfl ?_
  refine va_get (D := (dC, dI)) (ci := 4) (v := .int (a 0 8)) (C := RX4) (T := TX4) (N := 11) hx hb hts hiX4 hown hK hP 0 rfl rfl 10 (by decide) (hts (.fieldLink RX4 158 "Payoutnet" "taxes" "I") (List.mem_of_getElem? (i := 18) rfl)) (fun _ h9 => h9) rfl dX4_settle_155 ?_
  refine lv_iload hx hb dX4_settle_158 (lv_at hl 4 rfl) ?_
  refine lv_iadd hx hb dX4_settle_160 ?_
  refine va_put (D := (dC, dI)) (ci := 4) (v := .int ((a 0 8) + (sTax a (nI x)))) (ty := .int) (C := RX4) (T := TX4) (N := 11) hx hb hts hiX4 tyX4 tyX4_ok nmX4 hown hK hP hD hS 0 rfl rfl 10 (by decide) (hts (.fieldLink RX4 158 "Payoutnet" "taxes" "I") (List.mem_of_getElem? (i := 18) rfl)) (fun _ h9 => h9) rfl (tyX4_ok 10 (by decide)) rfl rfl (Nat.le_of_ble_eq_true rfl) dX4_settle_161 (fun H locs hP hD hS => ?_)
  have hP : va_P (dC, dI) vwCl [(h0, .inr (4, [.ref (q 1), .ref (q 10), .ref (q 18), .ref (q 22), .ref (q 26), .int (a 0 2), .int (a 0 1), .int ((a 0 5) + (nI x)), .int (a 0 6), .int (a 0 7), .int ((a 0 8) + (sTax a (nI x)))])), (q 1, .inr (3, [.ref (q 2), .ref (q 3), .ref (q 4), .ref (q 5), .ref (q 6), .ref (q 7), .ref (q 8), .ref (q 9), .int (a 0 0)])), (q 2, .inl (cI, 8, .inl (a 1))), (q 3, .inl (cI, 8, .inl (a 2))), (q 4, .inl (cI, 8, .inl (a 3))), (q 5, .inl (cI, 8, .inl (a 4))), (q 6, .inl (cI, 8, .inl (a 5))), (q 7, .inl (cI, 8, .inl (a 6))), (q 8, .inl (cI, 8, .inl (a 7))), (q 9, .inl (cI, 8, .inl (a 8))), (q 10, .inr (2, [.ref (q 11), .ref (q 12), .ref (q 13), .ref (q 14), .ref (q 15), .ref (q 16), .ref (q 17), .int (a 0 3 + 1)])), (q 11, .inl (cI, 100, .inl (upd (a 10) (nn (a 0 3)) (nI z)))), (q 12, .inl (cF, 100, .inr (.inr (.inl (fun j => shF (upd (a 13) (nn (a 0 3)) (a 9 kd) j)))))), (q 13, .inl (cI, 100, .inl (upd (a 14) (nn (a 0 3)) (a 0 2)))), (q 14, .inl (cI, 100, .inl (fun j => upd (a 11) (nn (a 0 3)) (nI x) j - a 12 j))), (q 15, .inl (cI, 100, .inl (fun j => upd (a 15) (nn (a 0 3)) (sFee a kd (nI x)) j - a 16 j))), (q 16, .inl (cI, 100, .inl (upd (a 17) (nn (a 0 3)) (sHeld a z kd (nI x))))), (q 17, .inl (cI, 100, .inl (upd (a 18) (nn (a 0 3)) ((a 0 1) + ((a 6) z))))), (q 18, .inr (1, [.ref (q 19), .ref (q 20), .ref (q 21), .int (a 0 4)])), (q 19, .inl (cI, capOf (nn (a 0 4)), .inl (a 20))), (q 20, .inl (cI, capOf (nn (a 0 4)), .inl (a 19))), (q 21, .inl (cI, capOf (nn (a 0 4)), .inl (a 21))), (q 22, .inr (0, [.ref (q 23), .ref (q 24), .ref (q 25), .int (nI k)])), (q 23, .inl (cI, 8, .inl (jc))), (q 24, .inl (cI, 256, .inl (js))), (q 25, .inl (cI, 256, .inl (jv))), (q 26, .inl (cF, 4, .inr (.inr (.inl (fun j => shF (a 9 j))))))] H := hP
  have hD : va_D A [(h0, .inr (4, [.ref (q 1), .ref (q 10), .ref (q 18), .ref (q 22), .ref (q 26), .int (a 0 2), .int (a 0 1), .int ((a 0 5) + (nI x)), .int (a 0 6), .int (a 0 7), .int ((a 0 8) + (sTax a (nI x)))])), (q 1, .inr (3, [.ref (q 2), .ref (q 3), .ref (q 4), .ref (q 5), .ref (q 6), .ref (q 7), .ref (q 8), .ref (q 9), .int (a 0 0)])), (q 2, .inl (cI, 8, .inl (a 1))), (q 3, .inl (cI, 8, .inl (a 2))), (q 4, .inl (cI, 8, .inl (a 3))), (q 5, .inl (cI, 8, .inl (a 4))), (q 6, .inl (cI, 8, .inl (a 5))), (q 7, .inl (cI, 8, .inl (a 6))), (q 8, .inl (cI, 8, .inl (a 7))), (q 9, .inl (cI, 8, .inl (a 8))), (q 10, .inr (2, [.ref (q 11), .ref (q 12), .ref (q 13), .ref (q 14), .ref (q 15), .ref (q 16), .ref (q 17), .int (a 0 3 + 1)])), (q 11, .inl (cI, 100, .inl (upd (a 10) (nn (a 0 3)) (nI z)))), (q 12, .inl (cF, 100, .inr (.inr (.inl (fun j => shF (upd (a 13) (nn (a 0 3)) (a 9 kd) j)))))), (q 13, .inl (cI, 100, .inl (upd (a 14) (nn (a 0 3)) (a 0 2)))), (q 14, .inl (cI, 100, .inl (fun j => upd (a 11) (nn (a 0 3)) (nI x) j - a 12 j))), (q 15, .inl (cI, 100, .inl (fun j => upd (a 15) (nn (a 0 3)) (sFee a kd (nI x)) j - a 16 j))), (q 16, .inl (cI, 100, .inl (upd (a 17) (nn (a 0 3)) (sHeld a z kd (nI x))))), (q 17, .inl (cI, 100, .inl (upd (a 18) (nn (a 0 3)) ((a 0 1) + ((a 6) z))))), (q 18, .inr (1, [.ref (q 19), .ref (q 20), .ref (q 21), .int (a 0 4)])), (q 19, .inl (cI, capOf (nn (a 0 4)), .inl (a 20))), (q 20, .inl (cI, capOf (nn (a 0 4)), .inl (a 19))), (q 21, .inl (cI, capOf (nn (a 0 4)), .inl (a 21))), (q 22, .inr (0, [.ref (q 23), .ref (q 24), .ref (q 25), .int (nI k)])), (q 23, .inl (cI, 8, .inl (jc))), (q 24, .inl (cI, 256, .inl (js))), (q 25, .inl (cI, 256, .inl (jv))), (q 26, .inl (cF, 4, .inr (.inr (.inl (fun j => shF (a 9 j))))))] := hD
  refine lv_aload_n hx hb dX4_settle_164 rfl (lv_at hl 6 rfl) ?_
  refine lv_dup hx hb dX4_settle_165 rfl ?_
  refine va_get (D := (dC, dI)) (ci := 4) (v := .int (a 0 7)) (C := RX4) (T := TX4) (N := 11) hx hb hts hiX4 hown hK hP 0 rfl rfl 9 (by decide) (hts (.fieldLink RX4 161 "Payoutnet" "fees" "I") (List.mem_of_getElem? (i := 19) rfl)) (fun _ h9 => h9) rfl dX4_settle_166 ?_
  refine lv_iload hx hb dX4_settle_169 (lv_at hl 3 rfl) ?_
  refine lv_iadd hx hb dX4_settle_171 ?_
  refine va_put (D := (dC, dI)) (ci := 4) (v := .int ((a 0 7) + (sFee a kd (nI x)))) (ty := .int) (C := RX4) (T := TX4) (N := 11) hx hb hts hiX4 tyX4 tyX4_ok nmX4 hown hK hP hD hS 0 rfl rfl 9 (by decide) (hts (.fieldLink RX4 161 "Payoutnet" "fees" "I") (List.mem_of_getElem? (i := 19) rfl)) (fun _ h9 => h9) rfl (tyX4_ok 9 (by decide)) rfl rfl (Nat.le_of_ble_eq_true rfl) dX4_settle_172 (fun H locs hP hD hS => ?_)
  have hP : va_P (dC, dI) vwCl [(h0, .inr (4, [.ref (q 1), .ref (q 10), .ref (q 18), .ref (q 22), .ref (q 26), .int (a 0 2), .int (a 0 1), .int ((a 0 5) + (nI x)), .int (a 0 6), .int ((a 0 7) + (sFee a kd (nI x))), .int ((a 0 8) + (sTax a (nI x)))])), (q 1, .inr (3, [.ref (q 2), .ref (q 3), .ref (q 4), .ref (q 5), .ref (q 6), .ref (q 7), .ref (q 8), .ref (q 9), .int (a 0 0)])), (q 2, .inl (cI, 8, .inl (a 1))), (q 3, .inl (cI, 8, .inl (a 2))), (q 4, .inl (cI, 8, .inl (a 3))), (q 5, .inl (cI, 8, .inl (a 4))), (q 6, .inl (cI, 8, .inl (a 5))), (q 7, .inl (cI, 8, .inl (a 6))), (q 8, .inl (cI, 8, .inl (a 7))), (q 9, .inl (cI, 8, .inl (a 8))), (q 10, .inr (2, [.ref (q 11), .ref (q 12), .ref (q 13), .ref (q 14), .ref (q 15), .ref (q 16), .ref (q 17), .int (a 0 3 + 1)])), (q 11, .inl (cI, 100, .inl (upd (a 10) (nn (a 0 3)) (nI z)))), (q 12, .inl (cF, 100, .inr (.inr (.inl (fun j => shF (upd (a 13) (nn (a 0 3)) (a 9 kd) j)))))), (q 13, .inl (cI, 100, .inl (upd (a 14) (nn (a 0 3)) (a 0 2)))), (q 14, .inl (cI, 100, .inl (fun j => upd (a 11) (nn (a 0 3)) (nI x) j - a 12 j))), (q 15, .inl (cI, 100, .inl (fun j => upd (a 15) (nn (a 0 3)) (sFee a kd (nI x)) j - a 16 j))), (q 16, .inl (cI, 100, .inl (upd (a 17) (nn (a 0 3)) (sHeld a z kd (nI x))))), (q 17, .inl (cI, 100, .inl (upd (a 18) (nn (a 0 3)) ((a 0 1) + ((a 6) z))))), (q 18, .inr (1, [.ref (q 19), .ref (q 20), .ref (q 21), .int (a 0 4)])), (q 19, .inl (cI, capOf (nn (a 0 4)), .inl (a 20))), (q 20, .inl (cI, capOf (nn (a 0 4)), .inl (a 19))), (q 21, .inl (cI, capOf (nn (a 0 4)), .inl (a 21))), (q 22, .inr (0, [.ref (q 23), .ref (q 24), .ref (q 25), .int (nI k)])), (q 23, .inl (cI, 8, .inl (jc))), (q 24, .inl (cI, 256, .inl (js))), (q 25, .inl (cI, 256, .inl (jv))), (q 26, .inl (cF, 4, .inr (.inr (.inl (fun j => shF (a 9 j))))))] H := hP
  have hD : va_D A [(h0, .inr (4, [.ref (q 1), .ref (q 10), .ref (q 18), .ref (q 22), .ref (q 26), .int (a 0 2), .int (a 0 1), .int ((a 0 5) + (nI x)), .int (a 0 6), .int ((a 0 7) + (sFee a kd (nI x))), .int ((a 0 8) + (sTax a (nI x)))])), (q 1, .inr (3, [.ref (q 2), .ref (q 3), .ref (q 4), .ref (q 5), .ref (q 6), .ref (q 7), .ref (q 8), .ref (q 9), .int (a 0 0)])), (q 2, .inl (cI, 8, .inl (a 1))), (q 3, .inl (cI, 8, .inl (a 2))), (q 4, .inl (cI, 8, .inl (a 3))), (q 5, .inl (cI, 8, .inl (a 4))), (q 6, .inl (cI, 8, .inl (a 5))), (q 7, .inl (cI, 8, .inl (a 6))), (q 8, .inl (cI, 8, .inl (a 7))), (q 9, .inl (cI, 8, .inl (a 8))), (q 10, .inr (2, [.ref (q 11), .ref (q 12), .ref (q 13), .ref (q 14), .ref (q 15), .ref (q 16), .ref (q 17), .int (a 0 3 + 1)])), (q 11, .inl (cI, 100, .inl (upd (a 10) (nn (a 0 3)) (nI z)))), (q 12, .inl (cF, 100, .inr (.inr (.inl (fun j => shF (upd (a 13) (nn (a 0 3)) (a 9 kd) j)))))), (q 13, .inl (cI, 100, .inl (upd (a 14) (nn (a 0 3)) (a 0 2)))), (q 14, .inl (cI, 100, .inl (fun j => upd (a 11) (nn (a 0 3)) (nI x) j - a 12 j))), (q 15, .inl (cI, 100, .inl (fun j => upd (a 15) (nn (a 0 3)) (sFee a kd (nI x)) j - a 16 j))), (q 16, .inl (cI, 100, .inl (upd (a 17) (nn (a 0 3)) (sHeld a z kd (nI x))))), (q 17, .inl (cI, 100, .inl (upd (a 18) (nn (a 0 3)) ((a 0 1) + ((a 6) z))))), (q 18, .inr (1, [.ref (q 19), .ref (q 20), .ref (q 21), .int (a 0 4)])), (q 19, .inl (cI, capOf (nn (a 0 4)), .inl (a 20))), (q 20, .inl (cI, capOf (nn (a 0 4)), .inl (a 19))), (q 21, .inl (cI, capOf (nn (a 0 4)), .inl (a 21))), (q 22, .inr (0, [.ref (q 23), .ref (q 24), .ref (q 25), .int (nI k)])), (q 23, .inl (cI, 8, .inl (jc))), (q 24, .inl (cI, 256, .inl (js))), (q 25, .inl (cI, 256, .inl (jv))), (q 26, .inl (cF, 4, .inr (.inr (.inl (fun j => shF (a 9 j))))))] := hD
  have hP : va_P (dC, dI) vwCl (WC cI cF h0 q (sSale a z kd (nI x) (nn (a 0 3))) jc js jv k (capOf (nn (a 0 4)))) H := hP
  have hD : va_D A (WC cI cF h0 q (sSale a z kd (nI x) (nn (a 0 3))) jc js jv k (capOf (nn (a 0 4)))) := hD
  have hP : va_P (dC, dI) vwCl (WC cI cF h0 q (sSale a z kd (nI x) (nn (a 0 3))) jc js jv k (capOf (nn ((sSale a z kd (nI x) (nn (a 0 3))) 0 4)))) H := hP
  have hD : va_D A (WC cI cF h0 q (sSale a z kd (nI x) (nn (a 0 3))) jc js jv k (capOf (nn ((sSale a z kd (nI x) (nn (a 0 3))) 0 4)))) := hD
  have hB2 := okB_sale hB hz hkd hx1 hn
  have hC2 : okC (sSale a z kd (nI x) (nn (a 0 3))) jc js jv k := hC
  refine lv_aload_n hx hb dX4_settle_175 rfl (lv_at hl 6 rfl) ?_
  refine lv_iload_n hx hb dX4_settle_176 rfl (lv_at hl 7 rfl) ?_
  refine lv_iload hx hb dX4_settle_177 (lv_at hl 2 rfl) ?_
  refine lv_iload hx hb dX4_settle_179 (lv_at hl 1 rfl) ?_
  refine lv_isub hx hb dX4_settle_181 ?_
  have hFc := y_free hD hS hA
  refine va_callv (va_runV (As := [.int (nI z), .int ((sLeft a kd (nI x)) - (sHeld a z kd (nI x)))]) (rest := []) ⟨hx, hb, hml, hown, hts⟩ (c_X4_post l dC dI cI cF h0 q H.size (sSale a z kd (nI x) (nn (a 0 3))) jc js jv k hC2 hB2 z hz (sLeft a kd (nI x) - sHeld a z kd (nI x))) (cwV 2 hts gX4_settle_X4_post rfl rfl rfl (by decide +kernel) ⟨Nat.le_of_ble_eq_true rfl, Nat.le_of_ble_eq_true rfl⟩) ⟨pcW_blind, va_recv hK hP (ci := 4) (q0 := 0) rfl rfl, fun U hU hW => pcW_pre hP hD hK hU hW⟩ rfl rfl hl.1 rfl (lv_room (Nat.le_of_ble_eq_true rfl)) dX4_settle_182 ⟨(Nat.zero_le _), (Nat.zero_le _)⟩) hS (fun q _ h => hFc q h) hFc (fun u t H1 locs ht hvm hw hB1 hz1 hk1 hS => ?_)
  obtain ⟨q1, jc1, js1, jv1, k1, hC1, hP, hK1, hD1⟩ := hB1
  rw [ht] at hP
  have hD := hD1.weaken (fun kk qq _ h => hFc qq.1 h)
  generalize H1 = H at hP hS ⊢
  have hC1 : okC (sSettle a z kd (nI x)) jc1 js1 jv1 k1 := hC1
  have hP : va_P (dC, dI) vwCl (WC cI cF h0 q1 (sSettle a z kd (nI x)) jc1 js1 jv1 k1 (capOf (nn ((sSettle a z kd (nI x)) 0 4)))) H := hP
  have hD : va_D A (WC cI cF h0 q1 (sSettle a z kd (nI x)) jc1 js1 jv1 k1 (capOf (nn ((sSettle a z kd (nI x)) 0 4)))) := hD
  refine lv_iload hx hb dX4_settle_185 (lv_at hl 0 rfl) ?_
  have hP9 := hP
  have hD9 := hD
  have hK9 := hK
  exact W.iret (v := nI (nn (a 0 3))) hx hb hr (fun t ht hW => ⟨⟨nI (nn (a 0 3)), (), rfl, rfl, atC_in hC1 (atW_end hP9 hD9 hK9 ht hW)⟩, hS.F ht⟩) hS.2.2 dX4_settle_187
