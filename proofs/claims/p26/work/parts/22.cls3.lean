theorem y_oneI {D : va_G} {cl : List vw_C} {U : State} {cI cA : ClassId} {tys : List (ClassId × FieldType)} {i j : Nat} (h : va_K D cl tys U) (h1 : tys[i]? = some (cI, .int)) (h2 : tys[j]? = some (cA, .int)) : cA = cI :=
  Option.some.inj ((h.2 j _ h2).2.symm.trans (h.2 i _ h1).2)
theorem cpy_all {f : Nat → Int32} {n : Nat} (h : ∀ j, n ≤ j → f j = 0) : va_cpy f (fun _ => 0) 0 0 n = f := by
  funext j
  unfold va_cpy
  by_cases hj : j < n
  · rw [if_pos ⟨Nat.zero_le _, by omega⟩]
    congr 1
    omega
  · rw [if_neg (fun q => hj (by omega)), h j (by omega)]
set_option maxHeartbeats 4000000 in
set_option maxRecDepth 100000 in
theorem c_J7_copyOf_59c91 (l : Launch) (dC : Nat → ClassId) (dI : Nat → Nat → Nat) (cI : ClassId) (p0 sz n : Nat) (f : Nat → Int32) (hn1 : 1 ≤ n) (hn2 : n ≤ 1024) (hf0 : ∀ j, n ≤ j → f j = 0) : Met l yJ7_copyOf_59c91 wsJ7_copyOf_59c91 ({ frames := 2, cells := 1, slots := n * 2, locals := 40 } : Room) (va_Pc [.ref p0, .int (nI (n * 2))] (pcW dC dI [(cI, .int)] [(p0, .inl (cI, n, .inl (f)))] sz)) (va_Qr (fun _ : Unit => True) (fun _ r t => atW dC dI [(cI, .int)] (va_A [(p0, .inl (cI, n, .inl (f)))] sz) [(p0, .inl (cI, n, .inl f)), (r, .inl (cI, n * 2, .inl f))] t) (va_A [(p0, .inl (cI, n, .inl (f)))] sz)) 1 (n * 2) (va_A [(p0, .inl (cI, n, .inl (f)))] sz) := by
  refine Met.ofW (cc := cJ7_copyOf_59c91) (maxL := 3) (ret := (some (.array .int))) (by decide) rfl ?_
  intro p e s m args below meth c s₁ B hml hv
  obtain ⟨rfl, hsz, hP, hK, hD0⟩ := hv
  have hx := B.exec
  have hb := B.bytes
  have hr := B.returns
  have hts := atoms_spec (ws := wsJ7_copyOf_59c91) B.pre
  have hown : s.vm.findClass RJ7 = some m.cls := findClass_of_methodNamed B.named
  have hlocks := B.notSynchronized
  subst hsz
  have hD := hD0.self (sz := s.heap.size)
  generalize hAe : va_A [(p0, .inl (cI, n, .inl (f)))] s.heap.size = A at hD ⊢
  have hA : ∀ q : Nat, s.heap.size ≤ q → A q := fun q h => by rw [← hAe]; exact Or.inr h
  have hS : va_S A s.heap s.heap [] := va_S.rf
  have hl := lv_entry ([.ref p0, .int (nI (n * 2))]) (n := 3) (Nat.le_of_ble_eq_true rfl)
  rw [lg_entry_eq]
  generalize (lg_sl ([.ref p0, .int (nI (n * 2))]) ++ List.replicate (3 - (lg_sl ([.ref p0, .int (nI (n * 2))])).length) Slot.unset).toArray = ls at hl ⊢
  have hl : lv_has ls 3 [(0, .ref p0), (1, .int (nI (n * 2)))] := hl
  have hP : va_P (dC, dI) vwCl [(p0, .inl (cI, n, .inl (f)))] s.heap := hP
  refine y_enter (A := A) hP (fun H hP hS => ?_)
  refine lv_iload_n hx hb dJ7_copyOf_59c91_0 rfl (lv_at hl 1 rfl) ?_
  refine lv_aload_n hx hb dJ7_copyOf_59c91_1 rfl (lv_at hl 0 rfl) ?_
  refine va_alen (v := nI n) hx hb hK hP 0 0 rfl rfl rfl dJ7_copyOf_59c91_2 ?_
  refine lv_icmp_ne (tgt := 14) hx hb dJ7_copyOf_59c91_3 (by decide) (fun c_1 => ?_) (fun c_1 => ?_)
  · refine lv_iload_n hx hb dJ7_copyOf_59c91_14 rfl (lv_at hl 1 rfl) ?_
    refine va_newa (atype := .int) (ty := .int) (a0 := (n * 2, .inl (fun _ => 0))) (N' := n * 2) hx hb (hts (.arrayClass .int) (List.mem_of_getElem? (i := 7) rfl)) rfl hK hP hD hS hA (fun _ => rfl) (nI_pos (by omega)) (nI_clamp (by omega)) (by show n * 2 * 4 ≤ _; omega) (Nat.le_of_ble_eq_true rfl) (by show 0 + n * 2 ≤ n * 2; omega) dJ7_copyOf_59c91_15 (fun r0 cA H hK hP hD hS => ?_)
    have eA : cA = cI := y_oneI hK (i := 0) (j := 1) rfl rfl
    subst eA
    have hP : va_P (dC, dI) vwCl [(p0, .inl (cA, n, .inl (f))), (r0, .inl (cA, n * 2, .inl (fun _ => 0)))] H := hP
    have hD : va_D A [(p0, .inl (cA, n, .inl (f))), (r0, .inl (cA, n * 2, .inl (fun _ => 0)))] := hD
    refine lv_astore_n (lv' := [(2, .ref r0), (0, .ref p0), (1, .int (nI (n * 2)))]) hx hb dJ7_copyOf_59c91_17 rfl hl (by decide) rfl (fun ls hl => ?_)
    refine lv_aload_n hx hb dJ7_copyOf_59c91_18 rfl (lv_at hl 1 rfl) ?_
    refine lv_iconst (v := 0) hx hb dJ7_copyOf_59c91_19 (by decide) ?_
    refine lv_aload_n hx hb dJ7_copyOf_59c91_20 rfl (lv_at hl 0 rfl) ?_
    refine lv_iconst (v := 0) hx hb dJ7_copyOf_59c91_21 (by decide) ?_
    refine lv_aload_n hx hb dJ7_copyOf_59c91_22 rfl (lv_at hl 1 rfl) ?_
    refine va_alen (v := nI n) hx hb hK hP 0 0 rfl rfl rfl dJ7_copyOf_59c91_23 ?_
    refine lv_iload_n hx hb dJ7_copyOf_59c91_24 rfl (lv_at hl 2 rfl) ?_
    refine va_mmin hx hb (hml.trans hl.1.symm) hown (hts (.methodLink RJ7 304 Lib.Math.min.name) (List.mem_of_getElem? (i := 8) rfl)) (hts (.static Lib.Math.min.name) (List.mem_of_getElem? (i := 9) rfl)) (hts (.initialized "java/lang/Math") (List.mem_of_getElem? (i := 10) rfl)) (hts (.code Lib.Math.min.name Lib.Math.min.code 2 (some .int)) (List.mem_of_getElem? (i := 11) rfl)) (Nat.le_of_ble_eq_true rfl) (Nat.le_of_ble_eq_true rfl) (Nat.le_of_ble_eq_true rfl) (by show 0 + n * 2 ≤ n * 2; omega) dJ7_copyOf_59c91_25 ?_
    refine y_topi (y := nI n) (if_neg (fun q9 => absurd ((nI_ltI (by omega) (by omega)).mp q9) (by omega))) ?_
    refine va_copyi (ty := .int) hx hb (hml.trans hl.1.symm) hown (hts (.methodLink RJ7 150 arraycopyName) (List.mem_of_getElem? (i := 12) rfl)) (hts (.native arraycopyName) (List.mem_of_getElem? (i := 13) rfl)) (hts (.static arraycopyName) (List.mem_of_getElem? (i := 14) rfl)) (hts (.initialized "java/lang/System") (List.mem_of_getElem? (i := 15) rfl)) hK hP hD hS 0 1 0 1 rfl rfl rfl rfl rfl (by decide) (by decide) (nI_pos (by omega)) (by rw [nI_clamp (by omega)]; show 0 + n ≤ n; omega) (by rw [nI_clamp (by omega)]; show 0 + n ≤ n * 2; omega) (fun _ _ => rfl) (Nat.le_of_ble_eq_true rfl) (Nat.le_of_ble_eq_true rfl) dJ7_copyOf_59c91_28 (fun H locs hP hD hS => ?_)
    rw [nI_clamp (show n < 2 ^ 31 by omega), show (0 : Int32).toNatClampNeg = 0 from rfl, cpy_all hf0] at hP hD
    have hP : va_P (dC, dI) vwCl [(p0, .inl (cA, n, .inl (f))), (r0, .inl (cA, n * 2, .inl (f)))] H := hP
    have hD : va_D A [(p0, .inl (cA, n, .inl (f))), (r0, .inl (cA, n * 2, .inl (f)))] := hD
    refine lv_aload_n hx hb dJ7_copyOf_59c91_31 rfl (lv_at hl 0 rfl) ?_
    have hK9 := hK.sub (tys' := [(cA, .int)]) [0] rfl
    refine W.widen (k := 1) (n := n * 2) (Nat.le_of_ble_eq_true rfl) (by show 0 + n * 2 ≤ n * 2; omega) ?_
    exact W.aret hx hb hr (Or.inr ⟨_, rfl⟩) (Or.inr ⟨_, rfl⟩) (fun t ht hW => ⟨⟨(), r0, rfl, trivial, atW_end hP hD hK9 ht hW⟩, hS.F ht⟩) hS.2.2 dJ7_copyOf_59c91_32
  · exact absurd ((nI_eq (by omega) (by omega)).mp (Decidable.not_not.mp (fun q9 => q9 c_1))) (by omega)
set_option maxHeartbeats 4000000 in
set_option maxRecDepth 100000 in
theorem c_X1_grow (l : Launch) (dC : Nat → ClassId) (dI : Nat → Nat → Nat) (cI : ClassId) (h0 p1 p2 p3 sz : Nat) (f1 f2 f3 : Nat → Int32) (mm n : Nat) (hn1 : 1 ≤ n) (hn2 : n ≤ 1024) (hz : ∀ j, n ≤ j → f1 j = 0 ∧ f2 j = 0 ∧ f3 j = 0) : Met l yX1_grow wsX1_grow ({ frames := 3, cells := 3, slots := n * 6, locals := 62 } : Room) (va_Pc [.ref h0] (pcW dC dI [(cI, .int)] [(h0, .inr (1, [.ref p1, .ref p2, .ref p3, .int (nI mm)])), (p1, .inl (cI, n, .inl (f1))), (p2, .inl (cI, n, .inl (f2))), (p3, .inl (cI, n, .inl (f3)))] sz)) (va_Qv (fun _ : Nat × Nat × Nat => True) (fun u t => atW dC dI [(cI, .int)] (va_A [(h0, .inr (1, [.ref p1, .ref p2, .ref p3, .int (nI mm)])), (p1, .inl (cI, n, .inl (f1))), (p2, .inl (cI, n, .inl (f2))), (p3, .inl (cI, n, .inl (f3)))] sz) [(h0, .inr (1, [.ref u.1, .ref u.2.1, .ref u.2.2, .int (nI mm)])), (u.1, .inl (cI, n * 2, .inl (f1))), (u.2.1, .inl (cI, n * 2, .inl (f2))), (u.2.2, .inl (cI, n * 2, .inl (f3)))] t) (va_A [(h0, .inr (1, [.ref p1, .ref p2, .ref p3, .int (nI mm)])), (p1, .inl (cI, n, .inl (f1))), (p2, .inl (cI, n, .inl (f2))), (p3, .inl (cI, n, .inl (f3)))] sz)) 3 (n * 6) (va_A [(h0, .inr (1, [.ref p1, .ref p2, .ref p3, .int (nI mm)])), (p1, .inl (cI, n, .inl (f1))), (p2, .inl (cI, n, .inl (f2))), (p3, .inl (cI, n, .inl (f3)))] sz) := by
  refine Met.ofW (cc := cX1_grow) (maxL := 2) (ret := none) (by decide) rfl ?_
  intro p e s m args below meth c s₁ B hml hv
  obtain ⟨rfl, hsz, hP, hK, hD0⟩ := hv
  have hx := B.exec
  have hb := B.bytes
  have hr := B.returns
  have hts := atoms_spec (ws := wsX1_grow) B.pre
  have hown : s.vm.findClass RX1 = some m.cls := findClass_of_methodNamed B.named
  have hlocks := B.notSynchronized
  subst hsz
  have hD := hD0.self (sz := s.heap.size)
  generalize hAe : va_A [(h0, .inr (1, [.ref p1, .ref p2, .ref p3, .int (nI mm)])), (p1, .inl (cI, n, .inl (f1))), (p2, .inl (cI, n, .inl (f2))), (p3, .inl (cI, n, .inl (f3)))] s.heap.size = A at hD ⊢
  have hA : ∀ q : Nat, s.heap.size ≤ q → A q := fun q h => by rw [← hAe]; exact Or.inr h
  have hS : va_S A s.heap s.heap [] := va_S.rf
  have hl := lv_entry ([.ref h0]) (n := 2) (Nat.le_of_ble_eq_true rfl)
  rw [lg_entry_eq]
  generalize (lg_sl ([.ref h0]) ++ List.replicate (2 - (lg_sl ([.ref h0])).length) Slot.unset).toArray = ls at hl ⊢
  have hl : lv_has ls 2 [(0, .ref h0)] := hl
  have hiX1 : ∀ w ∈ wsX10, w ∈ wsX1_grow := fun w h => List.mem_cons_of_mem _ (List.mem_append_right _ h)
  have hP : va_P (dC, dI) vwCl [(h0, .inr (1, [.ref p1, .ref p2, .ref p3, .int (nI mm)])), (p1, .inl (cI, n, .inl (f1))), (p2, .inl (cI, n, .inl (f2))), (p3, .inl (cI, n, .inl (f3)))] s.heap := hP
  refine y_enter (A := A) hP (fun H hP hS => ?_)
  refine lv_aload_n hx hb dX1_grow_0 rfl (lv_at hl 0 rfl) ?_
  refine va_get (D := (dC, dI)) (ci := 1) (v := .ref p2) (C := RX1) (T := TX1) (N := 4) hx hb hts hiX1 hown hK hP 0 rfl rfl 1 (by decide) (hts (.fieldLink RX1 13 "Payoutnet$Payouts" "cents" "[I") (List.mem_of_getElem? (i := 1) rfl)) (fun _ h9 => h9) rfl dX1_grow_1 ?_
  refine va_alen (v := nI n) hx hb hK hP 2 0 rfl rfl rfl dX1_grow_4 ?_
  refine lv_iconst (v := 2) hx hb dX1_grow_5 (by decide) ?_
  refine lv_imul hx hb dX1_grow_6 ?_
  refine y_topi (y := nI (n * 2)) (by rw [show (2 : Int32) = nI 2 from rfl, pk_mul]) ?_
  refine lv_istore_n (lv' := [(1, .int (nI (n * 2))), (0, .ref h0)]) hx hb dX1_grow_7 rfl hl (by decide) rfl (fun ls hl => ?_)
  refine lv_aload_n hx hb dX1_grow_8 rfl (lv_at hl 1 rfl) ?_
  refine lv_aload_n hx hb dX1_grow_9 rfl (lv_at hl 1 rfl) ?_
  refine va_get (D := (dC, dI)) (ci := 1) (v := .ref p1) (C := RX1) (T := TX1) (N := 4) hx hb hts hiX1 hown hK hP 0 rfl rfl 0 (by decide) (hts (.fieldLink RX1 7 "Payoutnet$Payouts" "seller" "[I") (List.mem_of_getElem? (i := 2) rfl)) (fun _ h9 => h9) rfl dX1_grow_10 ?_
  refine lv_iload_n hx hb dX1_grow_13 rfl (lv_at hl 0 rfl) ?_
  have hPc := hP.sub (ws' := [(p1, .inl (cI, n, .inl (f1)))]) [1] rfl
  have hDc := hD.sub (ws' := [(p1, .inl (cI, n, .inl (f1)))]) [1] (by decide) rfl
  have hFc := va_free (wc := [(p1, .inl (cI, n, .inl (f1)))]) hD hS hA [1] rfl
  have hKc := hK.sub (tys' := [(cI, .int)]) [0] rfl
  refine va_callr (va_runS (As := [.ref p1, .int (nI (n * 2))]) (rest := [.ref h0]) ⟨hx, hb, hml, hown, hts⟩ (c_J7_copyOf_59c91 l dC dI cI p1 H.size n f1 hn1 hn2 (fun j hj => (hz j hj).1)) (va_cwS 2 hts gX1_grow_J7_copyOf_59c91 rfl rfl rfl (by decide +kernel) ⟨Nat.le_of_ble_eq_true rfl, Nat.le_of_ble_eq_true rfl⟩) ⟨pcW_blind, fun U hU hW => pcW_pre hPc hDc hKc hU hW⟩ rfl rfl hl.1 rfl (lv_room (Nat.le_of_ble_eq_true rfl)) dX1_grow_14 ⟨Nat.le_of_ble_eq_true rfl, (by show 0 + n * 2 ≤ n * 6; omega)⟩) hS (fun q _ h => hFc q h) hFc (fun u r1 t H1 locs ht hvm hw hB hz1 hk1 hS => ?_)
  obtain ⟨hP1, hK1, hD1⟩ := hB
  rw [ht] at hP1
  obtain ⟨hP, hD⟩ := va_join (wr := [(h0, .inr (1, [.ref p1, .ref p2, .ref p3, .int (nI mm)])), (p2, .inl (cI, n, .inl (f2))), (p3, .inl (cI, n, .inl (f3)))]) (w1 := [(p1, .inl (cI, n, .inl (f1))), (r1, .inl (cI, n * 2, .inl (f1)))]) hP hD [1] [0, 2, 3] rfl rfl (by decide) (by decide) hk1 hFc hP1 hD1
  generalize H1 = H at hP hS ⊢
  have hP := hP.sub (ws' := [(h0, .inr (1, [.ref p1, .ref p2, .ref p3, .int (nI mm)])), (p1, .inl (cI, n, .inl (f1))), (p2, .inl (cI, n, .inl (f2))), (p3, .inl (cI, n, .inl (f3))), (r1, .inl (cI, n * 2, .inl (f1)))]) [0, 3, 1, 2, 4] rfl
  have hD := hD.sub (ws' := [(h0, .inr (1, [.ref p1, .ref p2, .ref p3, .int (nI mm)])), (p1, .inl (cI, n, .inl (f1))), (p2, .inl (cI, n, .inl (f2))), (p3, .inl (cI, n, .inl (f3))), (r1, .inl (cI, n * 2, .inl (f1)))]) [0, 3, 1, 2, 4] (by decide) rfl
  refine va_put (D := (dC, dI)) (ci := 1) (v := .ref r1) (ty := .array .int) (C := RX1) (T := TX1) (N := 4) hx hb hts hiX1 tyX1 tyX1_ok nmX1 hown hK hP hD hS 0 rfl rfl 0 (by decide) (hts (.fieldLink RX1 7 "Payoutnet$Payouts" "seller" "[I") (List.mem_of_getElem? (i := 2) rfl)) (fun _ h9 => h9) rfl (tyX1_ok 0 (by decide)) rfl rfl (Nat.le_of_ble_eq_true rfl) dX1_grow_17 (fun H locs hP hD hS => ?_)
  have hP : va_P (dC, dI) vwCl [(h0, .inr (1, [.ref r1, .ref p2, .ref p3, .int (nI mm)])), (p1, .inl (cI, n, .inl (f1))), (p2, .inl (cI, n, .inl (f2))), (p3, .inl (cI, n, .inl (f3))), (r1, .inl (cI, n * 2, .inl (f1)))] H := hP
  have hD : va_D A [(h0, .inr (1, [.ref r1, .ref p2, .ref p3, .int (nI mm)])), (p1, .inl (cI, n, .inl (f1))), (p2, .inl (cI, n, .inl (f2))), (p3, .inl (cI, n, .inl (f3))), (r1, .inl (cI, n * 2, .inl (f1)))] := hD
  refine lv_aload_n hx hb dX1_grow_20 rfl (lv_at hl 1 rfl) ?_
  refine lv_aload_n hx hb dX1_grow_21 rfl (lv_at hl 1 rfl) ?_
  refine va_get (D := (dC, dI)) (ci := 1) (v := .ref p2) (C := RX1) (T := TX1) (N := 4) hx hb hts hiX1 hown hK hP 0 rfl rfl 1 (by decide) (hts (.fieldLink RX1 13 "Payoutnet$Payouts" "cents" "[I") (List.mem_of_getElem? (i := 1) rfl)) (fun _ h9 => h9) rfl dX1_grow_22 ?_
  refine lv_iload_n hx hb dX1_grow_25 rfl (lv_at hl 0 rfl) ?_
  have hPc := hP.sub (ws' := [(p2, .inl (cI, n, .inl (f2)))]) [2] rfl
  have hDc := hD.sub (ws' := [(p2, .inl (cI, n, .inl (f2)))]) [2] (by decide) rfl
  have hFc := va_free (wc := [(p2, .inl (cI, n, .inl (f2)))]) hD hS hA [2] rfl
  have hKc := hK.sub (tys' := [(cI, .int)]) [0] rfl
  refine va_callr (va_runS (As := [.ref p2, .int (nI (n * 2))]) (rest := [.ref h0]) ⟨hx, hb, hml, hown, hts⟩ (c_J7_copyOf_59c91 l dC dI cI p2 H.size n f2 hn1 hn2 (fun j hj => (hz j hj).2.1)) (va_cwS 2 hts gX1_grow_J7_copyOf_59c91 rfl rfl rfl (by decide +kernel) ⟨Nat.le_of_ble_eq_true rfl, Nat.le_of_ble_eq_true rfl⟩) ⟨pcW_blind, fun U hU hW => pcW_pre hPc hDc hKc hU hW⟩ rfl rfl hl.1 rfl (lv_room (Nat.le_of_ble_eq_true rfl)) dX1_grow_26 ⟨Nat.le_of_ble_eq_true rfl, (by show (0 + n * 2) + n * 2 ≤ n * 6; omega)⟩) hS (fun q _ h => hFc q h) hFc (fun u r2 t H1 locs ht hvm hw hB hz1 hk1 hS => ?_)
  obtain ⟨hP1, hK1, hD1⟩ := hB
  rw [ht] at hP1
  obtain ⟨hP, hD⟩ := va_join (wr := [(h0, .inr (1, [.ref r1, .ref p2, .ref p3, .int (nI mm)])), (p1, .inl (cI, n, .inl (f1))), (p3, .inl (cI, n, .inl (f3))), (r1, .inl (cI, n * 2, .inl (f1)))]) (w1 := [(p2, .inl (cI, n, .inl (f2))), (r2, .inl (cI, n * 2, .inl (f2)))]) hP hD [2] [0, 1, 3, 4] rfl rfl (by decide) (by decide) hk1 hFc hP1 hD1
  generalize H1 = H at hP hS ⊢
  have hP := hP.sub (ws' := [(h0, .inr (1, [.ref r1, .ref p2, .ref p3, .int (nI mm)])), (p1, .inl (cI, n, .inl (f1))), (p2, .inl (cI, n, .inl (f2))), (p3, .inl (cI, n, .inl (f3))), (r1, .inl (cI, n * 2, .inl (f1))), (r2, .inl (cI, n * 2, .inl (f2)))]) [0, 1, 4, 2, 3, 5] rfl
  have hD := hD.sub (ws' := [(h0, .inr (1, [.ref r1, .ref p2, .ref p3, .int (nI mm)])), (p1, .inl (cI, n, .inl (f1))), (p2, .inl (cI, n, .inl (f2))), (p3, .inl (cI, n, .inl (f3))), (r1, .inl (cI, n * 2, .inl (f1))), (r2, .inl (cI, n * 2, .inl (f2)))]) [0, 1, 4, 2, 3, 5] (by decide) rfl
  refine va_put (D := (dC, dI)) (ci := 1) (v := .ref r2) (ty := .array .int) (C := RX1) (T := TX1) (N := 4) hx hb hts hiX1 tyX1 tyX1_ok nmX1 hown hK hP hD hS 0 rfl rfl 1 (by decide) (hts (.fieldLink RX1 13 "Payoutnet$Payouts" "cents" "[I") (List.mem_of_getElem? (i := 1) rfl)) (fun _ h9 => h9) rfl (tyX1_ok 1 (by decide)) rfl rfl (Nat.le_of_ble_eq_true rfl) dX1_grow_29 (fun H locs hP hD hS => ?_)
  have hP : va_P (dC, dI) vwCl [(h0, .inr (1, [.ref r1, .ref r2, .ref p3, .int (nI mm)])), (p1, .inl (cI, n, .inl (f1))), (p2, .inl (cI, n, .inl (f2))), (p3, .inl (cI, n, .inl (f3))), (r1, .inl (cI, n * 2, .inl (f1))), (r2, .inl (cI, n * 2, .inl (f2)))] H := hP
  have hD : va_D A [(h0, .inr (1, [.ref r1, .ref r2, .ref p3, .int (nI mm)])), (p1, .inl (cI, n, .inl (f1))), (p2, .inl (cI, n, .inl (f2))), (p3, .inl (cI, n, .inl (f3))), (r1, .inl (cI, n * 2, .inl (f1))), (r2, .inl (cI, n * 2, .inl (f2)))] := hD
  refine lv_aload_n hx hb dX1_grow_32 rfl (lv_at hl 1 rfl) ?_
  refine lv_aload_n hx hb dX1_grow_33 rfl (lv_at hl 1 rfl) ?_
  refine va_get (D := (dC, dI)) (ci := 1) (v := .ref p3) (C := RX1) (T := TX1) (N := 4) hx hb hts hiX1 hown hK hP 0 rfl rfl 2 (by decide) (hts (.fieldLink RX1 16 "Payoutnet$Payouts" "failed" "[I") (List.mem_of_getElem? (i := 3) rfl)) (fun _ h9 => h9) rfl dX1_grow_34 ?_
  refine lv_iload_n hx hb dX1_grow_37 rfl (lv_at hl 0 rfl) ?_
  have hPc := hP.sub (ws' := [(p3, .inl (cI, n, .inl (f3)))]) [3] rfl
  have hDc := hD.sub (ws' := [(p3, .inl (cI, n, .inl (f3)))]) [3] (by decide) rfl
  have hFc := va_free (wc := [(p3, .inl (cI, n, .inl (f3)))]) hD hS hA [3] rfl
  have hKc := hK.sub (tys' := [(cI, .int)]) [0] rfl
  refine va_callr (va_runS (As := [.ref p3, .int (nI (n * 2))]) (rest := [.ref h0]) ⟨hx, hb, hml, hown, hts⟩ (c_J7_copyOf_59c91 l dC dI cI p3 H.size n f3 hn1 hn2 (fun j hj => (hz j hj).2.2)) (va_cwS 2 hts gX1_grow_J7_copyOf_59c91 rfl rfl rfl (by decide +kernel) ⟨Nat.le_of_ble_eq_true rfl, Nat.le_of_ble_eq_true rfl⟩) ⟨pcW_blind, fun U hU hW => pcW_pre hPc hDc hKc hU hW⟩ rfl rfl hl.1 rfl (lv_room (Nat.le_of_ble_eq_true rfl)) dX1_grow_38 ⟨Nat.le_of_ble_eq_true rfl, (by show (0 + n * 2 + n * 2) + n * 2 ≤ n * 6; omega)⟩) hS (fun q _ h => hFc q h) hFc (fun u r3 t H1 locs ht hvm hw hB hz1 hk1 hS => ?_)
  obtain ⟨hP1, hK1, hD1⟩ := hB
  rw [ht] at hP1
  obtain ⟨hP, hD⟩ := va_join (wr := [(h0, .inr (1, [.ref r1, .ref r2, .ref p3, .int (nI mm)])), (p1, .inl (cI, n, .inl (f1))), (p2, .inl (cI, n, .inl (f2))), (r1, .inl (cI, n * 2, .inl (f1))), (r2, .inl (cI, n * 2, .inl (f2)))]) (w1 := [(p3, .inl (cI, n, .inl (f3))), (r3, .inl (cI, n * 2, .inl (f3)))]) hP hD [3] [0, 1, 2, 4, 5] rfl rfl (by decide) (by decide) hk1 hFc hP1 hD1
  generalize H1 = H at hP hS ⊢
  have hP := hP.sub (ws' := [(h0, .inr (1, [.ref r1, .ref r2, .ref p3, .int (nI mm)])), (p1, .inl (cI, n, .inl (f1))), (p2, .inl (cI, n, .inl (f2))), (p3, .inl (cI, n, .inl (f3))), (r1, .inl (cI, n * 2, .inl (f1))), (r2, .inl (cI, n * 2, .inl (f2))), (r3, .inl (cI, n * 2, .inl (f3)))]) [0, 1, 2, 5, 3, 4, 6] rfl
  have hD := hD.sub (ws' := [(h0, .inr (1, [.ref r1, .ref r2, .ref p3, .int (nI mm)])), (p1, .inl (cI, n, .inl (f1))), (p2, .inl (cI, n, .inl (f2))), (p3, .inl (cI, n, .inl (f3))), (r1, .inl (cI, n * 2, .inl (f1))), (r2, .inl (cI, n * 2, .inl (f2))), (r3, .inl (cI, n * 2, .inl (f3)))]) [0, 1, 2, 5, 3, 4, 6] (by decide) rfl
  refine va_put (D := (dC, dI)) (ci := 1) (v := .ref r3) (ty := .array .int) (C := RX1) (T := TX1) (N := 4) hx hb hts hiX1 tyX1 tyX1_ok nmX1 hown hK hP hD hS 0 rfl rfl 2 (by decide) (hts (.fieldLink RX1 16 "Payoutnet$Payouts" "failed" "[I") (List.mem_of_getElem? (i := 3) rfl)) (fun _ h9 => h9) rfl (tyX1_ok 2 (by decide)) rfl rfl (Nat.le_of_ble_eq_true rfl) dX1_grow_41 (fun H locs hP hD hS => ?_)
  have hP : va_P (dC, dI) vwCl [(h0, .inr (1, [.ref r1, .ref r2, .ref r3, .int (nI mm)])), (p1, .inl (cI, n, .inl (f1))), (p2, .inl (cI, n, .inl (f2))), (p3, .inl (cI, n, .inl (f3))), (r1, .inl (cI, n * 2, .inl (f1))), (r2, .inl (cI, n * 2, .inl (f2))), (r3, .inl (cI, n * 2, .inl (f3)))] H := hP
  have hD : va_D A [(h0, .inr (1, [.ref r1, .ref r2, .ref r3, .int (nI mm)])), (p1, .inl (cI, n, .inl (f1))), (p2, .inl (cI, n, .inl (f2))), (p3, .inl (cI, n, .inl (f3))), (r1, .inl (cI, n * 2, .inl (f1))), (r2, .inl (cI, n * 2, .inl (f2))), (r3, .inl (cI, n * 2, .inl (f3)))] := hD
  have hP := hP.sub (ws' := [(h0, .inr (1, [.ref r1, .ref r2, .ref r3, .int (nI mm)])), (r1, .inl (cI, n * 2, .inl (f1))), (r2, .inl (cI, n * 2, .inl (f2))), (r3, .inl (cI, n * 2, .inl (f3)))]) [0, 4, 5, 6] rfl
  have hD := hD.sub (ws' := [(h0, .inr (1, [.ref r1, .ref r2, .ref r3, .int (nI mm)])), (r1, .inl (cI, n * 2, .inl (f1))), (r2, .inl (cI, n * 2, .inl (f2))), (r3, .inl (cI, n * 2, .inl (f3)))]) [0, 4, 5, 6] (by decide) rfl
  refine W.widen (k := 3) (n := n * 6) (Nat.le_of_ble_eq_true rfl) (by show 0 + n * 2 + n * 2 + n * 2 ≤ n * 6; omega) ?_
  have hP9 := hP
  have hD9 := hD
  have hK9 := hK
  exact W.vret hx hb hr (fun t ht hW => ⟨⟨(r1, r2, r3), rfl, trivial, atW_end hP9 hD9 hK9 ht hW⟩, hS.F ht⟩) hS.2.2 dX1_grow_44
set_option maxHeartbeats 4000000 in
set_option maxRecDepth 100000 in
theorem c_X1_enter (l : Launch) (dC : Nat → ClassId) (dI : Nat → Nat → Nat) (cI : ClassId) (h0 p1 p2 p3 sz : Nat) (f1 f2 f3 : Nat → Int32) (mm n : Nat) (zz : Nat) (cv : Int32) (cnt : Int32) (hcnt : cnt = nI mm) (hm : mm + 1 ≤ 1024) (hn : n = capOf mm) (hz : ∀ j, mm ≤ j → f1 j = 0 ∧ f2 j = 0 ∧ f3 j = 0) : Met l yX1_enter wsX1_enter ({ frames := 4, cells := capOf (mm + 1) - capOf mm, slots := (capOf (mm + 1) - capOf mm) * 6, locals := 83 } : Room) (va_Pc [.ref h0, .int (nI zz), .int cv] (pcW dC dI [(cI, .int)] [(h0, .inr (1, [.ref p1, .ref p2, .ref p3, .int cnt])), (p1, .inl (cI, n, .inl (f1))), (p2, .inl (cI, n, .inl (f2))), (p3, .inl (cI, n, .inl (f3)))] sz)) (va_Qi (fun (r : Int32) (_ : Nat × Nat × Nat) => r = 1) (fun u t => atW dC dI [(cI, .int)] (va_A [(h0, .inr (1, [.ref p1, .ref p2, .ref p3, .int cnt])), (p1, .inl (cI, n, .inl (f1))), (p2, .inl (cI, n, .inl (f2))), (p3, .inl (cI, n, .inl (f3)))] sz) [(h0, .inr (1, [.ref u.1, .ref u.2.1, .ref u.2.2, .int (cnt + 1)])), (u.1, .inl (cI, (capOf (mm + 1)), .inl (upd f1 mm (nI zz)))), (u.2.1, .inl (cI, (capOf (mm + 1)), .inl (upd f2 mm cv))), (u.2.2, .inl (cI, (capOf (mm + 1)), .inl (f3)))] t) (va_A [(h0, .inr (1, [.ref p1, .ref p2, .ref p3, .int cnt])), (p1, .inl (cI, n, .inl (f1))), (p2, .inl (cI, n, .inl (f2))), (p3, .inl (cI, n, .inl (f3)))] sz)) (capOf (mm + 1) - capOf mm) ((capOf (mm + 1) - capOf mm) * 6) (va_A [(h0, .inr (1, [.ref p1, .ref p2, .ref p3, .int cnt])), (p1, .inl (cI, n, .inl (f1))), (p2, .inl (cI, n, .inl (f2))), (p3, .inl (cI, n, .inl (f3)))] sz) := by
  refine Met.ofW (cc := cX1_enter) (maxL := 3) (ret := (some .boolean)) (by decide) rfl ?_
  intro p e s m args below meth c s₁ B hml hv
  obtain ⟨rfl, hsz, hP, hK, hD0⟩ := hv
  have hx := B.exec
  have hb := B.bytes
  have hr := B.returns
  have hts := atoms_spec (ws := wsX1_enter) B.pre
  have hown : s.vm.findClass RX1 = some m.cls := findClass_of_methodNamed B.named
  have hlocks := B.notSynchronized
  subst hsz
  have hD := hD0.self (sz := s.heap.size)
  generalize hAe : va_A [(h0, .inr (1, [.ref p1, .ref p2, .ref p3, .int cnt])), (p1, .inl (cI, n, .inl (f1))), (p2, .inl (cI, n, .inl (f2))), (p3, .inl (cI, n, .inl (f3)))] s.heap.size = A at hD ⊢
  have hA : ∀ q : Nat, s.heap.size ≤ q → A q := fun q h => by rw [← hAe]; exact Or.inr h
  have hS : va_S A s.heap s.heap [] := va_S.rf
  have hl := lv_entry ([.ref h0, .int (nI zz), .int cv]) (n := 3) (Nat.le_of_ble_eq_true rfl)
  rw [lg_entry_eq]
  generalize (lg_sl ([.ref h0, .int (nI zz), .int cv]) ++ List.replicate (3 - (lg_sl ([.ref h0, .int (nI zz), .int cv])).length) Slot.unset).toArray = ls at hl ⊢
  have hl : lv_has ls 3 [(0, .ref h0), (1, .int (nI zz)), (2, .int cv)] := hl
  have hiX1 : ∀ w ∈ wsX10, w ∈ wsX1_enter := fun w h => List.mem_cons_of_mem _ (List.mem_append_right _ h)
  have hP : va_P (dC, dI) vwCl [(h0, .inr (1, [.ref p1, .ref p2, .ref p3, .int cnt])), (p1, .inl (cI, n, .inl (f1))), (p2, .inl (cI, n, .inl (f2))), (p3, .inl (cI, n, .inl (f3)))] s.heap := hP
  refine y_enter (A := A) hP (fun H hP hS => ?_)
  subst hcnt
  have hc1 := capOf_le mm
  have hc2 := capOf_32 mm
  have hc3 := capOf_ge (m := mm) (by omega)
  refine lv_aload_n hx hb dX1_enter_0 rfl (lv_at hl 0 rfl) ?_
  refine va_get (D := (dC, dI)) (ci := 1) (v := .int (nI mm)) (C := RX1) (T := TX1) (N := 4) hx hb hts hiX1 hown hK hP 0 rfl rfl 3 (by decide) (hts (.fieldLink RX1 19 "Payoutnet$Payouts" "count" "I") (List.mem_of_getElem? (i := 1) rfl)) (fun _ h9 => h9) rfl dX1_enter_1 ?_
  refine lv_sipush (v := 1024) hx hb dX1_enter_4 (by decide) ?_
  refine lv_icmp_lt (tgt := 12) hx hb dX1_enter_7 (by decide) (fun c_1 => ?_) (fun c_1 => ?_)
  · refine lv_aload_n hx hb dX1_enter_12 rfl (lv_at hl 0 rfl) ?_
    refine va_get (D := (dC, dI)) (ci := 1) (v := .int (nI mm)) (C := RX1) (T := TX1) (N := 4) hx hb hts hiX1 hown hK hP 0 rfl rfl 3 (by decide) (hts (.fieldLink RX1 19 "Payoutnet$Payouts" "count" "I") (List.mem_of_getElem? (i := 1) rfl)) (fun _ h9 => h9) rfl dX1_enter_13 ?_
    refine lv_aload_n hx hb dX1_enter_16 rfl (lv_at hl 0 rfl) ?_
    refine va_get (D := (dC, dI)) (ci := 1) (v := .ref p2) (C := RX1) (T := TX1) (N := 4) hx hb hts hiX1 hown hK hP 0 rfl rfl 1 (by decide) (hts (.fieldLink RX1 13 "Payoutnet$Payouts" "cents" "[I") (List.mem_of_getElem? (i := 2) rfl)) (fun _ h9 => h9) rfl dX1_enter_17 ?_
    refine va_alen (v := nI n) hx hb hK hP 2 0 rfl rfl rfl dX1_enter_20 ?_
    refine lv_icmp_lt (tgt := 28) hx hb dX1_enter_21 (by decide) (fun c_2 => ?_) (fun c_2 => ?_)
    · have hlt : mm < capOf mm := by have := (nI_ltI (a := mm) (b := n) (by omega) (by omega)).mp c_2; omega
      have hst := capOf_stay hlt
      refine lv_aload_n hx hb dX1_enter_28 rfl (lv_at hl 0 rfl) ?_
      refine va_get (D := (dC, dI)) (ci := 1) (v := .ref p1) (C := RX1) (T := TX1) (N := 4) hx hb hts hiX1 hown hK hP 0 rfl rfl 0 (by decide) (hts (.fieldLink RX1 7 "Payoutnet$Payouts" "seller" "[I") (List.mem_of_getElem? (i := 3) rfl)) (fun _ h9 => h9) rfl dX1_enter_29 ?_
      refine lv_aload_n hx hb dX1_enter_32 rfl (lv_at hl 0 rfl) ?_
      refine va_get (D := (dC, dI)) (ci := 1) (v := .int (nI mm)) (C := RX1) (T := TX1) (N := 4) hx hb hts hiX1 hown hK hP 0 rfl rfl 3 (by decide) (hts (.fieldLink RX1 19 "Payoutnet$Payouts" "count" "I") (List.mem_of_getElem? (i := 1) rfl)) (fun _ h9 => h9) rfl dX1_enter_33 ?_
      refine lv_iload_n hx hb dX1_enter_36 rfl (lv_at hl 1 rfl) ?_
      refine y_ist hx hb hK hP hD hS 1 0 rfl rfl (t := mm) (by omega) (by omega) dX1_enter_37 (fun H locs hP hD hS => ?_)
      have hP : va_P (dC, dI) vwCl [(h0, .inr (1, [.ref p1, .ref p2, .ref p3, .int (nI mm)])), (p1, .inl (cI, n, .inl (upd f1 mm (nI zz)))), (p2, .inl (cI, n, .inl (f2))), (p3, .inl (cI, n, .inl (f3)))] H := hP
      have hD : va_D A [(h0, .inr (1, [.ref p1, .ref p2, .ref p3, .int (nI mm)])), (p1, .inl (cI, n, .inl (upd f1 mm (nI zz)))), (p2, .inl (cI, n, .inl (f2))), (p3, .inl (cI, n, .inl (f3)))] := hD
      refine lv_aload_n hx hb dX1_enter_38 rfl (lv_at hl 0 rfl) ?_
      refine va_get (D := (dC, dI)) (ci := 1) (v := .ref p2) (C := RX1) (T := TX1) (N := 4) hx hb hts hiX1 hown hK hP 0 rfl rfl 1 (by decide) (hts (.fieldLink RX1 13 "Payoutnet$Payouts" "cents" "[I") (List.mem_of_getElem? (i := 2) rfl)) (fun _ h9 => h9) rfl dX1_enter_39 ?_
      refine lv_aload_n hx hb dX1_enter_42 rfl (lv_at hl 0 rfl) ?_
      refine va_get (D := (dC, dI)) (ci := 1) (v := .int (nI mm)) (C := RX1) (T := TX1) (N := 4) hx hb hts hiX1 hown hK hP 0 rfl rfl 3 (by decide) (hts (.fieldLink RX1 19 "Payoutnet$Payouts" "count" "I") (List.mem_of_getElem? (i := 1) rfl)) (fun _ h9 => h9) rfl dX1_enter_43 ?_
      refine lv_iload_n hx hb dX1_enter_46 rfl (lv_at hl 2 rfl) ?_
      refine y_ist hx hb hK hP hD hS 2 0 rfl rfl (t := mm) (by omega) (by omega) dX1_enter_47 (fun H locs hP hD hS => ?_)
      have hP : va_P (dC, dI) vwCl [(h0, .inr (1, [.ref p1, .ref p2, .ref p3, .int (nI mm)])), (p1, .inl (cI, n, .inl (upd f1 mm (nI zz)))), (p2, .inl (cI, n, .inl (upd f2 mm cv))), (p3, .inl (cI, n, .inl (f3)))] H := hP
      have hD : va_D A [(h0, .inr (1, [.ref p1, .ref p2, .ref p3, .int (nI mm)])), (p1, .inl (cI, n, .inl (upd f1 mm (nI zz)))), (p2, .inl (cI, n, .inl (upd f2 mm cv))), (p3, .inl (cI, n, .inl (f3)))] := hD
      refine lv_aload_n hx hb dX1_enter_48 rfl (lv_at hl 0 rfl) ?_
      refine lv_dup hx hb dX1_enter_49 rfl ?_
      refine va_get (D := (dC, dI)) (ci := 1) (v := .int (nI mm)) (C := RX1) (T := TX1) (N := 4) hx hb hts hiX1 hown hK hP 0 rfl rfl 3 (by decide) (hts (.fieldLink RX1 19 "Payoutnet$Payouts" "count" "I") (List.mem_of_getElem? (i := 1) rfl)) (fun _ h9 => h9) rfl dX1_enter_50 ?_
      refine lv_iconst (v := 1) hx hb dX1_enter_53 (by decide) ?_
      refine lv_iadd hx hb dX1_enter_54 ?_
      refine va_put (D := (dC, dI)) (ci := 1) (v := .int ((nI mm) + 1)) (ty := .int) (C := RX1) (T := TX1) (N := 4) hx hb hts hiX1 tyX1 tyX1_ok nmX1 hown hK hP hD hS 0 rfl rfl 3 (by decide) (hts (.fieldLink RX1 19 "Payoutnet$Payouts" "count" "I") (List.mem_of_getElem? (i := 1) rfl)) (fun _ h9 => h9) rfl (tyX1_ok 3 (by decide)) rfl rfl (Nat.le_of_ble_eq_true rfl) dX1_enter_55 (fun H locs hP hD hS => ?_)
      have hP : va_P (dC, dI) vwCl [(h0, .inr (1, [.ref p1, .ref p2, .ref p3, .int ((nI mm) + 1)])), (p1, .inl (cI, n, .inl (upd f1 mm (nI zz)))), (p2, .inl (cI, n, .inl (upd f2 mm cv))), (p3, .inl (cI, n, .inl (f3)))] H := hP
      have hD : va_D A [(h0, .inr (1, [.ref p1, .ref p2, .ref p3, .int ((nI mm) + 1)])), (p1, .inl (cI, n, .inl (upd f1 mm (nI zz)))), (p2, .inl (cI, n, .inl (upd f2 mm cv))), (p3, .inl (cI, n, .inl (f3)))] := hD
      refine lv_iconst (v := 1) hx hb dX1_enter_58 (by decide) ?_
      refine W.widen (k := capOf (mm + 1) - capOf mm) (n := (capOf (mm + 1) - capOf mm) * 6) (by omega) (by omega) ?_
      rw [show n = capOf (mm + 1) by omega] at hP hD
      have hP9 := hP
      have hD9 := hD
      have hK9 := hK
      exact W.zret (v := 1) (ty := .boolean) hx hb hr rfl (fun t ht hW => ⟨⟨1, (p1, p2, p3), rfl, rfl, atW_end hP9 hD9 hK9 ht hW⟩, hS.F ht⟩) hS.2.2 dX1_enter_59
    · have hge : capOf mm ≤ mm := by rw [← hn]; exact Nat.le_of_not_lt (fun q9 => c_2 ((nI_ltI (a := mm) (b := n) (by omega) (by omega)).mpr q9))
      obtain ⟨hgr1, hgr2⟩ := capOf_grow hge (by omega)
      refine lv_aload_n hx hb dX1_enter_24 rfl (lv_at hl 0 rfl) ?_
      have hPc := hP.sub (ws' := [(h0, .inr (1, [.ref p1, .ref p2, .ref p3, .int (nI mm)])), (p1, .inl (cI, n, .inl (f1))), (p2, .inl (cI, n, .inl (f2))), (p3, .inl (cI, n, .inl (f3)))]) [0, 1, 2, 3] rfl
      have hDc := hD.sub (ws' := [(h0, .inr (1, [.ref p1, .ref p2, .ref p3, .int (nI mm)])), (p1, .inl (cI, n, .inl (f1))), (p2, .inl (cI, n, .inl (f2))), (p3, .inl (cI, n, .inl (f3)))]) [0, 1, 2, 3] (by decide) rfl
      have hFc := va_free (wc := [(h0, .inr (1, [.ref p1, .ref p2, .ref p3, .int (nI mm)])), (p1, .inl (cI, n, .inl (f1))), (p2, .inl (cI, n, .inl (f2))), (p3, .inl (cI, n, .inl (f3)))]) hD hS hA [0, 1, 2, 3] rfl
      have hKc := hK.sub (tys' := [(cI, .int)]) [0] rfl
      refine va_callv (va_runV (As := []) (rest := []) ⟨hx, hb, hml, hown, hts⟩ (c_X1_grow l dC dI cI h0 p1 p2 p3 H.size f1 f2 f3 mm n (by omega) (by omega) (fun j hj => hz j (by omega))) (cwV 0 hts gX1_enter_X1_grow rfl rfl rfl (by decide +kernel) ⟨Nat.le_of_ble_eq_true rfl, Nat.le_of_ble_eq_true rfl⟩) ⟨pcW_blind, va_recv hKc hPc (ci := 1) (q0 := 0) rfl rfl, fun U hU hW => pcW_pre hPc hDc hKc hU hW⟩ rfl rfl hl.1 rfl (lv_room (Nat.le_of_ble_eq_true rfl)) dX1_enter_25 ⟨(by show 0 + 3 ≤ capOf (mm + 1) - capOf mm; omega), (by show 0 + n * 6 ≤ (capOf (mm + 1) - capOf mm) * 6; omega)⟩) hS (fun q _ h => hFc q h) hFc (fun u t H1 locs ht hvm hw hB hz1 hk1 hS => ?_)
      obtain ⟨r1, r2, r3⟩ := u
      obtain ⟨hP1, hK1, hD1⟩ := hB
      rw [ht] at hP1
      obtain ⟨hP, hD⟩ := va_join (wr := []) (w1 := [(h0, .inr (1, [.ref r1, .ref r2, .ref r3, .int (nI mm)])), (r1, .inl (cI, n * 2, .inl (f1))), (r2, .inl (cI, n * 2, .inl (f2))), (r3, .inl (cI, n * 2, .inl (f3)))]) hP hD [0, 1, 2, 3] [] rfl rfl (by decide) (by decide) hk1 hFc hP1 hD1
      generalize H1 = H at hP hS ⊢
      have hP := hP.sub (ws' := [(h0, .inr (1, [.ref r1, .ref r2, .ref r3, .int (nI mm)])), (r1, .inl (cI, n * 2, .inl (f1))), (r2, .inl (cI, n * 2, .inl (f2))), (r3, .inl (cI, n * 2, .inl (f3)))]) [0, 1, 2, 3] rfl
      have hD := hD.sub (ws' := [(h0, .inr (1, [.ref r1, .ref r2, .ref r3, .int (nI mm)])), (r1, .inl (cI, n * 2, .inl (f1))), (r2, .inl (cI, n * 2, .inl (f2))), (r3, .inl (cI, n * 2, .inl (f3)))]) [0, 1, 2, 3] (by decide) rfl
      refine lv_aload_n hx hb dX1_enter_28 rfl (lv_at hl 0 rfl) ?_
      refine va_get (D := (dC, dI)) (ci := 1) (v := .ref r1) (C := RX1) (T := TX1) (N := 4) hx hb hts hiX1 hown hK hP 0 rfl rfl 0 (by decide) (hts (.fieldLink RX1 7 "Payoutnet$Payouts" "seller" "[I") (List.mem_of_getElem? (i := 3) rfl)) (fun _ h9 => h9) rfl dX1_enter_29 ?_
      refine lv_aload_n hx hb dX1_enter_32 rfl (lv_at hl 0 rfl) ?_
      refine va_get (D := (dC, dI)) (ci := 1) (v := .int (nI mm)) (C := RX1) (T := TX1) (N := 4) hx hb hts hiX1 hown hK hP 0 rfl rfl 3 (by decide) (hts (.fieldLink RX1 19 "Payoutnet$Payouts" "count" "I") (List.mem_of_getElem? (i := 1) rfl)) (fun _ h9 => h9) rfl dX1_enter_33 ?_
      refine lv_iload_n hx hb dX1_enter_36 rfl (lv_at hl 1 rfl) ?_
      refine y_ist hx hb hK hP hD hS 1 0 rfl rfl (t := mm) (by omega) (by omega) dX1_enter_37 (fun H locs hP hD hS => ?_)
      have hP : va_P (dC, dI) vwCl [(h0, .inr (1, [.ref r1, .ref r2, .ref r3, .int (nI mm)])), (r1, .inl (cI, n * 2, .inl (upd f1 mm (nI zz)))), (r2, .inl (cI, n * 2, .inl (f2))), (r3, .inl (cI, n * 2, .inl (f3)))] H := hP
      have hD : va_D A [(h0, .inr (1, [.ref r1, .ref r2, .ref r3, .int (nI mm)])), (r1, .inl (cI, n * 2, .inl (upd f1 mm (nI zz)))), (r2, .inl (cI, n * 2, .inl (f2))), (r3, .inl (cI, n * 2, .inl (f3)))] := hD
      refine lv_aload_n hx hb dX1_enter_38 rfl (lv_at hl 0 rfl) ?_
      refine va_get (D := (dC, dI)) (ci := 1) (v := .ref r2) (C := RX1) (T := TX1) (N := 4) hx hb hts hiX1 hown hK hP 0 rfl rfl 1 (by decide) (hts (.fieldLink RX1 13 "Payoutnet$Payouts" "cents" "[I") (List.mem_of_getElem? (i := 2) rfl)) (fun _ h9 => h9) rfl dX1_enter_39 ?_
      refine lv_aload_n hx hb dX1_enter_42 rfl (lv_at hl 0 rfl) ?_
      refine va_get (D := (dC, dI)) (ci := 1) (v := .int (nI mm)) (C := RX1) (T := TX1) (N := 4) hx hb hts hiX1 hown hK hP 0 rfl rfl 3 (by decide) (hts (.fieldLink RX1 19 "Payoutnet$Payouts" "count" "I") (List.mem_of_getElem? (i := 1) rfl)) (fun _ h9 => h9) rfl dX1_enter_43 ?_
      refine lv_iload_n hx hb dX1_enter_46 rfl (lv_at hl 2 rfl) ?_
      refine y_ist hx hb hK hP hD hS 2 0 rfl rfl (t := mm) (by omega) (by omega) dX1_enter_47 (fun H locs hP hD hS => ?_)
      have hP : va_P (dC, dI) vwCl [(h0, .inr (1, [.ref r1, .ref r2, .ref r3, .int (nI mm)])), (r1, .inl (cI, n * 2, .inl (upd f1 mm (nI zz)))), (r2, .inl (cI, n * 2, .inl (upd f2 mm cv))), (r3, .inl (cI, n * 2, .inl (f3)))] H := hP
      have hD : va_D A [(h0, .inr (1, [.ref r1, .ref r2, .ref r3, .int (nI mm)])), (r1, .inl (cI, n * 2, .inl (upd f1 mm (nI zz)))), (r2, .inl (cI, n * 2, .inl (upd f2 mm cv))), (r3, .inl (cI, n * 2, .inl (f3)))] := hD
      refine lv_aload_n hx hb dX1_enter_48 rfl (lv_at hl 0 rfl) ?_
      refine lv_dup hx hb dX1_enter_49 rfl ?_
      refine va_get (D := (dC, dI)) (ci := 1) (v := .int (nI mm)) (C := RX1) (T := TX1) (N := 4) hx hb hts hiX1 hown hK hP 0 rfl rfl 3 (by decide) (hts (.fieldLink RX1 19 "Payoutnet$Payouts" "count" "I") (List.mem_of_getElem? (i := 1) rfl)) (fun _ h9 => h9) rfl dX1_enter_50 ?_
      refine lv_iconst (v := 1) hx hb dX1_enter_53 (by decide) ?_
      refine lv_iadd hx hb dX1_enter_54 ?_
      refine va_put (D := (dC, dI)) (ci := 1) (v := .int ((nI mm) + 1)) (ty := .int) (C := RX1) (T := TX1) (N := 4) hx hb hts hiX1 tyX1 tyX1_ok nmX1 hown hK hP hD hS 0 rfl rfl 3 (by decide) (hts (.fieldLink RX1 19 "Payoutnet$Payouts" "count" "I") (List.mem_of_getElem? (i := 1) rfl)) (fun _ h9 => h9) rfl (tyX1_ok 3 (by decide)) rfl rfl (Nat.le_of_ble_eq_true rfl) dX1_enter_55 (fun H locs hP hD hS => ?_)
      have hP : va_P (dC, dI) vwCl [(h0, .inr (1, [.ref r1, .ref r2, .ref r3, .int ((nI mm) + 1)])), (r1, .inl (cI, n * 2, .inl (upd f1 mm (nI zz)))), (r2, .inl (cI, n * 2, .inl (upd f2 mm cv))), (r3, .inl (cI, n * 2, .inl (f3)))] H := hP
      have hD : va_D A [(h0, .inr (1, [.ref r1, .ref r2, .ref r3, .int ((nI mm) + 1)])), (r1, .inl (cI, n * 2, .inl (upd f1 mm (nI zz)))), (r2, .inl (cI, n * 2, .inl (upd f2 mm cv))), (r3, .inl (cI, n * 2, .inl (f3)))] := hD
      refine lv_iconst (v := 1) hx hb dX1_enter_58 (by decide) ?_
      refine W.widen (k := capOf (mm + 1) - capOf mm) (n := (capOf (mm + 1) - capOf mm) * 6) (by omega) (by omega) ?_
      rw [show n * 2 = capOf (mm + 1) by omega] at hP hD
      have hP9 := hP
      have hD9 := hD
      have hK9 := hK
      exact W.zret (v := 1) (ty := .boolean) hx hb hr rfl (fun t ht hW => ⟨⟨1, (r1, r2, r3), rfl, rfl, atW_end hP9 hD9 hK9 ht hW⟩, hS.F ht⟩) hS.2.2 dX1_enter_59
  · exact absurd ((nI_ltI (a := mm) (b := 1024) (by omega) (by omega)).mpr (by omega)) c_1
