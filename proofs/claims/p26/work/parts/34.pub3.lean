theorem y_two {p : Program} {l : Launch} {e : Env} {R : Room} {s : State} {m : MethodId} {args : Array Value} {below : List Frame} {meth : Method} {c : Code} {H : Heap} {locs : List Loc} {cells slots : Nat} {Q : State → Prop} {pc : Nat} {ls : Array Slot} {rest : List Value} {v : Value} {x : Int32} (y : Int32) (h : x = y) (k : W p l e R s m args below meth c H locs cells slots Q (F0 m pc ls (v :: .int y :: rest))) : W p l e R s m args below meth c H locs cells slots Q (F0 m pc ls (v :: .int x :: rest)) := h ▸ k
abbrev saleOK (a : yA) (x : Int32) : Prop := 0 ≤ x ∧ x < a 0 3
def kRef (a : yA) (x am : Int32) : Nat := if saleOK a x then if bw am 1 1000000 then if am ≤ a 11 (nn x) - a 12 (nn x) then 0 else 3 else 2 else 1
theorem unr_dn {f g : Nat → Int32} (n : Nat) (x : Int32) : upd (fun j => f j - g j) n (f n - g n - x) = fun j => f j - upd g n (g n + x) j := by
  funext j
  by_cases hj : j = n
  · subst hj; simp only [upd, if_true]; rw [Int32.sub_eq_add_neg, Int32.sub_eq_add_neg, Int32.sub_eq_add_neg, Int32.neg_add, Int32.add_assoc, Int32.sub_eq_add_neg]
  · simp [upd, hj]
set_option maxHeartbeats 4000000 in
set_option maxRecDepth 100000 in
theorem c_X4_refund (l : Launch) (dC : Nat → ClassId) (dI : Nat → Nat → Nat) (cI cF : ClassId) (h0 : Nat) (q : Nat → Nat) (sz : Nat) (a : yA) (jc js jv : Nat → Int32) (k : Nat) (hst : l.stackTraces = false)  (hC : okC a jc js jv k) (hB : okB a) (x am fb : Int32) : vx_Met l yX4_refund wsX4_refund ({ frames := 7, cells := 2, slots := 12, locals := 112 } : Room) (va_Pc [.ref h0, .int x, .int am, .int fb] (pcV dC dI [(cI, .int), (cF, .float)] (WC cI cF h0 q a jc js jv k (capOf (nn (a 0 4)))) sz)) (va_Qi (fun (r : Int32) (_ : Unit) => kRef a x am = 0 ∧ r = sRefund a (nn x) am (decide (¬ fb = 0)) 7 (slr a (nn x))) (fun _ t => atC dC dI cI cF (va_A (WC cI cF h0 q a jc js jv k (capOf (nn (a 0 4)))) sz) h0 (sRefund a (nn x) am (decide (¬ fb = 0))) t) (va_A (WC cI cF h0 q a jc js jv k (capOf (nn (a 0 4)))) sz)) (vx_X (fun _ : Unit => kRef a x am ≠ 0) (fun E _ t => E = eIAS (kRef a x am) ∧ atC dC dI cI cF (va_A (WC cI cF h0 q a jc js jv k (capOf (nn (a 0 4)))) sz) h0 a t) (va_A (WC cI cF h0 q a jc js jv k (capOf (nn (a 0 4)))) sz)) (2) (12) (va_A (WC cI cF h0 q a jc js jv k (capOf (nn (a 0 4)))) sz) := by
  refine vx_ofW (cc := cX4_refund) (maxL := 7) (ret := (some .int)) (by decide) rfl ?_
  intro p e s m args below meth c s₁ B hml htab hv
  obtain ⟨rfl, ⟨hsz, hP, hK, hD0⟩, hV⟩ := hv
  have hx := B.exec
  have hb := B.bytes
  have hr := B.returns
  have hts := atoms_spec (ws := wsX4_refund) B.pre
  have hown : s.vm.findClass RX4 = some m.cls := findClass_of_methodNamed B.named
  have hlocks := B.notSynchronized
  subst hsz
  have hD := hD0.self (sz := s.heap.size)
  generalize hAe : va_A [(h0, .inr (4, [.ref (q 1), .ref (q 10), .ref (q 18), .ref (q 22), .ref (q 26), .int (a 0 2), .int (a 0 1), .int (a 0 5), .int (a 0 6), .int (a 0 7), .int (a 0 8)])), (q 1, .inr (3, [.ref (q 2), .ref (q 3), .ref (q 4), .ref (q 5), .ref (q 6), .ref (q 7), .ref (q 8), .ref (q 9), .int (a 0 0)])), (q 2, .inl (cI, 8, .inl (a 1))), (q 3, .inl (cI, 8, .inl (a 2))), (q 4, .inl (cI, 8, .inl (a 3))), (q 5, .inl (cI, 8, .inl (a 4))), (q 6, .inl (cI, 8, .inl (a 5))), (q 7, .inl (cI, 8, .inl (a 6))), (q 8, .inl (cI, 8, .inl (a 7))), (q 9, .inl (cI, 8, .inl (a 8))), (q 10, .inr (2, [.ref (q 11), .ref (q 12), .ref (q 13), .ref (q 14), .ref (q 15), .ref (q 16), .ref (q 17), .int (a 0 3)])), (q 11, .inl (cI, 100, .inl (a 10))), (q 12, .inl (cF, 100, .inr (.inr (.inl (fun j => shF (a 13 j)))))), (q 13, .inl (cI, 100, .inl (a 14))), (q 14, .inl (cI, 100, .inl (fun j => a 11 j - a 12 j))), (q 15, .inl (cI, 100, .inl (fun j => a 15 j - a 16 j))), (q 16, .inl (cI, 100, .inl (a 17))), (q 17, .inl (cI, 100, .inl (a 18))), (q 18, .inr (1, [.ref (q 19), .ref (q 20), .ref (q 21), .int (a 0 4)])), (q 19, .inl (cI, capOf (nn (a 0 4)), .inl (a 20))), (q 20, .inl (cI, capOf (nn (a 0 4)), .inl (a 19))), (q 21, .inl (cI, capOf (nn (a 0 4)), .inl (a 21))), (q 22, .inr (0, [.ref (q 23), .ref (q 24), .ref (q 25), .int (nI k)])), (q 23, .inl (cI, 8, .inl (jc))), (q 24, .inl (cI, 256, .inl (js))), (q 25, .inl (cI, 256, .inl (jv))), (q 26, .inl (cF, 4, .inr (.inr (.inl (fun j => shF (a 9 j))))))] s.heap.size = A at hD hV ⊢
  have hA : ∀ q : Nat, s.heap.size ≤ q → A q := fun q h => by rw [← hAe]; exact Or.inr h
  have hS : va_S A s.heap s.heap [] := va_S.rf
  have hl := lv_entry ([.ref h0, .int x, .int am, .int fb]) (n := 7) (Nat.le_of_ble_eq_true rfl)
  rw [lg_entry_eq]
  generalize (lg_sl ([.ref h0, .int x, .int am, .int fb]) ++ List.replicate (7 - (lg_sl ([.ref h0, .int x, .int am, .int fb])).length) Slot.unset).toArray = ls at hl ⊢
  have hl : lv_has ls 7 [(0, .ref h0), (1, .int x), (2, .int am), (3, .int fb)] := hl
  have hiX4 : ∀ w ∈ wsX40, w ∈ wsX4_refund := fun w h => List.mem_cons_of_mem _ (List.mem_append_left _ (List.mem_append_left _ (List.mem_append_left _ (List.mem_append_left _ (List.mem_append_left _ (List.mem_append_left _ (List.mem_append_right _ h)))))))
  have hiX3 : ∀ w ∈ wsX30, w ∈ wsX4_refund := fun w h => List.mem_cons_of_mem _ (List.mem_append_left _ (List.mem_append_left _ (List.mem_append_left _ (List.mem_append_left _ (List.mem_append_right _ h)))))
  have hiX2 : ∀ w ∈ wsX20, w ∈ wsX4_refund := fun w h => List.mem_cons_of_mem _ (List.mem_append_left _ (List.mem_append_left _ (List.mem_append_left _ (List.mem_append_left _ (List.mem_append_left _ (List.mem_append_right _ h))))))
  have hP : va_P (dC, dI) vwCl [(h0, .inr (4, [.ref (q 1), .ref (q 10), .ref (q 18), .ref (q 22), .ref (q 26), .int (a 0 2), .int (a 0 1), .int (a 0 5), .int (a 0 6), .int (a 0 7), .int (a 0 8)])), (q 1, .inr (3, [.ref (q 2), .ref (q 3), .ref (q 4), .ref (q 5), .ref (q 6), .ref (q 7), .ref (q 8), .ref (q 9), .int (a 0 0)])), (q 2, .inl (cI, 8, .inl (a 1))), (q 3, .inl (cI, 8, .inl (a 2))), (q 4, .inl (cI, 8, .inl (a 3))), (q 5, .inl (cI, 8, .inl (a 4))), (q 6, .inl (cI, 8, .inl (a 5))), (q 7, .inl (cI, 8, .inl (a 6))), (q 8, .inl (cI, 8, .inl (a 7))), (q 9, .inl (cI, 8, .inl (a 8))), (q 10, .inr (2, [.ref (q 11), .ref (q 12), .ref (q 13), .ref (q 14), .ref (q 15), .ref (q 16), .ref (q 17), .int (a 0 3)])), (q 11, .inl (cI, 100, .inl (a 10))), (q 12, .inl (cF, 100, .inr (.inr (.inl (fun j => shF (a 13 j)))))), (q 13, .inl (cI, 100, .inl (a 14))), (q 14, .inl (cI, 100, .inl (fun j => a 11 j - a 12 j))), (q 15, .inl (cI, 100, .inl (fun j => a 15 j - a 16 j))), (q 16, .inl (cI, 100, .inl (a 17))), (q 17, .inl (cI, 100, .inl (a 18))), (q 18, .inr (1, [.ref (q 19), .ref (q 20), .ref (q 21), .int (a 0 4)])), (q 19, .inl (cI, capOf (nn (a 0 4)), .inl (a 20))), (q 20, .inl (cI, capOf (nn (a 0 4)), .inl (a 19))), (q 21, .inl (cI, capOf (nn (a 0 4)), .inl (a 21))), (q 22, .inr (0, [.ref (q 23), .ref (q 24), .ref (q 25), .int (nI k)])), (q 23, .inl (cI, 8, .inl (jc))), (q 24, .inl (cI, 256, .inl (js))), (q 25, .inl (cI, 256, .inl (jv))), (q 26, .inl (cF, 4, .inr (.inr (.inl (fun j => shF (a 9 j))))))] s.heap := hP
  refine y_enter (A := A) hP (fun H hP hS => ?_)
  have hBk := hB
  refine lv_iload_n hx hb dX4_refund_0 rfl (lv_at hl 1 rfl) ?_
  refine lv_if_lt (tgt := 15) hx hb dX4_refund_1 (by decide) (fun c_1 => ?_) (fun c_1 => ?_)
  · have e1 : kRef a x am = 1 := if_neg (fun h9 => absurd c_1 (Int32.not_lt.mpr h9.1))
    obtain ⟨sa, hstr⟩ := hV.2.2.2 (130, "no such sale") (by decide +kernel)
    have hat : ∀ w ∈ vx_atS RX4 49 exI exN, w.before _ s = true := vx_hat (B := vB) (fun w h => hts w (List.mem_cons_of_mem _ (List.mem_append_left _ (List.mem_append_left _ (List.mem_append_right _ h))))) (by decide +kernel) (okV_use hV)
    exact vx_throwS (cls := exI) (text := "no such sale") (names := exN) (A := A) (sa := sa) hx hb hst hown (by decide +kernel) (by decide +kernel) (hts (.classLink RX4 45 "java/lang/IndexOutOfBoundsException") (List.mem_of_getElem? (i := 1) rfl)) (hts (.initialized "java/lang/IndexOutOfBoundsException") (List.mem_of_getElem? (i := 2) rfl)) hstr hat (by decide +kernel) hV.1 hV.2.1 hS (hl.1.trans hml.symm) dX4_refund_15 dX4_refund_18 dX4_refund_19 dX4_refund_21 dX4_refund_24 (fun x hx9 => (htab x hx9).elim) (Nat.le_of_ble_eq_true rfl) (Nat.le_of_ble_eq_true rfl) (Nat.le_of_ble_eq_true rfl) (Nat.le_of_ble_eq_true rfl) hlocks (fun t hvm9 hz9 hk9 => ⟨(), (by rw [e1]; decide), ⟨(by rw [e1]; exact rfl), atC_in hC (atW_thr hP hD hK hvm9 hk9)⟩, y_F_thr hS hz9 hk9⟩) hS.2.2 (Nat.le_of_ble_eq_true rfl) (Nat.le_of_ble_eq_true rfl)
  · refine lv_iload_n hx hb dX4_refund_4 rfl (lv_at hl 1 rfl) ?_
    refine lv_aload_n hx hb dX4_refund_5 rfl (lv_at hl 0 rfl) ?_
    refine va_get (D := (dC, dI)) (ci := 4) (v := .ref (q 10)) (C := RX4) (T := TX4) (N := 11) hx hb hts hiX4 hown hK hP 0 rfl rfl 1 (by decide) (hts (.fieldLink RX4 19 "Payoutnet" "sales" "LPayoutnet$Sales;") (List.mem_of_getElem? (i := 5) rfl)) (fun _ h9 => h9) rfl dX4_refund_6 ?_
    refine va_get (D := (dC, dI)) (ci := 2) (v := .int (a 0 3)) (C := RX2) (T := TX2) (N := 8) hx hb hts hiX2 hown hK hP 10 rfl rfl 7 (by decide) (hts (.fieldLink RX4 129 "Payoutnet$Sales" "count" "I") (List.mem_of_getElem? (i := 6) rfl)) (fun _ h9 => h9) rfl dX4_refund_9 ?_
    refine lv_icmp_lt (tgt := 25) hx hb dX4_refund_12 (by decide) (fun c_2 => ?_) (fun c_2 => ?_)
    · have hso : saleOK a x := ⟨Int32.not_lt.mp c_1, c_2⟩
      refine lv_iload_n hx hb dX4_refund_25 rfl (lv_at hl 2 rfl) ?_
      refine lv_iconst (v := 1) hx hb dX4_refund_26 (by decide) ?_
      refine lv_ldc hx hb hown (hts (.constant RX4 77 (1000000)) (List.mem_of_getElem? (i := 7) rfl)) dX4_refund_27 ?_
      have e2 : ¬ bw am 1 1000000 → kRef a x am = 2 := fun h9 => by unfold kRef; rw [if_pos hso, if_neg h9]
      have hFc := y_freeE hS hA
      have hK0 := hK.sub (tys' := []) [] rfl
      refine vx_callv (vx_runS (As := [.int am, .int 1, .int 1000000]) (rest := []) ⟨hx, hb, hml, hown, hts⟩ (c_X4_requireBetween l dC dI H.size hst am 1 1000000) (va_cwS 3 hts gX4_refund_X4_requireBetween rfl rfl rfl (by decide +kernel) ⟨Nat.le_of_ble_eq_true rfl, Nat.le_of_ble_eq_true rfl⟩) ⟨pcV_blind, fun U hU hW => pcV_pre va_P_nil (va_D_nil (A := A)) hK0 hV hS hFc hU hW⟩ rfl rfl hl.1 rfl (lv_room (Nat.le_of_ble_eq_true rfl)) dX4_refund_29 ⟨Nat.le_of_ble_eq_true rfl, Nat.le_of_ble_eq_true rfl⟩) hS (fun q _ h => hFc q h) hFc (fun q _ h => hFc q h) (fun E ce q9 u t H1 locs ht hvm hw hBx hz1 hk1 hS hce hcv hcl => ?_) (fun u t H1 locs ht hvm hw hB1 hz1 hk1 hS => ?_)
      · have hE := hBx.1
        have hPx := y_keptE hP hk1
        exact vx_out (fun x hx9 => (htab x hx9).elim) hlocks hce hcv hcl (fun t9 ht9 hvm9 => ⟨(), (by rw [e2 hw]; decide), ⟨(by rw [e2 hw]; exact hE), atC_in hC (⟨by rw [ht9]; exact hPx, va_K.moved hvm9 hK, hD⟩)⟩, hS.F ht9⟩) hS.2.2 (Nat.le_of_ble_eq_true rfl) (Nat.le_of_ble_eq_true rfl)
      · have hP := y_keptE hP hk1
        generalize H1 = H at hP hS ⊢
        have hw3 := hw
        have hwa := hw3
        have hx1 := nat_of (hB 0 3 100 rfl) (by decide) hso.1 hso.2
        have hx8 : nn x < 100 := Nat.lt_of_lt_of_le hx1.2 (hB 0 3 100 rfl).2
        have ha1 := am_nat hwa
        refine lv_iload_n hx hb dX4_refund_32 rfl (lv_at hl 2 rfl) ?_
        refine lv_aload_n hx hb dX4_refund_33 rfl (lv_at hl 0 rfl) ?_
        refine va_get (D := (dC, dI)) (ci := 4) (v := .ref (q 10)) (C := RX4) (T := TX4) (N := 11) hx hb hts hiX4 hown hK hP 0 rfl rfl 1 (by decide) (hts (.fieldLink RX4 19 "Payoutnet" "sales" "LPayoutnet$Sales;") (List.mem_of_getElem? (i := 5) rfl)) (fun _ h9 => h9) rfl dX4_refund_34 ?_
        refine va_get (D := (dC, dI)) (ci := 2) (v := .ref (q 14)) (C := RX2) (T := TX2) (N := 8) hx hb hts hiX2 hown hK hP 10 rfl rfl 3 (by decide) (hts (.fieldLink RX4 132 "Payoutnet$Sales" "unrefunded" "[I") (List.mem_of_getElem? (i := 8) rfl)) (fun _ h9 => h9) rfl dX4_refund_37 ?_
        refine lv_iload_n hx hb dX4_refund_40 rfl (lv_at hl 1 rfl) ?_
        refine y_topi (y := nI (nn x)) hx1.1 ?_
        refine y_ild hx hb hK hP 14 0 rfl rfl (t := nn x) (by omega) (Nat.le_of_ble_eq_true rfl) dX4_refund_41 ?_
        refine lv_icmp_le (tgt := 55) hx hb dX4_refund_42 (by decide) (fun c_4 => ?_) (fun c_4 => ?_)
        · have e0 : kRef a x am = 0 := by unfold kRef; rw [if_pos hso, if_pos hwa, if_pos c_4]
          have hs10 := hB 10 (nn x) 7 rfl
          have hz : slr a (nn x) < 8 := Nat.lt_succ_of_le hs10.2
          have hs13 := hB 13 (nn x) 999 rfl
          obtain ⟨fbb, hfbb⟩ : ∃ z : Bool, z = decide (¬ fb = 0) := ⟨_, rfl⟩
          rw [← hfbb]
          refine lv_aload_n hx hb dX4_refund_55 rfl (lv_at hl 0 rfl) ?_
          refine va_get (D := (dC, dI)) (ci := 4) (v := .ref (q 10)) (C := RX4) (T := TX4) (N := 11) hx hb hts hiX4 hown hK hP 0 rfl rfl 1 (by decide) (hts (.fieldLink RX4 19 "Payoutnet" "sales" "LPayoutnet$Sales;") (List.mem_of_getElem? (i := 5) rfl)) (fun _ h9 => h9) rfl dX4_refund_56 ?_
          refine va_get (D := (dC, dI)) (ci := 2) (v := .ref (q 11)) (C := RX2) (T := TX2) (N := 8) hx hb hts hiX2 hown hK hP 10 rfl rfl 0 (by decide) (hts (.fieldLink RX4 137 "Payoutnet$Sales" "seller" "[I") (List.mem_of_getElem? (i := 9) rfl)) (fun _ h9 => h9) rfl dX4_refund_59 ?_
          refine lv_iload_n hx hb dX4_refund_62 rfl (lv_at hl 1 rfl) ?_
          refine y_topi (y := nI (nn x)) hx1.1 ?_
          refine y_ild hx hb hK hP 11 0 rfl rfl (t := nn x) (by omega) (Nat.le_of_ble_eq_true rfl) dX4_refund_63 ?_
          refine y_topi (y := nI (slr a (nn x))) hs10.1 ?_
          refine lv_istore (lv' := [(4, .int (nI (slr a (nn x)))), (0, .ref h0), (1, .int x), (2, .int am), (3, .int fb)]) hx hb dX4_refund_64 hl (by decide) rfl (fun ls hl => ?_)
          refine lv_iload_n hx hb dX4_refund_66 rfl (lv_at hl 3 rfl) ?_
          refine lv_aload_n hx hb dX4_refund_67 rfl (lv_at hl 1 rfl) ?_
          refine va_get (D := (dC, dI)) (ci := 4) (v := .ref (q 10)) (C := RX4) (T := TX4) (N := 11) hx hb hts hiX4 hown hK hP 0 rfl rfl 1 (by decide) (hts (.fieldLink RX4 19 "Payoutnet" "sales" "LPayoutnet$Sales;") (List.mem_of_getElem? (i := 5) rfl)) (fun _ h9 => h9) rfl dX4_refund_68 ?_
          refine va_get (D := (dC, dI)) (ci := 2) (v := .ref (q 13)) (C := RX2) (T := TX2) (N := 8) hx hb hts hiX2 hown hK hP 10 rfl rfl 2 (by decide) (hts (.fieldLink RX4 140 "Payoutnet$Sales" "taxThousandths" "[I") (List.mem_of_getElem? (i := 10) rfl)) (fun _ h9 => h9) rfl dX4_refund_71 ?_
          refine lv_iload_n hx hb dX4_refund_74 rfl (lv_at hl 2 rfl) ?_
          refine y_topi (y := nI (nn x)) hx1.1 ?_
          refine y_ild hx hb hK hP 13 0 rfl rfl (t := nn x) (by omega) (Nat.le_of_ble_eq_true rfl) dX4_refund_75 ?_
          refine va_calli (va_runS (As := [.int am, .int ((a 14) (nn x))]) (rest := []) ⟨hx, hb, hml, hown, hts⟩ (c_X4_partOf l am (a 14 (nn x))) (va_cwS 2 hts gX4_refund_X4_partOf rfl rfl rfl (by decide +kernel) ⟨Nat.le_of_ble_eq_true rfl, Nat.le_of_ble_eq_true rfl⟩) ⟨pcT_blind, fun U hU hW => pcT_pre⟩ rfl rfl hl.1 rfl (lv_room (Nat.le_of_ble_eq_true rfl)) dX4_refund_76 ⟨Nat.le_of_ble_eq_true rfl, Nat.le_of_ble_eq_true rfl⟩) hS (fun q _ h => h.elim) (fun q h => h.elim) (fun r u t H1 locs ht hvm hw hB1 hz1 hk1 hS => ?_)
          have hP := y_keptP hP hk1
          generalize H1 = H at hP hS ⊢
          refine y_topi (y := sBackT a (nn x) am) hw ?_
          refine lv_istore (lv' := [(5, .int (sBackT a (nn x) am)), (4, .int (nI (slr a (nn x)))), (0, .ref h0), (1, .int x), (2, .int am), (3, .int fb)]) hx hb dX4_refund_79 hl (by decide) rfl (fun ls hl => ?_)
          refine lv_iload_n hx hb dX4_refund_81 rfl (lv_at hl 5 rfl) ?_
          refine lv_if_eq (tgt := 113) hx hb dX4_refund_82 (by decide) (fun c_5 => ?_) (fun c_5 => ?_)
          · have eb : fbb = false := by rw [hfbb]; exact decide_eq_false (fun h9 => h9 c_5)
            refine lv_iconst (v := 0) hx hb dX4_refund_113 (by decide) ?_
            refine y_topi (y := sBackF a (nn x) am fbb) (by rw [eb]; rfl) ?_
            refine lv_istore (lv' := [(6, .int (sBackF a (nn x) am fbb)), (5, .int (sBackT a (nn x) am)), (4, .int (nI (slr a (nn x)))), (0, .ref h0), (1, .int x), (2, .int am), (3, .int fb)]) hx hb dX4_refund_114 hl (by decide) rfl (fun ls hl => ?_)
            refine lv_aload_n hx hb dX4_refund_116 rfl (lv_at hl 3 rfl) ?_
            refine va_get (D := (dC, dI)) (ci := 4) (v := .ref (q 10)) (C := RX4) (T := TX4) (N := 11) hx hb hts hiX4 hown hK hP 0 rfl rfl 1 (by decide) (hts (.fieldLink RX4 19 "Payoutnet" "sales" "LPayoutnet$Sales;") (List.mem_of_getElem? (i := 5) rfl)) (fun _ h9 => h9) rfl dX4_refund_117 ?_
            refine va_get (D := (dC, dI)) (ci := 2) (v := .ref (q 14)) (C := RX2) (T := TX2) (N := 8) hx hb hts hiX2 hown hK hP 10 rfl rfl 3 (by decide) (hts (.fieldLink RX4 132 "Payoutnet$Sales" "unrefunded" "[I") (List.mem_of_getElem? (i := 8) rfl)) (fun _ h9 => h9) rfl dX4_refund_120 ?_
            refine lv_iload_n hx hb dX4_refund_123 rfl (lv_at hl 4 rfl) ?_
            refine y_topi (y := nI (nn x)) hx1.1 ?_
            refine lv_dup2_11 hx hb dX4_refund_124 rfl rfl ?_
            refine y_ild hx hb hK hP 14 0 rfl rfl (t := nn x) (by omega) (Nat.le_of_ble_eq_true rfl) dX4_refund_125 ?_
            refine lv_iload_n hx hb dX4_refund_126 rfl (lv_at hl 5 rfl) ?_
            refine lv_isub hx hb dX4_refund_127 ?_
            refine y_ist hx hb hK hP hD hS 14 0 rfl rfl (t := nn x) (by omega) (Nat.le_of_ble_eq_true rfl) dX4_refund_128 (fun H locs hP hD hS => ?_)
            have hP : va_P (dC, dI) vwCl [(h0, .inr (4, [.ref (q 1), .ref (q 10), .ref (q 18), .ref (q 22), .ref (q 26), .int (a 0 2), .int (a 0 1), .int (a 0 5), .int (a 0 6), .int (a 0 7), .int (a 0 8)])), (q 1, .inr (3, [.ref (q 2), .ref (q 3), .ref (q 4), .ref (q 5), .ref (q 6), .ref (q 7), .ref (q 8), .ref (q 9), .int (a 0 0)])), (q 2, .inl (cI, 8, .inl (a 1))), (q 3, .inl (cI, 8, .inl (a 2))), (q 4, .inl (cI, 8, .inl (a 3))), (q 5, .inl (cI, 8, .inl (a 4))), (q 6, .inl (cI, 8, .inl (a 5))), (q 7, .inl (cI, 8, .inl (a 6))), (q 8, .inl (cI, 8, .inl (a 7))), (q 9, .inl (cI, 8, .inl (a 8))), (q 10, .inr (2, [.ref (q 11), .ref (q 12), .ref (q 13), .ref (q 14), .ref (q 15), .ref (q 16), .ref (q 17), .int (a 0 3)])), (q 11, .inl (cI, 100, .inl (a 10))), (q 12, .inl (cF, 100, .inr (.inr (.inl (fun j => shF (a 13 j)))))), (q 13, .inl (cI, 100, .inl (a 14))), (q 14, .inl (cI, 100, .inl (upd (fun j => a 11 j - a 12 j) (nn x) ((a 11 (nn x) - a 12 (nn x)) - am)))), (q 15, .inl (cI, 100, .inl (fun j => a 15 j - a 16 j))), (q 16, .inl (cI, 100, .inl (a 17))), (q 17, .inl (cI, 100, .inl (a 18))), (q 18, .inr (1, [.ref (q 19), .ref (q 20), .ref (q 21), .int (a 0 4)])), (q 19, .inl (cI, capOf (nn (a 0 4)), .inl (a 20))), (q 20, .inl (cI, capOf (nn (a 0 4)), .inl (a 19))), (q 21, .inl (cI, capOf (nn (a 0 4)), .inl (a 21))), (q 22, .inr (0, [.ref (q 23), .ref (q 24), .ref (q 25), .int (nI k)])), (q 23, .inl (cI, 8, .inl (jc))), (q 24, .inl (cI, 256, .inl (js))), (q 25, .inl (cI, 256, .inl (jv))), (q 26, .inl (cF, 4, .inr (.inr (.inl (fun j => shF (a 9 j))))))] H := hP
            have hD : va_D A [(h0, .inr (4, [.ref (q 1), .ref (q 10), .ref (q 18), .ref (q 22), .ref (q 26), .int (a 0 2), .int (a 0 1), .int (a 0 5), .int (a 0 6), .int (a 0 7), .int (a 0 8)])), (q 1, .inr (3, [.ref (q 2), .ref (q 3), .ref (q 4), .ref (q 5), .ref (q 6), .ref (q 7), .ref (q 8), .ref (q 9), .int (a 0 0)])), (q 2, .inl (cI, 8, .inl (a 1))), (q 3, .inl (cI, 8, .inl (a 2))), (q 4, .inl (cI, 8, .inl (a 3))), (q 5, .inl (cI, 8, .inl (a 4))), (q 6, .inl (cI, 8, .inl (a 5))), (q 7, .inl (cI, 8, .inl (a 6))), (q 8, .inl (cI, 8, .inl (a 7))), (q 9, .inl (cI, 8, .inl (a 8))), (q 10, .inr (2, [.ref (q 11), .ref (q 12), .ref (q 13), .ref (q 14), .ref (q 15), .ref (q 16), .ref (q 17), .int (a 0 3)])), (q 11, .inl (cI, 100, .inl (a 10))), (q 12, .inl (cF, 100, .inr (.inr (.inl (fun j => shF (a 13 j)))))), (q 13, .inl (cI, 100, .inl (a 14))), (q 14, .inl (cI, 100, .inl (upd (fun j => a 11 j - a 12 j) (nn x) ((a 11 (nn x) - a 12 (nn x)) - am)))), (q 15, .inl (cI, 100, .inl (fun j => a 15 j - a 16 j))), (q 16, .inl (cI, 100, .inl (a 17))), (q 17, .inl (cI, 100, .inl (a 18))), (q 18, .inr (1, [.ref (q 19), .ref (q 20), .ref (q 21), .int (a 0 4)])), (q 19, .inl (cI, capOf (nn (a 0 4)), .inl (a 20))), (q 20, .inl (cI, capOf (nn (a 0 4)), .inl (a 19))), (q 21, .inl (cI, capOf (nn (a 0 4)), .inl (a 21))), (q 22, .inr (0, [.ref (q 23), .ref (q 24), .ref (q 25), .int (nI k)])), (q 23, .inl (cI, 8, .inl (jc))), (q 24, .inl (cI, 256, .inl (js))), (q 25, .inl (cI, 256, .inl (jv))), (q 26, .inl (cF, 4, .inr (.inr (.inl (fun j => shF (a 9 j))))))] := hD
            rw [unr_dn (f := a 11) (g := a 12) (nn x) am] at hP hD
            refine lv_aload_n hx hb dX4_refund_129 rfl (lv_at hl 3 rfl) ?_
            refine va_get (D := (dC, dI)) (ci := 4) (v := .ref (q 10)) (C := RX4) (T := TX4) (N := 11) hx hb hts hiX4 hown hK hP 0 rfl rfl 1 (by decide) (hts (.fieldLink RX4 19 "Payoutnet" "sales" "LPayoutnet$Sales;") (List.mem_of_getElem? (i := 5) rfl)) (fun _ h9 => h9) rfl dX4_refund_130 ?_
            refine va_get (D := (dC, dI)) (ci := 2) (v := .ref (q 15)) (C := RX2) (T := TX2) (N := 8) hx hb hts hiX2 hown hK hP 10 rfl rfl 4 (by decide) (hts (.fieldLink RX4 152 "Payoutnet$Sales" "feeKept" "[I") (List.mem_of_getElem? (i := 12) rfl)) (fun _ h9 => h9) rfl dX4_refund_133 ?_
            refine lv_iload_n hx hb dX4_refund_136 rfl (lv_at hl 4 rfl) ?_
            refine y_topi (y := nI (nn x)) hx1.1 ?_
            refine lv_dup2_11 hx hb dX4_refund_137 rfl rfl ?_
            refine y_ild hx hb hK hP 15 0 rfl rfl (t := nn x) (by omega) (Nat.le_of_ble_eq_true rfl) dX4_refund_138 ?_
            refine lv_iload hx hb dX4_refund_139 (lv_at hl 0 rfl) ?_
            refine lv_isub hx hb dX4_refund_141 ?_
            refine y_ist hx hb hK hP hD hS 15 0 rfl rfl (t := nn x) (by omega) (Nat.le_of_ble_eq_true rfl) dX4_refund_142 (fun H locs hP hD hS => ?_)
            have hP : va_P (dC, dI) vwCl [(h0, .inr (4, [.ref (q 1), .ref (q 10), .ref (q 18), .ref (q 22), .ref (q 26), .int (a 0 2), .int (a 0 1), .int (a 0 5), .int (a 0 6), .int (a 0 7), .int (a 0 8)])), (q 1, .inr (3, [.ref (q 2), .ref (q 3), .ref (q 4), .ref (q 5), .ref (q 6), .ref (q 7), .ref (q 8), .ref (q 9), .int (a 0 0)])), (q 2, .inl (cI, 8, .inl (a 1))), (q 3, .inl (cI, 8, .inl (a 2))), (q 4, .inl (cI, 8, .inl (a 3))), (q 5, .inl (cI, 8, .inl (a 4))), (q 6, .inl (cI, 8, .inl (a 5))), (q 7, .inl (cI, 8, .inl (a 6))), (q 8, .inl (cI, 8, .inl (a 7))), (q 9, .inl (cI, 8, .inl (a 8))), (q 10, .inr (2, [.ref (q 11), .ref (q 12), .ref (q 13), .ref (q 14), .ref (q 15), .ref (q 16), .ref (q 17), .int (a 0 3)])), (q 11, .inl (cI, 100, .inl (a 10))), (q 12, .inl (cF, 100, .inr (.inr (.inl (fun j => shF (a 13 j)))))), (q 13, .inl (cI, 100, .inl (a 14))), (q 14, .inl (cI, 100, .inl (fun j => a 11 j - upd (a 12) (nn x) (a 12 (nn x) + am) j))), (q 15, .inl (cI, 100, .inl (upd (fun j => a 15 j - a 16 j) (nn x) ((a 15 (nn x) - a 16 (nn x)) - (sBackF a (nn x) am fbb))))), (q 16, .inl (cI, 100, .inl (a 17))), (q 17, .inl (cI, 100, .inl (a 18))), (q 18, .inr (1, [.ref (q 19), .ref (q 20), .ref (q 21), .int (a 0 4)])), (q 19, .inl (cI, capOf (nn (a 0 4)), .inl (a 20))), (q 20, .inl (cI, capOf (nn (a 0 4)), .inl (a 19))), (q 21, .inl (cI, capOf (nn (a 0 4)), .inl (a 21))), (q 22, .inr (0, [.ref (q 23), .ref (q 24), .ref (q 25), .int (nI k)])), (q 23, .inl (cI, 8, .inl (jc))), (q 24, .inl (cI, 256, .inl (js))), (q 25, .inl (cI, 256, .inl (jv))), (q 26, .inl (cF, 4, .inr (.inr (.inl (fun j => shF (a 9 j))))))] H := hP
            have hD : va_D A [(h0, .inr (4, [.ref (q 1), .ref (q 10), .ref (q 18), .ref (q 22), .ref (q 26), .int (a 0 2), .int (a 0 1), .int (a 0 5), .int (a 0 6), .int (a 0 7), .int (a 0 8)])), (q 1, .inr (3, [.ref (q 2), .ref (q 3), .ref (q 4), .ref (q 5), .ref (q 6), .ref (q 7), .ref (q 8), .ref (q 9), .int (a 0 0)])), (q 2, .inl (cI, 8, .inl (a 1))), (q 3, .inl (cI, 8, .inl (a 2))), (q 4, .inl (cI, 8, .inl (a 3))), (q 5, .inl (cI, 8, .inl (a 4))), (q 6, .inl (cI, 8, .inl (a 5))), (q 7, .inl (cI, 8, .inl (a 6))), (q 8, .inl (cI, 8, .inl (a 7))), (q 9, .inl (cI, 8, .inl (a 8))), (q 10, .inr (2, [.ref (q 11), .ref (q 12), .ref (q 13), .ref (q 14), .ref (q 15), .ref (q 16), .ref (q 17), .int (a 0 3)])), (q 11, .inl (cI, 100, .inl (a 10))), (q 12, .inl (cF, 100, .inr (.inr (.inl (fun j => shF (a 13 j)))))), (q 13, .inl (cI, 100, .inl (a 14))), (q 14, .inl (cI, 100, .inl (fun j => a 11 j - upd (a 12) (nn x) (a 12 (nn x) + am) j))), (q 15, .inl (cI, 100, .inl (upd (fun j => a 15 j - a 16 j) (nn x) ((a 15 (nn x) - a 16 (nn x)) - (sBackF a (nn x) am fbb))))), (q 16, .inl (cI, 100, .inl (a 17))), (q 17, .inl (cI, 100, .inl (a 18))), (q 18, .inr (1, [.ref (q 19), .ref (q 20), .ref (q 21), .int (a 0 4)])), (q 19, .inl (cI, capOf (nn (a 0 4)), .inl (a 20))), (q 20, .inl (cI, capOf (nn (a 0 4)), .inl (a 19))), (q 21, .inl (cI, capOf (nn (a 0 4)), .inl (a 21))), (q 22, .inr (0, [.ref (q 23), .ref (q 24), .ref (q 25), .int (nI k)])), (q 23, .inl (cI, 8, .inl (jc))), (q 24, .inl (cI, 256, .inl (js))), (q 25, .inl (cI, 256, .inl (jv))), (q 26, .inl (cF, 4, .inr (.inr (.inl (fun j => shF (a 9 j))))))] := hD
            rw [unr_dn (f := a 15) (g := a 16) (nn x) (sBackF a (nn x) am fbb)] at hP hD
            refine lv_aload_n hx hb dX4_refund_143 rfl (lv_at hl 3 rfl) ?_
            refine lv_dup hx hb dX4_refund_144 rfl ?_
            refine va_get (D := (dC, dI)) (ci := 4) (v := .int (a 0 6)) (C := RX4) (T := TX4) (N := 11) hx hb hts hiX4 hown hK hP 0 rfl rfl 8 (by decide) (hts (.fieldLink RX4 155 "Payoutnet" "refunded" "I") (List.mem_of_getElem? (i := 17) rfl)) (fun _ h9 => h9) rfl dX4_refund_145 ?_
            refine lv_iload_n hx hb dX4_refund_148 rfl (lv_at hl 5 rfl) ?_
            refine lv_iadd hx hb dX4_refund_149 ?_
            refine va_put (D := (dC, dI)) (ci := 4) (v := .int ((a 0 6) + am)) (ty := .int) (C := RX4) (T := TX4) (N := 11) hx hb hts hiX4 tyX4 tyX4_ok nmX4 hown hK hP hD hS 0 rfl rfl 8 (by decide) (hts (.fieldLink RX4 155 "Payoutnet" "refunded" "I") (List.mem_of_getElem? (i := 17) rfl)) (fun _ h9 => h9) rfl (tyX4_ok 8 (by decide)) rfl rfl (Nat.le_of_ble_eq_true rfl) dX4_refund_150 (fun H locs hP hD hS => ?_)
            have hP : va_P (dC, dI) vwCl [(h0, .inr (4, [.ref (q 1), .ref (q 10), .ref (q 18), .ref (q 22), .ref (q 26), .int (a 0 2), .int (a 0 1), .int (a 0 5), .int ((a 0 6) + am), .int (a 0 7), .int (a 0 8)])), (q 1, .inr (3, [.ref (q 2), .ref (q 3), .ref (q 4), .ref (q 5), .ref (q 6), .ref (q 7), .ref (q 8), .ref (q 9), .int (a 0 0)])), (q 2, .inl (cI, 8, .inl (a 1))), (q 3, .inl (cI, 8, .inl (a 2))), (q 4, .inl (cI, 8, .inl (a 3))), (q 5, .inl (cI, 8, .inl (a 4))), (q 6, .inl (cI, 8, .inl (a 5))), (q 7, .inl (cI, 8, .inl (a 6))), (q 8, .inl (cI, 8, .inl (a 7))), (q 9, .inl (cI, 8, .inl (a 8))), (q 10, .inr (2, [.ref (q 11), .ref (q 12), .ref (q 13), .ref (q 14), .ref (q 15), .ref (q 16), .ref (q 17), .int (a 0 3)])), (q 11, .inl (cI, 100, .inl (a 10))), (q 12, .inl (cF, 100, .inr (.inr (.inl (fun j => shF (a 13 j)))))), (q 13, .inl (cI, 100, .inl (a 14))), (q 14, .inl (cI, 100, .inl (fun j => a 11 j - upd (a 12) (nn x) (a 12 (nn x) + am) j))), (q 15, .inl (cI, 100, .inl (fun j => a 15 j - upd (a 16) (nn x) (a 16 (nn x) + sBackF a (nn x) am fbb) j))), (q 16, .inl (cI, 100, .inl (a 17))), (q 17, .inl (cI, 100, .inl (a 18))), (q 18, .inr (1, [.ref (q 19), .ref (q 20), .ref (q 21), .int (a 0 4)])), (q 19, .inl (cI, capOf (nn (a 0 4)), .inl (a 20))), (q 20, .inl (cI, capOf (nn (a 0 4)), .inl (a 19))), (q 21, .inl (cI, capOf (nn (a 0 4)), .inl (a 21))), (q 22, .inr (0, [.ref (q 23), .ref (q 24), .ref (q 25), .int (nI k)])), (q 23, .inl (cI, 8, .inl (jc))), (q 24, .inl (cI, 256, .inl (js))), (q 25, .inl (cI, 256, .inl (jv))), (q 26, .inl (cF, 4, .inr (.inr (.inl (fun j => shF (a 9 j))))))] H := hP
            have hD : va_D A [(h0, .inr (4, [.ref (q 1), .ref (q 10), .ref (q 18), .ref (q 22), .ref (q 26), .int (a 0 2), .int (a 0 1), .int (a 0 5), .int ((a 0 6) + am), .int (a 0 7), .int (a 0 8)])), (q 1, .inr (3, [.ref (q 2), .ref (q 3), .ref (q 4), .ref (q 5), .ref (q 6), .ref (q 7), .ref (q 8), .ref (q 9), .int (a 0 0)])), (q 2, .inl (cI, 8, .inl (a 1))), (q 3, .inl (cI, 8, .inl (a 2))), (q 4, .inl (cI, 8, .inl (a 3))), (q 5, .inl (cI, 8, .inl (a 4))), (q 6, .inl (cI, 8, .inl (a 5))), (q 7, .inl (cI, 8, .inl (a 6))), (q 8, .inl (cI, 8, .inl (a 7))), (q 9, .inl (cI, 8, .inl (a 8))), (q 10, .inr (2, [.ref (q 11), .ref (q 12), .ref (q 13), .ref (q 14), .ref (q 15), .ref (q 16), .ref (q 17), .int (a 0 3)])), (q 11, .inl (cI, 100, .inl (a 10))), (q 12, .inl (cF, 100, .inr (.inr (.inl (fun j => shF (a 13 j)))))), (q 13, .inl (cI, 100, .inl (a 14))), (q 14, .inl (cI, 100, .inl (fun j => a 11 j - upd (a 12) (nn x) (a 12 (nn x) + am) j))), (q 15, .inl (cI, 100, .inl (fun j => a 15 j - upd (a 16) (nn x) (a 16 (nn x) + sBackF a (nn x) am fbb) j))), (q 16, .inl (cI, 100, .inl (a 17))), (q 17, .inl (cI, 100, .inl (a 18))), (q 18, .inr (1, [.ref (q 19), .ref (q 20), .ref (q 21), .int (a 0 4)])), (q 19, .inl (cI, capOf (nn (a 0 4)), .inl (a 20))), (q 20, .inl (cI, capOf (nn (a 0 4)), .inl (a 19))), (q 21, .inl (cI, capOf (nn (a 0 4)), .inl (a 21))), (q 22, .inr (0, [.ref (q 23), .ref (q 24), .ref (q 25), .int (nI k)])), (q 23, .inl (cI, 8, .inl (jc))), (q 24, .inl (cI, 256, .inl (js))), (q 25, .inl (cI, 256, .inl (jv))), (q 26, .inl (cF, 4, .inr (.inr (.inl (fun j => shF (a 9 j))))))] := hD
            refine lv_aload_n hx hb dX4_refund_153 rfl (lv_at hl 3 rfl) ?_
            refine lv_dup hx hb dX4_refund_154 rfl ?_
            refine va_get (D := (dC, dI)) (ci := 4) (v := .int (a 0 8)) (C := RX4) (T := TX4) (N := 11) hx hb hts hiX4 hown hK hP 0 rfl rfl 10 (by decide) (hts (.fieldLink RX4 158 "Payoutnet" "taxes" "I") (List.mem_of_getElem? (i := 18) rfl)) (fun _ h9 => h9) rfl dX4_refund_155 ?_
            refine lv_iload hx hb dX4_refund_158 (lv_at hl 1 rfl) ?_
            refine lv_isub hx hb dX4_refund_160 ?_
            refine va_put (D := (dC, dI)) (ci := 4) (v := .int ((a 0 8) - (sBackT a (nn x) am))) (ty := .int) (C := RX4) (T := TX4) (N := 11) hx hb hts hiX4 tyX4 tyX4_ok nmX4 hown hK hP hD hS 0 rfl rfl 10 (by decide) (hts (.fieldLink RX4 158 "Payoutnet" "taxes" "I") (List.mem_of_getElem? (i := 18) rfl)) (fun _ h9 => h9) rfl (tyX4_ok 10 (by decide)) rfl rfl (Nat.le_of_ble_eq_true rfl) dX4_refund_161 (fun H locs hP hD hS => ?_)
            have hP : va_P (dC, dI) vwCl [(h0, .inr (4, [.ref (q 1), .ref (q 10), .ref (q 18), .ref (q 22), .ref (q 26), .int (a 0 2), .int (a 0 1), .int (a 0 5), .int ((a 0 6) + am), .int (a 0 7), .int ((a 0 8) - (sBackT a (nn x) am))])), (q 1, .inr (3, [.ref (q 2), .ref (q 3), .ref (q 4), .ref (q 5), .ref (q 6), .ref (q 7), .ref (q 8), .ref (q 9), .int (a 0 0)])), (q 2, .inl (cI, 8, .inl (a 1))), (q 3, .inl (cI, 8, .inl (a 2))), (q 4, .inl (cI, 8, .inl (a 3))), (q 5, .inl (cI, 8, .inl (a 4))), (q 6, .inl (cI, 8, .inl (a 5))), (q 7, .inl (cI, 8, .inl (a 6))), (q 8, .inl (cI, 8, .inl (a 7))), (q 9, .inl (cI, 8, .inl (a 8))), (q 10, .inr (2, [.ref (q 11), .ref (q 12), .ref (q 13), .ref (q 14), .ref (q 15), .ref (q 16), .ref (q 17), .int (a 0 3)])), (q 11, .inl (cI, 100, .inl (a 10))), (q 12, .inl (cF, 100, .inr (.inr (.inl (fun j => shF (a 13 j)))))), (q 13, .inl (cI, 100, .inl (a 14))), (q 14, .inl (cI, 100, .inl (fun j => a 11 j - upd (a 12) (nn x) (a 12 (nn x) + am) j))), (q 15, .inl (cI, 100, .inl (fun j => a 15 j - upd (a 16) (nn x) (a 16 (nn x) + sBackF a (nn x) am fbb) j))), (q 16, .inl (cI, 100, .inl (a 17))), (q 17, .inl (cI, 100, .inl (a 18))), (q 18, .inr (1, [.ref (q 19), .ref (q 20), .ref (q 21), .int (a 0 4)])), (q 19, .inl (cI, capOf (nn (a 0 4)), .inl (a 20))), (q 20, .inl (cI, capOf (nn (a 0 4)), .inl (a 19))), (q 21, .inl (cI, capOf (nn (a 0 4)), .inl (a 21))), (q 22, .inr (0, [.ref (q 23), .ref (q 24), .ref (q 25), .int (nI k)])), (q 23, .inl (cI, 8, .inl (jc))), (q 24, .inl (cI, 256, .inl (js))), (q 25, .inl (cI, 256, .inl (jv))), (q 26, .inl (cF, 4, .inr (.inr (.inl (fun j => shF (a 9 j))))))] H := hP
            have hD : va_D A [(h0, .inr (4, [.ref (q 1), .ref (q 10), .ref (q 18), .ref (q 22), .ref (q 26), .int (a 0 2), .int (a 0 1), .int (a 0 5), .int ((a 0 6) + am), .int (a 0 7), .int ((a 0 8) - (sBackT a (nn x) am))])), (q 1, .inr (3, [.ref (q 2), .ref (q 3), .ref (q 4), .ref (q 5), .ref (q 6), .ref (q 7), .ref (q 8), .ref (q 9), .int (a 0 0)])), (q 2, .inl (cI, 8, .inl (a 1))), (q 3, .inl (cI, 8, .inl (a 2))), (q 4, .inl (cI, 8, .inl (a 3))), (q 5, .inl (cI, 8, .inl (a 4))), (q 6, .inl (cI, 8, .inl (a 5))), (q 7, .inl (cI, 8, .inl (a 6))), (q 8, .inl (cI, 8, .inl (a 7))), (q 9, .inl (cI, 8, .inl (a 8))), (q 10, .inr (2, [.ref (q 11), .ref (q 12), .ref (q 13), .ref (q 14), .ref (q 15), .ref (q 16), .ref (q 17), .int (a 0 3)])), (q 11, .inl (cI, 100, .inl (a 10))), (q 12, .inl (cF, 100, .inr (.inr (.inl (fun j => shF (a 13 j)))))), (q 13, .inl (cI, 100, .inl (a 14))), (q 14, .inl (cI, 100, .inl (fun j => a 11 j - upd (a 12) (nn x) (a 12 (nn x) + am) j))), (q 15, .inl (cI, 100, .inl (fun j => a 15 j - upd (a 16) (nn x) (a 16 (nn x) + sBackF a (nn x) am fbb) j))), (q 16, .inl (cI, 100, .inl (a 17))), (q 17, .inl (cI, 100, .inl (a 18))), (q 18, .inr (1, [.ref (q 19), .ref (q 20), .ref (q 21), .int (a 0 4)])), (q 19, .inl (cI, capOf (nn (a 0 4)), .inl (a 20))), (q 20, .inl (cI, capOf (nn (a 0 4)), .inl (a 19))), (q 21, .inl (cI, capOf (nn (a 0 4)), .inl (a 21))), (q 22, .inr (0, [.ref (q 23), .ref (q 24), .ref (q 25), .int (nI k)])), (q 23, .inl (cI, 8, .inl (jc))), (q 24, .inl (cI, 256, .inl (js))), (q 25, .inl (cI, 256, .inl (jv))), (q 26, .inl (cF, 4, .inr (.inr (.inl (fun j => shF (a 9 j))))))] := hD
            refine lv_aload_n hx hb dX4_refund_164 rfl (lv_at hl 3 rfl) ?_
            refine lv_dup hx hb dX4_refund_165 rfl ?_
            refine va_get (D := (dC, dI)) (ci := 4) (v := .int (a 0 7)) (C := RX4) (T := TX4) (N := 11) hx hb hts hiX4 hown hK hP 0 rfl rfl 9 (by decide) (hts (.fieldLink RX4 161 "Payoutnet" "fees" "I") (List.mem_of_getElem? (i := 19) rfl)) (fun _ h9 => h9) rfl dX4_refund_166 ?_
            refine lv_iload hx hb dX4_refund_169 (lv_at hl 0 rfl) ?_
            refine lv_isub hx hb dX4_refund_171 ?_
            refine va_put (D := (dC, dI)) (ci := 4) (v := .int ((a 0 7) - (sBackF a (nn x) am fbb))) (ty := .int) (C := RX4) (T := TX4) (N := 11) hx hb hts hiX4 tyX4 tyX4_ok nmX4 hown hK hP hD hS 0 rfl rfl 9 (by decide) (hts (.fieldLink RX4 161 "Payoutnet" "fees" "I") (List.mem_of_getElem? (i := 19) rfl)) (fun _ h9 => h9) rfl (tyX4_ok 9 (by decide)) rfl rfl (Nat.le_of_ble_eq_true rfl) dX4_refund_172 (fun H locs hP hD hS => ?_)
            have hP : va_P (dC, dI) vwCl [(h0, .inr (4, [.ref (q 1), .ref (q 10), .ref (q 18), .ref (q 22), .ref (q 26), .int (a 0 2), .int (a 0 1), .int (a 0 5), .int ((a 0 6) + am), .int ((a 0 7) - (sBackF a (nn x) am fbb)), .int ((a 0 8) - (sBackT a (nn x) am))])), (q 1, .inr (3, [.ref (q 2), .ref (q 3), .ref (q 4), .ref (q 5), .ref (q 6), .ref (q 7), .ref (q 8), .ref (q 9), .int (a 0 0)])), (q 2, .inl (cI, 8, .inl (a 1))), (q 3, .inl (cI, 8, .inl (a 2))), (q 4, .inl (cI, 8, .inl (a 3))), (q 5, .inl (cI, 8, .inl (a 4))), (q 6, .inl (cI, 8, .inl (a 5))), (q 7, .inl (cI, 8, .inl (a 6))), (q 8, .inl (cI, 8, .inl (a 7))), (q 9, .inl (cI, 8, .inl (a 8))), (q 10, .inr (2, [.ref (q 11), .ref (q 12), .ref (q 13), .ref (q 14), .ref (q 15), .ref (q 16), .ref (q 17), .int (a 0 3)])), (q 11, .inl (cI, 100, .inl (a 10))), (q 12, .inl (cF, 100, .inr (.inr (.inl (fun j => shF (a 13 j)))))), (q 13, .inl (cI, 100, .inl (a 14))), (q 14, .inl (cI, 100, .inl (fun j => a 11 j - upd (a 12) (nn x) (a 12 (nn x) + am) j))), (q 15, .inl (cI, 100, .inl (fun j => a 15 j - upd (a 16) (nn x) (a 16 (nn x) + sBackF a (nn x) am fbb) j))), (q 16, .inl (cI, 100, .inl (a 17))), (q 17, .inl (cI, 100, .inl (a 18))), (q 18, .inr (1, [.ref (q 19), .ref (q 20), .ref (q 21), .int (a 0 4)])), (q 19, .inl (cI, capOf (nn (a 0 4)), .inl (a 20))), (q 20, .inl (cI, capOf (nn (a 0 4)), .inl (a 19))), (q 21, .inl (cI, capOf (nn (a 0 4)), .inl (a 21))), (q 22, .inr (0, [.ref (q 23), .ref (q 24), .ref (q 25), .int (nI k)])), (q 23, .inl (cI, 8, .inl (jc))), (q 24, .inl (cI, 256, .inl (js))), (q 25, .inl (cI, 256, .inl (jv))), (q 26, .inl (cF, 4, .inr (.inr (.inl (fun j => shF (a 9 j))))))] H := hP
            have hD : va_D A [(h0, .inr (4, [.ref (q 1), .ref (q 10), .ref (q 18), .ref (q 22), .ref (q 26), .int (a 0 2), .int (a 0 1), .int (a 0 5), .int ((a 0 6) + am), .int ((a 0 7) - (sBackF a (nn x) am fbb)), .int ((a 0 8) - (sBackT a (nn x) am))])), (q 1, .inr (3, [.ref (q 2), .ref (q 3), .ref (q 4), .ref (q 5), .ref (q 6), .ref (q 7), .ref (q 8), .ref (q 9), .int (a 0 0)])), (q 2, .inl (cI, 8, .inl (a 1))), (q 3, .inl (cI, 8, .inl (a 2))), (q 4, .inl (cI, 8, .inl (a 3))), (q 5, .inl (cI, 8, .inl (a 4))), (q 6, .inl (cI, 8, .inl (a 5))), (q 7, .inl (cI, 8, .inl (a 6))), (q 8, .inl (cI, 8, .inl (a 7))), (q 9, .inl (cI, 8, .inl (a 8))), (q 10, .inr (2, [.ref (q 11), .ref (q 12), .ref (q 13), .ref (q 14), .ref (q 15), .ref (q 16), .ref (q 17), .int (a 0 3)])), (q 11, .inl (cI, 100, .inl (a 10))), (q 12, .inl (cF, 100, .inr (.inr (.inl (fun j => shF (a 13 j)))))), (q 13, .inl (cI, 100, .inl (a 14))), (q 14, .inl (cI, 100, .inl (fun j => a 11 j - upd (a 12) (nn x) (a 12 (nn x) + am) j))), (q 15, .inl (cI, 100, .inl (fun j => a 15 j - upd (a 16) (nn x) (a 16 (nn x) + sBackF a (nn x) am fbb) j))), (q 16, .inl (cI, 100, .inl (a 17))), (q 17, .inl (cI, 100, .inl (a 18))), (q 18, .inr (1, [.ref (q 19), .ref (q 20), .ref (q 21), .int (a 0 4)])), (q 19, .inl (cI, capOf (nn (a 0 4)), .inl (a 20))), (q 20, .inl (cI, capOf (nn (a 0 4)), .inl (a 19))), (q 21, .inl (cI, capOf (nn (a 0 4)), .inl (a 21))), (q 22, .inr (0, [.ref (q 23), .ref (q 24), .ref (q 25), .int (nI k)])), (q 23, .inl (cI, 8, .inl (jc))), (q 24, .inl (cI, 256, .inl (js))), (q 25, .inl (cI, 256, .inl (jv))), (q 26, .inl (cF, 4, .inr (.inr (.inl (fun j => shF (a 9 j))))))] := hD
            have hP : va_P (dC, dI) vwCl (WC cI cF h0 q (sRefC a (nn x) am fbb) jc js jv k (capOf (nn ((sRefC a (nn x) am fbb) 0 4)))) H := hP
            have hD : va_D A (WC cI cF h0 q (sRefC a (nn x) am fbb) jc js jv k (capOf (nn ((sRefC a (nn x) am fbb) 0 4)))) := hD
            have hB2 : okB (sRefC a (nn x) am fbb) := okB_free (okB_free (okB_free (okB_free (okB_free hB rfl) rfl) rfl) rfl) rfl
            have hC2 : okC (sRefC a (nn x) am fbb) jc js jv k := hC
            refine lv_aload_n hx hb dX4_refund_175 rfl (lv_at hl 3 rfl) ?_
            refine lv_iload hx hb dX4_refund_176 (lv_at hl 2 rfl) ?_
            refine lv_iload hx hb dX4_refund_178 (lv_at hl 1 rfl) ?_
            refine lv_iload hx hb dX4_refund_180 (lv_at hl 0 rfl) ?_
            refine lv_iadd hx hb dX4_refund_182 ?_
            refine lv_iload_n hx hb dX4_refund_183 rfl (lv_at hl 5 rfl) ?_
            refine lv_isub hx hb dX4_refund_184 ?_
            have hFc := y_free hD hS hA
            refine va_callv (va_runV (As := [.int (nI (slr a (nn x))), .int (((sBackT a (nn x) am) + (sBackF a (nn x) am fbb)) - am)]) (rest := []) ⟨hx, hb, hml, hown, hts⟩ (c_X4_post l dC dI cI cF h0 q H.size (sRefC a (nn x) am fbb) jc js jv k hC2 hB2 (slr a (nn x)) hz (sBackT a (nn x) am + sBackF a (nn x) am fbb - am)) (cwV 2 hts gX4_refund_X4_post rfl rfl rfl (by decide +kernel) ⟨Nat.le_of_ble_eq_true rfl, Nat.le_of_ble_eq_true rfl⟩) ⟨pcW_blind, va_recv hK hP (ci := 4) (q0 := 0) rfl rfl, fun U hU hW => pcW_pre hP hD hK hU hW⟩ rfl rfl hl.1 rfl (lv_room (Nat.le_of_ble_eq_true rfl)) dX4_refund_185 ⟨Nat.le_of_ble_eq_true rfl, Nat.le_of_ble_eq_true rfl⟩) hS (fun q _ h => hFc q h) hFc (fun u t H1 locs ht hvm hw hB1 hz1 hk1 hS => ?_)
            obtain ⟨q6, jc6, js6, jv6, k6, hC6, hP, hK1, hD1⟩ := hB1
            rw [ht] at hP
            have hD := hD1.weaken (fun kk qq _ h => hFc qq.1 h)
            generalize H1 = H at hP hS ⊢
            have hC6 : okC (sRefund a (nn x) am fbb) jc6 js6 jv6 k6 := hC6
            have hP : va_P (dC, dI) vwCl (WC cI cF h0 q6 (sRefund a (nn x) am fbb) jc6 js6 jv6 k6 (capOf (nn ((sRefund a (nn x) am fbb) 0 4)))) H := hP
            have hD : va_D A (WC cI cF h0 q6 (sRefund a (nn x) am fbb) jc6 js6 jv6 k6 (capOf (nn ((sRefund a (nn x) am fbb) 0 4)))) := hD
            refine lv_aload_n hx hb dX4_refund_188 rfl (lv_at hl 3 rfl) ?_
            refine va_get (D := (dC, dI)) (ci := 4) (v := .ref (q6 1)) (C := RX4) (T := TX4) (N := 11) hx hb hts hiX4 hown hK hP 0 rfl rfl 0 (by decide) (hts (.fieldLink RX4 10 "Payoutnet" "shops" "LPayoutnet$Shops;") (List.mem_of_getElem? (i := 20) rfl)) (fun _ h9 => h9) rfl dX4_refund_189 ?_
            refine va_get (D := (dC, dI)) (ci := 3) (v := .ref (q6 8)) (C := RX3) (T := TX3) (N := 9) hx hb hts hiX3 hown hK hP 1 rfl rfl 6 (by decide) (hts (.fieldLink RX4 168 "Payoutnet$Shops" "balance" "[I") (List.mem_of_getElem? (i := 21) rfl)) (fun _ h9 => h9) rfl dX4_refund_192 ?_
            refine lv_iload hx hb dX4_refund_195 (lv_at hl 2 rfl) ?_
            refine y_ild hx hb hK hP 8 0 rfl rfl (t := slr a (nn x)) (by omega) (Nat.le_of_ble_eq_true rfl) dX4_refund_197 ?_
            refine W.widen (k := 2) (n := 12) (Nat.le_of_ble_eq_true rfl) (Nat.le_of_ble_eq_true rfl) ?_
            have hP9 := hP
            have hD9 := hD
            have hK9 := hK
            refine vx_ret ?_
            exact W.iret (v := ((sRefund a (nn x) am fbb) 7) (slr a (nn x))) hx hb hr (fun t ht hW => ⟨⟨((sRefund a (nn x) am fbb) 7) (slr a (nn x)), (), rfl, ⟨e0, rfl⟩, atC_in hC6 (atW_end hP9 hD9 hK9 ht hW)⟩, hS.F ht⟩) hS.2.2 dX4_refund_198
          · have eb : fbb = true := by rw [hfbb]; exact decide_eq_true c_5
            refine lv_iload_n hx hb dX4_refund_85 rfl (lv_at hl 4 rfl) ?_
            refine lv_aload_n hx hb dX4_refund_86 rfl (lv_at hl 2 rfl) ?_
            refine va_get (D := (dC, dI)) (ci := 4) (v := .ref (q 10)) (C := RX4) (T := TX4) (N := 11) hx hb hts hiX4 hown hK hP 0 rfl rfl 1 (by decide) (hts (.fieldLink RX4 19 "Payoutnet" "sales" "LPayoutnet$Sales;") (List.mem_of_getElem? (i := 5) rfl)) (fun _ h9 => h9) rfl dX4_refund_87 ?_
            refine va_get (D := (dC, dI)) (ci := 2) (v := .ref (q 12)) (C := RX2) (T := TX2) (N := 8) hx hb hts hiX2 hown hK hP 10 rfl rfl 1 (by decide) (hts (.fieldLink RX4 145 "Payoutnet$Sales" "share" "[F") (List.mem_of_getElem? (i := 11) rfl)) (fun _ h9 => h9) rfl dX4_refund_90 ?_
            refine lv_iload_n hx hb dX4_refund_93 rfl (lv_at hl 3 rfl) ?_
            refine y_topi (y := nI (nn x)) hx1.1 ?_
            refine y_fld hx hb hK hP 12 1 rfl rfl (t := nn x) (by omega) (Nat.le_of_ble_eq_true rfl) dX4_refund_94 ?_
            have esh : shF (a 13 (nn x)) = shF (nI (nn (a 13 (nn x)))) := by rw [← hs13.1]
            refine y_topf (y := shF (nI (nn (a 13 (nn x))))) esh ?_
            refine y_two (y := nI (nn am)) ha1.1 ?_
            refine va_calli (va_runS (As := [.int (nI (nn am)), .float (shF (nI (nn (a 13 (nn x)))))]) (rest := []) ⟨hx, hb, hml, hown, hts⟩ (c_X4_feeOn l (nn am) (nn (a 13 (nn x))) ha1.2.1 ha1.2.2 hs13.2) (va_cwS 2 hts gX4_refund_X4_feeOn rfl rfl rfl (by decide +kernel) ⟨Nat.le_of_ble_eq_true rfl, Nat.le_of_ble_eq_true rfl⟩) ⟨pcT_blind, fun U hU hW => pcT_pre⟩ rfl rfl hl.1 rfl (lv_room (Nat.le_of_ble_eq_true rfl)) dX4_refund_95 ⟨Nat.le_of_ble_eq_true rfl, Nat.le_of_ble_eq_true rfl⟩) hS (fun q _ h => h.elim) (fun q h => h.elim) (fun r u t H1 locs ht hvm hw hB1 hz1 hk1 hS => ?_)
            have hP := y_keptP hP hk1
            generalize H1 = H at hP hS ⊢
            refine y_topi (y := feeI am (a 13 (nn x))) (by rw [hw, ← hs13.1, ← ha1.1]) ?_
            refine lv_aload_n hx hb dX4_refund_98 rfl (lv_at hl 2 rfl) ?_
            refine va_get (D := (dC, dI)) (ci := 4) (v := .ref (q 10)) (C := RX4) (T := TX4) (N := 11) hx hb hts hiX4 hown hK hP 0 rfl rfl 1 (by decide) (hts (.fieldLink RX4 19 "Payoutnet" "sales" "LPayoutnet$Sales;") (List.mem_of_getElem? (i := 5) rfl)) (fun _ h9 => h9) rfl dX4_refund_99 ?_
            refine va_get (D := (dC, dI)) (ci := 2) (v := .ref (q 15)) (C := RX2) (T := TX2) (N := 8) hx hb hts hiX2 hown hK hP 10 rfl rfl 4 (by decide) (hts (.fieldLink RX4 152 "Payoutnet$Sales" "feeKept" "[I") (List.mem_of_getElem? (i := 12) rfl)) (fun _ h9 => h9) rfl dX4_refund_102 ?_
            refine lv_iload_n hx hb dX4_refund_105 rfl (lv_at hl 3 rfl) ?_
            refine y_topi (y := nI (nn x)) hx1.1 ?_
            refine y_ild hx hb hK hP 15 0 rfl rfl (t := nn x) (by omega) (Nat.le_of_ble_eq_true rfl) dX4_refund_106 ?_
            refine va_mmin hx hb (hml.trans hl.1.symm) hown (hts (.methodLink RX4 119 Lib.Math.min.name) (List.mem_of_getElem? (i := 13) rfl)) (hts (.static Lib.Math.min.name) (List.mem_of_getElem? (i := 14) rfl)) (hts (.initialized "java/lang/Math") (List.mem_of_getElem? (i := 15) rfl)) (hts (.code Lib.Math.min.name Lib.Math.min.code 2 (some .int)) (List.mem_of_getElem? (i := 16) rfl)) (Nat.le_of_ble_eq_true rfl) (Nat.le_of_ble_eq_true rfl) (Nat.le_of_ble_eq_true rfl) (Nat.le_of_ble_eq_true rfl) dX4_refund_107 ?_
            refine y_topi (y := sBackF a (nn x) am fbb) (by rw [eb]; rfl) ?_
            refine lv_goto (tgt := 114) hx hb dX4_refund_110 (by decide) ?_
            refine lv_istore (lv' := [(6, .int (sBackF a (nn x) am fbb)), (5, .int (sBackT a (nn x) am)), (4, .int (nI (slr a (nn x)))), (0, .ref h0), (1, .int x), (2, .int am), (3, .int fb)]) hx hb dX4_refund_114 hl (by decide) rfl (fun ls hl => ?_)
            refine lv_aload_n hx hb dX4_refund_116 rfl (lv_at hl 3 rfl) ?_
            refine va_get (D := (dC, dI)) (ci := 4) (v := .ref (q 10)) (C := RX4) (T := TX4) (N := 11) hx hb hts hiX4 hown hK hP 0 rfl rfl 1 (by decide) (hts (.fieldLink RX4 19 "Payoutnet" "sales" "LPayoutnet$Sales;") (List.mem_of_getElem? (i := 5) rfl)) (fun _ h9 => h9) rfl dX4_refund_117 ?_
            refine va_get (D := (dC, dI)) (ci := 2) (v := .ref (q 14)) (C := RX2) (T := TX2) (N := 8) hx hb hts hiX2 hown hK hP 10 rfl rfl 3 (by decide) (hts (.fieldLink RX4 132 "Payoutnet$Sales" "unrefunded" "[I") (List.mem_of_getElem? (i := 8) rfl)) (fun _ h9 => h9) rfl dX4_refund_120 ?_
            refine lv_iload_n hx hb dX4_refund_123 rfl (lv_at hl 4 rfl) ?_
            refine y_topi (y := nI (nn x)) hx1.1 ?_
            refine lv_dup2_11 hx hb dX4_refund_124 rfl rfl ?_
            refine y_ild hx hb hK hP 14 0 rfl rfl (t := nn x) (by omega) (Nat.le_of_ble_eq_true rfl) dX4_refund_125 ?_
            refine lv_iload_n hx hb dX4_refund_126 rfl (lv_at hl 5 rfl) ?_
            refine lv_isub hx hb dX4_refund_127 ?_
            refine y_ist hx hb hK hP hD hS 14 0 rfl rfl (t := nn x) (by omega) (Nat.le_of_ble_eq_true rfl) dX4_refund_128 (fun H locs hP hD hS => ?_)
            have hP : va_P (dC, dI) vwCl [(h0, .inr (4, [.ref (q 1), .ref (q 10), .ref (q 18), .ref (q 22), .ref (q 26), .int (a 0 2), .int (a 0 1), .int (a 0 5), .int (a 0 6), .int (a 0 7), .int (a 0 8)])), (q 1, .inr (3, [.ref (q 2), .ref (q 3), .ref (q 4), .ref (q 5), .ref (q 6), .ref (q 7), .ref (q 8), .ref (q 9), .int (a 0 0)])), (q 2, .inl (cI, 8, .inl (a 1))), (q 3, .inl (cI, 8, .inl (a 2))), (q 4, .inl (cI, 8, .inl (a 3))), (q 5, .inl (cI, 8, .inl (a 4))), (q 6, .inl (cI, 8, .inl (a 5))), (q 7, .inl (cI, 8, .inl (a 6))), (q 8, .inl (cI, 8, .inl (a 7))), (q 9, .inl (cI, 8, .inl (a 8))), (q 10, .inr (2, [.ref (q 11), .ref (q 12), .ref (q 13), .ref (q 14), .ref (q 15), .ref (q 16), .ref (q 17), .int (a 0 3)])), (q 11, .inl (cI, 100, .inl (a 10))), (q 12, .inl (cF, 100, .inr (.inr (.inl (fun j => shF (a 13 j)))))), (q 13, .inl (cI, 100, .inl (a 14))), (q 14, .inl (cI, 100, .inl (upd (fun j => a 11 j - a 12 j) (nn x) ((a 11 (nn x) - a 12 (nn x)) - am)))), (q 15, .inl (cI, 100, .inl (fun j => a 15 j - a 16 j))), (q 16, .inl (cI, 100, .inl (a 17))), (q 17, .inl (cI, 100, .inl (a 18))), (q 18, .inr (1, [.ref (q 19), .ref (q 20), .ref (q 21), .int (a 0 4)])), (q 19, .inl (cI, capOf (nn (a 0 4)), .inl (a 20))), (q 20, .inl (cI, capOf (nn (a 0 4)), .inl (a 19))), (q 21, .inl (cI, capOf (nn (a 0 4)), .inl (a 21))), (q 22, .inr (0, [.ref (q 23), .ref (q 24), .ref (q 25), .int (nI k)])), (q 23, .inl (cI, 8, .inl (jc))), (q 24, .inl (cI, 256, .inl (js))), (q 25, .inl (cI, 256, .inl (jv))), (q 26, .inl (cF, 4, .inr (.inr (.inl (fun j => shF (a 9 j))))))] H := hP
            have hD : va_D A [(h0, .inr (4, [.ref (q 1), .ref (q 10), .ref (q 18), .ref (q 22), .ref (q 26), .int (a 0 2), .int (a 0 1), .int (a 0 5), .int (a 0 6), .int (a 0 7), .int (a 0 8)])), (q 1, .inr (3, [.ref (q 2), .ref (q 3), .ref (q 4), .ref (q 5), .ref (q 6), .ref (q 7), .ref (q 8), .ref (q 9), .int (a 0 0)])), (q 2, .inl (cI, 8, .inl (a 1))), (q 3, .inl (cI, 8, .inl (a 2))), (q 4, .inl (cI, 8, .inl (a 3))), (q 5, .inl (cI, 8, .inl (a 4))), (q 6, .inl (cI, 8, .inl (a 5))), (q 7, .inl (cI, 8, .inl (a 6))), (q 8, .inl (cI, 8, .inl (a 7))), (q 9, .inl (cI, 8, .inl (a 8))), (q 10, .inr (2, [.ref (q 11), .ref (q 12), .ref (q 13), .ref (q 14), .ref (q 15), .ref (q 16), .ref (q 17), .int (a 0 3)])), (q 11, .inl (cI, 100, .inl (a 10))), (q 12, .inl (cF, 100, .inr (.inr (.inl (fun j => shF (a 13 j)))))), (q 13, .inl (cI, 100, .inl (a 14))), (q 14, .inl (cI, 100, .inl (upd (fun j => a 11 j - a 12 j) (nn x) ((a 11 (nn x) - a 12 (nn x)) - am)))), (q 15, .inl (cI, 100, .inl (fun j => a 15 j - a 16 j))), (q 16, .inl (cI, 100, .inl (a 17))), (q 17, .inl (cI, 100, .inl (a 18))), (q 18, .inr (1, [.ref (q 19), .ref (q 20), .ref (q 21), .int (a 0 4)])), (q 19, .inl (cI, capOf (nn (a 0 4)), .inl (a 20))), (q 20, .inl (cI, capOf (nn (a 0 4)), .inl (a 19))), (q 21, .inl (cI, capOf (nn (a 0 4)), .inl (a 21))), (q 22, .inr (0, [.ref (q 23), .ref (q 24), .ref (q 25), .int (nI k)])), (q 23, .inl (cI, 8, .inl (jc))), (q 24, .inl (cI, 256, .inl (js))), (q 25, .inl (cI, 256, .inl (jv))), (q 26, .inl (cF, 4, .inr (.inr (.inl (fun j => shF (a 9 j))))))] := hD
            rw [unr_dn (f := a 11) (g := a 12) (nn x) am] at hP hD
            refine lv_aload_n hx hb dX4_refund_129 rfl (lv_at hl 3 rfl) ?_
            refine va_get (D := (dC, dI)) (ci := 4) (v := .ref (q 10)) (C := RX4) (T := TX4) (N := 11) hx hb hts hiX4 hown hK hP 0 rfl rfl 1 (by decide) (hts (.fieldLink RX4 19 "Payoutnet" "sales" "LPayoutnet$Sales;") (List.mem_of_getElem? (i := 5) rfl)) (fun _ h9 => h9) rfl dX4_refund_130 ?_
            refine va_get (D := (dC, dI)) (ci := 2) (v := .ref (q 15)) (C := RX2) (T := TX2) (N := 8) hx hb hts hiX2 hown hK hP 10 rfl rfl 4 (by decide) (hts (.fieldLink RX4 152 "Payoutnet$Sales" "feeKept" "[I") (List.mem_of_getElem? (i := 12) rfl)) (fun _ h9 => h9) rfl dX4_refund_133 ?_
            refine lv_iload_n hx hb dX4_refund_136 rfl (lv_at hl 4 rfl) ?_
            refine y_topi (y := nI (nn x)) hx1.1 ?_
            refine lv_dup2_11 hx hb dX4_refund_137 rfl rfl ?_
            refine y_ild hx hb hK hP 15 0 rfl rfl (t := nn x) (by omega) (Nat.le_of_ble_eq_true rfl) dX4_refund_138 ?_
            refine lv_iload hx hb dX4_refund_139 (lv_at hl 0 rfl) ?_
            refine lv_isub hx hb dX4_refund_141 ?_
            refine y_ist hx hb hK hP hD hS 15 0 rfl rfl (t := nn x) (by omega) (Nat.le_of_ble_eq_true rfl) dX4_refund_142 (fun H locs hP hD hS => ?_)
            have hP : va_P (dC, dI) vwCl [(h0, .inr (4, [.ref (q 1), .ref (q 10), .ref (q 18), .ref (q 22), .ref (q 26), .int (a 0 2), .int (a 0 1), .int (a 0 5), .int (a 0 6), .int (a 0 7), .int (a 0 8)])), (q 1, .inr (3, [.ref (q 2), .ref (q 3), .ref (q 4), .ref (q 5), .ref (q 6), .ref (q 7), .ref (q 8), .ref (q 9), .int (a 0 0)])), (q 2, .inl (cI, 8, .inl (a 1))), (q 3, .inl (cI, 8, .inl (a 2))), (q 4, .inl (cI, 8, .inl (a 3))), (q 5, .inl (cI, 8, .inl (a 4))), (q 6, .inl (cI, 8, .inl (a 5))), (q 7, .inl (cI, 8, .inl (a 6))), (q 8, .inl (cI, 8, .inl (a 7))), (q 9, .inl (cI, 8, .inl (a 8))), (q 10, .inr (2, [.ref (q 11), .ref (q 12), .ref (q 13), .ref (q 14), .ref (q 15), .ref (q 16), .ref (q 17), .int (a 0 3)])), (q 11, .inl (cI, 100, .inl (a 10))), (q 12, .inl (cF, 100, .inr (.inr (.inl (fun j => shF (a 13 j)))))), (q 13, .inl (cI, 100, .inl (a 14))), (q 14, .inl (cI, 100, .inl (fun j => a 11 j - upd (a 12) (nn x) (a 12 (nn x) + am) j))), (q 15, .inl (cI, 100, .inl (upd (fun j => a 15 j - a 16 j) (nn x) ((a 15 (nn x) - a 16 (nn x)) - (sBackF a (nn x) am fbb))))), (q 16, .inl (cI, 100, .inl (a 17))), (q 17, .inl (cI, 100, .inl (a 18))), (q 18, .inr (1, [.ref (q 19), .ref (q 20), .ref (q 21), .int (a 0 4)])), (q 19, .inl (cI, capOf (nn (a 0 4)), .inl (a 20))), (q 20, .inl (cI, capOf (nn (a 0 4)), .inl (a 19))), (q 21, .inl (cI, capOf (nn (a 0 4)), .inl (a 21))), (q 22, .inr (0, [.ref (q 23), .ref (q 24), .ref (q 25), .int (nI k)])), (q 23, .inl (cI, 8, .inl (jc))), (q 24, .inl (cI, 256, .inl (js))), (q 25, .inl (cI, 256, .inl (jv))), (q 26, .inl (cF, 4, .inr (.inr (.inl (fun j => shF (a 9 j))))))] H := hP
            have hD : va_D A [(h0, .inr (4, [.ref (q 1), .ref (q 10), .ref (q 18), .ref (q 22), .ref (q 26), .int (a 0 2), .int (a 0 1), .int (a 0 5), .int (a 0 6), .int (a 0 7), .int (a 0 8)])), (q 1, .inr (3, [.ref (q 2), .ref (q 3), .ref (q 4), .ref (q 5), .ref (q 6), .ref (q 7), .ref (q 8), .ref (q 9), .int (a 0 0)])), (q 2, .inl (cI, 8, .inl (a 1))), (q 3, .inl (cI, 8, .inl (a 2))), (q 4, .inl (cI, 8, .inl (a 3))), (q 5, .inl (cI, 8, .inl (a 4))), (q 6, .inl (cI, 8, .inl (a 5))), (q 7, .inl (cI, 8, .inl (a 6))), (q 8, .inl (cI, 8, .inl (a 7))), (q 9, .inl (cI, 8, .inl (a 8))), (q 10, .inr (2, [.ref (q 11), .ref (q 12), .ref (q 13), .ref (q 14), .ref (q 15), .ref (q 16), .ref (q 17), .int (a 0 3)])), (q 11, .inl (cI, 100, .inl (a 10))), (q 12, .inl (cF, 100, .inr (.inr (.inl (fun j => shF (a 13 j)))))), (q 13, .inl (cI, 100, .inl (a 14))), (q 14, .inl (cI, 100, .inl (fun j => a 11 j - upd (a 12) (nn x) (a 12 (nn x) + am) j))), (q 15, .inl (cI, 100, .inl (upd (fun j => a 15 j - a 16 j) (nn x) ((a 15 (nn x) - a 16 (nn x)) - (sBackF a (nn x) am fbb))))), (q 16, .inl (cI, 100, .inl (a 17))), (q 17, .inl (cI, 100, .inl (a 18))), (q 18, .inr (1, [.ref (q 19), .ref (q 20), .ref (q 21), .int (a 0 4)])), (q 19, .inl (cI, capOf (nn (a 0 4)), .inl (a 20))), (q 20, .inl (cI, capOf (nn (a 0 4)), .inl (a 19))), (q 21, .inl (cI, capOf (nn (a 0 4)), .inl (a 21))), (q 22, .inr (0, [.ref (q 23), .ref (q 24), .ref (q 25), .int (nI k)])), (q 23, .inl (cI, 8, .inl (jc))), (q 24, .inl (cI, 256, .inl (js))), (q 25, .inl (cI, 256, .inl (jv))), (q 26, .inl (cF, 4, .inr (.inr (.inl (fun j => shF (a 9 j))))))] := hD
            rw [unr_dn (f := a 15) (g := a 16) (nn x) (sBackF a (nn x) am fbb)] at hP hD
            refine lv_aload_n hx hb dX4_refund_143 rfl (lv_at hl 3 rfl) ?_
            refine lv_dup hx hb dX4_refund_144 rfl ?_
            refine va_get (D := (dC, dI)) (ci := 4) (v := .int (a 0 6)) (C := RX4) (T := TX4) (N := 11) hx hb hts hiX4 hown hK hP 0 rfl rfl 8 (by decide) (hts (.fieldLink RX4 155 "Payoutnet" "refunded" "I") (List.mem_of_getElem? (i := 17) rfl)) (fun _ h9 => h9) rfl dX4_refund_145 ?_
            refine lv_iload_n hx hb dX4_refund_148 rfl (lv_at hl 5 rfl) ?_
            refine lv_iadd hx hb dX4_refund_149 ?_
            refine va_put (D := (dC, dI)) (ci := 4) (v := .int ((a 0 6) + am)) (ty := .int) (C := RX4) (T := TX4) (N := 11) hx hb hts hiX4 tyX4 tyX4_ok nmX4 hown hK hP hD hS 0 rfl rfl 8 (by decide) (hts (.fieldLink RX4 155 "Payoutnet" "refunded" "I") (List.mem_of_getElem? (i := 17) rfl)) (fun _ h9 => h9) rfl (tyX4_ok 8 (by decide)) rfl rfl (Nat.le_of_ble_eq_true rfl) dX4_refund_150 (fun H locs hP hD hS => ?_)
            have hP : va_P (dC, dI) vwCl [(h0, .inr (4, [.ref (q 1), .ref (q 10), .ref (q 18), .ref (q 22), .ref (q 26), .int (a 0 2), .int (a 0 1), .int (a 0 5), .int ((a 0 6) + am), .int (a 0 7), .int (a 0 8)])), (q 1, .inr (3, [.ref (q 2), .ref (q 3), .ref (q 4), .ref (q 5), .ref (q 6), .ref (q 7), .ref (q 8), .ref (q 9), .int (a 0 0)])), (q 2, .inl (cI, 8, .inl (a 1))), (q 3, .inl (cI, 8, .inl (a 2))), (q 4, .inl (cI, 8, .inl (a 3))), (q 5, .inl (cI, 8, .inl (a 4))), (q 6, .inl (cI, 8, .inl (a 5))), (q 7, .inl (cI, 8, .inl (a 6))), (q 8, .inl (cI, 8, .inl (a 7))), (q 9, .inl (cI, 8, .inl (a 8))), (q 10, .inr (2, [.ref (q 11), .ref (q 12), .ref (q 13), .ref (q 14), .ref (q 15), .ref (q 16), .ref (q 17), .int (a 0 3)])), (q 11, .inl (cI, 100, .inl (a 10))), (q 12, .inl (cF, 100, .inr (.inr (.inl (fun j => shF (a 13 j)))))), (q 13, .inl (cI, 100, .inl (a 14))), (q 14, .inl (cI, 100, .inl (fun j => a 11 j - upd (a 12) (nn x) (a 12 (nn x) + am) j))), (q 15, .inl (cI, 100, .inl (fun j => a 15 j - upd (a 16) (nn x) (a 16 (nn x) + sBackF a (nn x) am fbb) j))), (q 16, .inl (cI, 100, .inl (a 17))), (q 17, .inl (cI, 100, .inl (a 18))), (q 18, .inr (1, [.ref (q 19), .ref (q 20), .ref (q 21), .int (a 0 4)])), (q 19, .inl (cI, capOf (nn (a 0 4)), .inl (a 20))), (q 20, .inl (cI, capOf (nn (a 0 4)), .inl (a 19))), (q 21, .inl (cI, capOf (nn (a 0 4)), .inl (a 21))), (q 22, .inr (0, [.ref (q 23), .ref (q 24), .ref (q 25), .int (nI k)])), (q 23, .inl (cI, 8, .inl (jc))), (q 24, .inl (cI, 256, .inl (js))), (q 25, .inl (cI, 256, .inl (jv))), (q 26, .inl (cF, 4, .inr (.inr (.inl (fun j => shF (a 9 j))))))] H := hP
            have hD : va_D A [(h0, .inr (4, [.ref (q 1), .ref (q 10), .ref (q 18), .ref (q 22), .ref (q 26), .int (a 0 2), .int (a 0 1), .int (a 0 5), .int ((a 0 6) + am), .int (a 0 7), .int (a 0 8)])), (q 1, .inr (3, [.ref (q 2), .ref (q 3), .ref (q 4), .ref (q 5), .ref (q 6), .ref (q 7), .ref (q 8), .ref (q 9), .int (a 0 0)])), (q 2, .inl (cI, 8, .inl (a 1))), (q 3, .inl (cI, 8, .inl (a 2))), (q 4, .inl (cI, 8, .inl (a 3))), (q 5, .inl (cI, 8, .inl (a 4))), (q 6, .inl (cI, 8, .inl (a 5))), (q 7, .inl (cI, 8, .inl (a 6))), (q 8, .inl (cI, 8, .inl (a 7))), (q 9, .inl (cI, 8, .inl (a 8))), (q 10, .inr (2, [.ref (q 11), .ref (q 12), .ref (q 13), .ref (q 14), .ref (q 15), .ref (q 16), .ref (q 17), .int (a 0 3)])), (q 11, .inl (cI, 100, .inl (a 10))), (q 12, .inl (cF, 100, .inr (.inr (.inl (fun j => shF (a 13 j)))))), (q 13, .inl (cI, 100, .inl (a 14))), (q 14, .inl (cI, 100, .inl (fun j => a 11 j - upd (a 12) (nn x) (a 12 (nn x) + am) j))), (q 15, .inl (cI, 100, .inl (fun j => a 15 j - upd (a 16) (nn x) (a 16 (nn x) + sBackF a (nn x) am fbb) j))), (q 16, .inl (cI, 100, .inl (a 17))), (q 17, .inl (cI, 100, .inl (a 18))), (q 18, .inr (1, [.ref (q 19), .ref (q 20), .ref (q 21), .int (a 0 4)])), (q 19, .inl (cI, capOf (nn (a 0 4)), .inl (a 20))), (q 20, .inl (cI, capOf (nn (a 0 4)), .inl (a 19))), (q 21, .inl (cI, capOf (nn (a 0 4)), .inl (a 21))), (q 22, .inr (0, [.ref (q 23), .ref (q 24), .ref (q 25), .int (nI k)])), (q 23, .inl (cI, 8, .inl (jc))), (q 24, .inl (cI, 256, .inl (js))), (q 25, .inl (cI, 256, .inl (jv))), (q 26, .inl (cF, 4, .inr (.inr (.inl (fun j => shF (a 9 j))))))] := hD
            refine lv_aload_n hx hb dX4_refund_153 rfl (lv_at hl 3 rfl) ?_
            refine lv_dup hx hb dX4_refund_154 rfl ?_
            refine va_get (D := (dC, dI)) (ci := 4) (v := .int (a 0 8)) (C := RX4) (T := TX4) (N := 11) hx hb hts hiX4 hown hK hP 0 rfl rfl 10 (by decide) (hts (.fieldLink RX4 158 "Payoutnet" "taxes" "I") (List.mem_of_getElem? (i := 18) rfl)) (fun _ h9 => h9) rfl dX4_refund_155 ?_
            refine lv_iload hx hb dX4_refund_158 (lv_at hl 1 rfl) ?_
            refine lv_isub hx hb dX4_refund_160 ?_
            refine va_put (D := (dC, dI)) (ci := 4) (v := .int ((a 0 8) - (sBackT a (nn x) am))) (ty := .int) (C := RX4) (T := TX4) (N := 11) hx hb hts hiX4 tyX4 tyX4_ok nmX4 hown hK hP hD hS 0 rfl rfl 10 (by decide) (hts (.fieldLink RX4 158 "Payoutnet" "taxes" "I") (List.mem_of_getElem? (i := 18) rfl)) (fun _ h9 => h9) rfl (tyX4_ok 10 (by decide)) rfl rfl (Nat.le_of_ble_eq_true rfl) dX4_refund_161 (fun H locs hP hD hS => ?_)
            have hP : va_P (dC, dI) vwCl [(h0, .inr (4, [.ref (q 1), .ref (q 10), .ref (q 18), .ref (q 22), .ref (q 26), .int (a 0 2), .int (a 0 1), .int (a 0 5), .int ((a 0 6) + am), .int (a 0 7), .int ((a 0 8) - (sBackT a (nn x) am))])), (q 1, .inr (3, [.ref (q 2), .ref (q 3), .ref (q 4), .ref (q 5), .ref (q 6), .ref (q 7), .ref (q 8), .ref (q 9), .int (a 0 0)])), (q 2, .inl (cI, 8, .inl (a 1))), (q 3, .inl (cI, 8, .inl (a 2))), (q 4, .inl (cI, 8, .inl (a 3))), (q 5, .inl (cI, 8, .inl (a 4))), (q 6, .inl (cI, 8, .inl (a 5))), (q 7, .inl (cI, 8, .inl (a 6))), (q 8, .inl (cI, 8, .inl (a 7))), (q 9, .inl (cI, 8, .inl (a 8))), (q 10, .inr (2, [.ref (q 11), .ref (q 12), .ref (q 13), .ref (q 14), .ref (q 15), .ref (q 16), .ref (q 17), .int (a 0 3)])), (q 11, .inl (cI, 100, .inl (a 10))), (q 12, .inl (cF, 100, .inr (.inr (.inl (fun j => shF (a 13 j)))))), (q 13, .inl (cI, 100, .inl (a 14))), (q 14, .inl (cI, 100, .inl (fun j => a 11 j - upd (a 12) (nn x) (a 12 (nn x) + am) j))), (q 15, .inl (cI, 100, .inl (fun j => a 15 j - upd (a 16) (nn x) (a 16 (nn x) + sBackF a (nn x) am fbb) j))), (q 16, .inl (cI, 100, .inl (a 17))), (q 17, .inl (cI, 100, .inl (a 18))), (q 18, .inr (1, [.ref (q 19), .ref (q 20), .ref (q 21), .int (a 0 4)])), (q 19, .inl (cI, capOf (nn (a 0 4)), .inl (a 20))), (q 20, .inl (cI, capOf (nn (a 0 4)), .inl (a 19))), (q 21, .inl (cI, capOf (nn (a 0 4)), .inl (a 21))), (q 22, .inr (0, [.ref (q 23), .ref (q 24), .ref (q 25), .int (nI k)])), (q 23, .inl (cI, 8, .inl (jc))), (q 24, .inl (cI, 256, .inl (js))), (q 25, .inl (cI, 256, .inl (jv))), (q 26, .inl (cF, 4, .inr (.inr (.inl (fun j => shF (a 9 j))))))] H := hP
            have hD : va_D A [(h0, .inr (4, [.ref (q 1), .ref (q 10), .ref (q 18), .ref (q 22), .ref (q 26), .int (a 0 2), .int (a 0 1), .int (a 0 5), .int ((a 0 6) + am), .int (a 0 7), .int ((a 0 8) - (sBackT a (nn x) am))])), (q 1, .inr (3, [.ref (q 2), .ref (q 3), .ref (q 4), .ref (q 5), .ref (q 6), .ref (q 7), .ref (q 8), .ref (q 9), .int (a 0 0)])), (q 2, .inl (cI, 8, .inl (a 1))), (q 3, .inl (cI, 8, .inl (a 2))), (q 4, .inl (cI, 8, .inl (a 3))), (q 5, .inl (cI, 8, .inl (a 4))), (q 6, .inl (cI, 8, .inl (a 5))), (q 7, .inl (cI, 8, .inl (a 6))), (q 8, .inl (cI, 8, .inl (a 7))), (q 9, .inl (cI, 8, .inl (a 8))), (q 10, .inr (2, [.ref (q 11), .ref (q 12), .ref (q 13), .ref (q 14), .ref (q 15), .ref (q 16), .ref (q 17), .int (a 0 3)])), (q 11, .inl (cI, 100, .inl (a 10))), (q 12, .inl (cF, 100, .inr (.inr (.inl (fun j => shF (a 13 j)))))), (q 13, .inl (cI, 100, .inl (a 14))), (q 14, .inl (cI, 100, .inl (fun j => a 11 j - upd (a 12) (nn x) (a 12 (nn x) + am) j))), (q 15, .inl (cI, 100, .inl (fun j => a 15 j - upd (a 16) (nn x) (a 16 (nn x) + sBackF a (nn x) am fbb) j))), (q 16, .inl (cI, 100, .inl (a 17))), (q 17, .inl (cI, 100, .inl (a 18))), (q 18, .inr (1, [.ref (q 19), .ref (q 20), .ref (q 21), .int (a 0 4)])), (q 19, .inl (cI, capOf (nn (a 0 4)), .inl (a 20))), (q 20, .inl (cI, capOf (nn (a 0 4)), .inl (a 19))), (q 21, .inl (cI, capOf (nn (a 0 4)), .inl (a 21))), (q 22, .inr (0, [.ref (q 23), .ref (q 24), .ref (q 25), .int (nI k)])), (q 23, .inl (cI, 8, .inl (jc))), (q 24, .inl (cI, 256, .inl (js))), (q 25, .inl (cI, 256, .inl (jv))), (q 26, .inl (cF, 4, .inr (.inr (.inl (fun j => shF (a 9 j))))))] := hD
            refine lv_aload_n hx hb dX4_refund_164 rfl (lv_at hl 3 rfl) ?_
            refine lv_dup hx hb dX4_refund_165 rfl ?_
            refine va_get (D := (dC, dI)) (ci := 4) (v := .int (a 0 7)) (C := RX4) (T := TX4) (N := 11) hx hb hts hiX4 hown hK hP 0 rfl rfl 9 (by decide) (hts (.fieldLink RX4 161 "Payoutnet" "fees" "I") (List.mem_of_getElem? (i := 19) rfl)) (fun _ h9 => h9) rfl dX4_refund_166 ?_
            refine lv_iload hx hb dX4_refund_169 (lv_at hl 0 rfl) ?_
            refine lv_isub hx hb dX4_refund_171 ?_
            refine va_put (D := (dC, dI)) (ci := 4) (v := .int ((a 0 7) - (sBackF a (nn x) am fbb))) (ty := .int) (C := RX4) (T := TX4) (N := 11) hx hb hts hiX4 tyX4 tyX4_ok nmX4 hown hK hP hD hS 0 rfl rfl 9 (by decide) (hts (.fieldLink RX4 161 "Payoutnet" "fees" "I") (List.mem_of_getElem? (i := 19) rfl)) (fun _ h9 => h9) rfl (tyX4_ok 9 (by decide)) rfl rfl (Nat.le_of_ble_eq_true rfl) dX4_refund_172 (fun H locs hP hD hS => ?_)
            have hP : va_P (dC, dI) vwCl [(h0, .inr (4, [.ref (q 1), .ref (q 10), .ref (q 18), .ref (q 22), .ref (q 26), .int (a 0 2), .int (a 0 1), .int (a 0 5), .int ((a 0 6) + am), .int ((a 0 7) - (sBackF a (nn x) am fbb)), .int ((a 0 8) - (sBackT a (nn x) am))])), (q 1, .inr (3, [.ref (q 2), .ref (q 3), .ref (q 4), .ref (q 5), .ref (q 6), .ref (q 7), .ref (q 8), .ref (q 9), .int (a 0 0)])), (q 2, .inl (cI, 8, .inl (a 1))), (q 3, .inl (cI, 8, .inl (a 2))), (q 4, .inl (cI, 8, .inl (a 3))), (q 5, .inl (cI, 8, .inl (a 4))), (q 6, .inl (cI, 8, .inl (a 5))), (q 7, .inl (cI, 8, .inl (a 6))), (q 8, .inl (cI, 8, .inl (a 7))), (q 9, .inl (cI, 8, .inl (a 8))), (q 10, .inr (2, [.ref (q 11), .ref (q 12), .ref (q 13), .ref (q 14), .ref (q 15), .ref (q 16), .ref (q 17), .int (a 0 3)])), (q 11, .inl (cI, 100, .inl (a 10))), (q 12, .inl (cF, 100, .inr (.inr (.inl (fun j => shF (a 13 j)))))), (q 13, .inl (cI, 100, .inl (a 14))), (q 14, .inl (cI, 100, .inl (fun j => a 11 j - upd (a 12) (nn x) (a 12 (nn x) + am) j))), (q 15, .inl (cI, 100, .inl (fun j => a 15 j - upd (a 16) (nn x) (a 16 (nn x) + sBackF a (nn x) am fbb) j))), (q 16, .inl (cI, 100, .inl (a 17))), (q 17, .inl (cI, 100, .inl (a 18))), (q 18, .inr (1, [.ref (q 19), .ref (q 20), .ref (q 21), .int (a 0 4)])), (q 19, .inl (cI, capOf (nn (a 0 4)), .inl (a 20))), (q 20, .inl (cI, capOf (nn (a 0 4)), .inl (a 19))), (q 21, .inl (cI, capOf (nn (a 0 4)), .inl (a 21))), (q 22, .inr (0, [.ref (q 23), .ref (q 24), .ref (q 25), .int (nI k)])), (q 23, .inl (cI, 8, .inl (jc))), (q 24, .inl (cI, 256, .inl (js))), (q 25, .inl (cI, 256, .inl (jv))), (q 26, .inl (cF, 4, .inr (.inr (.inl (fun j => shF (a 9 j))))))] H := hP
            have hD : va_D A [(h0, .inr (4, [.ref (q 1), .ref (q 10), .ref (q 18), .ref (q 22), .ref (q 26), .int (a 0 2), .int (a 0 1), .int (a 0 5), .int ((a 0 6) + am), .int ((a 0 7) - (sBackF a (nn x) am fbb)), .int ((a 0 8) - (sBackT a (nn x) am))])), (q 1, .inr (3, [.ref (q 2), .ref (q 3), .ref (q 4), .ref (q 5), .ref (q 6), .ref (q 7), .ref (q 8), .ref (q 9), .int (a 0 0)])), (q 2, .inl (cI, 8, .inl (a 1))), (q 3, .inl (cI, 8, .inl (a 2))), (q 4, .inl (cI, 8, .inl (a 3))), (q 5, .inl (cI, 8, .inl (a 4))), (q 6, .inl (cI, 8, .inl (a 5))), (q 7, .inl (cI, 8, .inl (a 6))), (q 8, .inl (cI, 8, .inl (a 7))), (q 9, .inl (cI, 8, .inl (a 8))), (q 10, .inr (2, [.ref (q 11), .ref (q 12), .ref (q 13), .ref (q 14), .ref (q 15), .ref (q 16), .ref (q 17), .int (a 0 3)])), (q 11, .inl (cI, 100, .inl (a 10))), (q 12, .inl (cF, 100, .inr (.inr (.inl (fun j => shF (a 13 j)))))), (q 13, .inl (cI, 100, .inl (a 14))), (q 14, .inl (cI, 100, .inl (fun j => a 11 j - upd (a 12) (nn x) (a 12 (nn x) + am) j))), (q 15, .inl (cI, 100, .inl (fun j => a 15 j - upd (a 16) (nn x) (a 16 (nn x) + sBackF a (nn x) am fbb) j))), (q 16, .inl (cI, 100, .inl (a 17))), (q 17, .inl (cI, 100, .inl (a 18))), (q 18, .inr (1, [.ref (q 19), .ref (q 20), .ref (q 21), .int (a 0 4)])), (q 19, .inl (cI, capOf (nn (a 0 4)), .inl (a 20))), (q 20, .inl (cI, capOf (nn (a 0 4)), .inl (a 19))), (q 21, .inl (cI, capOf (nn (a 0 4)), .inl (a 21))), (q 22, .inr (0, [.ref (q 23), .ref (q 24), .ref (q 25), .int (nI k)])), (q 23, .inl (cI, 8, .inl (jc))), (q 24, .inl (cI, 256, .inl (js))), (q 25, .inl (cI, 256, .inl (jv))), (q 26, .inl (cF, 4, .inr (.inr (.inl (fun j => shF (a 9 j))))))] := hD
            have hP : va_P (dC, dI) vwCl (WC cI cF h0 q (sRefC a (nn x) am fbb) jc js jv k (capOf (nn ((sRefC a (nn x) am fbb) 0 4)))) H := hP
            have hD : va_D A (WC cI cF h0 q (sRefC a (nn x) am fbb) jc js jv k (capOf (nn ((sRefC a (nn x) am fbb) 0 4)))) := hD
            have hB2 : okB (sRefC a (nn x) am fbb) := okB_free (okB_free (okB_free (okB_free (okB_free hB rfl) rfl) rfl) rfl) rfl
            have hC2 : okC (sRefC a (nn x) am fbb) jc js jv k := hC
            refine lv_aload_n hx hb dX4_refund_175 rfl (lv_at hl 3 rfl) ?_
            refine lv_iload hx hb dX4_refund_176 (lv_at hl 2 rfl) ?_
            refine lv_iload hx hb dX4_refund_178 (lv_at hl 1 rfl) ?_
            refine lv_iload hx hb dX4_refund_180 (lv_at hl 0 rfl) ?_
            refine lv_iadd hx hb dX4_refund_182 ?_
            refine lv_iload_n hx hb dX4_refund_183 rfl (lv_at hl 5 rfl) ?_
            refine lv_isub hx hb dX4_refund_184 ?_
            have hFc := y_free hD hS hA
            refine va_callv (va_runV (As := [.int (nI (slr a (nn x))), .int (((sBackT a (nn x) am) + (sBackF a (nn x) am fbb)) - am)]) (rest := []) ⟨hx, hb, hml, hown, hts⟩ (c_X4_post l dC dI cI cF h0 q H.size (sRefC a (nn x) am fbb) jc js jv k hC2 hB2 (slr a (nn x)) hz (sBackT a (nn x) am + sBackF a (nn x) am fbb - am)) (cwV 2 hts gX4_refund_X4_post rfl rfl rfl (by decide +kernel) ⟨Nat.le_of_ble_eq_true rfl, Nat.le_of_ble_eq_true rfl⟩) ⟨pcW_blind, va_recv hK hP (ci := 4) (q0 := 0) rfl rfl, fun U hU hW => pcW_pre hP hD hK hU hW⟩ rfl rfl hl.1 rfl (lv_room (Nat.le_of_ble_eq_true rfl)) dX4_refund_185 ⟨Nat.le_of_ble_eq_true rfl, Nat.le_of_ble_eq_true rfl⟩) hS (fun q _ h => hFc q h) hFc (fun u t H1 locs ht hvm hw hB1 hz1 hk1 hS => ?_)
            obtain ⟨q7, jc7, js7, jv7, k7, hC7, hP, hK1, hD1⟩ := hB1
            rw [ht] at hP
            have hD := hD1.weaken (fun kk qq _ h => hFc qq.1 h)
            generalize H1 = H at hP hS ⊢
            have hC7 : okC (sRefund a (nn x) am fbb) jc7 js7 jv7 k7 := hC7
            have hP : va_P (dC, dI) vwCl (WC cI cF h0 q7 (sRefund a (nn x) am fbb) jc7 js7 jv7 k7 (capOf (nn ((sRefund a (nn x) am fbb) 0 4)))) H := hP
            have hD : va_D A (WC cI cF h0 q7 (sRefund a (nn x) am fbb) jc7 js7 jv7 k7 (capOf (nn ((sRefund a (nn x) am fbb) 0 4)))) := hD
            refine lv_aload_n hx hb dX4_refund_188 rfl (lv_at hl 3 rfl) ?_
            refine va_get (D := (dC, dI)) (ci := 4) (v := .ref (q7 1)) (C := RX4) (T := TX4) (N := 11) hx hb hts hiX4 hown hK hP 0 rfl rfl 0 (by decide) (hts (.fieldLink RX4 10 "Payoutnet" "shops" "LPayoutnet$Shops;") (List.mem_of_getElem? (i := 20) rfl)) (fun _ h9 => h9) rfl dX4_refund_189 ?_
            refine va_get (D := (dC, dI)) (ci := 3) (v := .ref (q7 8)) (C := RX3) (T := TX3) (N := 9) hx hb hts hiX3 hown hK hP 1 rfl rfl 6 (by decide) (hts (.fieldLink RX4 168 "Payoutnet$Shops" "balance" "[I") (List.mem_of_getElem? (i := 21) rfl)) (fun _ h9 => h9) rfl dX4_refund_192 ?_
            refine lv_iload hx hb dX4_refund_195 (lv_at hl 2 rfl) ?_
            refine y_ild hx hb hK hP 8 0 rfl rfl (t := slr a (nn x)) (by omega) (Nat.le_of_ble_eq_true rfl) dX4_refund_197 ?_
            refine W.widen (k := 2) (n := 12) (Nat.le_of_ble_eq_true rfl) (Nat.le_of_ble_eq_true rfl) ?_
            have hP9 := hP
            have hD9 := hD
            have hK9 := hK
            refine vx_ret ?_
            exact W.iret (v := ((sRefund a (nn x) am fbb) 7) (slr a (nn x))) hx hb hr (fun t ht hW => ⟨⟨((sRefund a (nn x) am fbb) 7) (slr a (nn x)), (), rfl, ⟨e0, rfl⟩, atC_in hC7 (atW_end hP9 hD9 hK9 ht hW)⟩, hS.F ht⟩) hS.2.2 dX4_refund_198
        · have e3 : kRef a x am = 3 := by unfold kRef; rw [if_pos hso, if_pos hwa, if_neg c_4]
          obtain ⟨sa, hstr⟩ := hV.2.2.2 (135, "less than that is not refunded yet") (by decide +kernel)
          have hat : ∀ w ∈ vx_atS RX4 60 exS exN, w.before _ s = true := vx_hat (B := vB) (fun w h => hts w (List.mem_cons_of_mem _ (List.mem_append_left _ (List.mem_append_right _ h)))) (by decide +kernel) (okV_use hV)
          exact vx_throwS (cls := exS) (text := "less than that is not refunded yet") (names := exN) (A := A) (sa := sa) hx hb hst hown (by decide +kernel) (by decide +kernel) (hts (.classLink RX4 56 "java/lang/IllegalStateException") (List.mem_of_getElem? (i := 3) rfl)) (hts (.initialized "java/lang/IllegalStateException") (List.mem_of_getElem? (i := 4) rfl)) hstr hat (by decide +kernel) hV.1 hV.2.1 hS (hl.1.trans hml.symm) dX4_refund_45 dX4_refund_48 dX4_refund_49 dX4_refund_51 dX4_refund_54 (fun x hx9 => (htab x hx9).elim) (Nat.le_of_ble_eq_true rfl) (Nat.le_of_ble_eq_true rfl) (Nat.le_of_ble_eq_true rfl) (Nat.le_of_ble_eq_true rfl) hlocks (fun t hvm9 hz9 hk9 => ⟨(), (by rw [e3]; decide), ⟨(by rw [e3]; exact rfl), atC_in hC (atW_thr hP hD hK hvm9 hk9)⟩, y_F_thr hS hz9 hk9⟩) hS.2.2 (Nat.le_of_ble_eq_true rfl) (Nat.le_of_ble_eq_true rfl)
    · have e1 : kRef a x am = 1 := if_neg (fun h9 => c_2 h9.2)
      obtain ⟨sa, hstr⟩ := hV.2.2.2 (130, "no such sale") (by decide +kernel)
      have hat : ∀ w ∈ vx_atS RX4 49 exI exN, w.before _ s = true := vx_hat (B := vB) (fun w h => hts w (List.mem_cons_of_mem _ (List.mem_append_left _ (List.mem_append_left _ (List.mem_append_right _ h))))) (by decide +kernel) (okV_use hV)
      exact vx_throwS (cls := exI) (text := "no such sale") (names := exN) (A := A) (sa := sa) hx hb hst hown (by decide +kernel) (by decide +kernel) (hts (.classLink RX4 45 "java/lang/IndexOutOfBoundsException") (List.mem_of_getElem? (i := 1) rfl)) (hts (.initialized "java/lang/IndexOutOfBoundsException") (List.mem_of_getElem? (i := 2) rfl)) hstr hat (by decide +kernel) hV.1 hV.2.1 hS (hl.1.trans hml.symm) dX4_refund_15 dX4_refund_18 dX4_refund_19 dX4_refund_21 dX4_refund_24 (fun x hx9 => (htab x hx9).elim) (Nat.le_of_ble_eq_true rfl) (Nat.le_of_ble_eq_true rfl) (Nat.le_of_ble_eq_true rfl) (Nat.le_of_ble_eq_true rfl) hlocks (fun t hvm9 hz9 hk9 => ⟨(), (by rw [e1]; decide), ⟨(by rw [e1]; exact rfl), atC_in hC (atW_thr hP hD hK hvm9 hk9)⟩, y_F_thr hS hz9 hk9⟩) hS.2.2 (Nat.le_of_ble_eq_true rfl) (Nat.le_of_ble_eq_true rfl)
def ptN (set ev rm z : Nat) : Nat := if cntB set z < rm then ev + 1 else ev
def cntP (set ev rm : Nat) : Nat → Nat
  | 0 => 0
  | z + 1 => cntP set ev rm z + (if set.testBit z = true ∧ 0 < ptN set ev rm z then 1 else 0)
theorem cntB_le (set : Nat) : ∀ z, cntB set z ≤ z := by
  intro z
  induction z with
  | zero => exact Nat.le_refl _
  | succ z ih => show cntB set z + _ ≤ z + 1; split <;> omega
theorem cntB_up (set : Nat) : ∀ {y z : Nat}, y ≤ z → cntB set y ≤ cntB set z := by
  intro y z h
  induction z with
  | zero => rw [show y = 0 by omega]; exact Nat.le_refl _
  | succ z ih =>
    by_cases e : y = z + 1
    · rw [e]; exact Nat.le_refl _
    · exact Nat.le_trans (ih (by omega)) (by show _ ≤ cntB set z + _; omega)
theorem cntP_up (set ev rm : Nat) : ∀ {y z : Nat}, y ≤ z → cntP set ev rm y ≤ cntP set ev rm z := by
  intro y z h
  induction z with
  | zero => rw [show y = 0 by omega]; exact Nat.le_refl _
  | succ z ih =>
    by_cases e : y = z + 1
    · rw [e]; exact Nat.le_refl _
    · exact Nat.le_trans (ih (by omega)) (by show _ ≤ cntP set ev rm z + _; omega)
theorem sOrd_step (a : yA) (set k ev rm z : Nat) : sOrd a set k ev rm (z + 1) = if set.testBit z = true ∧ 0 < ptN set ev rm z then sSettle (sOrd a set k ev rm z) z k (nI (ptN set ev rm z)) else sOrd a set k ev rm z := rfl
theorem ord_ok {a : yA} (hB : okB a) (hY : okY a) {set k ev rm : Nat} (hk : k < 4) (he : ev ≤ 1000000) (he2 : 0 < rm → ev + 1 ≤ 1000000) : ∀ z, z ≤ 8 → nn (a 0 3) + cntP set ev rm z ≤ 100 → okB (sOrd a set k ev rm z) ∧ okY (sOrd a set k ev rm z) ∧ nn (sOrd a set k ev rm z 0 3) = nn (a 0 3) + cntP set ev rm z := by
  intro z
  induction z with
  | zero => exact fun _ _ => ⟨hB, hY, rfl⟩
  | succ z ih =>
    intro hz hr
    have hup := cntP_up set ev rm (Nat.le_succ z)
    obtain ⟨h1, h2, h3⟩ := ih (by omega) (by have : cntP set ev rm z ≤ cntP set ev rm (z + 1) := hup; omega)
    rw [sOrd_step]
    by_cases hc : set.testBit z = true ∧ 0 < ptN set ev rm z
    · have ec : cntP set ev rm (z + 1) = cntP set ev rm z + 1 := by show cntP set ev rm z + _ = _; rw [if_pos hc]
      have hp : ptN set ev rm z ≤ 1000000 := by
        unfold ptN
        split
        · exact he2 (by omega)
        · exact he
      rw [if_pos hc]
      refine ⟨okB_settle h1 (by omega) hk hp (by omega), okY_settle h2 h1 _ _ _, ?_⟩
      rw [sSettle_03, nn_inc (h1 0 3 100 rfl) (by omega)]
      omega
    · have ec : cntP set ev rm (z + 1) = cntP set ev rm z := by show cntP set ev rm z + _ = _; rw [if_neg hc]; rfl
      rw [if_neg hc, ec]
      exact ⟨h1, h2, h3⟩
theorem bit_iff : ∀ set, set < 256 → ∀ i, i < 8 → (((nI set >>> (nI i &&& 31)) &&& 1 = 0) ↔ set.testBit i = false) := by decide +kernel
theorem rem_pos {rm x : Nat} (h1 : rm < 2 ^ 30) (h2 : x < 2 ^ 30) : 0 < nI rm - nI x ↔ x < rm := by
  rw [Int32.lt_iff_toInt_lt, pk_sub_toInt h1 h2]
  show (0 : Int) < _ ↔ _
  omega
theorem rem_dec (rm x : Nat) : nI rm - nI x + (-1) = nI rm - nI (x + 1) := by
  rw [← nI_1, Int32.sub_eq_add_neg, Int32.sub_eq_add_neg, Int32.neg_add, Int32.add_assoc, Int32.sub_eq_add_neg]
theorem sSettle_00 (a : yA) (z k : Nat) (x : Int32) : sSettle a z k x 0 0 = a 0 0 := rfl
theorem ord_00 (a : yA) (set k ev rm z : Nat) : sOrd a set k ev rm z 0 0 = a 0 0 := by
  induction z with
  | zero => rfl
  | succ z ih =>
    rw [sOrd_step]
    split
    · rw [sSettle_00, ih]
    · exact ih
set_option maxHeartbeats 4000000 in
set_option maxRecDepth 100000 in
theorem c_X4_settleParts (l : Launch) (dC : Nat → ClassId) (dI : Nat → Nat → Nat) (cI cF : ClassId) (h0 : Nat) (q : Nat → Nat) (sz : Nat) (a : yA) (jc js jv : Nat → Int32) (k : Nat) (hC : okC a jc js jv k) (hB : okB a) (hY : okY a) (set kd ev rm : Nat) (hset : set < 256) (hkd : kd < 4) (he : ev ≤ 1000000) (he2 : 0 < rm → ev + 1 ≤ 1000000) (hrm : rm ≤ 8) (hroom : nn (a 0 3) + cntP set ev rm (nn (a 0 0)) ≤ 100) : Met l yX4_settleParts wsX4_settleParts ({ frames := 4, cells := 0, slots := 0, locals := 94 } : Room) (va_Pc [.ref h0, .int (nI set), .int (nI kd), .int (nI ev), .int (nI rm)] (pcW dC dI [(cI, .int), (cF, .float)] (WC cI cF h0 q a jc js jv k (capOf (nn (a 0 4)))) sz)) (va_Qv (fun _ : Unit => True) (fun _ t => atC dC dI cI cF (va_A (WC cI cF h0 q a jc js jv k (capOf (nn (a 0 4)))) sz) h0 (sOrd a set kd ev rm (nn (a 0 0))) t) (va_A (WC cI cF h0 q a jc js jv k (capOf (nn (a 0 4)))) sz)) 0 0 (va_A (WC cI cF h0 q a jc js jv k (capOf (nn (a 0 4)))) sz) := by
  refine Met.ofW (cc := cX4_settleParts) (maxL := 8) (ret := none) (by decide) rfl ?_
  intro p e s m args below meth c s₁ B hml hv
  obtain ⟨rfl, hsz, hP, hK, hD0⟩ := hv
  have hx := B.exec
  have hb := B.bytes
  have hr := B.returns
  have hts := atoms_spec (ws := wsX4_settleParts) B.pre
  have hown : s.vm.findClass RX4 = some m.cls := findClass_of_methodNamed B.named
  have hlocks := B.notSynchronized
  subst hsz
  have hD := hD0.self (sz := s.heap.size)
  generalize hAe : va_A [(h0, .inr (4, [.ref (q 1), .ref (q 10), .ref (q 18), .ref (q 22), .ref (q 26), .int (a 0 2), .int (a 0 1), .int (a 0 5), .int (a 0 6), .int (a 0 7), .int (a 0 8)])), (q 1, .inr (3, [.ref (q 2), .ref (q 3), .ref (q 4), .ref (q 5), .ref (q 6), .ref (q 7), .ref (q 8), .ref (q 9), .int (a 0 0)])), (q 2, .inl (cI, 8, .inl (a 1))), (q 3, .inl (cI, 8, .inl (a 2))), (q 4, .inl (cI, 8, .inl (a 3))), (q 5, .inl (cI, 8, .inl (a 4))), (q 6, .inl (cI, 8, .inl (a 5))), (q 7, .inl (cI, 8, .inl (a 6))), (q 8, .inl (cI, 8, .inl (a 7))), (q 9, .inl (cI, 8, .inl (a 8))), (q 10, .inr (2, [.ref (q 11), .ref (q 12), .ref (q 13), .ref (q 14), .ref (q 15), .ref (q 16), .ref (q 17), .int (a 0 3)])), (q 11, .inl (cI, 100, .inl (a 10))), (q 12, .inl (cF, 100, .inr (.inr (.inl (fun j => shF (a 13 j)))))), (q 13, .inl (cI, 100, .inl (a 14))), (q 14, .inl (cI, 100, .inl (fun j => a 11 j - a 12 j))), (q 15, .inl (cI, 100, .inl (fun j => a 15 j - a 16 j))), (q 16, .inl (cI, 100, .inl (a 17))), (q 17, .inl (cI, 100, .inl (a 18))), (q 18, .inr (1, [.ref (q 19), .ref (q 20), .ref (q 21), .int (a 0 4)])), (q 19, .inl (cI, capOf (nn (a 0 4)), .inl (a 20))), (q 20, .inl (cI, capOf (nn (a 0 4)), .inl (a 19))), (q 21, .inl (cI, capOf (nn (a 0 4)), .inl (a 21))), (q 22, .inr (0, [.ref (q 23), .ref (q 24), .ref (q 25), .int (nI k)])), (q 23, .inl (cI, 8, .inl (jc))), (q 24, .inl (cI, 256, .inl (js))), (q 25, .inl (cI, 256, .inl (jv))), (q 26, .inl (cF, 4, .inr (.inr (.inl (fun j => shF (a 9 j))))))] s.heap.size = A at hD ⊢
  have hA : ∀ q : Nat, s.heap.size ≤ q → A q := fun q h => by rw [← hAe]; exact Or.inr h
  have hS : va_S A s.heap s.heap [] := va_S.rf
  have hl := lv_entry ([.ref h0, .int (nI set), .int (nI kd), .int (nI ev), .int (nI rm)]) (n := 8) (Nat.le_of_ble_eq_true rfl)
  rw [lg_entry_eq]
  generalize (lg_sl ([.ref h0, .int (nI set), .int (nI kd), .int (nI ev), .int (nI rm)]) ++ List.replicate (8 - (lg_sl ([.ref h0, .int (nI set), .int (nI kd), .int (nI ev), .int (nI rm)])).length) Slot.unset).toArray = ls at hl ⊢
  have hl : lv_has ls 8 [(0, .ref h0), (1, .int (nI set)), (2, .int (nI kd)), (3, .int (nI ev)), (4, .int (nI rm))] := hl
  have hiX4 : ∀ w ∈ wsX40, w ∈ wsX4_settleParts := fun w h => List.mem_cons_of_mem _ (List.mem_append_left _ (List.mem_append_left _ (List.mem_append_left _ (List.mem_append_right _ h))))
  have hiX3 : ∀ w ∈ wsX30, w ∈ wsX4_settleParts := fun w h => List.mem_cons_of_mem _ (List.mem_append_left _ (List.mem_append_left _ (List.mem_append_right _ h)))
  have hP : va_P (dC, dI) vwCl [(h0, .inr (4, [.ref (q 1), .ref (q 10), .ref (q 18), .ref (q 22), .ref (q 26), .int (a 0 2), .int (a 0 1), .int (a 0 5), .int (a 0 6), .int (a 0 7), .int (a 0 8)])), (q 1, .inr (3, [.ref (q 2), .ref (q 3), .ref (q 4), .ref (q 5), .ref (q 6), .ref (q 7), .ref (q 8), .ref (q 9), .int (a 0 0)])), (q 2, .inl (cI, 8, .inl (a 1))), (q 3, .inl (cI, 8, .inl (a 2))), (q 4, .inl (cI, 8, .inl (a 3))), (q 5, .inl (cI, 8, .inl (a 4))), (q 6, .inl (cI, 8, .inl (a 5))), (q 7, .inl (cI, 8, .inl (a 6))), (q 8, .inl (cI, 8, .inl (a 7))), (q 9, .inl (cI, 8, .inl (a 8))), (q 10, .inr (2, [.ref (q 11), .ref (q 12), .ref (q 13), .ref (q 14), .ref (q 15), .ref (q 16), .ref (q 17), .int (a 0 3)])), (q 11, .inl (cI, 100, .inl (a 10))), (q 12, .inl (cF, 100, .inr (.inr (.inl (fun j => shF (a 13 j)))))), (q 13, .inl (cI, 100, .inl (a 14))), (q 14, .inl (cI, 100, .inl (fun j => a 11 j - a 12 j))), (q 15, .inl (cI, 100, .inl (fun j => a 15 j - a 16 j))), (q 16, .inl (cI, 100, .inl (a 17))), (q 17, .inl (cI, 100, .inl (a 18))), (q 18, .inr (1, [.ref (q 19), .ref (q 20), .ref (q 21), .int (a 0 4)])), (q 19, .inl (cI, capOf (nn (a 0 4)), .inl (a 20))), (q 20, .inl (cI, capOf (nn (a 0 4)), .inl (a 19))), (q 21, .inl (cI, capOf (nn (a 0 4)), .inl (a 21))), (q 22, .inr (0, [.ref (q 23), .ref (q 24), .ref (q 25), .int (nI k)])), (q 23, .inl (cI, 8, .inl (jc))), (q 24, .inl (cI, 256, .inl (js))), (q 25, .inl (cI, 256, .inl (jv))), (q 26, .inl (cF, 4, .inr (.inr (.inl (fun j => shF (a 9 j))))))] s.heap := hP
  refine y_enter (A := A) hP (fun H hP hS => ?_)
  have hn := hB 0 0 8 rfl
  have hn2 := hn.2
  refine lv_iload hx hb dX4_settleParts_0 (lv_at hl 4 rfl) ?_
  refine y_topi (y := nI rm - nI (cntB set 0)) (Int32.sub_zero _).symm ?_
  refine lv_istore (lv' := [(5, .int (nI rm - nI (cntB set 0))), (0, .ref h0), (1, .int (nI set)), (2, .int (nI kd)), (3, .int (nI ev)), (4, .int (nI rm))]) hx hb dX4_settleParts_2 hl (by decide) rfl (fun ls hl => ?_)
  refine lv_iconst (v := 0) hx hb dX4_settleParts_4 (by decide) ?_
  refine lv_istore (lv' := [(6, .int 0), (5, .int (nI rm - nI (cntB set 0))), (0, .ref h0), (1, .int (nI set)), (2, .int (nI kd)), (3, .int (nI ev)), (4, .int (nI rm))]) hx hb dX4_settleParts_5 hl (by decide) rfl (fun ls hl => ?_)
  refine y_loop (fun k9 H locs ls => ∃ (i : Nat) (q0 : Nat → Nat) (jc0 : Nat → Int32) (js0 : Nat → Int32) (jv0 : Nat → Int32) (k0 : Nat), k9 + i = nn (a 0 0) ∧ okC (sOrd a set kd ev rm i) jc0 js0 jv0 k0 ∧ va_P (dC, dI) vwCl [(h0, .inr (4, [.ref (q0 1), .ref (q0 10), .ref (q0 18), .ref (q0 22), .ref (q0 26), .int ((sOrd a set kd ev rm i) 0 2), .int ((sOrd a set kd ev rm i) 0 1), .int ((sOrd a set kd ev rm i) 0 5), .int ((sOrd a set kd ev rm i) 0 6), .int ((sOrd a set kd ev rm i) 0 7), .int ((sOrd a set kd ev rm i) 0 8)])), (q0 1, .inr (3, [.ref (q0 2), .ref (q0 3), .ref (q0 4), .ref (q0 5), .ref (q0 6), .ref (q0 7), .ref (q0 8), .ref (q0 9), .int ((sOrd a set kd ev rm i) 0 0)])), (q0 2, .inl (cI, 8, .inl ((sOrd a set kd ev rm i) 1))), (q0 3, .inl (cI, 8, .inl ((sOrd a set kd ev rm i) 2))), (q0 4, .inl (cI, 8, .inl ((sOrd a set kd ev rm i) 3))), (q0 5, .inl (cI, 8, .inl ((sOrd a set kd ev rm i) 4))), (q0 6, .inl (cI, 8, .inl ((sOrd a set kd ev rm i) 5))), (q0 7, .inl (cI, 8, .inl ((sOrd a set kd ev rm i) 6))), (q0 8, .inl (cI, 8, .inl ((sOrd a set kd ev rm i) 7))), (q0 9, .inl (cI, 8, .inl ((sOrd a set kd ev rm i) 8))), (q0 10, .inr (2, [.ref (q0 11), .ref (q0 12), .ref (q0 13), .ref (q0 14), .ref (q0 15), .ref (q0 16), .ref (q0 17), .int ((sOrd a set kd ev rm i) 0 3)])), (q0 11, .inl (cI, 100, .inl ((sOrd a set kd ev rm i) 10))), (q0 12, .inl (cF, 100, .inr (.inr (.inl (fun j => shF ((sOrd a set kd ev rm i) 13 j)))))), (q0 13, .inl (cI, 100, .inl ((sOrd a set kd ev rm i) 14))), (q0 14, .inl (cI, 100, .inl (fun j => (sOrd a set kd ev rm i) 11 j - (sOrd a set kd ev rm i) 12 j))), (q0 15, .inl (cI, 100, .inl (fun j => (sOrd a set kd ev rm i) 15 j - (sOrd a set kd ev rm i) 16 j))), (q0 16, .inl (cI, 100, .inl ((sOrd a set kd ev rm i) 17))), (q0 17, .inl (cI, 100, .inl ((sOrd a set kd ev rm i) 18))), (q0 18, .inr (1, [.ref (q0 19), .ref (q0 20), .ref (q0 21), .int ((sOrd a set kd ev rm i) 0 4)])), (q0 19, .inl (cI, capOf (nn ((sOrd a set kd ev rm i) 0 4)), .inl ((sOrd a set kd ev rm i) 20))), (q0 20, .inl (cI, capOf (nn ((sOrd a set kd ev rm i) 0 4)), .inl ((sOrd a set kd ev rm i) 19))), (q0 21, .inl (cI, capOf (nn ((sOrd a set kd ev rm i) 0 4)), .inl ((sOrd a set kd ev rm i) 21))), (q0 22, .inr (0, [.ref (q0 23), .ref (q0 24), .ref (q0 25), .int (nI k0)])), (q0 23, .inl (cI, 8, .inl (jc0))), (q0 24, .inl (cI, 256, .inl (js0))), (q0 25, .inl (cI, 256, .inl (jv0))), (q0 26, .inl (cF, 4, .inr (.inr (.inl (fun j => shF ((sOrd a set kd ev rm i) 9 j))))))] H ∧ va_D A [(h0, .inr (4, [.ref (q0 1), .ref (q0 10), .ref (q0 18), .ref (q0 22), .ref (q0 26), .int ((sOrd a set kd ev rm i) 0 2), .int ((sOrd a set kd ev rm i) 0 1), .int ((sOrd a set kd ev rm i) 0 5), .int ((sOrd a set kd ev rm i) 0 6), .int ((sOrd a set kd ev rm i) 0 7), .int ((sOrd a set kd ev rm i) 0 8)])), (q0 1, .inr (3, [.ref (q0 2), .ref (q0 3), .ref (q0 4), .ref (q0 5), .ref (q0 6), .ref (q0 7), .ref (q0 8), .ref (q0 9), .int ((sOrd a set kd ev rm i) 0 0)])), (q0 2, .inl (cI, 8, .inl ((sOrd a set kd ev rm i) 1))), (q0 3, .inl (cI, 8, .inl ((sOrd a set kd ev rm i) 2))), (q0 4, .inl (cI, 8, .inl ((sOrd a set kd ev rm i) 3))), (q0 5, .inl (cI, 8, .inl ((sOrd a set kd ev rm i) 4))), (q0 6, .inl (cI, 8, .inl ((sOrd a set kd ev rm i) 5))), (q0 7, .inl (cI, 8, .inl ((sOrd a set kd ev rm i) 6))), (q0 8, .inl (cI, 8, .inl ((sOrd a set kd ev rm i) 7))), (q0 9, .inl (cI, 8, .inl ((sOrd a set kd ev rm i) 8))), (q0 10, .inr (2, [.ref (q0 11), .ref (q0 12), .ref (q0 13), .ref (q0 14), .ref (q0 15), .ref (q0 16), .ref (q0 17), .int ((sOrd a set kd ev rm i) 0 3)])), (q0 11, .inl (cI, 100, .inl ((sOrd a set kd ev rm i) 10))), (q0 12, .inl (cF, 100, .inr (.inr (.inl (fun j => shF ((sOrd a set kd ev rm i) 13 j)))))), (q0 13, .inl (cI, 100, .inl ((sOrd a set kd ev rm i) 14))), (q0 14, .inl (cI, 100, .inl (fun j => (sOrd a set kd ev rm i) 11 j - (sOrd a set kd ev rm i) 12 j))), (q0 15, .inl (cI, 100, .inl (fun j => (sOrd a set kd ev rm i) 15 j - (sOrd a set kd ev rm i) 16 j))), (q0 16, .inl (cI, 100, .inl ((sOrd a set kd ev rm i) 17))), (q0 17, .inl (cI, 100, .inl ((sOrd a set kd ev rm i) 18))), (q0 18, .inr (1, [.ref (q0 19), .ref (q0 20), .ref (q0 21), .int ((sOrd a set kd ev rm i) 0 4)])), (q0 19, .inl (cI, capOf (nn ((sOrd a set kd ev rm i) 0 4)), .inl ((sOrd a set kd ev rm i) 20))), (q0 20, .inl (cI, capOf (nn ((sOrd a set kd ev rm i) 0 4)), .inl ((sOrd a set kd ev rm i) 19))), (q0 21, .inl (cI, capOf (nn ((sOrd a set kd ev rm i) 0 4)), .inl ((sOrd a set kd ev rm i) 21))), (q0 22, .inr (0, [.ref (q0 23), .ref (q0 24), .ref (q0 25), .int (nI k0)])), (q0 23, .inl (cI, 8, .inl (jc0))), (q0 24, .inl (cI, 256, .inl (js0))), (q0 25, .inl (cI, 256, .inl (jv0))), (q0 26, .inl (cF, 4, .inr (.inr (.inl (fun j => shF ((sOrd a set kd ev rm i) 9 j))))))] ∧ va_S A s.heap H locs ∧ lv_has ls 8 [(6, .int (nI i)), (5, .int (nI rm - nI (cntB set i))), (4, .int (nI rm)), (3, .int (nI ev)), (2, .int (nI kd)), (1, .int (nI set)), (0, .ref h0)]) (nn (a 0 0)) ⟨0, q, jc, js, jv, k, by omega, hC, hP, hD, hS, lv_sub hl [0, 1, 6, 5, 4, 3, 2] rfl⟩ (fun k9 H locs ls hI ih => ?_)
  obtain ⟨i, q0, jc0, js0, jv0, k0, hf0, hf1, hP, hD, hS, hl⟩ := hI
  have hroomi : nn (a 0 3) + cntP set ev rm i ≤ 100 := Nat.le_trans (Nat.add_le_add_left (cntP_up set ev rm (show i ≤ nn (a 0 0) by omega)) _) hroom
  obtain ⟨hBi, hYi, hni⟩ := ord_ok hB hY (set := set) (k := kd) (ev := ev) (rm := rm) hkd he he2 i (by omega) hroomi
  have hcb := cntB_le set i
  have e00 : (sOrd a set kd ev rm i) 0 0 = a 0 0 := ord_00 a set kd ev rm i
  refine lv_iload hx hb dX4_settleParts_7 (lv_at hl 0 rfl) ?_
  refine lv_aload_n hx hb dX4_settleParts_9 rfl (lv_at hl 6 rfl) ?_
  refine va_get (D := (dC, dI)) (ci := 4) (v := .ref (q0 1)) (C := RX4) (T := TX4) (N := 11) hx hb hts hiX4 hown hK hP 0 rfl rfl 0 (by decide) (hts (.fieldLink RX4 10 "Payoutnet" "shops" "LPayoutnet$Shops;") (List.mem_of_getElem? (i := 1) rfl)) (fun _ h9 => h9) rfl dX4_settleParts_10 ?_
  refine va_get (D := (dC, dI)) (ci := 3) (v := .int ((sOrd a set kd ev rm i) 0 0)) (C := RX3) (T := TX3) (N := 9) hx hb hts hiX3 hown hK hP 1 rfl rfl 8 (by decide) (hts (.fieldLink RX4 52 "Payoutnet$Shops" "count" "I") (List.mem_of_getElem? (i := 2) rfl)) (fun _ h9 => h9) rfl dX4_settleParts_13 ?_
  refine y_topi (y := nI (nn (a 0 0))) (by rw [e00]; exact hn.1) ?_
  refine lv_icmp_ge (tgt := 66) hx hb dX4_settleParts_16 (by decide) (fun c_1 => ?_) (fun c_1 => ?_)
  · have hik : i = nn (a 0 0) := by have := (nI_leI (a := nn (a 0 0)) (b := i) (by omega) (by omega)).mp c_1; omega
    rw [hik] at hP hD hf1
    have hP9 := hP
    have hD9 := hD
    have hK9 := hK
    exact W.vret hx hb hr (fun t ht hW => ⟨⟨(), rfl, trivial, atC_in hf1 (atW_end hP9 hD9 hK9 ht hW)⟩, hS.F ht⟩) hS.2.2 dX4_settleParts_66
  · have hik : i < nn (a 0 0) := Nat.lt_of_not_le (fun h => c_1 ((nI_leI (a := nn (a 0 0)) (b := i) (by omega) (by omega)).mpr h))
    refine lv_iload_n hx hb dX4_settleParts_19 rfl (lv_at hl 5 rfl) ?_
    refine lv_iload hx hb dX4_settleParts_20 (lv_at hl 0 rfl) ?_
    refine lv_ishr hx hb dX4_settleParts_22 ?_
    refine lv_iconst (v := 1) hx hb dX4_settleParts_23 (by decide) ?_
    refine lv_iand hx hb dX4_settleParts_24 ?_
    refine lv_if_eq (tgt := 60) hx hb dX4_settleParts_25 (by decide) (fun c_2 => ?_) (fun c_2 => ?_)
    · have hbit : set.testBit i = false := (bit_iff set hset i (by omega)).mp c_2
      have e9 : sOrd a set kd ev rm (i + 1) = sOrd a set kd ev rm i := by rw [sOrd_step, if_neg (fun h9 => by rw [hbit] at h9; cases h9.1)]
      have ecb : nI rm - nI (cntB set (i + 1)) = nI rm - nI (cntB set i) := by show nI rm - nI (cntB set i + (if set.testBit i = true then 1 else 0)) = _; rw [hbit]; rfl
      refine lv_iinc (v := nI (i + 1)) (lv' := [(6, .int (nI (i + 1))), (5, .int (nI rm - nI (cntB set i))), (4, .int (nI rm)), (3, .int (nI ev)), (2, .int (nI kd)), (1, .int (nI set)), (0, .ref h0)]) hx hb dX4_settleParts_60 hl (k := 0) rfl (nI_1 i) (by decide) rfl (fun ls hl => ?_)
      refine lv_goto (tgt := 7) hx hb dX4_settleParts_63 (by decide) ?_
      rw [← e9] at hP hD hf1
      rw [← ecb] at hl
      exact ih (k9 - 1) H locs ls (by omega) ⟨i + 1, q0, jc0, js0, jv0, k0, by omega, hf1, hP, hD, hS, lv_sub hl [0, 1, 2, 3, 4, 5, 6] rfl⟩
    · have hbit : set.testBit i = true := by cases hb9 : set.testBit i with | true => rfl | false => exact absurd ((bit_iff set hset i (by omega)).mpr hb9) c_2
      have ecb : nI rm - nI (cntB set (i + 1)) = nI rm - nI (cntB set i + 1) := by show nI rm - nI (cntB set i + (if set.testBit i = true then 1 else 0)) = _; rw [hbit]; rfl
      refine lv_iload hx hb dX4_settleParts_28 (lv_at hl 1 rfl) ?_
      refine lv_if_le (tgt := 39) hx hb dX4_settleParts_30 (by decide) (fun c_3 => ?_) (fun c_3 => ?_)
      · refine lv_iload_n hx hb dX4_settleParts_39 rfl (lv_at hl 3 rfl) ?_
        have hrr : ¬ cntB set i < rm := fun h9 => absurd ((rem_pos (by omega) (by omega)).mpr h9) (Int32.not_lt.mpr c_3)
        have ept : ptN set ev rm i = ev := if_neg hrr
        refine lv_istore (lv' := [(7, .int (nI ev)), (6, .int (nI i)), (5, .int (nI rm - nI (cntB set i))), (4, .int (nI rm)), (3, .int (nI ev)), (2, .int (nI kd)), (1, .int (nI set)), (0, .ref h0)]) hx hb dX4_settleParts_40 hl (by decide) rfl (fun ls hl => ?_)
        refine lv_iinc (v := nI rm - nI (cntB set i + 1)) (lv' := [(5, .int (nI rm - nI (cntB set i + 1))), (7, .int (nI ev)), (6, .int (nI i)), (4, .int (nI rm)), (3, .int (nI ev)), (2, .int (nI kd)), (1, .int (nI set)), (0, .ref h0)]) hx hb dX4_settleParts_42 hl (k := 2) rfl (rem_dec rm (cntB set i)) (by decide) rfl (fun ls hl => ?_)
        refine lv_iload hx hb dX4_settleParts_45 (lv_at hl 1 rfl) ?_
        refine lv_if_le (tgt := 60) hx hb dX4_settleParts_47 (by decide) (fun c_4 => ?_) (fun c_4 => ?_)
        · have hz0 : ¬ 0 < ptN set ev rm i := by rw [ept]; intro h9; exact absurd ((nI_leI (b := 0) (by omega) (by decide)).mp c_4) (by omega)
          have e9 : sOrd a set kd ev rm (i + 1) = sOrd a set kd ev rm i := by rw [sOrd_step, if_neg (fun h9 => hz0 h9.2)]
          refine lv_iinc (v := nI (i + 1)) (lv' := [(6, .int (nI (i + 1))), (5, .int (nI rm - nI (cntB set i + 1))), (7, .int (nI ev)), (4, .int (nI rm)), (3, .int (nI ev)), (2, .int (nI kd)), (1, .int (nI set)), (0, .ref h0)]) hx hb dX4_settleParts_60 hl (k := 2) rfl (nI_1 i) (by decide) rfl (fun ls hl => ?_)
          refine lv_goto (tgt := 7) hx hb dX4_settleParts_63 (by decide) ?_
          rw [← e9] at hP hD hf1
          rw [← ecb] at hl
          exact ih (k9 - 1) H locs ls (by omega) ⟨i + 1, q0, jc0, js0, jv0, k0, by omega, hf1, hP, hD, hS, lv_sub hl [0, 1, 3, 4, 5, 6, 7] rfl⟩
        · have hz0 : 0 < ptN set ev rm i := by rw [ept]; exact Nat.lt_of_not_le (fun h9 => c_4 ((nI_leI (b := 0) (by omega) (by decide)).mpr h9))
          have e9 : sOrd a set kd ev rm (i + 1) = sSettle (sOrd a set kd ev rm i) i kd (nI (ev)) := by rw [sOrd_step, if_pos ⟨hbit, hz0⟩, ept]
          have hroom2 : nn (a 0 3) + cntP set ev rm (i + 1) ≤ 100 := Nat.le_trans (Nat.add_le_add_left (cntP_up set ev rm (show i + 1 ≤ nn (a 0 0) by omega)) _) hroom
          have ecp : cntP set ev rm (i + 1) = cntP set ev rm i + 1 := by show cntP set ev rm i + _ = _; rw [if_pos ⟨hbit, hz0⟩]
          refine lv_aload_n hx hb dX4_settleParts_50 rfl (lv_at hl 7 rfl) ?_
          refine lv_iload hx hb dX4_settleParts_51 (lv_at hl 2 rfl) ?_
          refine lv_iload_n hx hb dX4_settleParts_53 rfl (lv_at hl 5 rfl) ?_
          refine lv_iload hx hb dX4_settleParts_54 (lv_at hl 1 rfl) ?_
          have hFc := y_free hD hS hA
          refine va_calli (va_runV (As := [.int (nI i), .int (nI kd), .int (nI ev)]) (rest := []) ⟨hx, hb, hml, hown, hts⟩ (c_X4_settle l dC dI cI cF h0 q0 H.size (sOrd a set kd ev rm i) jc0 js0 jv0 k0 hf1 hBi hYi i kd (ev) (by omega) hkd (by omega) (by omega) (by omega)) (cwV 3 hts gX4_settleParts_X4_settle rfl rfl rfl (by decide +kernel) ⟨Nat.le_of_ble_eq_true rfl, Nat.le_of_ble_eq_true rfl⟩) ⟨pcW_blind, va_recv hK hP (ci := 4) (q0 := 0) rfl rfl, fun U hU hW => pcW_pre hP hD hK hU hW⟩ rfl rfl hl.1 rfl (lv_room (Nat.le_of_ble_eq_true rfl)) dX4_settleParts_56 ⟨(Nat.zero_le _), (Nat.zero_le _)⟩) hS (fun q _ h => hFc q h) hFc (fun r u t H1 locs ht hvm hw hB1 hz1 hk1 hS => ?_)
          obtain ⟨q5, jc5, js5, jv5, k5, hC5, hP, hK1, hD1⟩ := hB1
          rw [ht] at hP
          have hD := hD1.weaken (fun kk qq _ h => hFc qq.1 h)
          generalize H1 = H at hP hS ⊢
          have hC5 : okC (sSettle (sOrd a set kd ev rm i) i kd (nI (ev))) jc5 js5 jv5 k5 := hC5
          have hP : va_P (dC, dI) vwCl (WC cI cF h0 q5 (sSettle (sOrd a set kd ev rm i) i kd (nI (ev))) jc5 js5 jv5 k5 (capOf (nn ((sSettle (sOrd a set kd ev rm i) i kd (nI (ev))) 0 4)))) H := hP
          have hD : va_D A (WC cI cF h0 q5 (sSettle (sOrd a set kd ev rm i) i kd (nI (ev))) jc5 js5 jv5 k5 (capOf (nn ((sSettle (sOrd a set kd ev rm i) i kd (nI (ev))) 0 4)))) := hD
          refine lv_pop hx hb dX4_settleParts_59 rfl ?_
          refine lv_iinc (v := nI (i + 1)) (lv' := [(6, .int (nI (i + 1))), (5, .int (nI rm - nI (cntB set i + 1))), (7, .int (nI ev)), (4, .int (nI rm)), (3, .int (nI ev)), (2, .int (nI kd)), (1, .int (nI set)), (0, .ref h0)]) hx hb dX4_settleParts_60 hl (k := 2) rfl (nI_1 i) (by decide) rfl (fun ls hl => ?_)
          refine lv_goto (tgt := 7) hx hb dX4_settleParts_63 (by decide) ?_
          rw [← e9] at hP hD hC5
          rw [← ecb] at hl
          exact ih (k9 - 1) H locs ls (by omega) ⟨i + 1, q5, jc5, js5, jv5, k5, by omega, hC5, hP, hD, hS, lv_sub hl [0, 1, 3, 4, 5, 6, 7] rfl⟩
      · have hrr : cntB set i < rm := (rem_pos (by omega) (by omega)).mp (Int32.not_le.mp c_3)
        have hev1 := he2 (by omega)
        refine lv_iload_n hx hb dX4_settleParts_33 rfl (lv_at hl 3 rfl) ?_
        refine lv_iconst (v := 1) hx hb dX4_settleParts_34 (by decide) ?_
        refine lv_iadd hx hb dX4_settleParts_35 ?_
        refine y_topi (y := nI (ev + 1)) (nI_1 ev) ?_
        refine lv_goto (tgt := 40) hx hb dX4_settleParts_36 (by decide) ?_
        have ept : ptN set ev rm i = ev + 1 := if_pos hrr
        refine lv_istore (lv' := [(7, .int (nI (ev + 1))), (6, .int (nI i)), (5, .int (nI rm - nI (cntB set i))), (4, .int (nI rm)), (3, .int (nI ev)), (2, .int (nI kd)), (1, .int (nI set)), (0, .ref h0)]) hx hb dX4_settleParts_40 hl (by decide) rfl (fun ls hl => ?_)
        refine lv_iinc (v := nI rm - nI (cntB set i + 1)) (lv' := [(5, .int (nI rm - nI (cntB set i + 1))), (7, .int (nI (ev + 1))), (6, .int (nI i)), (4, .int (nI rm)), (3, .int (nI ev)), (2, .int (nI kd)), (1, .int (nI set)), (0, .ref h0)]) hx hb dX4_settleParts_42 hl (k := 2) rfl (rem_dec rm (cntB set i)) (by decide) rfl (fun ls hl => ?_)
        refine lv_iload hx hb dX4_settleParts_45 (lv_at hl 1 rfl) ?_
        refine lv_if_le (tgt := 60) hx hb dX4_settleParts_47 (by decide) (fun c_6 => ?_) (fun c_6 => ?_)
        · have hz0 : ¬ 0 < ptN set ev rm i := by rw [ept]; intro h9; exact absurd ((nI_leI (b := 0) (by omega) (by decide)).mp c_6) (by omega)
          have e9 : sOrd a set kd ev rm (i + 1) = sOrd a set kd ev rm i := by rw [sOrd_step, if_neg (fun h9 => hz0 h9.2)]
          refine lv_iinc (v := nI (i + 1)) (lv' := [(6, .int (nI (i + 1))), (5, .int (nI rm - nI (cntB set i + 1))), (7, .int (nI (ev + 1))), (4, .int (nI rm)), (3, .int (nI ev)), (2, .int (nI kd)), (1, .int (nI set)), (0, .ref h0)]) hx hb dX4_settleParts_60 hl (k := 2) rfl (nI_1 i) (by decide) rfl (fun ls hl => ?_)
          refine lv_goto (tgt := 7) hx hb dX4_settleParts_63 (by decide) ?_
          rw [← e9] at hP hD hf1
          rw [← ecb] at hl
          exact ih (k9 - 1) H locs ls (by omega) ⟨i + 1, q0, jc0, js0, jv0, k0, by omega, hf1, hP, hD, hS, lv_sub hl [0, 1, 3, 4, 5, 6, 7] rfl⟩
        · have hz0 : 0 < ptN set ev rm i := by rw [ept]; exact Nat.lt_of_not_le (fun h9 => c_6 ((nI_leI (b := 0) (by omega) (by decide)).mpr h9))
          have e9 : sOrd a set kd ev rm (i + 1) = sSettle (sOrd a set kd ev rm i) i kd (nI (ev + 1)) := by rw [sOrd_step, if_pos ⟨hbit, hz0⟩, ept]
          have hroom2 : nn (a 0 3) + cntP set ev rm (i + 1) ≤ 100 := Nat.le_trans (Nat.add_le_add_left (cntP_up set ev rm (show i + 1 ≤ nn (a 0 0) by omega)) _) hroom
          have ecp : cntP set ev rm (i + 1) = cntP set ev rm i + 1 := by show cntP set ev rm i + _ = _; rw [if_pos ⟨hbit, hz0⟩]
          refine lv_aload_n hx hb dX4_settleParts_50 rfl (lv_at hl 7 rfl) ?_
          refine lv_iload hx hb dX4_settleParts_51 (lv_at hl 2 rfl) ?_
          refine lv_iload_n hx hb dX4_settleParts_53 rfl (lv_at hl 5 rfl) ?_
          refine lv_iload hx hb dX4_settleParts_54 (lv_at hl 1 rfl) ?_
          have hFc := y_free hD hS hA
          refine va_calli (va_runV (As := [.int (nI i), .int (nI kd), .int (nI (ev + 1))]) (rest := []) ⟨hx, hb, hml, hown, hts⟩ (c_X4_settle l dC dI cI cF h0 q0 H.size (sOrd a set kd ev rm i) jc0 js0 jv0 k0 hf1 hBi hYi i kd (ev + 1) (by omega) hkd (by omega) (by omega) (by omega)) (cwV 3 hts gX4_settleParts_X4_settle rfl rfl rfl (by decide +kernel) ⟨Nat.le_of_ble_eq_true rfl, Nat.le_of_ble_eq_true rfl⟩) ⟨pcW_blind, va_recv hK hP (ci := 4) (q0 := 0) rfl rfl, fun U hU hW => pcW_pre hP hD hK hU hW⟩ rfl rfl hl.1 rfl (lv_room (Nat.le_of_ble_eq_true rfl)) dX4_settleParts_56 ⟨(Nat.zero_le _), (Nat.zero_le _)⟩) hS (fun q _ h => hFc q h) hFc (fun r u t H1 locs ht hvm hw hB1 hz1 hk1 hS => ?_)
          obtain ⟨q7, jc7, js7, jv7, k7, hC7, hP, hK1, hD1⟩ := hB1
          rw [ht] at hP
          have hD := hD1.weaken (fun kk qq _ h => hFc qq.1 h)
          generalize H1 = H at hP hS ⊢
          have hC7 : okC (sSettle (sOrd a set kd ev rm i) i kd (nI (ev + 1))) jc7 js7 jv7 k7 := hC7
          have hP : va_P (dC, dI) vwCl (WC cI cF h0 q7 (sSettle (sOrd a set kd ev rm i) i kd (nI (ev + 1))) jc7 js7 jv7 k7 (capOf (nn ((sSettle (sOrd a set kd ev rm i) i kd (nI (ev + 1))) 0 4)))) H := hP
          have hD : va_D A (WC cI cF h0 q7 (sSettle (sOrd a set kd ev rm i) i kd (nI (ev + 1))) jc7 js7 jv7 k7 (capOf (nn ((sSettle (sOrd a set kd ev rm i) i kd (nI (ev + 1))) 0 4)))) := hD
          refine lv_pop hx hb dX4_settleParts_59 rfl ?_
          refine lv_iinc (v := nI (i + 1)) (lv' := [(6, .int (nI (i + 1))), (5, .int (nI rm - nI (cntB set i + 1))), (7, .int (nI (ev + 1))), (4, .int (nI rm)), (3, .int (nI ev)), (2, .int (nI kd)), (1, .int (nI set)), (0, .ref h0)]) hx hb dX4_settleParts_60 hl (k := 2) rfl (nI_1 i) (by decide) rfl (fun ls hl => ?_)
          refine lv_goto (tgt := 7) hx hb dX4_settleParts_63 (by decide) ?_
          rw [← e9] at hP hD hC7
          rw [← ecb] at hl
          exact ih (k9 - 1) H locs ls (by omega) ⟨i + 1, q7, jc7, js7, jv7, k7, by omega, hC7, hP, hD, hS, lv_sub hl [0, 1, 3, 4, 5, 6, 7] rfl⟩
