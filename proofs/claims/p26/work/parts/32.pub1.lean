/-! what each public call answers: its code (which of its exceptions, 0 for none), its state, its answer -/
def eIA (n : Nat) : String := if n = 1 then exI else exA
def eIS (n : Nat) : String := if n = 1 then exI else exS
def eAS (n : Nat) : String := if n = 1 then exA else exS
def eIAS (n : Nat) : String := if n = 1 then exI else if n = 2 then exA else exS
def eA (_ : Nat) : String := exA
def eI (_ : Nat) : String := exI
def kAdd (a : yA) (o : Int32) : Nat := if bw o 0 3 then if a 0 0 < 8 then 0 else 2 else 1
def sAdd (a : yA) (o : Int32) : yA := put (put (put (put a 1 (nn (a 0 0)) o) 4 (nn (a 0 0)) 1) 6 (nn (a 0 0)) 30) 0 0 (a 0 0 + 1)
def kVer (a : yA) (x st : Int32) : Nat := if selOK a x then if bw st 0 2 then 0 else 2 else 1
def sVer (a : yA) (x st : Int32) : yA := put a 2 (nn x) st
def kPO (a : yA) (x wd le : Int32) : Nat := if selOK a x then if bw wd 0 6 ∧ bw le 1 1000000 then 0 else 2 else 1
def sPO (a : yA) (x wd le : Int32) : yA := put (put a 3 (nn x) wd) 4 (nn x) le
def kRes (a : yA) (x th d : Int32) : Nat := if selOK a x then if bw th 0 1000 ∧ bw d 1 180 then 0 else 2 else 1
def sRes (a : yA) (x th d : Int32) : yA := put (put a 5 (nn x) th) 6 (nn x) d
def kTax (th : Int32) : Nat := if bw th 0 500 then 0 else 1
def sTaxS (a : yA) (th : Int32) : yA := put a 0 2 th
def kSel (a : yA) (x : Int32) : Nat := if selOK a x then 0 else 1
def kPay (a : yA) (x : Int32) : Nat := if payOKn a x then 0 else 1
def kFail (a : yA) (x : Int32) : Nat := if payOKn a x then if a 21 (nn x) = 0 then 0 else 2 else 1
set_option maxHeartbeats 4000000 in
set_option maxRecDepth 100000 in
theorem c_X4_addSeller (l : Launch) (dC : Nat → ClassId) (dI : Nat → Nat → Nat) (cI cF : ClassId) (h0 : Nat) (q : Nat → Nat) (sz : Nat) (a : yA) (jc js jv : Nat → Int32) (k : Nat) (hst : l.stackTraces = false)  (hC : okC a jc js jv k) (hB : okB a) (o : Int32) : vx_Met l yX4_addSeller wsX4_addSeller ({ frames := 6, cells := 1, slots := 6, locals := 90 } : Room) (va_Pc [.ref h0, .int o] (pcV dC dI [(cI, .int), (cF, .float)] (WC cI cF h0 q a jc js jv k (capOf (nn (a 0 4)))) sz)) (va_Qi (fun (r : Int32) (_ : Unit) => kAdd a o = 0 ∧ r = a 0 0) (fun _ t => atC dC dI cI cF (va_A (WC cI cF h0 q a jc js jv k (capOf (nn (a 0 4)))) sz) h0 (sAdd a o) t) (va_A (WC cI cF h0 q a jc js jv k (capOf (nn (a 0 4)))) sz)) (vx_X (fun _ : Unit => kAdd a o ≠ 0) (fun E _ t => E = eIS (kAdd a o) ∧ atC dC dI cI cF (va_A (WC cI cF h0 q a jc js jv k (capOf (nn (a 0 4)))) sz) h0 a t) (va_A (WC cI cF h0 q a jc js jv k (capOf (nn (a 0 4)))) sz)) (1) (6) (va_A (WC cI cF h0 q a jc js jv k (capOf (nn (a 0 4)))) sz) := by
  refine vx_ofW (cc := cX4_addSeller) (maxL := 2) (ret := (some .int)) (by decide) rfl ?_
  intro p e s m args below meth c s₁ B hml htab hv
  obtain ⟨rfl, ⟨hsz, hP, hK, hD0⟩, hV⟩ := hv
  have hx := B.exec
  have hb := B.bytes
  have hr := B.returns
  have hts := atoms_spec (ws := wsX4_addSeller) B.pre
  have hown : s.vm.findClass RX4 = some m.cls := findClass_of_methodNamed B.named
  have hlocks := B.notSynchronized
  subst hsz
  have hD := hD0.self (sz := s.heap.size)
  generalize hAe : va_A [(h0, .inr (4, [.ref (q 1), .ref (q 10), .ref (q 18), .ref (q 22), .ref (q 26), .int (a 0 2), .int (a 0 1), .int (a 0 5), .int (a 0 6), .int (a 0 7), .int (a 0 8)])), (q 1, .inr (3, [.ref (q 2), .ref (q 3), .ref (q 4), .ref (q 5), .ref (q 6), .ref (q 7), .ref (q 8), .ref (q 9), .int (a 0 0)])), (q 2, .inl (cI, 8, .inl (a 1))), (q 3, .inl (cI, 8, .inl (a 2))), (q 4, .inl (cI, 8, .inl (a 3))), (q 5, .inl (cI, 8, .inl (a 4))), (q 6, .inl (cI, 8, .inl (a 5))), (q 7, .inl (cI, 8, .inl (a 6))), (q 8, .inl (cI, 8, .inl (a 7))), (q 9, .inl (cI, 8, .inl (a 8))), (q 10, .inr (2, [.ref (q 11), .ref (q 12), .ref (q 13), .ref (q 14), .ref (q 15), .ref (q 16), .ref (q 17), .int (a 0 3)])), (q 11, .inl (cI, 100, .inl (a 10))), (q 12, .inl (cF, 100, .inr (.inr (.inl (fun j => shF (a 13 j)))))), (q 13, .inl (cI, 100, .inl (a 14))), (q 14, .inl (cI, 100, .inl (fun j => a 11 j - a 12 j))), (q 15, .inl (cI, 100, .inl (fun j => a 15 j - a 16 j))), (q 16, .inl (cI, 100, .inl (a 17))), (q 17, .inl (cI, 100, .inl (a 18))), (q 18, .inr (1, [.ref (q 19), .ref (q 20), .ref (q 21), .int (a 0 4)])), (q 19, .inl (cI, capOf (nn (a 0 4)), .inl (a 20))), (q 20, .inl (cI, capOf (nn (a 0 4)), .inl (a 19))), (q 21, .inl (cI, capOf (nn (a 0 4)), .inl (a 21))), (q 22, .inr (0, [.ref (q 23), .ref (q 24), .ref (q 25), .int (nI k)])), (q 23, .inl (cI, 8, .inl (jc))), (q 24, .inl (cI, 256, .inl (js))), (q 25, .inl (cI, 256, .inl (jv))), (q 26, .inl (cF, 4, .inr (.inr (.inl (fun j => shF (a 9 j))))))] s.heap.size = A at hD hV ⊢
  have hA : ∀ q : Nat, s.heap.size ≤ q → A q := fun q h => by rw [← hAe]; exact Or.inr h
  have hS : va_S A s.heap s.heap [] := va_S.rf
  have hl := lv_entry ([.ref h0, .int o]) (n := 2) (Nat.le_of_ble_eq_true rfl)
  rw [lg_entry_eq]
  generalize (lg_sl ([.ref h0, .int o]) ++ List.replicate (2 - (lg_sl ([.ref h0, .int o])).length) Slot.unset).toArray = ls at hl ⊢
  have hl : lv_has ls 2 [(0, .ref h0), (1, .int o)] := hl
  have hiX4 : ∀ w ∈ wsX40, w ∈ wsX4_addSeller := fun w h => List.mem_cons_of_mem _ (List.mem_append_left _ (List.mem_append_left _ (List.mem_append_left _ (List.mem_append_right _ h))))
  have hiX3 : ∀ w ∈ wsX30, w ∈ wsX4_addSeller := fun w h => List.mem_cons_of_mem _ (List.mem_append_left _ (List.mem_append_left _ (List.mem_append_right _ h)))
  have hP : va_P (dC, dI) vwCl [(h0, .inr (4, [.ref (q 1), .ref (q 10), .ref (q 18), .ref (q 22), .ref (q 26), .int (a 0 2), .int (a 0 1), .int (a 0 5), .int (a 0 6), .int (a 0 7), .int (a 0 8)])), (q 1, .inr (3, [.ref (q 2), .ref (q 3), .ref (q 4), .ref (q 5), .ref (q 6), .ref (q 7), .ref (q 8), .ref (q 9), .int (a 0 0)])), (q 2, .inl (cI, 8, .inl (a 1))), (q 3, .inl (cI, 8, .inl (a 2))), (q 4, .inl (cI, 8, .inl (a 3))), (q 5, .inl (cI, 8, .inl (a 4))), (q 6, .inl (cI, 8, .inl (a 5))), (q 7, .inl (cI, 8, .inl (a 6))), (q 8, .inl (cI, 8, .inl (a 7))), (q 9, .inl (cI, 8, .inl (a 8))), (q 10, .inr (2, [.ref (q 11), .ref (q 12), .ref (q 13), .ref (q 14), .ref (q 15), .ref (q 16), .ref (q 17), .int (a 0 3)])), (q 11, .inl (cI, 100, .inl (a 10))), (q 12, .inl (cF, 100, .inr (.inr (.inl (fun j => shF (a 13 j)))))), (q 13, .inl (cI, 100, .inl (a 14))), (q 14, .inl (cI, 100, .inl (fun j => a 11 j - a 12 j))), (q 15, .inl (cI, 100, .inl (fun j => a 15 j - a 16 j))), (q 16, .inl (cI, 100, .inl (a 17))), (q 17, .inl (cI, 100, .inl (a 18))), (q 18, .inr (1, [.ref (q 19), .ref (q 20), .ref (q 21), .int (a 0 4)])), (q 19, .inl (cI, capOf (nn (a 0 4)), .inl (a 20))), (q 20, .inl (cI, capOf (nn (a 0 4)), .inl (a 19))), (q 21, .inl (cI, capOf (nn (a 0 4)), .inl (a 21))), (q 22, .inr (0, [.ref (q 23), .ref (q 24), .ref (q 25), .int (nI k)])), (q 23, .inl (cI, 8, .inl (jc))), (q 24, .inl (cI, 256, .inl (js))), (q 25, .inl (cI, 256, .inl (jv))), (q 26, .inl (cF, 4, .inr (.inr (.inl (fun j => shF (a 9 j))))))] s.heap := hP
  refine y_enter (A := A) hP (fun H hP hS => ?_)
  have hBk := hB
  refine lv_iload_n hx hb dX4_addSeller_0 rfl (lv_at hl 1 rfl) ?_
  refine lv_if_lt (tgt := 9) hx hb dX4_addSeller_1 (by decide) (fun c_1 => ?_) (fun c_1 => ?_)
  · have e1 : kAdd a o = 1 := if_neg (fun h9 => absurd c_1 (Int32.not_lt.mpr h9.1))
    obtain ⟨sa, hstr⟩ := hV.2.2.2 (47, "no such owner") (by decide +kernel)
    have hat : ∀ w ∈ vx_atS RX4 49 exI exN, w.before _ s = true := vx_hat (B := vB) (fun w h => hts w (List.mem_cons_of_mem _ (List.mem_append_left _ (List.mem_append_right _ h)))) (by decide +kernel) (okV_use hV)
    exact vx_throwS (cls := exI) (text := "no such owner") (names := exN) (A := A) (sa := sa) hx hb hst hown (by decide +kernel) (by decide +kernel) (hts (.classLink RX4 45 "java/lang/IndexOutOfBoundsException") (List.mem_of_getElem? (i := 1) rfl)) (hts (.initialized "java/lang/IndexOutOfBoundsException") (List.mem_of_getElem? (i := 2) rfl)) hstr hat (by decide +kernel) hV.1 hV.2.1 hS (hl.1.trans hml.symm) dX4_addSeller_9 dX4_addSeller_12 dX4_addSeller_13 dX4_addSeller_15 dX4_addSeller_18 (fun x hx9 => (htab x hx9).elim) (Nat.le_of_ble_eq_true rfl) (Nat.le_of_ble_eq_true rfl) (Nat.le_of_ble_eq_true rfl) (Nat.le_of_ble_eq_true rfl) hlocks (fun t hvm9 hz9 hk9 => ⟨(), (by rw [e1]; decide), ⟨(by rw [e1]; exact rfl), atC_in hC (atW_thr hP hD hK hvm9 hk9)⟩, y_F_thr hS hz9 hk9⟩) hS.2.2 (Nat.le_of_ble_eq_true rfl) (Nat.le_of_ble_eq_true rfl)
  · refine lv_iload_n hx hb dX4_addSeller_4 rfl (lv_at hl 1 rfl) ?_
    refine lv_iconst (v := 4) hx hb dX4_addSeller_5 (by decide) ?_
    refine lv_icmp_lt (tgt := 19) hx hb dX4_addSeller_6 (by decide) (fun c_2 => ?_) (fun c_2 => ?_)
    · have h4 : bw o 0 3 := ⟨Int32.not_lt.mp c_1, lt4_le3 c_2⟩
      refine lv_aload_n hx hb dX4_addSeller_19 rfl (lv_at hl 0 rfl) ?_
      refine va_get (D := (dC, dI)) (ci := 4) (v := .ref (q 1)) (C := RX4) (T := TX4) (N := 11) hx hb hts hiX4 hown hK hP 0 rfl rfl 0 (by decide) (hts (.fieldLink RX4 10 "Payoutnet" "shops" "LPayoutnet$Shops;") (List.mem_of_getElem? (i := 5) rfl)) (fun _ h9 => h9) rfl dX4_addSeller_20 ?_
      refine va_get (D := (dC, dI)) (ci := 3) (v := .int (a 0 0)) (C := RX3) (T := TX3) (N := 9) hx hb hts hiX3 hown hK hP 1 rfl rfl 8 (by decide) (hts (.fieldLink RX4 52 "Payoutnet$Shops" "count" "I") (List.mem_of_getElem? (i := 6) rfl)) (fun _ h9 => h9) rfl dX4_addSeller_23 ?_
      refine lv_bipush (v := 8) hx hb dX4_addSeller_26 (by decide) ?_
      refine lv_icmp_lt (tgt := 41) hx hb dX4_addSeller_28 (by decide) (fun c_3 => ?_) (fun c_3 => ?_)
      · have e0 : kAdd a o = 0 := by unfold kAdd; rw [if_pos h4, if_pos c_3]
        have hn8 : nn (a 0 0) < 8 := by have h := hB 0 0 8 rfl; have h7 := c_3; rw [h.1] at h7; exact (nI_ltI (b := 8) (by have := h.2; omega) (by decide)).mp h7
        refine lv_aload_n hx hb dX4_addSeller_41 rfl (lv_at hl 0 rfl) ?_
        refine va_get (D := (dC, dI)) (ci := 4) (v := .ref (q 1)) (C := RX4) (T := TX4) (N := 11) hx hb hts hiX4 hown hK hP 0 rfl rfl 0 (by decide) (hts (.fieldLink RX4 10 "Payoutnet" "shops" "LPayoutnet$Shops;") (List.mem_of_getElem? (i := 5) rfl)) (fun _ h9 => h9) rfl dX4_addSeller_42 ?_
        refine lv_iload_n hx hb dX4_addSeller_45 rfl (lv_at hl 1 rfl) ?_
        have hPc := hP.sub (ws' := [(q 1, .inr (3, [.ref (q 2), .ref (q 3), .ref (q 4), .ref (q 5), .ref (q 6), .ref (q 7), .ref (q 8), .ref (q 9), .int (a 0 0)])), (q 2, .inl (cI, 8, .inl (a 1))), (q 5, .inl (cI, 8, .inl (a 4))), (q 7, .inl (cI, 8, .inl (a 6)))]) [1, 2, 5, 7] rfl
        have hDc := hD.sub (ws' := [(q 1, .inr (3, [.ref (q 2), .ref (q 3), .ref (q 4), .ref (q 5), .ref (q 6), .ref (q 7), .ref (q 8), .ref (q 9), .int (a 0 0)])), (q 2, .inl (cI, 8, .inl (a 1))), (q 5, .inl (cI, 8, .inl (a 4))), (q 7, .inl (cI, 8, .inl (a 6)))]) [1, 2, 5, 7] (by decide) rfl
        have hFc := va_free (wc := [(q 1, .inr (3, [.ref (q 2), .ref (q 3), .ref (q 4), .ref (q 5), .ref (q 6), .ref (q 7), .ref (q 8), .ref (q 9), .int (a 0 0)])), (q 2, .inl (cI, 8, .inl (a 1))), (q 5, .inl (cI, 8, .inl (a 4))), (q 7, .inl (cI, 8, .inl (a 6)))]) hD hS hA [1, 2, 5, 7] rfl
        have hKc := hK.sub (tys' := [(cI, .int)]) [0] rfl
        refine va_calli (va_runV (As := [.int o]) (rest := []) ⟨hx, hb, hml, hown, hts⟩ (c_X3_enter l dC dI cI (q 1) (q 2) (q 3) (q 4) (q 5) (q 6) (q 7) (q 8) (q 9) H.size (a 1) (a 4) (a 6) (nn (a 0 0)) (a 0 0) (hB 0 0 8 rfl).1 hn8 o) (cwV 1 hts gX4_addSeller_X3_enter rfl rfl rfl (by decide +kernel) ⟨Nat.le_of_ble_eq_true rfl, Nat.le_of_ble_eq_true rfl⟩) ⟨pcW_blind, va_recv hKc hPc (ci := 3) (q0 := 0) rfl rfl, fun U hU hW => pcW_pre hPc hDc hKc hU hW⟩ rfl rfl hl.1 rfl (lv_room (Nat.le_of_ble_eq_true rfl)) dX4_addSeller_46 ⟨(Nat.zero_le _), (Nat.zero_le _)⟩) hS (fun q _ h => hFc q h) hFc (fun r u t H1 locs ht hvm hw hB hz1 hk1 hS => ?_)
        obtain ⟨hP1, hK1, hD1⟩ := hB
        rw [ht] at hP1
        obtain ⟨hP, hD⟩ := va_join (wr := [(h0, .inr (4, [.ref (q 1), .ref (q 10), .ref (q 18), .ref (q 22), .ref (q 26), .int (a 0 2), .int (a 0 1), .int (a 0 5), .int (a 0 6), .int (a 0 7), .int (a 0 8)])), (q 3, .inl (cI, 8, .inl (a 2))), (q 4, .inl (cI, 8, .inl (a 3))), (q 6, .inl (cI, 8, .inl (a 5))), (q 8, .inl (cI, 8, .inl (a 7))), (q 9, .inl (cI, 8, .inl (a 8))), (q 10, .inr (2, [.ref (q 11), .ref (q 12), .ref (q 13), .ref (q 14), .ref (q 15), .ref (q 16), .ref (q 17), .int (a 0 3)])), (q 11, .inl (cI, 100, .inl (a 10))), (q 12, .inl (cF, 100, .inr (.inr (.inl (fun j => shF (a 13 j)))))), (q 13, .inl (cI, 100, .inl (a 14))), (q 14, .inl (cI, 100, .inl (fun j => a 11 j - a 12 j))), (q 15, .inl (cI, 100, .inl (fun j => a 15 j - a 16 j))), (q 16, .inl (cI, 100, .inl (a 17))), (q 17, .inl (cI, 100, .inl (a 18))), (q 18, .inr (1, [.ref (q 19), .ref (q 20), .ref (q 21), .int (a 0 4)])), (q 19, .inl (cI, capOf (nn (a 0 4)), .inl (a 20))), (q 20, .inl (cI, capOf (nn (a 0 4)), .inl (a 19))), (q 21, .inl (cI, capOf (nn (a 0 4)), .inl (a 21))), (q 22, .inr (0, [.ref (q 23), .ref (q 24), .ref (q 25), .int (nI k)])), (q 23, .inl (cI, 8, .inl (jc))), (q 24, .inl (cI, 256, .inl (js))), (q 25, .inl (cI, 256, .inl (jv))), (q 26, .inl (cF, 4, .inr (.inr (.inl (fun j => shF (a 9 j))))))]) (w1 := [(q 1, .inr (3, [.ref (q 2), .ref (q 3), .ref (q 4), .ref (q 5), .ref (q 6), .ref (q 7), .ref (q 8), .ref (q 9), .int (a 0 0 + 1)])), (q 2, .inl (cI, 8, .inl (upd (a 1) (nn (a 0 0)) o))), (q 5, .inl (cI, 8, .inl (upd (a 4) (nn (a 0 0)) 1))), (q 7, .inl (cI, 8, .inl (upd (a 6) (nn (a 0 0)) 30)))]) hP hD [1, 2, 5, 7] [0, 3, 4, 6, 8, 9, 10, 11, 12, 13, 14, 15, 16, 17, 18, 19, 20, 21, 22, 23, 24, 25, 26] rfl rfl (by decide) (by decide) hk1 hFc hP1 hD1
        generalize H1 = H at hP hS ⊢
        have hP := hP.sub (ws' := [(h0, .inr (4, [.ref (q 1), .ref (q 10), .ref (q 18), .ref (q 22), .ref (q 26), .int (a 0 2), .int (a 0 1), .int (a 0 5), .int (a 0 6), .int (a 0 7), .int (a 0 8)])), (q 1, .inr (3, [.ref (q 2), .ref (q 3), .ref (q 4), .ref (q 5), .ref (q 6), .ref (q 7), .ref (q 8), .ref (q 9), .int (a 0 0 + 1)])), (q 2, .inl (cI, 8, .inl (upd (a 1) (nn (a 0 0)) o))), (q 3, .inl (cI, 8, .inl (a 2))), (q 4, .inl (cI, 8, .inl (a 3))), (q 5, .inl (cI, 8, .inl (upd (a 4) (nn (a 0 0)) 1))), (q 6, .inl (cI, 8, .inl (a 5))), (q 7, .inl (cI, 8, .inl (upd (a 6) (nn (a 0 0)) 30))), (q 8, .inl (cI, 8, .inl (a 7))), (q 9, .inl (cI, 8, .inl (a 8))), (q 10, .inr (2, [.ref (q 11), .ref (q 12), .ref (q 13), .ref (q 14), .ref (q 15), .ref (q 16), .ref (q 17), .int (a 0 3)])), (q 11, .inl (cI, 100, .inl (a 10))), (q 12, .inl (cF, 100, .inr (.inr (.inl (fun j => shF (a 13 j)))))), (q 13, .inl (cI, 100, .inl (a 14))), (q 14, .inl (cI, 100, .inl (fun j => a 11 j - a 12 j))), (q 15, .inl (cI, 100, .inl (fun j => a 15 j - a 16 j))), (q 16, .inl (cI, 100, .inl (a 17))), (q 17, .inl (cI, 100, .inl (a 18))), (q 18, .inr (1, [.ref (q 19), .ref (q 20), .ref (q 21), .int (a 0 4)])), (q 19, .inl (cI, capOf (nn (a 0 4)), .inl (a 20))), (q 20, .inl (cI, capOf (nn (a 0 4)), .inl (a 19))), (q 21, .inl (cI, capOf (nn (a 0 4)), .inl (a 21))), (q 22, .inr (0, [.ref (q 23), .ref (q 24), .ref (q 25), .int (nI k)])), (q 23, .inl (cI, 8, .inl (jc))), (q 24, .inl (cI, 256, .inl (js))), (q 25, .inl (cI, 256, .inl (jv))), (q 26, .inl (cF, 4, .inr (.inr (.inl (fun j => shF (a 9 j))))))]) [0, 23, 24, 1, 2, 25, 3, 26, 4, 5, 6, 7, 8, 9, 10, 11, 12, 13, 14, 15, 16, 17, 18, 19, 20, 21, 22] rfl
        have hD := hD.sub (ws' := [(h0, .inr (4, [.ref (q 1), .ref (q 10), .ref (q 18), .ref (q 22), .ref (q 26), .int (a 0 2), .int (a 0 1), .int (a 0 5), .int (a 0 6), .int (a 0 7), .int (a 0 8)])), (q 1, .inr (3, [.ref (q 2), .ref (q 3), .ref (q 4), .ref (q 5), .ref (q 6), .ref (q 7), .ref (q 8), .ref (q 9), .int (a 0 0 + 1)])), (q 2, .inl (cI, 8, .inl (upd (a 1) (nn (a 0 0)) o))), (q 3, .inl (cI, 8, .inl (a 2))), (q 4, .inl (cI, 8, .inl (a 3))), (q 5, .inl (cI, 8, .inl (upd (a 4) (nn (a 0 0)) 1))), (q 6, .inl (cI, 8, .inl (a 5))), (q 7, .inl (cI, 8, .inl (upd (a 6) (nn (a 0 0)) 30))), (q 8, .inl (cI, 8, .inl (a 7))), (q 9, .inl (cI, 8, .inl (a 8))), (q 10, .inr (2, [.ref (q 11), .ref (q 12), .ref (q 13), .ref (q 14), .ref (q 15), .ref (q 16), .ref (q 17), .int (a 0 3)])), (q 11, .inl (cI, 100, .inl (a 10))), (q 12, .inl (cF, 100, .inr (.inr (.inl (fun j => shF (a 13 j)))))), (q 13, .inl (cI, 100, .inl (a 14))), (q 14, .inl (cI, 100, .inl (fun j => a 11 j - a 12 j))), (q 15, .inl (cI, 100, .inl (fun j => a 15 j - a 16 j))), (q 16, .inl (cI, 100, .inl (a 17))), (q 17, .inl (cI, 100, .inl (a 18))), (q 18, .inr (1, [.ref (q 19), .ref (q 20), .ref (q 21), .int (a 0 4)])), (q 19, .inl (cI, capOf (nn (a 0 4)), .inl (a 20))), (q 20, .inl (cI, capOf (nn (a 0 4)), .inl (a 19))), (q 21, .inl (cI, capOf (nn (a 0 4)), .inl (a 21))), (q 22, .inr (0, [.ref (q 23), .ref (q 24), .ref (q 25), .int (nI k)])), (q 23, .inl (cI, 8, .inl (jc))), (q 24, .inl (cI, 256, .inl (js))), (q 25, .inl (cI, 256, .inl (jv))), (q 26, .inl (cF, 4, .inr (.inr (.inl (fun j => shF (a 9 j))))))]) [0, 23, 24, 1, 2, 25, 3, 26, 4, 5, 6, 7, 8, 9, 10, 11, 12, 13, 14, 15, 16, 17, 18, 19, 20, 21, 22] (by decide) rfl
        have hP : va_P (dC, dI) vwCl (WC cI cF h0 q (sAdd a o) jc js jv k (capOf (nn (a 0 4)))) H := hP
        have hD : va_D A (WC cI cF h0 q (sAdd a o) jc js jv k (capOf (nn (a 0 4)))) := hD
        have hC2 : okC (sAdd a o) jc js jv k := hC
        refine W.widen (k := 1) (n := 6) (Nat.le_of_ble_eq_true rfl) (Nat.le_of_ble_eq_true rfl) ?_
        have hP9 := hP
        have hD9 := hD
        have hK9 := hK
        refine vx_ret ?_
        exact W.iret (v := r) hx hb hr (fun t ht hW => ⟨⟨r, (), rfl, ⟨e0, hw.trans (hBk 0 0 8 rfl).1.symm⟩, atC_in hC2 (atW_end hP9 hD9 hK9 ht hW)⟩, hS.F ht⟩) hS.2.2 dX4_addSeller_49
      · have e2 : kAdd a o = 2 := by unfold kAdd; rw [if_pos h4, if_neg c_3]
        obtain ⟨sa, hstr⟩ := hV.2.2.2 (58, "no more sellers") (by decide +kernel)
        have hat : ∀ w ∈ vx_atS RX4 60 exS exN, w.before _ s = true := vx_hat (B := vB) (fun w h => hts w (List.mem_cons_of_mem _ (List.mem_append_right _ h))) (by decide +kernel) (okV_use hV)
        exact vx_throwS (cls := exS) (text := "no more sellers") (names := exN) (A := A) (sa := sa) hx hb hst hown (by decide +kernel) (by decide +kernel) (hts (.classLink RX4 56 "java/lang/IllegalStateException") (List.mem_of_getElem? (i := 3) rfl)) (hts (.initialized "java/lang/IllegalStateException") (List.mem_of_getElem? (i := 4) rfl)) hstr hat (by decide +kernel) hV.1 hV.2.1 hS (hl.1.trans hml.symm) dX4_addSeller_31 dX4_addSeller_34 dX4_addSeller_35 dX4_addSeller_37 dX4_addSeller_40 (fun x hx9 => (htab x hx9).elim) (Nat.le_of_ble_eq_true rfl) (Nat.le_of_ble_eq_true rfl) (Nat.le_of_ble_eq_true rfl) (Nat.le_of_ble_eq_true rfl) hlocks (fun t hvm9 hz9 hk9 => ⟨(), (by rw [e2]; decide), ⟨(by rw [e2]; exact rfl), atC_in hC (atW_thr hP hD hK hvm9 hk9)⟩, y_F_thr hS hz9 hk9⟩) hS.2.2 (Nat.le_of_ble_eq_true rfl) (Nat.le_of_ble_eq_true rfl)
    · have e1 : kAdd a o = 1 := if_neg (fun h9 => c_2 (le3_lt4 h9.2))
      obtain ⟨sa, hstr⟩ := hV.2.2.2 (47, "no such owner") (by decide +kernel)
      have hat : ∀ w ∈ vx_atS RX4 49 exI exN, w.before _ s = true := vx_hat (B := vB) (fun w h => hts w (List.mem_cons_of_mem _ (List.mem_append_left _ (List.mem_append_right _ h)))) (by decide +kernel) (okV_use hV)
      exact vx_throwS (cls := exI) (text := "no such owner") (names := exN) (A := A) (sa := sa) hx hb hst hown (by decide +kernel) (by decide +kernel) (hts (.classLink RX4 45 "java/lang/IndexOutOfBoundsException") (List.mem_of_getElem? (i := 1) rfl)) (hts (.initialized "java/lang/IndexOutOfBoundsException") (List.mem_of_getElem? (i := 2) rfl)) hstr hat (by decide +kernel) hV.1 hV.2.1 hS (hl.1.trans hml.symm) dX4_addSeller_9 dX4_addSeller_12 dX4_addSeller_13 dX4_addSeller_15 dX4_addSeller_18 (fun x hx9 => (htab x hx9).elim) (Nat.le_of_ble_eq_true rfl) (Nat.le_of_ble_eq_true rfl) (Nat.le_of_ble_eq_true rfl) (Nat.le_of_ble_eq_true rfl) hlocks (fun t hvm9 hz9 hk9 => ⟨(), (by rw [e1]; decide), ⟨(by rw [e1]; exact rfl), atC_in hC (atW_thr hP hD hK hvm9 hk9)⟩, y_F_thr hS hz9 hk9⟩) hS.2.2 (Nat.le_of_ble_eq_true rfl) (Nat.le_of_ble_eq_true rfl)
set_option maxHeartbeats 4000000 in
set_option maxRecDepth 100000 in
theorem c_X4_verify (l : Launch) (dC : Nat → ClassId) (dI : Nat → Nat → Nat) (cI cF : ClassId) (h0 : Nat) (q : Nat → Nat) (sz : Nat) (a : yA) (jc js jv : Nat → Int32) (k : Nat) (hst : l.stackTraces = false)  (hC : okC a jc js jv k) (hB : okB a) (x st : Int32) : vx_Met l yX4_verify wsX4_verify ({ frames := 7, cells := 2, slots := 12, locals := 112 } : Room) (va_Pc [.ref h0, .int x, .int st] (pcV dC dI [(cI, .int), (cF, .float)] (WC cI cF h0 q a jc js jv k (capOf (nn (a 0 4)))) sz)) (va_Qi (fun (r : Int32) (_ : Unit) => kVer a x st = 0 ∧ r = a 2 (nn x)) (fun _ t => atC dC dI cI cF (va_A (WC cI cF h0 q a jc js jv k (capOf (nn (a 0 4)))) sz) h0 (sVer a x st) t) (va_A (WC cI cF h0 q a jc js jv k (capOf (nn (a 0 4)))) sz)) (vx_X (fun _ : Unit => kVer a x st ≠ 0) (fun E _ t => E = eIA (kVer a x st) ∧ atC dC dI cI cF (va_A (WC cI cF h0 q a jc js jv k (capOf (nn (a 0 4)))) sz) h0 a t) (va_A (WC cI cF h0 q a jc js jv k (capOf (nn (a 0 4)))) sz)) (2) (12) (va_A (WC cI cF h0 q a jc js jv k (capOf (nn (a 0 4)))) sz) := by
  refine vx_ofW (cc := cX4_verify) (maxL := 4) (ret := (some .int)) (by decide) rfl ?_
  intro p e s m args below meth c s₁ B hml htab hv
  obtain ⟨rfl, ⟨hsz, hP, hK, hD0⟩, hV⟩ := hv
  have hx := B.exec
  have hb := B.bytes
  have hr := B.returns
  have hts := atoms_spec (ws := wsX4_verify) B.pre
  have hown : s.vm.findClass RX4 = some m.cls := findClass_of_methodNamed B.named
  have hlocks := B.notSynchronized
  subst hsz
  have hD := hD0.self (sz := s.heap.size)
  generalize hAe : va_A [(h0, .inr (4, [.ref (q 1), .ref (q 10), .ref (q 18), .ref (q 22), .ref (q 26), .int (a 0 2), .int (a 0 1), .int (a 0 5), .int (a 0 6), .int (a 0 7), .int (a 0 8)])), (q 1, .inr (3, [.ref (q 2), .ref (q 3), .ref (q 4), .ref (q 5), .ref (q 6), .ref (q 7), .ref (q 8), .ref (q 9), .int (a 0 0)])), (q 2, .inl (cI, 8, .inl (a 1))), (q 3, .inl (cI, 8, .inl (a 2))), (q 4, .inl (cI, 8, .inl (a 3))), (q 5, .inl (cI, 8, .inl (a 4))), (q 6, .inl (cI, 8, .inl (a 5))), (q 7, .inl (cI, 8, .inl (a 6))), (q 8, .inl (cI, 8, .inl (a 7))), (q 9, .inl (cI, 8, .inl (a 8))), (q 10, .inr (2, [.ref (q 11), .ref (q 12), .ref (q 13), .ref (q 14), .ref (q 15), .ref (q 16), .ref (q 17), .int (a 0 3)])), (q 11, .inl (cI, 100, .inl (a 10))), (q 12, .inl (cF, 100, .inr (.inr (.inl (fun j => shF (a 13 j)))))), (q 13, .inl (cI, 100, .inl (a 14))), (q 14, .inl (cI, 100, .inl (fun j => a 11 j - a 12 j))), (q 15, .inl (cI, 100, .inl (fun j => a 15 j - a 16 j))), (q 16, .inl (cI, 100, .inl (a 17))), (q 17, .inl (cI, 100, .inl (a 18))), (q 18, .inr (1, [.ref (q 19), .ref (q 20), .ref (q 21), .int (a 0 4)])), (q 19, .inl (cI, capOf (nn (a 0 4)), .inl (a 20))), (q 20, .inl (cI, capOf (nn (a 0 4)), .inl (a 19))), (q 21, .inl (cI, capOf (nn (a 0 4)), .inl (a 21))), (q 22, .inr (0, [.ref (q 23), .ref (q 24), .ref (q 25), .int (nI k)])), (q 23, .inl (cI, 8, .inl (jc))), (q 24, .inl (cI, 256, .inl (js))), (q 25, .inl (cI, 256, .inl (jv))), (q 26, .inl (cF, 4, .inr (.inr (.inl (fun j => shF (a 9 j))))))] s.heap.size = A at hD hV ⊢
  have hA : ∀ q : Nat, s.heap.size ≤ q → A q := fun q h => by rw [← hAe]; exact Or.inr h
  have hS : va_S A s.heap s.heap [] := va_S.rf
  have hl := lv_entry ([.ref h0, .int x, .int st]) (n := 4) (Nat.le_of_ble_eq_true rfl)
  rw [lg_entry_eq]
  generalize (lg_sl ([.ref h0, .int x, .int st]) ++ List.replicate (4 - (lg_sl ([.ref h0, .int x, .int st])).length) Slot.unset).toArray = ls at hl ⊢
  have hl : lv_has ls 4 [(0, .ref h0), (1, .int x), (2, .int st)] := hl
  have hiX4 : ∀ w ∈ wsX40, w ∈ wsX4_verify := fun w h => List.mem_cons_of_mem _ (List.mem_append_left _ (List.mem_append_left _ (List.mem_append_left _ (List.mem_append_right _ h))))
  have hiX3 : ∀ w ∈ wsX30, w ∈ wsX4_verify := fun w h => List.mem_cons_of_mem _ (List.mem_append_left _ (List.mem_append_left _ (List.mem_append_right _ h)))
  have hP : va_P (dC, dI) vwCl [(h0, .inr (4, [.ref (q 1), .ref (q 10), .ref (q 18), .ref (q 22), .ref (q 26), .int (a 0 2), .int (a 0 1), .int (a 0 5), .int (a 0 6), .int (a 0 7), .int (a 0 8)])), (q 1, .inr (3, [.ref (q 2), .ref (q 3), .ref (q 4), .ref (q 5), .ref (q 6), .ref (q 7), .ref (q 8), .ref (q 9), .int (a 0 0)])), (q 2, .inl (cI, 8, .inl (a 1))), (q 3, .inl (cI, 8, .inl (a 2))), (q 4, .inl (cI, 8, .inl (a 3))), (q 5, .inl (cI, 8, .inl (a 4))), (q 6, .inl (cI, 8, .inl (a 5))), (q 7, .inl (cI, 8, .inl (a 6))), (q 8, .inl (cI, 8, .inl (a 7))), (q 9, .inl (cI, 8, .inl (a 8))), (q 10, .inr (2, [.ref (q 11), .ref (q 12), .ref (q 13), .ref (q 14), .ref (q 15), .ref (q 16), .ref (q 17), .int (a 0 3)])), (q 11, .inl (cI, 100, .inl (a 10))), (q 12, .inl (cF, 100, .inr (.inr (.inl (fun j => shF (a 13 j)))))), (q 13, .inl (cI, 100, .inl (a 14))), (q 14, .inl (cI, 100, .inl (fun j => a 11 j - a 12 j))), (q 15, .inl (cI, 100, .inl (fun j => a 15 j - a 16 j))), (q 16, .inl (cI, 100, .inl (a 17))), (q 17, .inl (cI, 100, .inl (a 18))), (q 18, .inr (1, [.ref (q 19), .ref (q 20), .ref (q 21), .int (a 0 4)])), (q 19, .inl (cI, capOf (nn (a 0 4)), .inl (a 20))), (q 20, .inl (cI, capOf (nn (a 0 4)), .inl (a 19))), (q 21, .inl (cI, capOf (nn (a 0 4)), .inl (a 21))), (q 22, .inr (0, [.ref (q 23), .ref (q 24), .ref (q 25), .int (nI k)])), (q 23, .inl (cI, 8, .inl (jc))), (q 24, .inl (cI, 256, .inl (js))), (q 25, .inl (cI, 256, .inl (jv))), (q 26, .inl (cF, 4, .inr (.inr (.inl (fun j => shF (a 9 j))))))] s.heap := hP
  refine y_enter (A := A) hP (fun H hP hS => ?_)
  have hBk := hB
  refine lv_aload_n hx hb dX4_verify_0 rfl (lv_at hl 0 rfl) ?_
  refine lv_iload_n hx hb dX4_verify_1 rfl (lv_at hl 1 rfl) ?_
  have e1 : ¬ selOK a x → kVer a x st = 1 := fun h9 => if_neg h9
  have hFc := y_free hD hS hA
  refine vx_callv (vx_runV (As := [.int x]) (rest := []) ⟨hx, hb, hml, hown, hts⟩ (c_X4_requireSeller l dC dI cI cF h0 q H.size a jc js jv k hst hC hB x) (cwV 1 hts gX4_verify_X4_requireSeller rfl rfl rfl (by decide +kernel) ⟨Nat.le_of_ble_eq_true rfl, Nat.le_of_ble_eq_true rfl⟩) ⟨pcV_blind, va_recv hK hP (ci := 4) (q0 := 0) rfl rfl, fun U hU hW => pcV_pre hP hD hK hV hS hFc hU hW⟩ rfl rfl hl.1 rfl (lv_room (Nat.le_of_ble_eq_true rfl)) dX4_verify_2 ⟨Nat.le_of_ble_eq_true rfl, Nat.le_of_ble_eq_true rfl⟩) hS (fun q _ h => hFc q h) hFc (fun q _ h => hFc q h) (fun E ce q9 u t H1 locs ht hvm hw hBx hz1 hk1 hS hce hcv hcl => ?_) (fun u t H1 locs ht hvm hw hB1 hz1 hk1 hS => ?_)
  · obtain ⟨hE, qx, jcx, jsx, jvx, kx, hCx, hPx, hKx, hDx⟩ := hBx
    rw [ht] at hPx
    exact vx_out (fun x hx9 => (htab x hx9).elim) hlocks hce hcv hcl (fun t9 ht9 hvm9 => ⟨(), (by rw [e1 hw]; decide), ⟨(by rw [e1 hw]; exact hE), atC_in hCx (⟨by rw [ht9]; exact hPx, va_K.moved hvm9 hK, hDx.weaken (fun kk qq _ h => hFc qq.1 h)⟩)⟩, hS.F ht9⟩) hS.2.2 (Nat.le_of_ble_eq_true rfl) (Nat.le_of_ble_eq_true rfl)
  · obtain ⟨q1, jc1, js1, jv1, k1, hC1, hP, hK1, hD1⟩ := hB1
    rw [ht] at hP
    have hD := hD1.weaken (fun kk qq _ h => hFc qq.1 h)
    generalize H1 = H at hP hS ⊢
    have hC1 : okC (a) jc1 js1 jv1 k1 := hC1
    have hP : va_P (dC, dI) vwCl (WC cI cF h0 q1 a jc1 js1 jv1 k1 (capOf (nn (a 0 4)))) H := hP
    have hD : va_D A (WC cI cF h0 q1 a jc1 js1 jv1 k1 (capOf (nn (a 0 4)))) := hD
    have hw1 := hw
    have hsel := hw1
    refine lv_iload_n hx hb dX4_verify_5 rfl (lv_at hl 2 rfl) ?_
    refine lv_iconst (v := 0) hx hb dX4_verify_6 (by decide) ?_
    refine lv_iconst (v := 2) hx hb dX4_verify_7 (by decide) ?_
    have e2 : ¬ bw st 0 2 → kVer a x st = 2 := fun h9 => by unfold kVer; rw [if_pos hsel, if_neg h9]
    have hFc := y_freeE hS hA
    have hK0 := hK.sub (tys' := []) [] rfl
    refine vx_callv (vx_runS (As := [.int st, .int 0, .int 2]) (rest := []) ⟨hx, hb, hml, hown, hts⟩ (c_X4_requireBetween l dC dI H.size hst st 0 2) (va_cwS 3 hts gX4_verify_X4_requireBetween rfl rfl rfl (by decide +kernel) ⟨Nat.le_of_ble_eq_true rfl, Nat.le_of_ble_eq_true rfl⟩) ⟨pcV_blind, fun U hU hW => pcV_pre va_P_nil (va_D_nil (A := A)) hK0 hV hS hFc hU hW⟩ rfl rfl hl.1 rfl (lv_room (Nat.le_of_ble_eq_true rfl)) dX4_verify_8 ⟨Nat.le_of_ble_eq_true rfl, Nat.le_of_ble_eq_true rfl⟩) hS (fun q _ h => hFc q h) hFc (fun q _ h => hFc q h) (fun E ce q9 u t H1 locs ht hvm hw hBx hz1 hk1 hS hce hcv hcl => ?_) (fun u t H1 locs ht hvm hw hB1 hz1 hk1 hS => ?_)
    · have hE := hBx.1
      have hPx := y_keptE hP hk1
      exact vx_out (fun x hx9 => (htab x hx9).elim) hlocks hce hcv hcl (fun t9 ht9 hvm9 => ⟨(), (by rw [e2 hw]; decide), ⟨(by rw [e2 hw]; exact hE), atC_in hC1 (⟨by rw [ht9]; exact hPx, va_K.moved hvm9 hK, hD⟩)⟩, hS.F ht9⟩) hS.2.2 (Nat.le_of_ble_eq_true rfl) (Nat.le_of_ble_eq_true rfl)
    · have hP := y_keptE hP hk1
      generalize H1 = H at hP hS ⊢
      have hw2 := hw
      have e0 : kVer a x st = 0 := by unfold kVer; rw [if_pos hsel, if_pos hw2]
      have hwsel := hsel
      have hx1 := nat_of (hB 0 0 8 rfl) (by decide) hwsel.1 hwsel.2
      have hx8 : nn x < 8 := Nat.lt_of_lt_of_le hx1.2 (hB 0 0 8 rfl).2
      refine lv_aload_n hx hb dX4_verify_11 rfl (lv_at hl 0 rfl) ?_
      refine va_get (D := (dC, dI)) (ci := 4) (v := .ref (q1 1)) (C := RX4) (T := TX4) (N := 11) hx hb hts hiX4 hown hK hP 0 rfl rfl 0 (by decide) (hts (.fieldLink RX4 10 "Payoutnet" "shops" "LPayoutnet$Shops;") (List.mem_of_getElem? (i := 1) rfl)) (fun _ h9 => h9) rfl dX4_verify_12 ?_
      refine va_get (D := (dC, dI)) (ci := 3) (v := .ref (q1 3)) (C := RX3) (T := TX3) (N := 9) hx hb hts hiX3 hown hK hP 1 rfl rfl 1 (by decide) (hts (.fieldLink RX4 73 "Payoutnet$Shops" "step" "[I") (List.mem_of_getElem? (i := 2) rfl)) (fun _ h9 => h9) rfl dX4_verify_15 ?_
      refine lv_iload_n hx hb dX4_verify_18 rfl (lv_at hl 1 rfl) ?_
      refine y_topi (y := nI (nn x)) hx1.1 ?_
      refine y_ild hx hb hK hP 3 0 rfl rfl (t := nn x) (by omega) (Nat.le_of_ble_eq_true rfl) dX4_verify_19 ?_
      refine lv_istore_n (lv' := [(3, .int ((a 2) (nn x))), (0, .ref h0), (1, .int x), (2, .int st)]) hx hb dX4_verify_20 rfl hl (by decide) rfl (fun ls hl => ?_)
      refine lv_aload_n hx hb dX4_verify_21 rfl (lv_at hl 1 rfl) ?_
      refine va_get (D := (dC, dI)) (ci := 4) (v := .ref (q1 1)) (C := RX4) (T := TX4) (N := 11) hx hb hts hiX4 hown hK hP 0 rfl rfl 0 (by decide) (hts (.fieldLink RX4 10 "Payoutnet" "shops" "LPayoutnet$Shops;") (List.mem_of_getElem? (i := 1) rfl)) (fun _ h9 => h9) rfl dX4_verify_22 ?_
      refine va_get (D := (dC, dI)) (ci := 3) (v := .ref (q1 3)) (C := RX3) (T := TX3) (N := 9) hx hb hts hiX3 hown hK hP 1 rfl rfl 1 (by decide) (hts (.fieldLink RX4 73 "Payoutnet$Shops" "step" "[I") (List.mem_of_getElem? (i := 2) rfl)) (fun _ h9 => h9) rfl dX4_verify_25 ?_
      refine lv_iload_n hx hb dX4_verify_28 rfl (lv_at hl 2 rfl) ?_
      refine y_topi (y := nI (nn x)) hx1.1 ?_
      refine lv_iload_n hx hb dX4_verify_29 rfl (lv_at hl 3 rfl) ?_
      refine y_ist hx hb hK hP hD hS 3 0 rfl rfl (t := nn x) (by omega) (Nat.le_of_ble_eq_true rfl) dX4_verify_30 (fun H locs hP hD hS => ?_)
      have hP : va_P (dC, dI) vwCl [(h0, .inr (4, [.ref (q1 1), .ref (q1 10), .ref (q1 18), .ref (q1 22), .ref (q1 26), .int (a 0 2), .int (a 0 1), .int (a 0 5), .int (a 0 6), .int (a 0 7), .int (a 0 8)])), (q1 1, .inr (3, [.ref (q1 2), .ref (q1 3), .ref (q1 4), .ref (q1 5), .ref (q1 6), .ref (q1 7), .ref (q1 8), .ref (q1 9), .int (a 0 0)])), (q1 2, .inl (cI, 8, .inl (a 1))), (q1 3, .inl (cI, 8, .inl (upd (a 2) (nn x) st))), (q1 4, .inl (cI, 8, .inl (a 3))), (q1 5, .inl (cI, 8, .inl (a 4))), (q1 6, .inl (cI, 8, .inl (a 5))), (q1 7, .inl (cI, 8, .inl (a 6))), (q1 8, .inl (cI, 8, .inl (a 7))), (q1 9, .inl (cI, 8, .inl (a 8))), (q1 10, .inr (2, [.ref (q1 11), .ref (q1 12), .ref (q1 13), .ref (q1 14), .ref (q1 15), .ref (q1 16), .ref (q1 17), .int (a 0 3)])), (q1 11, .inl (cI, 100, .inl (a 10))), (q1 12, .inl (cF, 100, .inr (.inr (.inl (fun j => shF (a 13 j)))))), (q1 13, .inl (cI, 100, .inl (a 14))), (q1 14, .inl (cI, 100, .inl (fun j => a 11 j - a 12 j))), (q1 15, .inl (cI, 100, .inl (fun j => a 15 j - a 16 j))), (q1 16, .inl (cI, 100, .inl (a 17))), (q1 17, .inl (cI, 100, .inl (a 18))), (q1 18, .inr (1, [.ref (q1 19), .ref (q1 20), .ref (q1 21), .int (a 0 4)])), (q1 19, .inl (cI, capOf (nn (a 0 4)), .inl (a 20))), (q1 20, .inl (cI, capOf (nn (a 0 4)), .inl (a 19))), (q1 21, .inl (cI, capOf (nn (a 0 4)), .inl (a 21))), (q1 22, .inr (0, [.ref (q1 23), .ref (q1 24), .ref (q1 25), .int (nI k1)])), (q1 23, .inl (cI, 8, .inl (jc1))), (q1 24, .inl (cI, 256, .inl (js1))), (q1 25, .inl (cI, 256, .inl (jv1))), (q1 26, .inl (cF, 4, .inr (.inr (.inl (fun j => shF (a 9 j))))))] H := hP
      have hD : va_D A [(h0, .inr (4, [.ref (q1 1), .ref (q1 10), .ref (q1 18), .ref (q1 22), .ref (q1 26), .int (a 0 2), .int (a 0 1), .int (a 0 5), .int (a 0 6), .int (a 0 7), .int (a 0 8)])), (q1 1, .inr (3, [.ref (q1 2), .ref (q1 3), .ref (q1 4), .ref (q1 5), .ref (q1 6), .ref (q1 7), .ref (q1 8), .ref (q1 9), .int (a 0 0)])), (q1 2, .inl (cI, 8, .inl (a 1))), (q1 3, .inl (cI, 8, .inl (upd (a 2) (nn x) st))), (q1 4, .inl (cI, 8, .inl (a 3))), (q1 5, .inl (cI, 8, .inl (a 4))), (q1 6, .inl (cI, 8, .inl (a 5))), (q1 7, .inl (cI, 8, .inl (a 6))), (q1 8, .inl (cI, 8, .inl (a 7))), (q1 9, .inl (cI, 8, .inl (a 8))), (q1 10, .inr (2, [.ref (q1 11), .ref (q1 12), .ref (q1 13), .ref (q1 14), .ref (q1 15), .ref (q1 16), .ref (q1 17), .int (a 0 3)])), (q1 11, .inl (cI, 100, .inl (a 10))), (q1 12, .inl (cF, 100, .inr (.inr (.inl (fun j => shF (a 13 j)))))), (q1 13, .inl (cI, 100, .inl (a 14))), (q1 14, .inl (cI, 100, .inl (fun j => a 11 j - a 12 j))), (q1 15, .inl (cI, 100, .inl (fun j => a 15 j - a 16 j))), (q1 16, .inl (cI, 100, .inl (a 17))), (q1 17, .inl (cI, 100, .inl (a 18))), (q1 18, .inr (1, [.ref (q1 19), .ref (q1 20), .ref (q1 21), .int (a 0 4)])), (q1 19, .inl (cI, capOf (nn (a 0 4)), .inl (a 20))), (q1 20, .inl (cI, capOf (nn (a 0 4)), .inl (a 19))), (q1 21, .inl (cI, capOf (nn (a 0 4)), .inl (a 21))), (q1 22, .inr (0, [.ref (q1 23), .ref (q1 24), .ref (q1 25), .int (nI k1)])), (q1 23, .inl (cI, 8, .inl (jc1))), (q1 24, .inl (cI, 256, .inl (js1))), (q1 25, .inl (cI, 256, .inl (jv1))), (q1 26, .inl (cF, 4, .inr (.inr (.inl (fun j => shF (a 9 j))))))] := hD
      refine lv_iload_n hx hb dX4_verify_31 rfl (lv_at hl 0 rfl) ?_
      have hP : va_P (dC, dI) vwCl (WC cI cF h0 q1 (sVer a x st) jc1 js1 jv1 k1 (capOf (nn ((sVer a x st) 0 4)))) H := hP
      have hD : va_D A (WC cI cF h0 q1 (sVer a x st) jc1 js1 jv1 k1 (capOf (nn ((sVer a x st) 0 4)))) := hD
      have hC9 : okC (sVer a x st) jc1 js1 jv1 k1 := hC1
      refine W.widen (k := 2) (n := 12) (Nat.le_of_ble_eq_true rfl) (Nat.le_of_ble_eq_true rfl) ?_
      have hP9 := hP
      have hD9 := hD
      have hK9 := hK
      refine vx_ret ?_
      exact W.iret (v := (a 2) (nn x)) hx hb hr (fun t ht hW => ⟨⟨(a 2) (nn x), (), rfl, ⟨e0, rfl⟩, atC_in hC9 (atW_end hP9 hD9 hK9 ht hW)⟩, hS.F ht⟩) hS.2.2 dX4_verify_32
set_option maxHeartbeats 4000000 in
set_option maxRecDepth 100000 in
theorem c_X4_setPayouts (l : Launch) (dC : Nat → ClassId) (dI : Nat → Nat → Nat) (cI cF : ClassId) (h0 : Nat) (q : Nat → Nat) (sz : Nat) (a : yA) (jc js jv : Nat → Int32) (k : Nat) (hst : l.stackTraces = false)  (hC : okC a jc js jv k) (hB : okB a) (x y v : Int32) : vx_Met l yX4_setPayouts wsX4_setPayouts ({ frames := 7, cells := 3, slots := 18, locals := 112 } : Room) (va_Pc [.ref h0, .int x, .int y, .int v] (pcV dC dI [(cI, .int), (cF, .float)] (WC cI cF h0 q a jc js jv k (capOf (nn (a 0 4)))) sz)) (va_Qv (fun _ : Unit => kPO a x y v = 0) (fun _ t => atC dC dI cI cF (va_A (WC cI cF h0 q a jc js jv k (capOf (nn (a 0 4)))) sz) h0 (sPO a x y v) t) (va_A (WC cI cF h0 q a jc js jv k (capOf (nn (a 0 4)))) sz)) (vx_X (fun _ : Unit => kPO a x y v ≠ 0) (fun E _ t => E = eIA (kPO a x y v) ∧ atC dC dI cI cF (va_A (WC cI cF h0 q a jc js jv k (capOf (nn (a 0 4)))) sz) h0 a t) (va_A (WC cI cF h0 q a jc js jv k (capOf (nn (a 0 4)))) sz)) (3) (18) (va_A (WC cI cF h0 q a jc js jv k (capOf (nn (a 0 4)))) sz) := by
  refine vx_ofW (cc := cX4_setPayouts) (maxL := 4) (ret := none) (by decide) rfl ?_
  intro p e s m args below meth c s₁ B hml htab hv
  obtain ⟨rfl, ⟨hsz, hP, hK, hD0⟩, hV⟩ := hv
  have hx := B.exec
  have hb := B.bytes
  have hr := B.returns
  have hts := atoms_spec (ws := wsX4_setPayouts) B.pre
  have hown : s.vm.findClass RX4 = some m.cls := findClass_of_methodNamed B.named
  have hlocks := B.notSynchronized
  subst hsz
  have hD := hD0.self (sz := s.heap.size)
  generalize hAe : va_A [(h0, .inr (4, [.ref (q 1), .ref (q 10), .ref (q 18), .ref (q 22), .ref (q 26), .int (a 0 2), .int (a 0 1), .int (a 0 5), .int (a 0 6), .int (a 0 7), .int (a 0 8)])), (q 1, .inr (3, [.ref (q 2), .ref (q 3), .ref (q 4), .ref (q 5), .ref (q 6), .ref (q 7), .ref (q 8), .ref (q 9), .int (a 0 0)])), (q 2, .inl (cI, 8, .inl (a 1))), (q 3, .inl (cI, 8, .inl (a 2))), (q 4, .inl (cI, 8, .inl (a 3))), (q 5, .inl (cI, 8, .inl (a 4))), (q 6, .inl (cI, 8, .inl (a 5))), (q 7, .inl (cI, 8, .inl (a 6))), (q 8, .inl (cI, 8, .inl (a 7))), (q 9, .inl (cI, 8, .inl (a 8))), (q 10, .inr (2, [.ref (q 11), .ref (q 12), .ref (q 13), .ref (q 14), .ref (q 15), .ref (q 16), .ref (q 17), .int (a 0 3)])), (q 11, .inl (cI, 100, .inl (a 10))), (q 12, .inl (cF, 100, .inr (.inr (.inl (fun j => shF (a 13 j)))))), (q 13, .inl (cI, 100, .inl (a 14))), (q 14, .inl (cI, 100, .inl (fun j => a 11 j - a 12 j))), (q 15, .inl (cI, 100, .inl (fun j => a 15 j - a 16 j))), (q 16, .inl (cI, 100, .inl (a 17))), (q 17, .inl (cI, 100, .inl (a 18))), (q 18, .inr (1, [.ref (q 19), .ref (q 20), .ref (q 21), .int (a 0 4)])), (q 19, .inl (cI, capOf (nn (a 0 4)), .inl (a 20))), (q 20, .inl (cI, capOf (nn (a 0 4)), .inl (a 19))), (q 21, .inl (cI, capOf (nn (a 0 4)), .inl (a 21))), (q 22, .inr (0, [.ref (q 23), .ref (q 24), .ref (q 25), .int (nI k)])), (q 23, .inl (cI, 8, .inl (jc))), (q 24, .inl (cI, 256, .inl (js))), (q 25, .inl (cI, 256, .inl (jv))), (q 26, .inl (cF, 4, .inr (.inr (.inl (fun j => shF (a 9 j))))))] s.heap.size = A at hD hV ⊢
  have hA : ∀ q : Nat, s.heap.size ≤ q → A q := fun q h => by rw [← hAe]; exact Or.inr h
  have hS : va_S A s.heap s.heap [] := va_S.rf
  have hl := lv_entry ([.ref h0, .int x, .int y, .int v]) (n := 4) (Nat.le_of_ble_eq_true rfl)
  rw [lg_entry_eq]
  generalize (lg_sl ([.ref h0, .int x, .int y, .int v]) ++ List.replicate (4 - (lg_sl ([.ref h0, .int x, .int y, .int v])).length) Slot.unset).toArray = ls at hl ⊢
  have hl : lv_has ls 4 [(0, .ref h0), (1, .int x), (2, .int y), (3, .int v)] := hl
  have hiX4 : ∀ w ∈ wsX40, w ∈ wsX4_setPayouts := fun w h => List.mem_cons_of_mem _ (List.mem_append_left _ (List.mem_append_left _ (List.mem_append_left _ (List.mem_append_right _ h))))
  have hiX3 : ∀ w ∈ wsX30, w ∈ wsX4_setPayouts := fun w h => List.mem_cons_of_mem _ (List.mem_append_left _ (List.mem_append_left _ (List.mem_append_right _ h)))
  have hP : va_P (dC, dI) vwCl [(h0, .inr (4, [.ref (q 1), .ref (q 10), .ref (q 18), .ref (q 22), .ref (q 26), .int (a 0 2), .int (a 0 1), .int (a 0 5), .int (a 0 6), .int (a 0 7), .int (a 0 8)])), (q 1, .inr (3, [.ref (q 2), .ref (q 3), .ref (q 4), .ref (q 5), .ref (q 6), .ref (q 7), .ref (q 8), .ref (q 9), .int (a 0 0)])), (q 2, .inl (cI, 8, .inl (a 1))), (q 3, .inl (cI, 8, .inl (a 2))), (q 4, .inl (cI, 8, .inl (a 3))), (q 5, .inl (cI, 8, .inl (a 4))), (q 6, .inl (cI, 8, .inl (a 5))), (q 7, .inl (cI, 8, .inl (a 6))), (q 8, .inl (cI, 8, .inl (a 7))), (q 9, .inl (cI, 8, .inl (a 8))), (q 10, .inr (2, [.ref (q 11), .ref (q 12), .ref (q 13), .ref (q 14), .ref (q 15), .ref (q 16), .ref (q 17), .int (a 0 3)])), (q 11, .inl (cI, 100, .inl (a 10))), (q 12, .inl (cF, 100, .inr (.inr (.inl (fun j => shF (a 13 j)))))), (q 13, .inl (cI, 100, .inl (a 14))), (q 14, .inl (cI, 100, .inl (fun j => a 11 j - a 12 j))), (q 15, .inl (cI, 100, .inl (fun j => a 15 j - a 16 j))), (q 16, .inl (cI, 100, .inl (a 17))), (q 17, .inl (cI, 100, .inl (a 18))), (q 18, .inr (1, [.ref (q 19), .ref (q 20), .ref (q 21), .int (a 0 4)])), (q 19, .inl (cI, capOf (nn (a 0 4)), .inl (a 20))), (q 20, .inl (cI, capOf (nn (a 0 4)), .inl (a 19))), (q 21, .inl (cI, capOf (nn (a 0 4)), .inl (a 21))), (q 22, .inr (0, [.ref (q 23), .ref (q 24), .ref (q 25), .int (nI k)])), (q 23, .inl (cI, 8, .inl (jc))), (q 24, .inl (cI, 256, .inl (js))), (q 25, .inl (cI, 256, .inl (jv))), (q 26, .inl (cF, 4, .inr (.inr (.inl (fun j => shF (a 9 j))))))] s.heap := hP
  refine y_enter (A := A) hP (fun H hP hS => ?_)
  have hBk := hB
  refine lv_aload_n hx hb dX4_setPayouts_0 rfl (lv_at hl 0 rfl) ?_
  refine lv_iload_n hx hb dX4_setPayouts_1 rfl (lv_at hl 1 rfl) ?_
  have e1 : ¬ selOK a x → kPO a x y v = 1 := fun h9 => if_neg h9
  have hFc := y_free hD hS hA
  refine vx_callv (vx_runV (As := [.int x]) (rest := []) ⟨hx, hb, hml, hown, hts⟩ (c_X4_requireSeller l dC dI cI cF h0 q H.size a jc js jv k hst hC hB x) (cwV 1 hts gX4_setPayouts_X4_requireSeller rfl rfl rfl (by decide +kernel) ⟨Nat.le_of_ble_eq_true rfl, Nat.le_of_ble_eq_true rfl⟩) ⟨pcV_blind, va_recv hK hP (ci := 4) (q0 := 0) rfl rfl, fun U hU hW => pcV_pre hP hD hK hV hS hFc hU hW⟩ rfl rfl hl.1 rfl (lv_room (Nat.le_of_ble_eq_true rfl)) dX4_setPayouts_2 ⟨Nat.le_of_ble_eq_true rfl, Nat.le_of_ble_eq_true rfl⟩) hS (fun q _ h => hFc q h) hFc (fun q _ h => hFc q h) (fun E ce q9 u t H1 locs ht hvm hw hBx hz1 hk1 hS hce hcv hcl => ?_) (fun u t H1 locs ht hvm hw hB1 hz1 hk1 hS => ?_)
  · obtain ⟨hE, qx, jcx, jsx, jvx, kx, hCx, hPx, hKx, hDx⟩ := hBx
    rw [ht] at hPx
    exact vx_out (fun x hx9 => (htab x hx9).elim) hlocks hce hcv hcl (fun t9 ht9 hvm9 => ⟨(), (by rw [e1 hw]; decide), ⟨(by rw [e1 hw]; exact hE), atC_in hCx (⟨by rw [ht9]; exact hPx, va_K.moved hvm9 hK, hDx.weaken (fun kk qq _ h => hFc qq.1 h)⟩)⟩, hS.F ht9⟩) hS.2.2 (Nat.le_of_ble_eq_true rfl) (Nat.le_of_ble_eq_true rfl)
  · obtain ⟨q1, jc1, js1, jv1, k1, hC1, hP, hK1, hD1⟩ := hB1
    rw [ht] at hP
    have hD := hD1.weaken (fun kk qq _ h => hFc qq.1 h)
    generalize H1 = H at hP hS ⊢
    have hC1 : okC (a) jc1 js1 jv1 k1 := hC1
    have hP : va_P (dC, dI) vwCl (WC cI cF h0 q1 a jc1 js1 jv1 k1 (capOf (nn (a 0 4)))) H := hP
    have hD : va_D A (WC cI cF h0 q1 a jc1 js1 jv1 k1 (capOf (nn (a 0 4)))) := hD
    have hw1 := hw
    have hwsel := hw1
    refine lv_iload_n hx hb dX4_setPayouts_5 rfl (lv_at hl 2 rfl) ?_
    refine lv_iconst (v := 0) hx hb dX4_setPayouts_6 (by decide) ?_
    refine lv_bipush (v := 6) hx hb dX4_setPayouts_7 (by decide) ?_
    have e2 : ¬ (bw y 0 6) → kPO a x y v = 2 := fun h9 => by unfold kPO; rw [if_pos hwsel, if_neg (fun h8 => h9 h8.1)]
    have hFc := y_freeE hS hA
    have hK0 := hK.sub (tys' := []) [] rfl
    refine vx_callv (vx_runS (As := [.int y, .int 0, .int 6]) (rest := []) ⟨hx, hb, hml, hown, hts⟩ (c_X4_requireBetween l dC dI H.size hst y 0 6) (va_cwS 3 hts gX4_setPayouts_X4_requireBetween rfl rfl rfl (by decide +kernel) ⟨Nat.le_of_ble_eq_true rfl, Nat.le_of_ble_eq_true rfl⟩) ⟨pcV_blind, fun U hU hW => pcV_pre va_P_nil (va_D_nil (A := A)) hK0 hV hS hFc hU hW⟩ rfl rfl hl.1 rfl (lv_room (Nat.le_of_ble_eq_true rfl)) dX4_setPayouts_9 ⟨Nat.le_of_ble_eq_true rfl, Nat.le_of_ble_eq_true rfl⟩) hS (fun q _ h => hFc q h) hFc (fun q _ h => hFc q h) (fun E ce q9 u t H1 locs ht hvm hw hBx hz1 hk1 hS hce hcv hcl => ?_) (fun u t H1 locs ht hvm hw hB1 hz1 hk1 hS => ?_)
    · have hE := hBx.1
      have hPx := y_keptE hP hk1
      exact vx_out (fun x hx9 => (htab x hx9).elim) hlocks hce hcv hcl (fun t9 ht9 hvm9 => ⟨(), (by rw [e2 hw]; decide), ⟨(by rw [e2 hw]; exact hE), atC_in hC1 (⟨by rw [ht9]; exact hPx, va_K.moved hvm9 hK, hD⟩)⟩, hS.F ht9⟩) hS.2.2 (Nat.le_of_ble_eq_true rfl) (Nat.le_of_ble_eq_true rfl)
    · have hP := y_keptE hP hk1
      generalize H1 = H at hP hS ⊢
      have hw2 := hw
      have hwy := hw2
      refine lv_iload_n hx hb dX4_setPayouts_12 rfl (lv_at hl 3 rfl) ?_
      refine lv_iconst (v := 1) hx hb dX4_setPayouts_13 (by decide) ?_
      refine lv_ldc hx hb hown (hts (.constant RX4 77 (1000000)) (List.mem_of_getElem? (i := 1) rfl)) dX4_setPayouts_14 ?_
      have e3 : ¬ (bw v 1 1000000) → kPO a x y v = 2 := fun h9 => by unfold kPO; rw [if_pos hwsel, if_neg (fun h8 => h9 h8.2)]
      have hFc := y_freeE hS hA
      have hK0 := hK.sub (tys' := []) [] rfl
      refine vx_callv (vx_runS (As := [.int v, .int 1, .int 1000000]) (rest := []) ⟨hx, hb, hml, hown, hts⟩ (c_X4_requireBetween l dC dI H.size hst v 1 1000000) (va_cwS 3 hts gX4_setPayouts_X4_requireBetween rfl rfl rfl (by decide +kernel) ⟨Nat.le_of_ble_eq_true rfl, Nat.le_of_ble_eq_true rfl⟩) ⟨pcV_blind, fun U hU hW => pcV_pre va_P_nil (va_D_nil (A := A)) hK0 hV hS hFc hU hW⟩ rfl rfl hl.1 rfl (lv_room (Nat.le_of_ble_eq_true rfl)) dX4_setPayouts_16 ⟨Nat.le_of_ble_eq_true rfl, Nat.le_of_ble_eq_true rfl⟩) hS (fun q _ h => hFc q h) hFc (fun q _ h => hFc q h) (fun E ce q9 u t H1 locs ht hvm hw hBx hz1 hk1 hS hce hcv hcl => ?_) (fun u t H1 locs ht hvm hw hB1 hz1 hk1 hS => ?_)
      · have hE := hBx.1
        have hPx := y_keptE hP hk1
        exact vx_out (fun x hx9 => (htab x hx9).elim) hlocks hce hcv hcl (fun t9 ht9 hvm9 => ⟨(), (by rw [e3 hw]; decide), ⟨(by rw [e3 hw]; exact hE), atC_in hC1 (⟨by rw [ht9]; exact hPx, va_K.moved hvm9 hK, hD⟩)⟩, hS.F ht9⟩) hS.2.2 (Nat.le_of_ble_eq_true rfl) (Nat.le_of_ble_eq_true rfl)
      · have hP := y_keptE hP hk1
        generalize H1 = H at hP hS ⊢
        have hw3 := hw
        have hwu := hw3
        have e0 : kPO a x y v = 0 := by unfold kPO; rw [if_pos hwsel, if_pos ⟨hwy, hwu⟩]
        have hx1 := nat_of (hB 0 0 8 rfl) (by decide) hwsel.1 hwsel.2
        have hx8 : nn x < 8 := Nat.lt_of_lt_of_le hx1.2 (hB 0 0 8 rfl).2
        refine lv_aload_n hx hb dX4_setPayouts_19 rfl (lv_at hl 0 rfl) ?_
        refine va_get (D := (dC, dI)) (ci := 4) (v := .ref (q1 1)) (C := RX4) (T := TX4) (N := 11) hx hb hts hiX4 hown hK hP 0 rfl rfl 0 (by decide) (hts (.fieldLink RX4 10 "Payoutnet" "shops" "LPayoutnet$Shops;") (List.mem_of_getElem? (i := 2) rfl)) (fun _ h9 => h9) rfl dX4_setPayouts_20 ?_
        refine va_get (D := (dC, dI)) (ci := 3) (v := .ref (q1 4)) (C := RX3) (T := TX3) (N := 9) hx hb hts hiX3 hown hK hP 1 rfl rfl 2 (by decide) (hts (.fieldLink RX4 78 "Payoutnet$Shops" "weekday" "[I") (List.mem_of_getElem? (i := 3) rfl)) (fun _ h9 => h9) rfl dX4_setPayouts_23 ?_
        refine lv_iload_n hx hb dX4_setPayouts_26 rfl (lv_at hl 1 rfl) ?_
        refine y_topi (y := nI (nn x)) hx1.1 ?_
        refine lv_iload_n hx hb dX4_setPayouts_27 rfl (lv_at hl 2 rfl) ?_
        refine y_ist hx hb hK hP hD hS 4 0 rfl rfl (t := nn x) (by omega) (Nat.le_of_ble_eq_true rfl) dX4_setPayouts_28 (fun H locs hP hD hS => ?_)
        have hP : va_P (dC, dI) vwCl [(h0, .inr (4, [.ref (q1 1), .ref (q1 10), .ref (q1 18), .ref (q1 22), .ref (q1 26), .int (a 0 2), .int (a 0 1), .int (a 0 5), .int (a 0 6), .int (a 0 7), .int (a 0 8)])), (q1 1, .inr (3, [.ref (q1 2), .ref (q1 3), .ref (q1 4), .ref (q1 5), .ref (q1 6), .ref (q1 7), .ref (q1 8), .ref (q1 9), .int (a 0 0)])), (q1 2, .inl (cI, 8, .inl (a 1))), (q1 3, .inl (cI, 8, .inl (a 2))), (q1 4, .inl (cI, 8, .inl (upd (a 3) (nn x) y))), (q1 5, .inl (cI, 8, .inl (a 4))), (q1 6, .inl (cI, 8, .inl (a 5))), (q1 7, .inl (cI, 8, .inl (a 6))), (q1 8, .inl (cI, 8, .inl (a 7))), (q1 9, .inl (cI, 8, .inl (a 8))), (q1 10, .inr (2, [.ref (q1 11), .ref (q1 12), .ref (q1 13), .ref (q1 14), .ref (q1 15), .ref (q1 16), .ref (q1 17), .int (a 0 3)])), (q1 11, .inl (cI, 100, .inl (a 10))), (q1 12, .inl (cF, 100, .inr (.inr (.inl (fun j => shF (a 13 j)))))), (q1 13, .inl (cI, 100, .inl (a 14))), (q1 14, .inl (cI, 100, .inl (fun j => a 11 j - a 12 j))), (q1 15, .inl (cI, 100, .inl (fun j => a 15 j - a 16 j))), (q1 16, .inl (cI, 100, .inl (a 17))), (q1 17, .inl (cI, 100, .inl (a 18))), (q1 18, .inr (1, [.ref (q1 19), .ref (q1 20), .ref (q1 21), .int (a 0 4)])), (q1 19, .inl (cI, capOf (nn (a 0 4)), .inl (a 20))), (q1 20, .inl (cI, capOf (nn (a 0 4)), .inl (a 19))), (q1 21, .inl (cI, capOf (nn (a 0 4)), .inl (a 21))), (q1 22, .inr (0, [.ref (q1 23), .ref (q1 24), .ref (q1 25), .int (nI k1)])), (q1 23, .inl (cI, 8, .inl (jc1))), (q1 24, .inl (cI, 256, .inl (js1))), (q1 25, .inl (cI, 256, .inl (jv1))), (q1 26, .inl (cF, 4, .inr (.inr (.inl (fun j => shF (a 9 j))))))] H := hP
        have hD : va_D A [(h0, .inr (4, [.ref (q1 1), .ref (q1 10), .ref (q1 18), .ref (q1 22), .ref (q1 26), .int (a 0 2), .int (a 0 1), .int (a 0 5), .int (a 0 6), .int (a 0 7), .int (a 0 8)])), (q1 1, .inr (3, [.ref (q1 2), .ref (q1 3), .ref (q1 4), .ref (q1 5), .ref (q1 6), .ref (q1 7), .ref (q1 8), .ref (q1 9), .int (a 0 0)])), (q1 2, .inl (cI, 8, .inl (a 1))), (q1 3, .inl (cI, 8, .inl (a 2))), (q1 4, .inl (cI, 8, .inl (upd (a 3) (nn x) y))), (q1 5, .inl (cI, 8, .inl (a 4))), (q1 6, .inl (cI, 8, .inl (a 5))), (q1 7, .inl (cI, 8, .inl (a 6))), (q1 8, .inl (cI, 8, .inl (a 7))), (q1 9, .inl (cI, 8, .inl (a 8))), (q1 10, .inr (2, [.ref (q1 11), .ref (q1 12), .ref (q1 13), .ref (q1 14), .ref (q1 15), .ref (q1 16), .ref (q1 17), .int (a 0 3)])), (q1 11, .inl (cI, 100, .inl (a 10))), (q1 12, .inl (cF, 100, .inr (.inr (.inl (fun j => shF (a 13 j)))))), (q1 13, .inl (cI, 100, .inl (a 14))), (q1 14, .inl (cI, 100, .inl (fun j => a 11 j - a 12 j))), (q1 15, .inl (cI, 100, .inl (fun j => a 15 j - a 16 j))), (q1 16, .inl (cI, 100, .inl (a 17))), (q1 17, .inl (cI, 100, .inl (a 18))), (q1 18, .inr (1, [.ref (q1 19), .ref (q1 20), .ref (q1 21), .int (a 0 4)])), (q1 19, .inl (cI, capOf (nn (a 0 4)), .inl (a 20))), (q1 20, .inl (cI, capOf (nn (a 0 4)), .inl (a 19))), (q1 21, .inl (cI, capOf (nn (a 0 4)), .inl (a 21))), (q1 22, .inr (0, [.ref (q1 23), .ref (q1 24), .ref (q1 25), .int (nI k1)])), (q1 23, .inl (cI, 8, .inl (jc1))), (q1 24, .inl (cI, 256, .inl (js1))), (q1 25, .inl (cI, 256, .inl (jv1))), (q1 26, .inl (cF, 4, .inr (.inr (.inl (fun j => shF (a 9 j))))))] := hD
        refine lv_aload_n hx hb dX4_setPayouts_29 rfl (lv_at hl 0 rfl) ?_
        refine va_get (D := (dC, dI)) (ci := 4) (v := .ref (q1 1)) (C := RX4) (T := TX4) (N := 11) hx hb hts hiX4 hown hK hP 0 rfl rfl 0 (by decide) (hts (.fieldLink RX4 10 "Payoutnet" "shops" "LPayoutnet$Shops;") (List.mem_of_getElem? (i := 2) rfl)) (fun _ h9 => h9) rfl dX4_setPayouts_30 ?_
        refine va_get (D := (dC, dI)) (ci := 3) (v := .ref (q1 5)) (C := RX3) (T := TX3) (N := 9) hx hb hts hiX3 hown hK hP 1 rfl rfl 3 (by decide) (hts (.fieldLink RX4 81 "Payoutnet$Shops" "least" "[I") (List.mem_of_getElem? (i := 4) rfl)) (fun _ h9 => h9) rfl dX4_setPayouts_33 ?_
        refine lv_iload_n hx hb dX4_setPayouts_36 rfl (lv_at hl 1 rfl) ?_
        refine y_topi (y := nI (nn x)) hx1.1 ?_
        refine lv_iload_n hx hb dX4_setPayouts_37 rfl (lv_at hl 3 rfl) ?_
        refine y_ist hx hb hK hP hD hS 5 0 rfl rfl (t := nn x) (by omega) (Nat.le_of_ble_eq_true rfl) dX4_setPayouts_38 (fun H locs hP hD hS => ?_)
        have hP : va_P (dC, dI) vwCl [(h0, .inr (4, [.ref (q1 1), .ref (q1 10), .ref (q1 18), .ref (q1 22), .ref (q1 26), .int (a 0 2), .int (a 0 1), .int (a 0 5), .int (a 0 6), .int (a 0 7), .int (a 0 8)])), (q1 1, .inr (3, [.ref (q1 2), .ref (q1 3), .ref (q1 4), .ref (q1 5), .ref (q1 6), .ref (q1 7), .ref (q1 8), .ref (q1 9), .int (a 0 0)])), (q1 2, .inl (cI, 8, .inl (a 1))), (q1 3, .inl (cI, 8, .inl (a 2))), (q1 4, .inl (cI, 8, .inl (upd (a 3) (nn x) y))), (q1 5, .inl (cI, 8, .inl (upd (a 4) (nn x) v))), (q1 6, .inl (cI, 8, .inl (a 5))), (q1 7, .inl (cI, 8, .inl (a 6))), (q1 8, .inl (cI, 8, .inl (a 7))), (q1 9, .inl (cI, 8, .inl (a 8))), (q1 10, .inr (2, [.ref (q1 11), .ref (q1 12), .ref (q1 13), .ref (q1 14), .ref (q1 15), .ref (q1 16), .ref (q1 17), .int (a 0 3)])), (q1 11, .inl (cI, 100, .inl (a 10))), (q1 12, .inl (cF, 100, .inr (.inr (.inl (fun j => shF (a 13 j)))))), (q1 13, .inl (cI, 100, .inl (a 14))), (q1 14, .inl (cI, 100, .inl (fun j => a 11 j - a 12 j))), (q1 15, .inl (cI, 100, .inl (fun j => a 15 j - a 16 j))), (q1 16, .inl (cI, 100, .inl (a 17))), (q1 17, .inl (cI, 100, .inl (a 18))), (q1 18, .inr (1, [.ref (q1 19), .ref (q1 20), .ref (q1 21), .int (a 0 4)])), (q1 19, .inl (cI, capOf (nn (a 0 4)), .inl (a 20))), (q1 20, .inl (cI, capOf (nn (a 0 4)), .inl (a 19))), (q1 21, .inl (cI, capOf (nn (a 0 4)), .inl (a 21))), (q1 22, .inr (0, [.ref (q1 23), .ref (q1 24), .ref (q1 25), .int (nI k1)])), (q1 23, .inl (cI, 8, .inl (jc1))), (q1 24, .inl (cI, 256, .inl (js1))), (q1 25, .inl (cI, 256, .inl (jv1))), (q1 26, .inl (cF, 4, .inr (.inr (.inl (fun j => shF (a 9 j))))))] H := hP
        have hD : va_D A [(h0, .inr (4, [.ref (q1 1), .ref (q1 10), .ref (q1 18), .ref (q1 22), .ref (q1 26), .int (a 0 2), .int (a 0 1), .int (a 0 5), .int (a 0 6), .int (a 0 7), .int (a 0 8)])), (q1 1, .inr (3, [.ref (q1 2), .ref (q1 3), .ref (q1 4), .ref (q1 5), .ref (q1 6), .ref (q1 7), .ref (q1 8), .ref (q1 9), .int (a 0 0)])), (q1 2, .inl (cI, 8, .inl (a 1))), (q1 3, .inl (cI, 8, .inl (a 2))), (q1 4, .inl (cI, 8, .inl (upd (a 3) (nn x) y))), (q1 5, .inl (cI, 8, .inl (upd (a 4) (nn x) v))), (q1 6, .inl (cI, 8, .inl (a 5))), (q1 7, .inl (cI, 8, .inl (a 6))), (q1 8, .inl (cI, 8, .inl (a 7))), (q1 9, .inl (cI, 8, .inl (a 8))), (q1 10, .inr (2, [.ref (q1 11), .ref (q1 12), .ref (q1 13), .ref (q1 14), .ref (q1 15), .ref (q1 16), .ref (q1 17), .int (a 0 3)])), (q1 11, .inl (cI, 100, .inl (a 10))), (q1 12, .inl (cF, 100, .inr (.inr (.inl (fun j => shF (a 13 j)))))), (q1 13, .inl (cI, 100, .inl (a 14))), (q1 14, .inl (cI, 100, .inl (fun j => a 11 j - a 12 j))), (q1 15, .inl (cI, 100, .inl (fun j => a 15 j - a 16 j))), (q1 16, .inl (cI, 100, .inl (a 17))), (q1 17, .inl (cI, 100, .inl (a 18))), (q1 18, .inr (1, [.ref (q1 19), .ref (q1 20), .ref (q1 21), .int (a 0 4)])), (q1 19, .inl (cI, capOf (nn (a 0 4)), .inl (a 20))), (q1 20, .inl (cI, capOf (nn (a 0 4)), .inl (a 19))), (q1 21, .inl (cI, capOf (nn (a 0 4)), .inl (a 21))), (q1 22, .inr (0, [.ref (q1 23), .ref (q1 24), .ref (q1 25), .int (nI k1)])), (q1 23, .inl (cI, 8, .inl (jc1))), (q1 24, .inl (cI, 256, .inl (js1))), (q1 25, .inl (cI, 256, .inl (jv1))), (q1 26, .inl (cF, 4, .inr (.inr (.inl (fun j => shF (a 9 j))))))] := hD
        have hP : va_P (dC, dI) vwCl (WC cI cF h0 q1 (sPO a x y v) jc1 js1 jv1 k1 (capOf (nn ((sPO a x y v) 0 4)))) H := hP
        have hD : va_D A (WC cI cF h0 q1 (sPO a x y v) jc1 js1 jv1 k1 (capOf (nn ((sPO a x y v) 0 4)))) := hD
        have hC9 : okC (sPO a x y v) jc1 js1 jv1 k1 := hC1
        refine W.widen (k := 3) (n := 18) (Nat.le_of_ble_eq_true rfl) (Nat.le_of_ble_eq_true rfl) ?_
        have hP9 := hP
        have hD9 := hD
        have hK9 := hK
        refine vx_ret ?_
        exact W.vret hx hb hr (fun t ht hW => ⟨⟨(), rfl, e0, atC_in hC9 (atW_end hP9 hD9 hK9 ht hW)⟩, hS.F ht⟩) hS.2.2 dX4_setPayouts_39
set_option maxHeartbeats 4000000 in
set_option maxRecDepth 100000 in
theorem c_X4_setReserve (l : Launch) (dC : Nat → ClassId) (dI : Nat → Nat → Nat) (cI cF : ClassId) (h0 : Nat) (q : Nat → Nat) (sz : Nat) (a : yA) (jc js jv : Nat → Int32) (k : Nat) (hst : l.stackTraces = false)  (hC : okC a jc js jv k) (hB : okB a) (x y v : Int32) : vx_Met l yX4_setReserve wsX4_setReserve ({ frames := 7, cells := 3, slots := 18, locals := 112 } : Room) (va_Pc [.ref h0, .int x, .int y, .int v] (pcV dC dI [(cI, .int), (cF, .float)] (WC cI cF h0 q a jc js jv k (capOf (nn (a 0 4)))) sz)) (va_Qv (fun _ : Unit => kRes a x y v = 0) (fun _ t => atC dC dI cI cF (va_A (WC cI cF h0 q a jc js jv k (capOf (nn (a 0 4)))) sz) h0 (sRes a x y v) t) (va_A (WC cI cF h0 q a jc js jv k (capOf (nn (a 0 4)))) sz)) (vx_X (fun _ : Unit => kRes a x y v ≠ 0) (fun E _ t => E = eIA (kRes a x y v) ∧ atC dC dI cI cF (va_A (WC cI cF h0 q a jc js jv k (capOf (nn (a 0 4)))) sz) h0 a t) (va_A (WC cI cF h0 q a jc js jv k (capOf (nn (a 0 4)))) sz)) (3) (18) (va_A (WC cI cF h0 q a jc js jv k (capOf (nn (a 0 4)))) sz) := by
  refine vx_ofW (cc := cX4_setReserve) (maxL := 4) (ret := none) (by decide) rfl ?_
  intro p e s m args below meth c s₁ B hml htab hv
  obtain ⟨rfl, ⟨hsz, hP, hK, hD0⟩, hV⟩ := hv
  have hx := B.exec
  have hb := B.bytes
  have hr := B.returns
  have hts := atoms_spec (ws := wsX4_setReserve) B.pre
  have hown : s.vm.findClass RX4 = some m.cls := findClass_of_methodNamed B.named
  have hlocks := B.notSynchronized
  subst hsz
  have hD := hD0.self (sz := s.heap.size)
  generalize hAe : va_A [(h0, .inr (4, [.ref (q 1), .ref (q 10), .ref (q 18), .ref (q 22), .ref (q 26), .int (a 0 2), .int (a 0 1), .int (a 0 5), .int (a 0 6), .int (a 0 7), .int (a 0 8)])), (q 1, .inr (3, [.ref (q 2), .ref (q 3), .ref (q 4), .ref (q 5), .ref (q 6), .ref (q 7), .ref (q 8), .ref (q 9), .int (a 0 0)])), (q 2, .inl (cI, 8, .inl (a 1))), (q 3, .inl (cI, 8, .inl (a 2))), (q 4, .inl (cI, 8, .inl (a 3))), (q 5, .inl (cI, 8, .inl (a 4))), (q 6, .inl (cI, 8, .inl (a 5))), (q 7, .inl (cI, 8, .inl (a 6))), (q 8, .inl (cI, 8, .inl (a 7))), (q 9, .inl (cI, 8, .inl (a 8))), (q 10, .inr (2, [.ref (q 11), .ref (q 12), .ref (q 13), .ref (q 14), .ref (q 15), .ref (q 16), .ref (q 17), .int (a 0 3)])), (q 11, .inl (cI, 100, .inl (a 10))), (q 12, .inl (cF, 100, .inr (.inr (.inl (fun j => shF (a 13 j)))))), (q 13, .inl (cI, 100, .inl (a 14))), (q 14, .inl (cI, 100, .inl (fun j => a 11 j - a 12 j))), (q 15, .inl (cI, 100, .inl (fun j => a 15 j - a 16 j))), (q 16, .inl (cI, 100, .inl (a 17))), (q 17, .inl (cI, 100, .inl (a 18))), (q 18, .inr (1, [.ref (q 19), .ref (q 20), .ref (q 21), .int (a 0 4)])), (q 19, .inl (cI, capOf (nn (a 0 4)), .inl (a 20))), (q 20, .inl (cI, capOf (nn (a 0 4)), .inl (a 19))), (q 21, .inl (cI, capOf (nn (a 0 4)), .inl (a 21))), (q 22, .inr (0, [.ref (q 23), .ref (q 24), .ref (q 25), .int (nI k)])), (q 23, .inl (cI, 8, .inl (jc))), (q 24, .inl (cI, 256, .inl (js))), (q 25, .inl (cI, 256, .inl (jv))), (q 26, .inl (cF, 4, .inr (.inr (.inl (fun j => shF (a 9 j))))))] s.heap.size = A at hD hV ⊢
  have hA : ∀ q : Nat, s.heap.size ≤ q → A q := fun q h => by rw [← hAe]; exact Or.inr h
  have hS : va_S A s.heap s.heap [] := va_S.rf
  have hl := lv_entry ([.ref h0, .int x, .int y, .int v]) (n := 4) (Nat.le_of_ble_eq_true rfl)
  rw [lg_entry_eq]
  generalize (lg_sl ([.ref h0, .int x, .int y, .int v]) ++ List.replicate (4 - (lg_sl ([.ref h0, .int x, .int y, .int v])).length) Slot.unset).toArray = ls at hl ⊢
  have hl : lv_has ls 4 [(0, .ref h0), (1, .int x), (2, .int y), (3, .int v)] := hl
  have hiX4 : ∀ w ∈ wsX40, w ∈ wsX4_setReserve := fun w h => List.mem_cons_of_mem _ (List.mem_append_left _ (List.mem_append_left _ (List.mem_append_left _ (List.mem_append_right _ h))))
  have hiX3 : ∀ w ∈ wsX30, w ∈ wsX4_setReserve := fun w h => List.mem_cons_of_mem _ (List.mem_append_left _ (List.mem_append_left _ (List.mem_append_right _ h)))
  have hP : va_P (dC, dI) vwCl [(h0, .inr (4, [.ref (q 1), .ref (q 10), .ref (q 18), .ref (q 22), .ref (q 26), .int (a 0 2), .int (a 0 1), .int (a 0 5), .int (a 0 6), .int (a 0 7), .int (a 0 8)])), (q 1, .inr (3, [.ref (q 2), .ref (q 3), .ref (q 4), .ref (q 5), .ref (q 6), .ref (q 7), .ref (q 8), .ref (q 9), .int (a 0 0)])), (q 2, .inl (cI, 8, .inl (a 1))), (q 3, .inl (cI, 8, .inl (a 2))), (q 4, .inl (cI, 8, .inl (a 3))), (q 5, .inl (cI, 8, .inl (a 4))), (q 6, .inl (cI, 8, .inl (a 5))), (q 7, .inl (cI, 8, .inl (a 6))), (q 8, .inl (cI, 8, .inl (a 7))), (q 9, .inl (cI, 8, .inl (a 8))), (q 10, .inr (2, [.ref (q 11), .ref (q 12), .ref (q 13), .ref (q 14), .ref (q 15), .ref (q 16), .ref (q 17), .int (a 0 3)])), (q 11, .inl (cI, 100, .inl (a 10))), (q 12, .inl (cF, 100, .inr (.inr (.inl (fun j => shF (a 13 j)))))), (q 13, .inl (cI, 100, .inl (a 14))), (q 14, .inl (cI, 100, .inl (fun j => a 11 j - a 12 j))), (q 15, .inl (cI, 100, .inl (fun j => a 15 j - a 16 j))), (q 16, .inl (cI, 100, .inl (a 17))), (q 17, .inl (cI, 100, .inl (a 18))), (q 18, .inr (1, [.ref (q 19), .ref (q 20), .ref (q 21), .int (a 0 4)])), (q 19, .inl (cI, capOf (nn (a 0 4)), .inl (a 20))), (q 20, .inl (cI, capOf (nn (a 0 4)), .inl (a 19))), (q 21, .inl (cI, capOf (nn (a 0 4)), .inl (a 21))), (q 22, .inr (0, [.ref (q 23), .ref (q 24), .ref (q 25), .int (nI k)])), (q 23, .inl (cI, 8, .inl (jc))), (q 24, .inl (cI, 256, .inl (js))), (q 25, .inl (cI, 256, .inl (jv))), (q 26, .inl (cF, 4, .inr (.inr (.inl (fun j => shF (a 9 j))))))] s.heap := hP
  refine y_enter (A := A) hP (fun H hP hS => ?_)
  have hBk := hB
  refine lv_aload_n hx hb dX4_setReserve_0 rfl (lv_at hl 0 rfl) ?_
  refine lv_iload_n hx hb dX4_setReserve_1 rfl (lv_at hl 1 rfl) ?_
  have e1 : ¬ selOK a x → kRes a x y v = 1 := fun h9 => if_neg h9
  have hFc := y_free hD hS hA
  refine vx_callv (vx_runV (As := [.int x]) (rest := []) ⟨hx, hb, hml, hown, hts⟩ (c_X4_requireSeller l dC dI cI cF h0 q H.size a jc js jv k hst hC hB x) (cwV 1 hts gX4_setReserve_X4_requireSeller rfl rfl rfl (by decide +kernel) ⟨Nat.le_of_ble_eq_true rfl, Nat.le_of_ble_eq_true rfl⟩) ⟨pcV_blind, va_recv hK hP (ci := 4) (q0 := 0) rfl rfl, fun U hU hW => pcV_pre hP hD hK hV hS hFc hU hW⟩ rfl rfl hl.1 rfl (lv_room (Nat.le_of_ble_eq_true rfl)) dX4_setReserve_2 ⟨Nat.le_of_ble_eq_true rfl, Nat.le_of_ble_eq_true rfl⟩) hS (fun q _ h => hFc q h) hFc (fun q _ h => hFc q h) (fun E ce q9 u t H1 locs ht hvm hw hBx hz1 hk1 hS hce hcv hcl => ?_) (fun u t H1 locs ht hvm hw hB1 hz1 hk1 hS => ?_)
  · obtain ⟨hE, qx, jcx, jsx, jvx, kx, hCx, hPx, hKx, hDx⟩ := hBx
    rw [ht] at hPx
    exact vx_out (fun x hx9 => (htab x hx9).elim) hlocks hce hcv hcl (fun t9 ht9 hvm9 => ⟨(), (by rw [e1 hw]; decide), ⟨(by rw [e1 hw]; exact hE), atC_in hCx (⟨by rw [ht9]; exact hPx, va_K.moved hvm9 hK, hDx.weaken (fun kk qq _ h => hFc qq.1 h)⟩)⟩, hS.F ht9⟩) hS.2.2 (Nat.le_of_ble_eq_true rfl) (Nat.le_of_ble_eq_true rfl)
  · obtain ⟨q1, jc1, js1, jv1, k1, hC1, hP, hK1, hD1⟩ := hB1
    rw [ht] at hP
    have hD := hD1.weaken (fun kk qq _ h => hFc qq.1 h)
    generalize H1 = H at hP hS ⊢
    have hC1 : okC (a) jc1 js1 jv1 k1 := hC1
    have hP : va_P (dC, dI) vwCl (WC cI cF h0 q1 a jc1 js1 jv1 k1 (capOf (nn (a 0 4)))) H := hP
    have hD : va_D A (WC cI cF h0 q1 a jc1 js1 jv1 k1 (capOf (nn (a 0 4)))) := hD
    have hw1 := hw
    have hwsel := hw1
    refine lv_iload_n hx hb dX4_setReserve_5 rfl (lv_at hl 2 rfl) ?_
    refine lv_iconst (v := 0) hx hb dX4_setReserve_6 (by decide) ?_
    refine lv_sipush (v := 1000) hx hb dX4_setReserve_7 (by decide) ?_
    have e2 : ¬ (bw y 0 1000) → kRes a x y v = 2 := fun h9 => by unfold kRes; rw [if_pos hwsel, if_neg (fun h8 => h9 h8.1)]
    have hFc := y_freeE hS hA
    have hK0 := hK.sub (tys' := []) [] rfl
    refine vx_callv (vx_runS (As := [.int y, .int 0, .int 1000]) (rest := []) ⟨hx, hb, hml, hown, hts⟩ (c_X4_requireBetween l dC dI H.size hst y 0 1000) (va_cwS 3 hts gX4_setReserve_X4_requireBetween rfl rfl rfl (by decide +kernel) ⟨Nat.le_of_ble_eq_true rfl, Nat.le_of_ble_eq_true rfl⟩) ⟨pcV_blind, fun U hU hW => pcV_pre va_P_nil (va_D_nil (A := A)) hK0 hV hS hFc hU hW⟩ rfl rfl hl.1 rfl (lv_room (Nat.le_of_ble_eq_true rfl)) dX4_setReserve_10 ⟨Nat.le_of_ble_eq_true rfl, Nat.le_of_ble_eq_true rfl⟩) hS (fun q _ h => hFc q h) hFc (fun q _ h => hFc q h) (fun E ce q9 u t H1 locs ht hvm hw hBx hz1 hk1 hS hce hcv hcl => ?_) (fun u t H1 locs ht hvm hw hB1 hz1 hk1 hS => ?_)
    · have hE := hBx.1
      have hPx := y_keptE hP hk1
      exact vx_out (fun x hx9 => (htab x hx9).elim) hlocks hce hcv hcl (fun t9 ht9 hvm9 => ⟨(), (by rw [e2 hw]; decide), ⟨(by rw [e2 hw]; exact hE), atC_in hC1 (⟨by rw [ht9]; exact hPx, va_K.moved hvm9 hK, hD⟩)⟩, hS.F ht9⟩) hS.2.2 (Nat.le_of_ble_eq_true rfl) (Nat.le_of_ble_eq_true rfl)
    · have hP := y_keptE hP hk1
      generalize H1 = H at hP hS ⊢
      have hw2 := hw
      have hwy := hw2
      refine lv_iload_n hx hb dX4_setReserve_13 rfl (lv_at hl 3 rfl) ?_
      refine lv_iconst (v := 1) hx hb dX4_setReserve_14 (by decide) ?_
      refine lv_sipush (v := 180) hx hb dX4_setReserve_15 (by decide) ?_
      have e3 : ¬ (bw v 1 180) → kRes a x y v = 2 := fun h9 => by unfold kRes; rw [if_pos hwsel, if_neg (fun h8 => h9 h8.2)]
      have hFc := y_freeE hS hA
      have hK0 := hK.sub (tys' := []) [] rfl
      refine vx_callv (vx_runS (As := [.int v, .int 1, .int 180]) (rest := []) ⟨hx, hb, hml, hown, hts⟩ (c_X4_requireBetween l dC dI H.size hst v 1 180) (va_cwS 3 hts gX4_setReserve_X4_requireBetween rfl rfl rfl (by decide +kernel) ⟨Nat.le_of_ble_eq_true rfl, Nat.le_of_ble_eq_true rfl⟩) ⟨pcV_blind, fun U hU hW => pcV_pre va_P_nil (va_D_nil (A := A)) hK0 hV hS hFc hU hW⟩ rfl rfl hl.1 rfl (lv_room (Nat.le_of_ble_eq_true rfl)) dX4_setReserve_18 ⟨Nat.le_of_ble_eq_true rfl, Nat.le_of_ble_eq_true rfl⟩) hS (fun q _ h => hFc q h) hFc (fun q _ h => hFc q h) (fun E ce q9 u t H1 locs ht hvm hw hBx hz1 hk1 hS hce hcv hcl => ?_) (fun u t H1 locs ht hvm hw hB1 hz1 hk1 hS => ?_)
      · have hE := hBx.1
        have hPx := y_keptE hP hk1
        exact vx_out (fun x hx9 => (htab x hx9).elim) hlocks hce hcv hcl (fun t9 ht9 hvm9 => ⟨(), (by rw [e3 hw]; decide), ⟨(by rw [e3 hw]; exact hE), atC_in hC1 (⟨by rw [ht9]; exact hPx, va_K.moved hvm9 hK, hD⟩)⟩, hS.F ht9⟩) hS.2.2 (Nat.le_of_ble_eq_true rfl) (Nat.le_of_ble_eq_true rfl)
      · have hP := y_keptE hP hk1
        generalize H1 = H at hP hS ⊢
        have hw3 := hw
        have hwu := hw3
        have e0 : kRes a x y v = 0 := by unfold kRes; rw [if_pos hwsel, if_pos ⟨hwy, hwu⟩]
        have hx1 := nat_of (hB 0 0 8 rfl) (by decide) hwsel.1 hwsel.2
        have hx8 : nn x < 8 := Nat.lt_of_lt_of_le hx1.2 (hB 0 0 8 rfl).2
        refine lv_aload_n hx hb dX4_setReserve_21 rfl (lv_at hl 0 rfl) ?_
        refine va_get (D := (dC, dI)) (ci := 4) (v := .ref (q1 1)) (C := RX4) (T := TX4) (N := 11) hx hb hts hiX4 hown hK hP 0 rfl rfl 0 (by decide) (hts (.fieldLink RX4 10 "Payoutnet" "shops" "LPayoutnet$Shops;") (List.mem_of_getElem? (i := 1) rfl)) (fun _ h9 => h9) rfl dX4_setReserve_22 ?_
        refine va_get (D := (dC, dI)) (ci := 3) (v := .ref (q1 6)) (C := RX3) (T := TX3) (N := 9) hx hb hts hiX3 hown hK hP 1 rfl rfl 4 (by decide) (hts (.fieldLink RX4 84 "Payoutnet$Shops" "reserveThousandths" "[I") (List.mem_of_getElem? (i := 2) rfl)) (fun _ h9 => h9) rfl dX4_setReserve_25 ?_
        refine lv_iload_n hx hb dX4_setReserve_28 rfl (lv_at hl 1 rfl) ?_
        refine y_topi (y := nI (nn x)) hx1.1 ?_
        refine lv_iload_n hx hb dX4_setReserve_29 rfl (lv_at hl 2 rfl) ?_
        refine y_ist hx hb hK hP hD hS 6 0 rfl rfl (t := nn x) (by omega) (Nat.le_of_ble_eq_true rfl) dX4_setReserve_30 (fun H locs hP hD hS => ?_)
        have hP : va_P (dC, dI) vwCl [(h0, .inr (4, [.ref (q1 1), .ref (q1 10), .ref (q1 18), .ref (q1 22), .ref (q1 26), .int (a 0 2), .int (a 0 1), .int (a 0 5), .int (a 0 6), .int (a 0 7), .int (a 0 8)])), (q1 1, .inr (3, [.ref (q1 2), .ref (q1 3), .ref (q1 4), .ref (q1 5), .ref (q1 6), .ref (q1 7), .ref (q1 8), .ref (q1 9), .int (a 0 0)])), (q1 2, .inl (cI, 8, .inl (a 1))), (q1 3, .inl (cI, 8, .inl (a 2))), (q1 4, .inl (cI, 8, .inl (a 3))), (q1 5, .inl (cI, 8, .inl (a 4))), (q1 6, .inl (cI, 8, .inl (upd (a 5) (nn x) y))), (q1 7, .inl (cI, 8, .inl (a 6))), (q1 8, .inl (cI, 8, .inl (a 7))), (q1 9, .inl (cI, 8, .inl (a 8))), (q1 10, .inr (2, [.ref (q1 11), .ref (q1 12), .ref (q1 13), .ref (q1 14), .ref (q1 15), .ref (q1 16), .ref (q1 17), .int (a 0 3)])), (q1 11, .inl (cI, 100, .inl (a 10))), (q1 12, .inl (cF, 100, .inr (.inr (.inl (fun j => shF (a 13 j)))))), (q1 13, .inl (cI, 100, .inl (a 14))), (q1 14, .inl (cI, 100, .inl (fun j => a 11 j - a 12 j))), (q1 15, .inl (cI, 100, .inl (fun j => a 15 j - a 16 j))), (q1 16, .inl (cI, 100, .inl (a 17))), (q1 17, .inl (cI, 100, .inl (a 18))), (q1 18, .inr (1, [.ref (q1 19), .ref (q1 20), .ref (q1 21), .int (a 0 4)])), (q1 19, .inl (cI, capOf (nn (a 0 4)), .inl (a 20))), (q1 20, .inl (cI, capOf (nn (a 0 4)), .inl (a 19))), (q1 21, .inl (cI, capOf (nn (a 0 4)), .inl (a 21))), (q1 22, .inr (0, [.ref (q1 23), .ref (q1 24), .ref (q1 25), .int (nI k1)])), (q1 23, .inl (cI, 8, .inl (jc1))), (q1 24, .inl (cI, 256, .inl (js1))), (q1 25, .inl (cI, 256, .inl (jv1))), (q1 26, .inl (cF, 4, .inr (.inr (.inl (fun j => shF (a 9 j))))))] H := hP
        have hD : va_D A [(h0, .inr (4, [.ref (q1 1), .ref (q1 10), .ref (q1 18), .ref (q1 22), .ref (q1 26), .int (a 0 2), .int (a 0 1), .int (a 0 5), .int (a 0 6), .int (a 0 7), .int (a 0 8)])), (q1 1, .inr (3, [.ref (q1 2), .ref (q1 3), .ref (q1 4), .ref (q1 5), .ref (q1 6), .ref (q1 7), .ref (q1 8), .ref (q1 9), .int (a 0 0)])), (q1 2, .inl (cI, 8, .inl (a 1))), (q1 3, .inl (cI, 8, .inl (a 2))), (q1 4, .inl (cI, 8, .inl (a 3))), (q1 5, .inl (cI, 8, .inl (a 4))), (q1 6, .inl (cI, 8, .inl (upd (a 5) (nn x) y))), (q1 7, .inl (cI, 8, .inl (a 6))), (q1 8, .inl (cI, 8, .inl (a 7))), (q1 9, .inl (cI, 8, .inl (a 8))), (q1 10, .inr (2, [.ref (q1 11), .ref (q1 12), .ref (q1 13), .ref (q1 14), .ref (q1 15), .ref (q1 16), .ref (q1 17), .int (a 0 3)])), (q1 11, .inl (cI, 100, .inl (a 10))), (q1 12, .inl (cF, 100, .inr (.inr (.inl (fun j => shF (a 13 j)))))), (q1 13, .inl (cI, 100, .inl (a 14))), (q1 14, .inl (cI, 100, .inl (fun j => a 11 j - a 12 j))), (q1 15, .inl (cI, 100, .inl (fun j => a 15 j - a 16 j))), (q1 16, .inl (cI, 100, .inl (a 17))), (q1 17, .inl (cI, 100, .inl (a 18))), (q1 18, .inr (1, [.ref (q1 19), .ref (q1 20), .ref (q1 21), .int (a 0 4)])), (q1 19, .inl (cI, capOf (nn (a 0 4)), .inl (a 20))), (q1 20, .inl (cI, capOf (nn (a 0 4)), .inl (a 19))), (q1 21, .inl (cI, capOf (nn (a 0 4)), .inl (a 21))), (q1 22, .inr (0, [.ref (q1 23), .ref (q1 24), .ref (q1 25), .int (nI k1)])), (q1 23, .inl (cI, 8, .inl (jc1))), (q1 24, .inl (cI, 256, .inl (js1))), (q1 25, .inl (cI, 256, .inl (jv1))), (q1 26, .inl (cF, 4, .inr (.inr (.inl (fun j => shF (a 9 j))))))] := hD
        refine lv_aload_n hx hb dX4_setReserve_31 rfl (lv_at hl 0 rfl) ?_
        refine va_get (D := (dC, dI)) (ci := 4) (v := .ref (q1 1)) (C := RX4) (T := TX4) (N := 11) hx hb hts hiX4 hown hK hP 0 rfl rfl 0 (by decide) (hts (.fieldLink RX4 10 "Payoutnet" "shops" "LPayoutnet$Shops;") (List.mem_of_getElem? (i := 1) rfl)) (fun _ h9 => h9) rfl dX4_setReserve_32 ?_
        refine va_get (D := (dC, dI)) (ci := 3) (v := .ref (q1 7)) (C := RX3) (T := TX3) (N := 9) hx hb hts hiX3 hown hK hP 1 rfl rfl 5 (by decide) (hts (.fieldLink RX4 87 "Payoutnet$Shops" "reserveDays" "[I") (List.mem_of_getElem? (i := 3) rfl)) (fun _ h9 => h9) rfl dX4_setReserve_35 ?_
        refine lv_iload_n hx hb dX4_setReserve_38 rfl (lv_at hl 1 rfl) ?_
        refine y_topi (y := nI (nn x)) hx1.1 ?_
        refine lv_iload_n hx hb dX4_setReserve_39 rfl (lv_at hl 3 rfl) ?_
        refine y_ist hx hb hK hP hD hS 7 0 rfl rfl (t := nn x) (by omega) (Nat.le_of_ble_eq_true rfl) dX4_setReserve_40 (fun H locs hP hD hS => ?_)
        have hP : va_P (dC, dI) vwCl [(h0, .inr (4, [.ref (q1 1), .ref (q1 10), .ref (q1 18), .ref (q1 22), .ref (q1 26), .int (a 0 2), .int (a 0 1), .int (a 0 5), .int (a 0 6), .int (a 0 7), .int (a 0 8)])), (q1 1, .inr (3, [.ref (q1 2), .ref (q1 3), .ref (q1 4), .ref (q1 5), .ref (q1 6), .ref (q1 7), .ref (q1 8), .ref (q1 9), .int (a 0 0)])), (q1 2, .inl (cI, 8, .inl (a 1))), (q1 3, .inl (cI, 8, .inl (a 2))), (q1 4, .inl (cI, 8, .inl (a 3))), (q1 5, .inl (cI, 8, .inl (a 4))), (q1 6, .inl (cI, 8, .inl (upd (a 5) (nn x) y))), (q1 7, .inl (cI, 8, .inl (upd (a 6) (nn x) v))), (q1 8, .inl (cI, 8, .inl (a 7))), (q1 9, .inl (cI, 8, .inl (a 8))), (q1 10, .inr (2, [.ref (q1 11), .ref (q1 12), .ref (q1 13), .ref (q1 14), .ref (q1 15), .ref (q1 16), .ref (q1 17), .int (a 0 3)])), (q1 11, .inl (cI, 100, .inl (a 10))), (q1 12, .inl (cF, 100, .inr (.inr (.inl (fun j => shF (a 13 j)))))), (q1 13, .inl (cI, 100, .inl (a 14))), (q1 14, .inl (cI, 100, .inl (fun j => a 11 j - a 12 j))), (q1 15, .inl (cI, 100, .inl (fun j => a 15 j - a 16 j))), (q1 16, .inl (cI, 100, .inl (a 17))), (q1 17, .inl (cI, 100, .inl (a 18))), (q1 18, .inr (1, [.ref (q1 19), .ref (q1 20), .ref (q1 21), .int (a 0 4)])), (q1 19, .inl (cI, capOf (nn (a 0 4)), .inl (a 20))), (q1 20, .inl (cI, capOf (nn (a 0 4)), .inl (a 19))), (q1 21, .inl (cI, capOf (nn (a 0 4)), .inl (a 21))), (q1 22, .inr (0, [.ref (q1 23), .ref (q1 24), .ref (q1 25), .int (nI k1)])), (q1 23, .inl (cI, 8, .inl (jc1))), (q1 24, .inl (cI, 256, .inl (js1))), (q1 25, .inl (cI, 256, .inl (jv1))), (q1 26, .inl (cF, 4, .inr (.inr (.inl (fun j => shF (a 9 j))))))] H := hP
        have hD : va_D A [(h0, .inr (4, [.ref (q1 1), .ref (q1 10), .ref (q1 18), .ref (q1 22), .ref (q1 26), .int (a 0 2), .int (a 0 1), .int (a 0 5), .int (a 0 6), .int (a 0 7), .int (a 0 8)])), (q1 1, .inr (3, [.ref (q1 2), .ref (q1 3), .ref (q1 4), .ref (q1 5), .ref (q1 6), .ref (q1 7), .ref (q1 8), .ref (q1 9), .int (a 0 0)])), (q1 2, .inl (cI, 8, .inl (a 1))), (q1 3, .inl (cI, 8, .inl (a 2))), (q1 4, .inl (cI, 8, .inl (a 3))), (q1 5, .inl (cI, 8, .inl (a 4))), (q1 6, .inl (cI, 8, .inl (upd (a 5) (nn x) y))), (q1 7, .inl (cI, 8, .inl (upd (a 6) (nn x) v))), (q1 8, .inl (cI, 8, .inl (a 7))), (q1 9, .inl (cI, 8, .inl (a 8))), (q1 10, .inr (2, [.ref (q1 11), .ref (q1 12), .ref (q1 13), .ref (q1 14), .ref (q1 15), .ref (q1 16), .ref (q1 17), .int (a 0 3)])), (q1 11, .inl (cI, 100, .inl (a 10))), (q1 12, .inl (cF, 100, .inr (.inr (.inl (fun j => shF (a 13 j)))))), (q1 13, .inl (cI, 100, .inl (a 14))), (q1 14, .inl (cI, 100, .inl (fun j => a 11 j - a 12 j))), (q1 15, .inl (cI, 100, .inl (fun j => a 15 j - a 16 j))), (q1 16, .inl (cI, 100, .inl (a 17))), (q1 17, .inl (cI, 100, .inl (a 18))), (q1 18, .inr (1, [.ref (q1 19), .ref (q1 20), .ref (q1 21), .int (a 0 4)])), (q1 19, .inl (cI, capOf (nn (a 0 4)), .inl (a 20))), (q1 20, .inl (cI, capOf (nn (a 0 4)), .inl (a 19))), (q1 21, .inl (cI, capOf (nn (a 0 4)), .inl (a 21))), (q1 22, .inr (0, [.ref (q1 23), .ref (q1 24), .ref (q1 25), .int (nI k1)])), (q1 23, .inl (cI, 8, .inl (jc1))), (q1 24, .inl (cI, 256, .inl (js1))), (q1 25, .inl (cI, 256, .inl (jv1))), (q1 26, .inl (cF, 4, .inr (.inr (.inl (fun j => shF (a 9 j))))))] := hD
        have hP : va_P (dC, dI) vwCl (WC cI cF h0 q1 (sRes a x y v) jc1 js1 jv1 k1 (capOf (nn ((sRes a x y v) 0 4)))) H := hP
        have hD : va_D A (WC cI cF h0 q1 (sRes a x y v) jc1 js1 jv1 k1 (capOf (nn ((sRes a x y v) 0 4)))) := hD
        have hC9 : okC (sRes a x y v) jc1 js1 jv1 k1 := hC1
        refine W.widen (k := 3) (n := 18) (Nat.le_of_ble_eq_true rfl) (Nat.le_of_ble_eq_true rfl) ?_
        have hP9 := hP
        have hD9 := hD
        have hK9 := hK
        refine vx_ret ?_
        exact W.vret hx hb hr (fun t ht hW => ⟨⟨(), rfl, e0, atC_in hC9 (atW_end hP9 hD9 hK9 ht hW)⟩, hS.F ht⟩) hS.2.2 dX4_setReserve_41
set_option maxHeartbeats 4000000 in
set_option maxRecDepth 100000 in
theorem c_X4_setTax (l : Launch) (dC : Nat → ClassId) (dI : Nat → Nat → Nat) (cI cF : ClassId) (h0 : Nat) (q : Nat → Nat) (sz : Nat) (a : yA) (jc js jv : Nat → Int32) (k : Nat) (hst : l.stackTraces = false)  (hC : okC a jc js jv k) (hB : okB a) (th : Int32) : vx_Met l yX4_setTax wsX4_setTax ({ frames := 7, cells := 1, slots := 6, locals := 112 } : Room) (va_Pc [.ref h0, .int th] (pcV dC dI [(cI, .int), (cF, .float)] (WC cI cF h0 q a jc js jv k (capOf (nn (a 0 4)))) sz)) (va_Qi (fun (r : Int32) (_ : Unit) => kTax th = 0 ∧ r = a 0 2) (fun _ t => atC dC dI cI cF (va_A (WC cI cF h0 q a jc js jv k (capOf (nn (a 0 4)))) sz) h0 (sTaxS a th) t) (va_A (WC cI cF h0 q a jc js jv k (capOf (nn (a 0 4)))) sz)) (vx_X (fun _ : Unit => kTax th ≠ 0) (fun E _ t => E = eA (kTax th) ∧ atC dC dI cI cF (va_A (WC cI cF h0 q a jc js jv k (capOf (nn (a 0 4)))) sz) h0 a t) (va_A (WC cI cF h0 q a jc js jv k (capOf (nn (a 0 4)))) sz)) (1) (6) (va_A (WC cI cF h0 q a jc js jv k (capOf (nn (a 0 4)))) sz) := by
  refine vx_ofW (cc := cX4_setTax) (maxL := 3) (ret := (some .int)) (by decide) rfl ?_
  intro p e s m args below meth c s₁ B hml htab hv
  obtain ⟨rfl, ⟨hsz, hP, hK, hD0⟩, hV⟩ := hv
  have hx := B.exec
  have hb := B.bytes
  have hr := B.returns
  have hts := atoms_spec (ws := wsX4_setTax) B.pre
  have hown : s.vm.findClass RX4 = some m.cls := findClass_of_methodNamed B.named
  have hlocks := B.notSynchronized
  subst hsz
  have hD := hD0.self (sz := s.heap.size)
  generalize hAe : va_A [(h0, .inr (4, [.ref (q 1), .ref (q 10), .ref (q 18), .ref (q 22), .ref (q 26), .int (a 0 2), .int (a 0 1), .int (a 0 5), .int (a 0 6), .int (a 0 7), .int (a 0 8)])), (q 1, .inr (3, [.ref (q 2), .ref (q 3), .ref (q 4), .ref (q 5), .ref (q 6), .ref (q 7), .ref (q 8), .ref (q 9), .int (a 0 0)])), (q 2, .inl (cI, 8, .inl (a 1))), (q 3, .inl (cI, 8, .inl (a 2))), (q 4, .inl (cI, 8, .inl (a 3))), (q 5, .inl (cI, 8, .inl (a 4))), (q 6, .inl (cI, 8, .inl (a 5))), (q 7, .inl (cI, 8, .inl (a 6))), (q 8, .inl (cI, 8, .inl (a 7))), (q 9, .inl (cI, 8, .inl (a 8))), (q 10, .inr (2, [.ref (q 11), .ref (q 12), .ref (q 13), .ref (q 14), .ref (q 15), .ref (q 16), .ref (q 17), .int (a 0 3)])), (q 11, .inl (cI, 100, .inl (a 10))), (q 12, .inl (cF, 100, .inr (.inr (.inl (fun j => shF (a 13 j)))))), (q 13, .inl (cI, 100, .inl (a 14))), (q 14, .inl (cI, 100, .inl (fun j => a 11 j - a 12 j))), (q 15, .inl (cI, 100, .inl (fun j => a 15 j - a 16 j))), (q 16, .inl (cI, 100, .inl (a 17))), (q 17, .inl (cI, 100, .inl (a 18))), (q 18, .inr (1, [.ref (q 19), .ref (q 20), .ref (q 21), .int (a 0 4)])), (q 19, .inl (cI, capOf (nn (a 0 4)), .inl (a 20))), (q 20, .inl (cI, capOf (nn (a 0 4)), .inl (a 19))), (q 21, .inl (cI, capOf (nn (a 0 4)), .inl (a 21))), (q 22, .inr (0, [.ref (q 23), .ref (q 24), .ref (q 25), .int (nI k)])), (q 23, .inl (cI, 8, .inl (jc))), (q 24, .inl (cI, 256, .inl (js))), (q 25, .inl (cI, 256, .inl (jv))), (q 26, .inl (cF, 4, .inr (.inr (.inl (fun j => shF (a 9 j))))))] s.heap.size = A at hD hV ⊢
  have hA : ∀ q : Nat, s.heap.size ≤ q → A q := fun q h => by rw [← hAe]; exact Or.inr h
  have hS : va_S A s.heap s.heap [] := va_S.rf
  have hl := lv_entry ([.ref h0, .int th]) (n := 3) (Nat.le_of_ble_eq_true rfl)
  rw [lg_entry_eq]
  generalize (lg_sl ([.ref h0, .int th]) ++ List.replicate (3 - (lg_sl ([.ref h0, .int th])).length) Slot.unset).toArray = ls at hl ⊢
  have hl : lv_has ls 3 [(0, .ref h0), (1, .int th)] := hl
  have hiX4 : ∀ w ∈ wsX40, w ∈ wsX4_setTax := fun w h => List.mem_cons_of_mem _ (List.mem_append_left _ (List.mem_append_right _ h))
  have hP : va_P (dC, dI) vwCl [(h0, .inr (4, [.ref (q 1), .ref (q 10), .ref (q 18), .ref (q 22), .ref (q 26), .int (a 0 2), .int (a 0 1), .int (a 0 5), .int (a 0 6), .int (a 0 7), .int (a 0 8)])), (q 1, .inr (3, [.ref (q 2), .ref (q 3), .ref (q 4), .ref (q 5), .ref (q 6), .ref (q 7), .ref (q 8), .ref (q 9), .int (a 0 0)])), (q 2, .inl (cI, 8, .inl (a 1))), (q 3, .inl (cI, 8, .inl (a 2))), (q 4, .inl (cI, 8, .inl (a 3))), (q 5, .inl (cI, 8, .inl (a 4))), (q 6, .inl (cI, 8, .inl (a 5))), (q 7, .inl (cI, 8, .inl (a 6))), (q 8, .inl (cI, 8, .inl (a 7))), (q 9, .inl (cI, 8, .inl (a 8))), (q 10, .inr (2, [.ref (q 11), .ref (q 12), .ref (q 13), .ref (q 14), .ref (q 15), .ref (q 16), .ref (q 17), .int (a 0 3)])), (q 11, .inl (cI, 100, .inl (a 10))), (q 12, .inl (cF, 100, .inr (.inr (.inl (fun j => shF (a 13 j)))))), (q 13, .inl (cI, 100, .inl (a 14))), (q 14, .inl (cI, 100, .inl (fun j => a 11 j - a 12 j))), (q 15, .inl (cI, 100, .inl (fun j => a 15 j - a 16 j))), (q 16, .inl (cI, 100, .inl (a 17))), (q 17, .inl (cI, 100, .inl (a 18))), (q 18, .inr (1, [.ref (q 19), .ref (q 20), .ref (q 21), .int (a 0 4)])), (q 19, .inl (cI, capOf (nn (a 0 4)), .inl (a 20))), (q 20, .inl (cI, capOf (nn (a 0 4)), .inl (a 19))), (q 21, .inl (cI, capOf (nn (a 0 4)), .inl (a 21))), (q 22, .inr (0, [.ref (q 23), .ref (q 24), .ref (q 25), .int (nI k)])), (q 23, .inl (cI, 8, .inl (jc))), (q 24, .inl (cI, 256, .inl (js))), (q 25, .inl (cI, 256, .inl (jv))), (q 26, .inl (cF, 4, .inr (.inr (.inl (fun j => shF (a 9 j))))))] s.heap := hP
  refine y_enter (A := A) hP (fun H hP hS => ?_)
  have hBk := hB
  refine lv_iload_n hx hb dX4_setTax_0 rfl (lv_at hl 1 rfl) ?_
  refine lv_iconst (v := 0) hx hb dX4_setTax_1 (by decide) ?_
  refine lv_sipush (v := 500) hx hb dX4_setTax_2 (by decide) ?_
  have e1 : ¬ bw th 0 500 → kTax th = 1 := fun h9 => if_neg h9
  have hFc := y_freeE hS hA
  have hK0 := hK.sub (tys' := []) [] rfl
  refine vx_callv (vx_runS (As := [.int th, .int 0, .int 500]) (rest := []) ⟨hx, hb, hml, hown, hts⟩ (c_X4_requireBetween l dC dI H.size hst th 0 500) (va_cwS 3 hts gX4_setTax_X4_requireBetween rfl rfl rfl (by decide +kernel) ⟨Nat.le_of_ble_eq_true rfl, Nat.le_of_ble_eq_true rfl⟩) ⟨pcV_blind, fun U hU hW => pcV_pre va_P_nil (va_D_nil (A := A)) hK0 hV hS hFc hU hW⟩ rfl rfl hl.1 rfl (lv_room (Nat.le_of_ble_eq_true rfl)) dX4_setTax_5 ⟨Nat.le_of_ble_eq_true rfl, Nat.le_of_ble_eq_true rfl⟩) hS (fun q _ h => hFc q h) hFc (fun q _ h => hFc q h) (fun E ce q9 u t H1 locs ht hvm hw hBx hz1 hk1 hS hce hcv hcl => ?_) (fun u t H1 locs ht hvm hw hB1 hz1 hk1 hS => ?_)
  · have hE := hBx.1
    have hPx := y_keptE hP hk1
    exact vx_out (fun x hx9 => (htab x hx9).elim) hlocks hce hcv hcl (fun t9 ht9 hvm9 => ⟨(), (by rw [e1 hw]; decide), ⟨(by rw [e1 hw]; exact hE), atC_in hC (⟨by rw [ht9]; exact hPx, va_K.moved hvm9 hK, hD⟩)⟩, hS.F ht9⟩) hS.2.2 (Nat.le_of_ble_eq_true rfl) (Nat.le_of_ble_eq_true rfl)
  · have hP := y_keptE hP hk1
    generalize H1 = H at hP hS ⊢
    have hw1 := hw
    have e0 : kTax th = 0 := if_pos hw1
    refine lv_aload_n hx hb dX4_setTax_8 rfl (lv_at hl 0 rfl) ?_
    refine va_get (D := (dC, dI)) (ci := 4) (v := .int (a 0 2)) (C := RX4) (T := TX4) (N := 11) hx hb hts hiX4 hown hK hP 0 rfl rfl 5 (by decide) (hts (.fieldLink RX4 97 "Payoutnet" "taxThousandths" "I") (List.mem_of_getElem? (i := 1) rfl)) (fun _ h9 => h9) rfl dX4_setTax_9 ?_
    refine lv_istore_n (lv' := [(2, .int (a 0 2)), (0, .ref h0), (1, .int th)]) hx hb dX4_setTax_12 rfl hl (by decide) rfl (fun ls hl => ?_)
    refine lv_aload_n hx hb dX4_setTax_13 rfl (lv_at hl 1 rfl) ?_
    refine lv_iload_n hx hb dX4_setTax_14 rfl (lv_at hl 2 rfl) ?_
    refine va_put (D := (dC, dI)) (ci := 4) (v := .int th) (ty := .int) (C := RX4) (T := TX4) (N := 11) hx hb hts hiX4 tyX4 tyX4_ok nmX4 hown hK hP hD hS 0 rfl rfl 5 (by decide) (hts (.fieldLink RX4 97 "Payoutnet" "taxThousandths" "I") (List.mem_of_getElem? (i := 1) rfl)) (fun _ h9 => h9) rfl (tyX4_ok 5 (by decide)) rfl rfl (Nat.le_of_ble_eq_true rfl) dX4_setTax_15 (fun H locs hP hD hS => ?_)
    have hP : va_P (dC, dI) vwCl [(h0, .inr (4, [.ref (q 1), .ref (q 10), .ref (q 18), .ref (q 22), .ref (q 26), .int th, .int (a 0 1), .int (a 0 5), .int (a 0 6), .int (a 0 7), .int (a 0 8)])), (q 1, .inr (3, [.ref (q 2), .ref (q 3), .ref (q 4), .ref (q 5), .ref (q 6), .ref (q 7), .ref (q 8), .ref (q 9), .int (a 0 0)])), (q 2, .inl (cI, 8, .inl (a 1))), (q 3, .inl (cI, 8, .inl (a 2))), (q 4, .inl (cI, 8, .inl (a 3))), (q 5, .inl (cI, 8, .inl (a 4))), (q 6, .inl (cI, 8, .inl (a 5))), (q 7, .inl (cI, 8, .inl (a 6))), (q 8, .inl (cI, 8, .inl (a 7))), (q 9, .inl (cI, 8, .inl (a 8))), (q 10, .inr (2, [.ref (q 11), .ref (q 12), .ref (q 13), .ref (q 14), .ref (q 15), .ref (q 16), .ref (q 17), .int (a 0 3)])), (q 11, .inl (cI, 100, .inl (a 10))), (q 12, .inl (cF, 100, .inr (.inr (.inl (fun j => shF (a 13 j)))))), (q 13, .inl (cI, 100, .inl (a 14))), (q 14, .inl (cI, 100, .inl (fun j => a 11 j - a 12 j))), (q 15, .inl (cI, 100, .inl (fun j => a 15 j - a 16 j))), (q 16, .inl (cI, 100, .inl (a 17))), (q 17, .inl (cI, 100, .inl (a 18))), (q 18, .inr (1, [.ref (q 19), .ref (q 20), .ref (q 21), .int (a 0 4)])), (q 19, .inl (cI, capOf (nn (a 0 4)), .inl (a 20))), (q 20, .inl (cI, capOf (nn (a 0 4)), .inl (a 19))), (q 21, .inl (cI, capOf (nn (a 0 4)), .inl (a 21))), (q 22, .inr (0, [.ref (q 23), .ref (q 24), .ref (q 25), .int (nI k)])), (q 23, .inl (cI, 8, .inl (jc))), (q 24, .inl (cI, 256, .inl (js))), (q 25, .inl (cI, 256, .inl (jv))), (q 26, .inl (cF, 4, .inr (.inr (.inl (fun j => shF (a 9 j))))))] H := hP
    have hD : va_D A [(h0, .inr (4, [.ref (q 1), .ref (q 10), .ref (q 18), .ref (q 22), .ref (q 26), .int th, .int (a 0 1), .int (a 0 5), .int (a 0 6), .int (a 0 7), .int (a 0 8)])), (q 1, .inr (3, [.ref (q 2), .ref (q 3), .ref (q 4), .ref (q 5), .ref (q 6), .ref (q 7), .ref (q 8), .ref (q 9), .int (a 0 0)])), (q 2, .inl (cI, 8, .inl (a 1))), (q 3, .inl (cI, 8, .inl (a 2))), (q 4, .inl (cI, 8, .inl (a 3))), (q 5, .inl (cI, 8, .inl (a 4))), (q 6, .inl (cI, 8, .inl (a 5))), (q 7, .inl (cI, 8, .inl (a 6))), (q 8, .inl (cI, 8, .inl (a 7))), (q 9, .inl (cI, 8, .inl (a 8))), (q 10, .inr (2, [.ref (q 11), .ref (q 12), .ref (q 13), .ref (q 14), .ref (q 15), .ref (q 16), .ref (q 17), .int (a 0 3)])), (q 11, .inl (cI, 100, .inl (a 10))), (q 12, .inl (cF, 100, .inr (.inr (.inl (fun j => shF (a 13 j)))))), (q 13, .inl (cI, 100, .inl (a 14))), (q 14, .inl (cI, 100, .inl (fun j => a 11 j - a 12 j))), (q 15, .inl (cI, 100, .inl (fun j => a 15 j - a 16 j))), (q 16, .inl (cI, 100, .inl (a 17))), (q 17, .inl (cI, 100, .inl (a 18))), (q 18, .inr (1, [.ref (q 19), .ref (q 20), .ref (q 21), .int (a 0 4)])), (q 19, .inl (cI, capOf (nn (a 0 4)), .inl (a 20))), (q 20, .inl (cI, capOf (nn (a 0 4)), .inl (a 19))), (q 21, .inl (cI, capOf (nn (a 0 4)), .inl (a 21))), (q 22, .inr (0, [.ref (q 23), .ref (q 24), .ref (q 25), .int (nI k)])), (q 23, .inl (cI, 8, .inl (jc))), (q 24, .inl (cI, 256, .inl (js))), (q 25, .inl (cI, 256, .inl (jv))), (q 26, .inl (cF, 4, .inr (.inr (.inl (fun j => shF (a 9 j))))))] := hD
    refine lv_iload_n hx hb dX4_setTax_18 rfl (lv_at hl 0 rfl) ?_
    have hP : va_P (dC, dI) vwCl (WC cI cF h0 q (sTaxS a th) jc js jv k (capOf (nn ((sTaxS a th) 0 4)))) H := hP
    have hD : va_D A (WC cI cF h0 q (sTaxS a th) jc js jv k (capOf (nn ((sTaxS a th) 0 4)))) := hD
    have hC9 : okC (sTaxS a th) jc js jv k := hC
    refine W.widen (k := 1) (n := 6) (Nat.le_of_ble_eq_true rfl) (Nat.le_of_ble_eq_true rfl) ?_
    have hP9 := hP
    have hD9 := hD
    have hK9 := hK
    refine vx_ret ?_
    exact W.iret (v := a 0 2) hx hb hr (fun t ht hW => ⟨⟨a 0 2, (), rfl, ⟨e0, rfl⟩, atC_in hC9 (atW_end hP9 hD9 hK9 ht hW)⟩, hS.F ht⟩) hS.2.2 dX4_setTax_19
set_option maxHeartbeats 4000000 in
set_option maxRecDepth 100000 in
theorem c_X4_today (l : Launch) (dC : Nat → ClassId) (dI : Nat → Nat → Nat) (cI cF : ClassId) (h0 : Nat) (q : Nat → Nat) (sz : Nat) (a : yA) (jc js jv : Nat → Int32) (k : Nat) (hC : okC a jc js jv k) (hB : okB a)  : Met l yX4_today wsX4_today ({ frames := 0, cells := 0, slots := 0, locals := 0 } : Room) (va_Pc [.ref h0] (pcW dC dI [(cI, .int), (cF, .float)] (WC cI cF h0 q a jc js jv k (capOf (nn (a 0 4)))) sz)) (va_Qi (fun (r : Int32) (_ : Unit) => r = a 0 1) (fun _ t => atC dC dI cI cF (va_A (WC cI cF h0 q a jc js jv k (capOf (nn (a 0 4)))) sz) h0 (a) t) (va_A (WC cI cF h0 q a jc js jv k (capOf (nn (a 0 4)))) sz)) 0 0 (va_A (WC cI cF h0 q a jc js jv k (capOf (nn (a 0 4)))) sz) := by
  refine Met.ofW (cc := cX4_today) (maxL := 1) (ret := (some .int)) (by decide) rfl ?_
  intro p e s m args below meth c s₁ B hml hv
  obtain ⟨rfl, hsz, hP, hK, hD0⟩ := hv
  have hx := B.exec
  have hb := B.bytes
  have hr := B.returns
  have hts := atoms_spec (ws := wsX4_today) B.pre
  have hown : s.vm.findClass RX4 = some m.cls := findClass_of_methodNamed B.named
  have hlocks := B.notSynchronized
  subst hsz
  have hD := hD0.self (sz := s.heap.size)
  generalize hAe : va_A [(h0, .inr (4, [.ref (q 1), .ref (q 10), .ref (q 18), .ref (q 22), .ref (q 26), .int (a 0 2), .int (a 0 1), .int (a 0 5), .int (a 0 6), .int (a 0 7), .int (a 0 8)])), (q 1, .inr (3, [.ref (q 2), .ref (q 3), .ref (q 4), .ref (q 5), .ref (q 6), .ref (q 7), .ref (q 8), .ref (q 9), .int (a 0 0)])), (q 2, .inl (cI, 8, .inl (a 1))), (q 3, .inl (cI, 8, .inl (a 2))), (q 4, .inl (cI, 8, .inl (a 3))), (q 5, .inl (cI, 8, .inl (a 4))), (q 6, .inl (cI, 8, .inl (a 5))), (q 7, .inl (cI, 8, .inl (a 6))), (q 8, .inl (cI, 8, .inl (a 7))), (q 9, .inl (cI, 8, .inl (a 8))), (q 10, .inr (2, [.ref (q 11), .ref (q 12), .ref (q 13), .ref (q 14), .ref (q 15), .ref (q 16), .ref (q 17), .int (a 0 3)])), (q 11, .inl (cI, 100, .inl (a 10))), (q 12, .inl (cF, 100, .inr (.inr (.inl (fun j => shF (a 13 j)))))), (q 13, .inl (cI, 100, .inl (a 14))), (q 14, .inl (cI, 100, .inl (fun j => a 11 j - a 12 j))), (q 15, .inl (cI, 100, .inl (fun j => a 15 j - a 16 j))), (q 16, .inl (cI, 100, .inl (a 17))), (q 17, .inl (cI, 100, .inl (a 18))), (q 18, .inr (1, [.ref (q 19), .ref (q 20), .ref (q 21), .int (a 0 4)])), (q 19, .inl (cI, capOf (nn (a 0 4)), .inl (a 20))), (q 20, .inl (cI, capOf (nn (a 0 4)), .inl (a 19))), (q 21, .inl (cI, capOf (nn (a 0 4)), .inl (a 21))), (q 22, .inr (0, [.ref (q 23), .ref (q 24), .ref (q 25), .int (nI k)])), (q 23, .inl (cI, 8, .inl (jc))), (q 24, .inl (cI, 256, .inl (js))), (q 25, .inl (cI, 256, .inl (jv))), (q 26, .inl (cF, 4, .inr (.inr (.inl (fun j => shF (a 9 j))))))] s.heap.size = A at hD ⊢
  have hA : ∀ q : Nat, s.heap.size ≤ q → A q := fun q h => by rw [← hAe]; exact Or.inr h
  have hS : va_S A s.heap s.heap [] := va_S.rf
  have hl := lv_entry ([.ref h0]) (n := 1) (Nat.le_of_ble_eq_true rfl)
  rw [lg_entry_eq]
  generalize (lg_sl ([.ref h0]) ++ List.replicate (1 - (lg_sl ([.ref h0])).length) Slot.unset).toArray = ls at hl ⊢
  have hl : lv_has ls 1 [(0, .ref h0)] := hl
  have hiX4 : ∀ w ∈ wsX40, w ∈ wsX4_today := fun w h => List.mem_cons_of_mem _ (List.mem_append_right _ h)
  have hP : va_P (dC, dI) vwCl [(h0, .inr (4, [.ref (q 1), .ref (q 10), .ref (q 18), .ref (q 22), .ref (q 26), .int (a 0 2), .int (a 0 1), .int (a 0 5), .int (a 0 6), .int (a 0 7), .int (a 0 8)])), (q 1, .inr (3, [.ref (q 2), .ref (q 3), .ref (q 4), .ref (q 5), .ref (q 6), .ref (q 7), .ref (q 8), .ref (q 9), .int (a 0 0)])), (q 2, .inl (cI, 8, .inl (a 1))), (q 3, .inl (cI, 8, .inl (a 2))), (q 4, .inl (cI, 8, .inl (a 3))), (q 5, .inl (cI, 8, .inl (a 4))), (q 6, .inl (cI, 8, .inl (a 5))), (q 7, .inl (cI, 8, .inl (a 6))), (q 8, .inl (cI, 8, .inl (a 7))), (q 9, .inl (cI, 8, .inl (a 8))), (q 10, .inr (2, [.ref (q 11), .ref (q 12), .ref (q 13), .ref (q 14), .ref (q 15), .ref (q 16), .ref (q 17), .int (a 0 3)])), (q 11, .inl (cI, 100, .inl (a 10))), (q 12, .inl (cF, 100, .inr (.inr (.inl (fun j => shF (a 13 j)))))), (q 13, .inl (cI, 100, .inl (a 14))), (q 14, .inl (cI, 100, .inl (fun j => a 11 j - a 12 j))), (q 15, .inl (cI, 100, .inl (fun j => a 15 j - a 16 j))), (q 16, .inl (cI, 100, .inl (a 17))), (q 17, .inl (cI, 100, .inl (a 18))), (q 18, .inr (1, [.ref (q 19), .ref (q 20), .ref (q 21), .int (a 0 4)])), (q 19, .inl (cI, capOf (nn (a 0 4)), .inl (a 20))), (q 20, .inl (cI, capOf (nn (a 0 4)), .inl (a 19))), (q 21, .inl (cI, capOf (nn (a 0 4)), .inl (a 21))), (q 22, .inr (0, [.ref (q 23), .ref (q 24), .ref (q 25), .int (nI k)])), (q 23, .inl (cI, 8, .inl (jc))), (q 24, .inl (cI, 256, .inl (js))), (q 25, .inl (cI, 256, .inl (jv))), (q 26, .inl (cF, 4, .inr (.inr (.inl (fun j => shF (a 9 j))))))] s.heap := hP
  refine y_enter (A := A) hP (fun H hP hS => ?_)
  refine lv_aload_n hx hb dX4_today_0 rfl (lv_at hl 0 rfl) ?_
  refine va_get (D := (dC, dI)) (ci := 4) (v := .int (a 0 1)) (C := RX4) (T := TX4) (N := 11) hx hb hts hiX4 hown hK hP 0 rfl rfl 6 (by decide) (hts (.fieldLink RX4 171 "Payoutnet" "today" "I") (List.mem_of_getElem? (i := 1) rfl)) (fun _ h9 => h9) rfl dX4_today_1 ?_
  have hP9 := hP
  have hD9 := hD
  have hK9 := hK
  exact W.iret (v := a 0 1) hx hb hr (fun t ht hW => ⟨⟨a 0 1, (), rfl, rfl, atC_in hC (atW_end hP9 hD9 hK9 ht hW)⟩, hS.F ht⟩) hS.2.2 dX4_today_4
set_option maxHeartbeats 4000000 in
set_option maxRecDepth 100000 in
theorem c_X4_payouts (l : Launch) (dC : Nat → ClassId) (dI : Nat → Nat → Nat) (cI cF : ClassId) (h0 : Nat) (q : Nat → Nat) (sz : Nat) (a : yA) (jc js jv : Nat → Int32) (k : Nat) (hC : okC a jc js jv k) (hB : okB a)  : Met l yX4_payouts wsX4_payouts ({ frames := 0, cells := 0, slots := 0, locals := 0 } : Room) (va_Pc [.ref h0] (pcW dC dI [(cI, .int), (cF, .float)] (WC cI cF h0 q a jc js jv k (capOf (nn (a 0 4)))) sz)) (va_Qi (fun (r : Int32) (_ : Unit) => r = a 0 4) (fun _ t => atC dC dI cI cF (va_A (WC cI cF h0 q a jc js jv k (capOf (nn (a 0 4)))) sz) h0 (a) t) (va_A (WC cI cF h0 q a jc js jv k (capOf (nn (a 0 4)))) sz)) 0 0 (va_A (WC cI cF h0 q a jc js jv k (capOf (nn (a 0 4)))) sz) := by
  refine Met.ofW (cc := cX4_payouts) (maxL := 1) (ret := (some .int)) (by decide) rfl ?_
  intro p e s m args below meth c s₁ B hml hv
  obtain ⟨rfl, hsz, hP, hK, hD0⟩ := hv
  have hx := B.exec
  have hb := B.bytes
  have hr := B.returns
  have hts := atoms_spec (ws := wsX4_payouts) B.pre
  have hown : s.vm.findClass RX4 = some m.cls := findClass_of_methodNamed B.named
  have hlocks := B.notSynchronized
  subst hsz
  have hD := hD0.self (sz := s.heap.size)
  generalize hAe : va_A [(h0, .inr (4, [.ref (q 1), .ref (q 10), .ref (q 18), .ref (q 22), .ref (q 26), .int (a 0 2), .int (a 0 1), .int (a 0 5), .int (a 0 6), .int (a 0 7), .int (a 0 8)])), (q 1, .inr (3, [.ref (q 2), .ref (q 3), .ref (q 4), .ref (q 5), .ref (q 6), .ref (q 7), .ref (q 8), .ref (q 9), .int (a 0 0)])), (q 2, .inl (cI, 8, .inl (a 1))), (q 3, .inl (cI, 8, .inl (a 2))), (q 4, .inl (cI, 8, .inl (a 3))), (q 5, .inl (cI, 8, .inl (a 4))), (q 6, .inl (cI, 8, .inl (a 5))), (q 7, .inl (cI, 8, .inl (a 6))), (q 8, .inl (cI, 8, .inl (a 7))), (q 9, .inl (cI, 8, .inl (a 8))), (q 10, .inr (2, [.ref (q 11), .ref (q 12), .ref (q 13), .ref (q 14), .ref (q 15), .ref (q 16), .ref (q 17), .int (a 0 3)])), (q 11, .inl (cI, 100, .inl (a 10))), (q 12, .inl (cF, 100, .inr (.inr (.inl (fun j => shF (a 13 j)))))), (q 13, .inl (cI, 100, .inl (a 14))), (q 14, .inl (cI, 100, .inl (fun j => a 11 j - a 12 j))), (q 15, .inl (cI, 100, .inl (fun j => a 15 j - a 16 j))), (q 16, .inl (cI, 100, .inl (a 17))), (q 17, .inl (cI, 100, .inl (a 18))), (q 18, .inr (1, [.ref (q 19), .ref (q 20), .ref (q 21), .int (a 0 4)])), (q 19, .inl (cI, capOf (nn (a 0 4)), .inl (a 20))), (q 20, .inl (cI, capOf (nn (a 0 4)), .inl (a 19))), (q 21, .inl (cI, capOf (nn (a 0 4)), .inl (a 21))), (q 22, .inr (0, [.ref (q 23), .ref (q 24), .ref (q 25), .int (nI k)])), (q 23, .inl (cI, 8, .inl (jc))), (q 24, .inl (cI, 256, .inl (js))), (q 25, .inl (cI, 256, .inl (jv))), (q 26, .inl (cF, 4, .inr (.inr (.inl (fun j => shF (a 9 j))))))] s.heap.size = A at hD ⊢
  have hA : ∀ q : Nat, s.heap.size ≤ q → A q := fun q h => by rw [← hAe]; exact Or.inr h
  have hS : va_S A s.heap s.heap [] := va_S.rf
  have hl := lv_entry ([.ref h0]) (n := 1) (Nat.le_of_ble_eq_true rfl)
  rw [lg_entry_eq]
  generalize (lg_sl ([.ref h0]) ++ List.replicate (1 - (lg_sl ([.ref h0])).length) Slot.unset).toArray = ls at hl ⊢
  have hl : lv_has ls 1 [(0, .ref h0)] := hl
  have hiX4 : ∀ w ∈ wsX40, w ∈ wsX4_payouts := fun w h => List.mem_cons_of_mem _ (List.mem_append_left _ (List.mem_append_right _ h))
  have hiX1 : ∀ w ∈ wsX10, w ∈ wsX4_payouts := fun w h => List.mem_cons_of_mem _ (List.mem_append_right _ h)
  have hP : va_P (dC, dI) vwCl [(h0, .inr (4, [.ref (q 1), .ref (q 10), .ref (q 18), .ref (q 22), .ref (q 26), .int (a 0 2), .int (a 0 1), .int (a 0 5), .int (a 0 6), .int (a 0 7), .int (a 0 8)])), (q 1, .inr (3, [.ref (q 2), .ref (q 3), .ref (q 4), .ref (q 5), .ref (q 6), .ref (q 7), .ref (q 8), .ref (q 9), .int (a 0 0)])), (q 2, .inl (cI, 8, .inl (a 1))), (q 3, .inl (cI, 8, .inl (a 2))), (q 4, .inl (cI, 8, .inl (a 3))), (q 5, .inl (cI, 8, .inl (a 4))), (q 6, .inl (cI, 8, .inl (a 5))), (q 7, .inl (cI, 8, .inl (a 6))), (q 8, .inl (cI, 8, .inl (a 7))), (q 9, .inl (cI, 8, .inl (a 8))), (q 10, .inr (2, [.ref (q 11), .ref (q 12), .ref (q 13), .ref (q 14), .ref (q 15), .ref (q 16), .ref (q 17), .int (a 0 3)])), (q 11, .inl (cI, 100, .inl (a 10))), (q 12, .inl (cF, 100, .inr (.inr (.inl (fun j => shF (a 13 j)))))), (q 13, .inl (cI, 100, .inl (a 14))), (q 14, .inl (cI, 100, .inl (fun j => a 11 j - a 12 j))), (q 15, .inl (cI, 100, .inl (fun j => a 15 j - a 16 j))), (q 16, .inl (cI, 100, .inl (a 17))), (q 17, .inl (cI, 100, .inl (a 18))), (q 18, .inr (1, [.ref (q 19), .ref (q 20), .ref (q 21), .int (a 0 4)])), (q 19, .inl (cI, capOf (nn (a 0 4)), .inl (a 20))), (q 20, .inl (cI, capOf (nn (a 0 4)), .inl (a 19))), (q 21, .inl (cI, capOf (nn (a 0 4)), .inl (a 21))), (q 22, .inr (0, [.ref (q 23), .ref (q 24), .ref (q 25), .int (nI k)])), (q 23, .inl (cI, 8, .inl (jc))), (q 24, .inl (cI, 256, .inl (js))), (q 25, .inl (cI, 256, .inl (jv))), (q 26, .inl (cF, 4, .inr (.inr (.inl (fun j => shF (a 9 j))))))] s.heap := hP
  refine y_enter (A := A) hP (fun H hP hS => ?_)
  refine lv_aload_n hx hb dX4_payouts_0 rfl (lv_at hl 0 rfl) ?_
  refine va_get (D := (dC, dI)) (ci := 4) (v := .ref (q 18)) (C := RX4) (T := TX4) (N := 11) hx hb hts hiX4 hown hK hP 0 rfl rfl 2 (by decide) (hts (.fieldLink RX4 26 "Payoutnet" "paidOut" "LPayoutnet$Payouts;") (List.mem_of_getElem? (i := 1) rfl)) (fun _ h9 => h9) rfl dX4_payouts_1 ?_
  refine va_get (D := (dC, dI)) (ci := 1) (v := .int (a 0 4)) (C := RX1) (T := TX1) (N := 4) hx hb hts hiX1 hown hK hP 18 rfl rfl 3 (by decide) (hts (.fieldLink RX4 176 "Payoutnet$Payouts" "count" "I") (List.mem_of_getElem? (i := 2) rfl)) (fun _ h9 => h9) rfl dX4_payouts_4 ?_
  have hP9 := hP
  have hD9 := hD
  have hK9 := hK
  exact W.iret (v := a 0 4) hx hb hr (fun t ht hW => ⟨⟨a 0 4, (), rfl, rfl, atC_in hC (atW_end hP9 hD9 hK9 ht hW)⟩, hS.F ht⟩) hS.2.2 dX4_payouts_7
set_option maxHeartbeats 4000000 in
set_option maxRecDepth 100000 in
theorem c_X4_received (l : Launch) (dC : Nat → ClassId) (dI : Nat → Nat → Nat) (cI cF : ClassId) (h0 : Nat) (q : Nat → Nat) (sz : Nat) (a : yA) (jc js jv : Nat → Int32) (k : Nat) (hC : okC a jc js jv k) (hB : okB a)  : Met l yX4_received wsX4_received ({ frames := 0, cells := 0, slots := 0, locals := 0 } : Room) (va_Pc [.ref h0] (pcW dC dI [(cI, .int), (cF, .float)] (WC cI cF h0 q a jc js jv k (capOf (nn (a 0 4)))) sz)) (va_Qi (fun (r : Int32) (_ : Unit) => r = a 0 5) (fun _ t => atC dC dI cI cF (va_A (WC cI cF h0 q a jc js jv k (capOf (nn (a 0 4)))) sz) h0 (a) t) (va_A (WC cI cF h0 q a jc js jv k (capOf (nn (a 0 4)))) sz)) 0 0 (va_A (WC cI cF h0 q a jc js jv k (capOf (nn (a 0 4)))) sz) := by
  refine Met.ofW (cc := cX4_received) (maxL := 1) (ret := (some .int)) (by decide) rfl ?_
  intro p e s m args below meth c s₁ B hml hv
  obtain ⟨rfl, hsz, hP, hK, hD0⟩ := hv
  have hx := B.exec
  have hb := B.bytes
  have hr := B.returns
  have hts := atoms_spec (ws := wsX4_received) B.pre
  have hown : s.vm.findClass RX4 = some m.cls := findClass_of_methodNamed B.named
  have hlocks := B.notSynchronized
  subst hsz
  have hD := hD0.self (sz := s.heap.size)
  generalize hAe : va_A [(h0, .inr (4, [.ref (q 1), .ref (q 10), .ref (q 18), .ref (q 22), .ref (q 26), .int (a 0 2), .int (a 0 1), .int (a 0 5), .int (a 0 6), .int (a 0 7), .int (a 0 8)])), (q 1, .inr (3, [.ref (q 2), .ref (q 3), .ref (q 4), .ref (q 5), .ref (q 6), .ref (q 7), .ref (q 8), .ref (q 9), .int (a 0 0)])), (q 2, .inl (cI, 8, .inl (a 1))), (q 3, .inl (cI, 8, .inl (a 2))), (q 4, .inl (cI, 8, .inl (a 3))), (q 5, .inl (cI, 8, .inl (a 4))), (q 6, .inl (cI, 8, .inl (a 5))), (q 7, .inl (cI, 8, .inl (a 6))), (q 8, .inl (cI, 8, .inl (a 7))), (q 9, .inl (cI, 8, .inl (a 8))), (q 10, .inr (2, [.ref (q 11), .ref (q 12), .ref (q 13), .ref (q 14), .ref (q 15), .ref (q 16), .ref (q 17), .int (a 0 3)])), (q 11, .inl (cI, 100, .inl (a 10))), (q 12, .inl (cF, 100, .inr (.inr (.inl (fun j => shF (a 13 j)))))), (q 13, .inl (cI, 100, .inl (a 14))), (q 14, .inl (cI, 100, .inl (fun j => a 11 j - a 12 j))), (q 15, .inl (cI, 100, .inl (fun j => a 15 j - a 16 j))), (q 16, .inl (cI, 100, .inl (a 17))), (q 17, .inl (cI, 100, .inl (a 18))), (q 18, .inr (1, [.ref (q 19), .ref (q 20), .ref (q 21), .int (a 0 4)])), (q 19, .inl (cI, capOf (nn (a 0 4)), .inl (a 20))), (q 20, .inl (cI, capOf (nn (a 0 4)), .inl (a 19))), (q 21, .inl (cI, capOf (nn (a 0 4)), .inl (a 21))), (q 22, .inr (0, [.ref (q 23), .ref (q 24), .ref (q 25), .int (nI k)])), (q 23, .inl (cI, 8, .inl (jc))), (q 24, .inl (cI, 256, .inl (js))), (q 25, .inl (cI, 256, .inl (jv))), (q 26, .inl (cF, 4, .inr (.inr (.inl (fun j => shF (a 9 j))))))] s.heap.size = A at hD ⊢
  have hA : ∀ q : Nat, s.heap.size ≤ q → A q := fun q h => by rw [← hAe]; exact Or.inr h
  have hS : va_S A s.heap s.heap [] := va_S.rf
  have hl := lv_entry ([.ref h0]) (n := 1) (Nat.le_of_ble_eq_true rfl)
  rw [lg_entry_eq]
  generalize (lg_sl ([.ref h0]) ++ List.replicate (1 - (lg_sl ([.ref h0])).length) Slot.unset).toArray = ls at hl ⊢
  have hl : lv_has ls 1 [(0, .ref h0)] := hl
  have hiX4 : ∀ w ∈ wsX40, w ∈ wsX4_received := fun w h => List.mem_cons_of_mem _ (List.mem_append_right _ h)
  have hP : va_P (dC, dI) vwCl [(h0, .inr (4, [.ref (q 1), .ref (q 10), .ref (q 18), .ref (q 22), .ref (q 26), .int (a 0 2), .int (a 0 1), .int (a 0 5), .int (a 0 6), .int (a 0 7), .int (a 0 8)])), (q 1, .inr (3, [.ref (q 2), .ref (q 3), .ref (q 4), .ref (q 5), .ref (q 6), .ref (q 7), .ref (q 8), .ref (q 9), .int (a 0 0)])), (q 2, .inl (cI, 8, .inl (a 1))), (q 3, .inl (cI, 8, .inl (a 2))), (q 4, .inl (cI, 8, .inl (a 3))), (q 5, .inl (cI, 8, .inl (a 4))), (q 6, .inl (cI, 8, .inl (a 5))), (q 7, .inl (cI, 8, .inl (a 6))), (q 8, .inl (cI, 8, .inl (a 7))), (q 9, .inl (cI, 8, .inl (a 8))), (q 10, .inr (2, [.ref (q 11), .ref (q 12), .ref (q 13), .ref (q 14), .ref (q 15), .ref (q 16), .ref (q 17), .int (a 0 3)])), (q 11, .inl (cI, 100, .inl (a 10))), (q 12, .inl (cF, 100, .inr (.inr (.inl (fun j => shF (a 13 j)))))), (q 13, .inl (cI, 100, .inl (a 14))), (q 14, .inl (cI, 100, .inl (fun j => a 11 j - a 12 j))), (q 15, .inl (cI, 100, .inl (fun j => a 15 j - a 16 j))), (q 16, .inl (cI, 100, .inl (a 17))), (q 17, .inl (cI, 100, .inl (a 18))), (q 18, .inr (1, [.ref (q 19), .ref (q 20), .ref (q 21), .int (a 0 4)])), (q 19, .inl (cI, capOf (nn (a 0 4)), .inl (a 20))), (q 20, .inl (cI, capOf (nn (a 0 4)), .inl (a 19))), (q 21, .inl (cI, capOf (nn (a 0 4)), .inl (a 21))), (q 22, .inr (0, [.ref (q 23), .ref (q 24), .ref (q 25), .int (nI k)])), (q 23, .inl (cI, 8, .inl (jc))), (q 24, .inl (cI, 256, .inl (js))), (q 25, .inl (cI, 256, .inl (jv))), (q 26, .inl (cF, 4, .inr (.inr (.inl (fun j => shF (a 9 j))))))] s.heap := hP
  refine y_enter (A := A) hP (fun H hP hS => ?_)
  refine lv_aload_n hx hb dX4_received_0 rfl (lv_at hl 0 rfl) ?_
  refine va_get (D := (dC, dI)) (ci := 4) (v := .int (a 0 5)) (C := RX4) (T := TX4) (N := 11) hx hb hts hiX4 hown hK hP 0 rfl rfl 7 (by decide) (hts (.fieldLink RX4 201 "Payoutnet" "received" "I") (List.mem_of_getElem? (i := 1) rfl)) (fun _ h9 => h9) rfl dX4_received_1 ?_
  have hP9 := hP
  have hD9 := hD
  have hK9 := hK
  exact W.iret (v := a 0 5) hx hb hr (fun t ht hW => ⟨⟨a 0 5, (), rfl, rfl, atC_in hC (atW_end hP9 hD9 hK9 ht hW)⟩, hS.F ht⟩) hS.2.2 dX4_received_4
set_option maxHeartbeats 4000000 in
set_option maxRecDepth 100000 in
theorem c_X4_refunded (l : Launch) (dC : Nat → ClassId) (dI : Nat → Nat → Nat) (cI cF : ClassId) (h0 : Nat) (q : Nat → Nat) (sz : Nat) (a : yA) (jc js jv : Nat → Int32) (k : Nat) (hC : okC a jc js jv k) (hB : okB a)  : Met l yX4_refunded wsX4_refunded ({ frames := 0, cells := 0, slots := 0, locals := 0 } : Room) (va_Pc [.ref h0] (pcW dC dI [(cI, .int), (cF, .float)] (WC cI cF h0 q a jc js jv k (capOf (nn (a 0 4)))) sz)) (va_Qi (fun (r : Int32) (_ : Unit) => r = a 0 6) (fun _ t => atC dC dI cI cF (va_A (WC cI cF h0 q a jc js jv k (capOf (nn (a 0 4)))) sz) h0 (a) t) (va_A (WC cI cF h0 q a jc js jv k (capOf (nn (a 0 4)))) sz)) 0 0 (va_A (WC cI cF h0 q a jc js jv k (capOf (nn (a 0 4)))) sz) := by
  refine Met.ofW (cc := cX4_refunded) (maxL := 1) (ret := (some .int)) (by decide) rfl ?_
  intro p e s m args below meth c s₁ B hml hv
  obtain ⟨rfl, hsz, hP, hK, hD0⟩ := hv
  have hx := B.exec
  have hb := B.bytes
  have hr := B.returns
  have hts := atoms_spec (ws := wsX4_refunded) B.pre
  have hown : s.vm.findClass RX4 = some m.cls := findClass_of_methodNamed B.named
  have hlocks := B.notSynchronized
  subst hsz
  have hD := hD0.self (sz := s.heap.size)
  generalize hAe : va_A [(h0, .inr (4, [.ref (q 1), .ref (q 10), .ref (q 18), .ref (q 22), .ref (q 26), .int (a 0 2), .int (a 0 1), .int (a 0 5), .int (a 0 6), .int (a 0 7), .int (a 0 8)])), (q 1, .inr (3, [.ref (q 2), .ref (q 3), .ref (q 4), .ref (q 5), .ref (q 6), .ref (q 7), .ref (q 8), .ref (q 9), .int (a 0 0)])), (q 2, .inl (cI, 8, .inl (a 1))), (q 3, .inl (cI, 8, .inl (a 2))), (q 4, .inl (cI, 8, .inl (a 3))), (q 5, .inl (cI, 8, .inl (a 4))), (q 6, .inl (cI, 8, .inl (a 5))), (q 7, .inl (cI, 8, .inl (a 6))), (q 8, .inl (cI, 8, .inl (a 7))), (q 9, .inl (cI, 8, .inl (a 8))), (q 10, .inr (2, [.ref (q 11), .ref (q 12), .ref (q 13), .ref (q 14), .ref (q 15), .ref (q 16), .ref (q 17), .int (a 0 3)])), (q 11, .inl (cI, 100, .inl (a 10))), (q 12, .inl (cF, 100, .inr (.inr (.inl (fun j => shF (a 13 j)))))), (q 13, .inl (cI, 100, .inl (a 14))), (q 14, .inl (cI, 100, .inl (fun j => a 11 j - a 12 j))), (q 15, .inl (cI, 100, .inl (fun j => a 15 j - a 16 j))), (q 16, .inl (cI, 100, .inl (a 17))), (q 17, .inl (cI, 100, .inl (a 18))), (q 18, .inr (1, [.ref (q 19), .ref (q 20), .ref (q 21), .int (a 0 4)])), (q 19, .inl (cI, capOf (nn (a 0 4)), .inl (a 20))), (q 20, .inl (cI, capOf (nn (a 0 4)), .inl (a 19))), (q 21, .inl (cI, capOf (nn (a 0 4)), .inl (a 21))), (q 22, .inr (0, [.ref (q 23), .ref (q 24), .ref (q 25), .int (nI k)])), (q 23, .inl (cI, 8, .inl (jc))), (q 24, .inl (cI, 256, .inl (js))), (q 25, .inl (cI, 256, .inl (jv))), (q 26, .inl (cF, 4, .inr (.inr (.inl (fun j => shF (a 9 j))))))] s.heap.size = A at hD ⊢
  have hA : ∀ q : Nat, s.heap.size ≤ q → A q := fun q h => by rw [← hAe]; exact Or.inr h
  have hS : va_S A s.heap s.heap [] := va_S.rf
  have hl := lv_entry ([.ref h0]) (n := 1) (Nat.le_of_ble_eq_true rfl)
  rw [lg_entry_eq]
  generalize (lg_sl ([.ref h0]) ++ List.replicate (1 - (lg_sl ([.ref h0])).length) Slot.unset).toArray = ls at hl ⊢
  have hl : lv_has ls 1 [(0, .ref h0)] := hl
  have hiX4 : ∀ w ∈ wsX40, w ∈ wsX4_refunded := fun w h => List.mem_cons_of_mem _ (List.mem_append_right _ h)
  have hP : va_P (dC, dI) vwCl [(h0, .inr (4, [.ref (q 1), .ref (q 10), .ref (q 18), .ref (q 22), .ref (q 26), .int (a 0 2), .int (a 0 1), .int (a 0 5), .int (a 0 6), .int (a 0 7), .int (a 0 8)])), (q 1, .inr (3, [.ref (q 2), .ref (q 3), .ref (q 4), .ref (q 5), .ref (q 6), .ref (q 7), .ref (q 8), .ref (q 9), .int (a 0 0)])), (q 2, .inl (cI, 8, .inl (a 1))), (q 3, .inl (cI, 8, .inl (a 2))), (q 4, .inl (cI, 8, .inl (a 3))), (q 5, .inl (cI, 8, .inl (a 4))), (q 6, .inl (cI, 8, .inl (a 5))), (q 7, .inl (cI, 8, .inl (a 6))), (q 8, .inl (cI, 8, .inl (a 7))), (q 9, .inl (cI, 8, .inl (a 8))), (q 10, .inr (2, [.ref (q 11), .ref (q 12), .ref (q 13), .ref (q 14), .ref (q 15), .ref (q 16), .ref (q 17), .int (a 0 3)])), (q 11, .inl (cI, 100, .inl (a 10))), (q 12, .inl (cF, 100, .inr (.inr (.inl (fun j => shF (a 13 j)))))), (q 13, .inl (cI, 100, .inl (a 14))), (q 14, .inl (cI, 100, .inl (fun j => a 11 j - a 12 j))), (q 15, .inl (cI, 100, .inl (fun j => a 15 j - a 16 j))), (q 16, .inl (cI, 100, .inl (a 17))), (q 17, .inl (cI, 100, .inl (a 18))), (q 18, .inr (1, [.ref (q 19), .ref (q 20), .ref (q 21), .int (a 0 4)])), (q 19, .inl (cI, capOf (nn (a 0 4)), .inl (a 20))), (q 20, .inl (cI, capOf (nn (a 0 4)), .inl (a 19))), (q 21, .inl (cI, capOf (nn (a 0 4)), .inl (a 21))), (q 22, .inr (0, [.ref (q 23), .ref (q 24), .ref (q 25), .int (nI k)])), (q 23, .inl (cI, 8, .inl (jc))), (q 24, .inl (cI, 256, .inl (js))), (q 25, .inl (cI, 256, .inl (jv))), (q 26, .inl (cF, 4, .inr (.inr (.inl (fun j => shF (a 9 j))))))] s.heap := hP
  refine y_enter (A := A) hP (fun H hP hS => ?_)
  refine lv_aload_n hx hb dX4_refunded_0 rfl (lv_at hl 0 rfl) ?_
  refine va_get (D := (dC, dI)) (ci := 4) (v := .int (a 0 6)) (C := RX4) (T := TX4) (N := 11) hx hb hts hiX4 hown hK hP 0 rfl rfl 8 (by decide) (hts (.fieldLink RX4 155 "Payoutnet" "refunded" "I") (List.mem_of_getElem? (i := 1) rfl)) (fun _ h9 => h9) rfl dX4_refunded_1 ?_
  have hP9 := hP
  have hD9 := hD
  have hK9 := hK
  exact W.iret (v := a 0 6) hx hb hr (fun t ht hW => ⟨⟨a 0 6, (), rfl, rfl, atC_in hC (atW_end hP9 hD9 hK9 ht hW)⟩, hS.F ht⟩) hS.2.2 dX4_refunded_4
set_option maxHeartbeats 4000000 in
set_option maxRecDepth 100000 in
theorem c_X4_fees (l : Launch) (dC : Nat → ClassId) (dI : Nat → Nat → Nat) (cI cF : ClassId) (h0 : Nat) (q : Nat → Nat) (sz : Nat) (a : yA) (jc js jv : Nat → Int32) (k : Nat) (hC : okC a jc js jv k) (hB : okB a)  : Met l yX4_fees wsX4_fees ({ frames := 0, cells := 0, slots := 0, locals := 0 } : Room) (va_Pc [.ref h0] (pcW dC dI [(cI, .int), (cF, .float)] (WC cI cF h0 q a jc js jv k (capOf (nn (a 0 4)))) sz)) (va_Qi (fun (r : Int32) (_ : Unit) => r = a 0 7) (fun _ t => atC dC dI cI cF (va_A (WC cI cF h0 q a jc js jv k (capOf (nn (a 0 4)))) sz) h0 (a) t) (va_A (WC cI cF h0 q a jc js jv k (capOf (nn (a 0 4)))) sz)) 0 0 (va_A (WC cI cF h0 q a jc js jv k (capOf (nn (a 0 4)))) sz) := by
  refine Met.ofW (cc := cX4_fees) (maxL := 1) (ret := (some .int)) (by decide) rfl ?_
  intro p e s m args below meth c s₁ B hml hv
  obtain ⟨rfl, hsz, hP, hK, hD0⟩ := hv
  have hx := B.exec
  have hb := B.bytes
  have hr := B.returns
  have hts := atoms_spec (ws := wsX4_fees) B.pre
  have hown : s.vm.findClass RX4 = some m.cls := findClass_of_methodNamed B.named
  have hlocks := B.notSynchronized
  subst hsz
  have hD := hD0.self (sz := s.heap.size)
  generalize hAe : va_A [(h0, .inr (4, [.ref (q 1), .ref (q 10), .ref (q 18), .ref (q 22), .ref (q 26), .int (a 0 2), .int (a 0 1), .int (a 0 5), .int (a 0 6), .int (a 0 7), .int (a 0 8)])), (q 1, .inr (3, [.ref (q 2), .ref (q 3), .ref (q 4), .ref (q 5), .ref (q 6), .ref (q 7), .ref (q 8), .ref (q 9), .int (a 0 0)])), (q 2, .inl (cI, 8, .inl (a 1))), (q 3, .inl (cI, 8, .inl (a 2))), (q 4, .inl (cI, 8, .inl (a 3))), (q 5, .inl (cI, 8, .inl (a 4))), (q 6, .inl (cI, 8, .inl (a 5))), (q 7, .inl (cI, 8, .inl (a 6))), (q 8, .inl (cI, 8, .inl (a 7))), (q 9, .inl (cI, 8, .inl (a 8))), (q 10, .inr (2, [.ref (q 11), .ref (q 12), .ref (q 13), .ref (q 14), .ref (q 15), .ref (q 16), .ref (q 17), .int (a 0 3)])), (q 11, .inl (cI, 100, .inl (a 10))), (q 12, .inl (cF, 100, .inr (.inr (.inl (fun j => shF (a 13 j)))))), (q 13, .inl (cI, 100, .inl (a 14))), (q 14, .inl (cI, 100, .inl (fun j => a 11 j - a 12 j))), (q 15, .inl (cI, 100, .inl (fun j => a 15 j - a 16 j))), (q 16, .inl (cI, 100, .inl (a 17))), (q 17, .inl (cI, 100, .inl (a 18))), (q 18, .inr (1, [.ref (q 19), .ref (q 20), .ref (q 21), .int (a 0 4)])), (q 19, .inl (cI, capOf (nn (a 0 4)), .inl (a 20))), (q 20, .inl (cI, capOf (nn (a 0 4)), .inl (a 19))), (q 21, .inl (cI, capOf (nn (a 0 4)), .inl (a 21))), (q 22, .inr (0, [.ref (q 23), .ref (q 24), .ref (q 25), .int (nI k)])), (q 23, .inl (cI, 8, .inl (jc))), (q 24, .inl (cI, 256, .inl (js))), (q 25, .inl (cI, 256, .inl (jv))), (q 26, .inl (cF, 4, .inr (.inr (.inl (fun j => shF (a 9 j))))))] s.heap.size = A at hD ⊢
  have hA : ∀ q : Nat, s.heap.size ≤ q → A q := fun q h => by rw [← hAe]; exact Or.inr h
  have hS : va_S A s.heap s.heap [] := va_S.rf
  have hl := lv_entry ([.ref h0]) (n := 1) (Nat.le_of_ble_eq_true rfl)
  rw [lg_entry_eq]
  generalize (lg_sl ([.ref h0]) ++ List.replicate (1 - (lg_sl ([.ref h0])).length) Slot.unset).toArray = ls at hl ⊢
  have hl : lv_has ls 1 [(0, .ref h0)] := hl
  have hiX4 : ∀ w ∈ wsX40, w ∈ wsX4_fees := fun w h => List.mem_cons_of_mem _ (List.mem_append_right _ h)
  have hP : va_P (dC, dI) vwCl [(h0, .inr (4, [.ref (q 1), .ref (q 10), .ref (q 18), .ref (q 22), .ref (q 26), .int (a 0 2), .int (a 0 1), .int (a 0 5), .int (a 0 6), .int (a 0 7), .int (a 0 8)])), (q 1, .inr (3, [.ref (q 2), .ref (q 3), .ref (q 4), .ref (q 5), .ref (q 6), .ref (q 7), .ref (q 8), .ref (q 9), .int (a 0 0)])), (q 2, .inl (cI, 8, .inl (a 1))), (q 3, .inl (cI, 8, .inl (a 2))), (q 4, .inl (cI, 8, .inl (a 3))), (q 5, .inl (cI, 8, .inl (a 4))), (q 6, .inl (cI, 8, .inl (a 5))), (q 7, .inl (cI, 8, .inl (a 6))), (q 8, .inl (cI, 8, .inl (a 7))), (q 9, .inl (cI, 8, .inl (a 8))), (q 10, .inr (2, [.ref (q 11), .ref (q 12), .ref (q 13), .ref (q 14), .ref (q 15), .ref (q 16), .ref (q 17), .int (a 0 3)])), (q 11, .inl (cI, 100, .inl (a 10))), (q 12, .inl (cF, 100, .inr (.inr (.inl (fun j => shF (a 13 j)))))), (q 13, .inl (cI, 100, .inl (a 14))), (q 14, .inl (cI, 100, .inl (fun j => a 11 j - a 12 j))), (q 15, .inl (cI, 100, .inl (fun j => a 15 j - a 16 j))), (q 16, .inl (cI, 100, .inl (a 17))), (q 17, .inl (cI, 100, .inl (a 18))), (q 18, .inr (1, [.ref (q 19), .ref (q 20), .ref (q 21), .int (a 0 4)])), (q 19, .inl (cI, capOf (nn (a 0 4)), .inl (a 20))), (q 20, .inl (cI, capOf (nn (a 0 4)), .inl (a 19))), (q 21, .inl (cI, capOf (nn (a 0 4)), .inl (a 21))), (q 22, .inr (0, [.ref (q 23), .ref (q 24), .ref (q 25), .int (nI k)])), (q 23, .inl (cI, 8, .inl (jc))), (q 24, .inl (cI, 256, .inl (js))), (q 25, .inl (cI, 256, .inl (jv))), (q 26, .inl (cF, 4, .inr (.inr (.inl (fun j => shF (a 9 j))))))] s.heap := hP
  refine y_enter (A := A) hP (fun H hP hS => ?_)
  refine lv_aload_n hx hb dX4_fees_0 rfl (lv_at hl 0 rfl) ?_
  refine va_get (D := (dC, dI)) (ci := 4) (v := .int (a 0 7)) (C := RX4) (T := TX4) (N := 11) hx hb hts hiX4 hown hK hP 0 rfl rfl 9 (by decide) (hts (.fieldLink RX4 161 "Payoutnet" "fees" "I") (List.mem_of_getElem? (i := 1) rfl)) (fun _ h9 => h9) rfl dX4_fees_1 ?_
  have hP9 := hP
  have hD9 := hD
  have hK9 := hK
  exact W.iret (v := a 0 7) hx hb hr (fun t ht hW => ⟨⟨a 0 7, (), rfl, rfl, atC_in hC (atW_end hP9 hD9 hK9 ht hW)⟩, hS.F ht⟩) hS.2.2 dX4_fees_4
set_option maxHeartbeats 4000000 in
set_option maxRecDepth 100000 in
theorem c_X4_taxes (l : Launch) (dC : Nat → ClassId) (dI : Nat → Nat → Nat) (cI cF : ClassId) (h0 : Nat) (q : Nat → Nat) (sz : Nat) (a : yA) (jc js jv : Nat → Int32) (k : Nat) (hC : okC a jc js jv k) (hB : okB a)  : Met l yX4_taxes wsX4_taxes ({ frames := 0, cells := 0, slots := 0, locals := 0 } : Room) (va_Pc [.ref h0] (pcW dC dI [(cI, .int), (cF, .float)] (WC cI cF h0 q a jc js jv k (capOf (nn (a 0 4)))) sz)) (va_Qi (fun (r : Int32) (_ : Unit) => r = a 0 8) (fun _ t => atC dC dI cI cF (va_A (WC cI cF h0 q a jc js jv k (capOf (nn (a 0 4)))) sz) h0 (a) t) (va_A (WC cI cF h0 q a jc js jv k (capOf (nn (a 0 4)))) sz)) 0 0 (va_A (WC cI cF h0 q a jc js jv k (capOf (nn (a 0 4)))) sz) := by
  refine Met.ofW (cc := cX4_taxes) (maxL := 1) (ret := (some .int)) (by decide) rfl ?_
  intro p e s m args below meth c s₁ B hml hv
  obtain ⟨rfl, hsz, hP, hK, hD0⟩ := hv
  have hx := B.exec
  have hb := B.bytes
  have hr := B.returns
  have hts := atoms_spec (ws := wsX4_taxes) B.pre
  have hown : s.vm.findClass RX4 = some m.cls := findClass_of_methodNamed B.named
  have hlocks := B.notSynchronized
  subst hsz
  have hD := hD0.self (sz := s.heap.size)
  generalize hAe : va_A [(h0, .inr (4, [.ref (q 1), .ref (q 10), .ref (q 18), .ref (q 22), .ref (q 26), .int (a 0 2), .int (a 0 1), .int (a 0 5), .int (a 0 6), .int (a 0 7), .int (a 0 8)])), (q 1, .inr (3, [.ref (q 2), .ref (q 3), .ref (q 4), .ref (q 5), .ref (q 6), .ref (q 7), .ref (q 8), .ref (q 9), .int (a 0 0)])), (q 2, .inl (cI, 8, .inl (a 1))), (q 3, .inl (cI, 8, .inl (a 2))), (q 4, .inl (cI, 8, .inl (a 3))), (q 5, .inl (cI, 8, .inl (a 4))), (q 6, .inl (cI, 8, .inl (a 5))), (q 7, .inl (cI, 8, .inl (a 6))), (q 8, .inl (cI, 8, .inl (a 7))), (q 9, .inl (cI, 8, .inl (a 8))), (q 10, .inr (2, [.ref (q 11), .ref (q 12), .ref (q 13), .ref (q 14), .ref (q 15), .ref (q 16), .ref (q 17), .int (a 0 3)])), (q 11, .inl (cI, 100, .inl (a 10))), (q 12, .inl (cF, 100, .inr (.inr (.inl (fun j => shF (a 13 j)))))), (q 13, .inl (cI, 100, .inl (a 14))), (q 14, .inl (cI, 100, .inl (fun j => a 11 j - a 12 j))), (q 15, .inl (cI, 100, .inl (fun j => a 15 j - a 16 j))), (q 16, .inl (cI, 100, .inl (a 17))), (q 17, .inl (cI, 100, .inl (a 18))), (q 18, .inr (1, [.ref (q 19), .ref (q 20), .ref (q 21), .int (a 0 4)])), (q 19, .inl (cI, capOf (nn (a 0 4)), .inl (a 20))), (q 20, .inl (cI, capOf (nn (a 0 4)), .inl (a 19))), (q 21, .inl (cI, capOf (nn (a 0 4)), .inl (a 21))), (q 22, .inr (0, [.ref (q 23), .ref (q 24), .ref (q 25), .int (nI k)])), (q 23, .inl (cI, 8, .inl (jc))), (q 24, .inl (cI, 256, .inl (js))), (q 25, .inl (cI, 256, .inl (jv))), (q 26, .inl (cF, 4, .inr (.inr (.inl (fun j => shF (a 9 j))))))] s.heap.size = A at hD ⊢
  have hA : ∀ q : Nat, s.heap.size ≤ q → A q := fun q h => by rw [← hAe]; exact Or.inr h
  have hS : va_S A s.heap s.heap [] := va_S.rf
  have hl := lv_entry ([.ref h0]) (n := 1) (Nat.le_of_ble_eq_true rfl)
  rw [lg_entry_eq]
  generalize (lg_sl ([.ref h0]) ++ List.replicate (1 - (lg_sl ([.ref h0])).length) Slot.unset).toArray = ls at hl ⊢
  have hl : lv_has ls 1 [(0, .ref h0)] := hl
  have hiX4 : ∀ w ∈ wsX40, w ∈ wsX4_taxes := fun w h => List.mem_cons_of_mem _ (List.mem_append_right _ h)
  have hP : va_P (dC, dI) vwCl [(h0, .inr (4, [.ref (q 1), .ref (q 10), .ref (q 18), .ref (q 22), .ref (q 26), .int (a 0 2), .int (a 0 1), .int (a 0 5), .int (a 0 6), .int (a 0 7), .int (a 0 8)])), (q 1, .inr (3, [.ref (q 2), .ref (q 3), .ref (q 4), .ref (q 5), .ref (q 6), .ref (q 7), .ref (q 8), .ref (q 9), .int (a 0 0)])), (q 2, .inl (cI, 8, .inl (a 1))), (q 3, .inl (cI, 8, .inl (a 2))), (q 4, .inl (cI, 8, .inl (a 3))), (q 5, .inl (cI, 8, .inl (a 4))), (q 6, .inl (cI, 8, .inl (a 5))), (q 7, .inl (cI, 8, .inl (a 6))), (q 8, .inl (cI, 8, .inl (a 7))), (q 9, .inl (cI, 8, .inl (a 8))), (q 10, .inr (2, [.ref (q 11), .ref (q 12), .ref (q 13), .ref (q 14), .ref (q 15), .ref (q 16), .ref (q 17), .int (a 0 3)])), (q 11, .inl (cI, 100, .inl (a 10))), (q 12, .inl (cF, 100, .inr (.inr (.inl (fun j => shF (a 13 j)))))), (q 13, .inl (cI, 100, .inl (a 14))), (q 14, .inl (cI, 100, .inl (fun j => a 11 j - a 12 j))), (q 15, .inl (cI, 100, .inl (fun j => a 15 j - a 16 j))), (q 16, .inl (cI, 100, .inl (a 17))), (q 17, .inl (cI, 100, .inl (a 18))), (q 18, .inr (1, [.ref (q 19), .ref (q 20), .ref (q 21), .int (a 0 4)])), (q 19, .inl (cI, capOf (nn (a 0 4)), .inl (a 20))), (q 20, .inl (cI, capOf (nn (a 0 4)), .inl (a 19))), (q 21, .inl (cI, capOf (nn (a 0 4)), .inl (a 21))), (q 22, .inr (0, [.ref (q 23), .ref (q 24), .ref (q 25), .int (nI k)])), (q 23, .inl (cI, 8, .inl (jc))), (q 24, .inl (cI, 256, .inl (js))), (q 25, .inl (cI, 256, .inl (jv))), (q 26, .inl (cF, 4, .inr (.inr (.inl (fun j => shF (a 9 j))))))] s.heap := hP
  refine y_enter (A := A) hP (fun H hP hS => ?_)
  refine lv_aload_n hx hb dX4_taxes_0 rfl (lv_at hl 0 rfl) ?_
  refine va_get (D := (dC, dI)) (ci := 4) (v := .int (a 0 8)) (C := RX4) (T := TX4) (N := 11) hx hb hts hiX4 hown hK hP 0 rfl rfl 10 (by decide) (hts (.fieldLink RX4 158 "Payoutnet" "taxes" "I") (List.mem_of_getElem? (i := 1) rfl)) (fun _ h9 => h9) rfl dX4_taxes_1 ?_
  have hP9 := hP
  have hD9 := hD
  have hK9 := hK
  exact W.iret (v := a 0 8) hx hb hr (fun t ht hW => ⟨⟨a 0 8, (), rfl, rfl, atC_in hC (atW_end hP9 hD9 hK9 ht hW)⟩, hS.F ht⟩) hS.2.2 dX4_taxes_4
set_option maxHeartbeats 4000000 in
set_option maxRecDepth 100000 in
theorem c_X4_payout (l : Launch) (dC : Nat → ClassId) (dI : Nat → Nat → Nat) (cI cF : ClassId) (h0 : Nat) (q : Nat → Nat) (sz : Nat) (a : yA) (jc js jv : Nat → Int32) (k : Nat) (hst : l.stackTraces = false)  (hC : okC a jc js jv k) (hB : okB a) (x : Int32) : vx_Met l yX4_payout wsX4_payout ({ frames := 7, cells := 1, slots := 6, locals := 111 } : Room) (va_Pc [.ref h0, .int x] (pcV dC dI [(cI, .int), (cF, .float)] (WC cI cF h0 q a jc js jv k (capOf (nn (a 0 4)))) sz)) (va_Qi (fun (r : Int32) (_ : Unit) => kPay a x = 0 ∧ r = a 19 (nn x)) (fun _ t => atC dC dI cI cF (va_A (WC cI cF h0 q a jc js jv k (capOf (nn (a 0 4)))) sz) h0 (a) t) (va_A (WC cI cF h0 q a jc js jv k (capOf (nn (a 0 4)))) sz)) (vx_X (fun _ : Unit => kPay a x ≠ 0) (fun E _ t => E = eI (kPay a x) ∧ atC dC dI cI cF (va_A (WC cI cF h0 q a jc js jv k (capOf (nn (a 0 4)))) sz) h0 a t) (va_A (WC cI cF h0 q a jc js jv k (capOf (nn (a 0 4)))) sz)) (1) (6) (va_A (WC cI cF h0 q a jc js jv k (capOf (nn (a 0 4)))) sz) := by
  refine vx_ofW (cc := cX4_payout) (maxL := 2) (ret := (some .int)) (by decide) rfl ?_
  intro p e s m args below meth c s₁ B hml htab hv
  obtain ⟨rfl, ⟨hsz, hP, hK, hD0⟩, hV⟩ := hv
  have hx := B.exec
  have hb := B.bytes
  have hr := B.returns
  have hts := atoms_spec (ws := wsX4_payout) B.pre
  have hown : s.vm.findClass RX4 = some m.cls := findClass_of_methodNamed B.named
  have hlocks := B.notSynchronized
  subst hsz
  have hD := hD0.self (sz := s.heap.size)
  generalize hAe : va_A [(h0, .inr (4, [.ref (q 1), .ref (q 10), .ref (q 18), .ref (q 22), .ref (q 26), .int (a 0 2), .int (a 0 1), .int (a 0 5), .int (a 0 6), .int (a 0 7), .int (a 0 8)])), (q 1, .inr (3, [.ref (q 2), .ref (q 3), .ref (q 4), .ref (q 5), .ref (q 6), .ref (q 7), .ref (q 8), .ref (q 9), .int (a 0 0)])), (q 2, .inl (cI, 8, .inl (a 1))), (q 3, .inl (cI, 8, .inl (a 2))), (q 4, .inl (cI, 8, .inl (a 3))), (q 5, .inl (cI, 8, .inl (a 4))), (q 6, .inl (cI, 8, .inl (a 5))), (q 7, .inl (cI, 8, .inl (a 6))), (q 8, .inl (cI, 8, .inl (a 7))), (q 9, .inl (cI, 8, .inl (a 8))), (q 10, .inr (2, [.ref (q 11), .ref (q 12), .ref (q 13), .ref (q 14), .ref (q 15), .ref (q 16), .ref (q 17), .int (a 0 3)])), (q 11, .inl (cI, 100, .inl (a 10))), (q 12, .inl (cF, 100, .inr (.inr (.inl (fun j => shF (a 13 j)))))), (q 13, .inl (cI, 100, .inl (a 14))), (q 14, .inl (cI, 100, .inl (fun j => a 11 j - a 12 j))), (q 15, .inl (cI, 100, .inl (fun j => a 15 j - a 16 j))), (q 16, .inl (cI, 100, .inl (a 17))), (q 17, .inl (cI, 100, .inl (a 18))), (q 18, .inr (1, [.ref (q 19), .ref (q 20), .ref (q 21), .int (a 0 4)])), (q 19, .inl (cI, capOf (nn (a 0 4)), .inl (a 20))), (q 20, .inl (cI, capOf (nn (a 0 4)), .inl (a 19))), (q 21, .inl (cI, capOf (nn (a 0 4)), .inl (a 21))), (q 22, .inr (0, [.ref (q 23), .ref (q 24), .ref (q 25), .int (nI k)])), (q 23, .inl (cI, 8, .inl (jc))), (q 24, .inl (cI, 256, .inl (js))), (q 25, .inl (cI, 256, .inl (jv))), (q 26, .inl (cF, 4, .inr (.inr (.inl (fun j => shF (a 9 j))))))] s.heap.size = A at hD hV ⊢
  have hA : ∀ q : Nat, s.heap.size ≤ q → A q := fun q h => by rw [← hAe]; exact Or.inr h
  have hS : va_S A s.heap s.heap [] := va_S.rf
  have hl := lv_entry ([.ref h0, .int x]) (n := 2) (Nat.le_of_ble_eq_true rfl)
  rw [lg_entry_eq]
  generalize (lg_sl ([.ref h0, .int x]) ++ List.replicate (2 - (lg_sl ([.ref h0, .int x])).length) Slot.unset).toArray = ls at hl ⊢
  have hl : lv_has ls 2 [(0, .ref h0), (1, .int x)] := hl
  have hiX4 : ∀ w ∈ wsX40, w ∈ wsX4_payout := fun w h => List.mem_cons_of_mem _ (List.mem_append_left _ (List.mem_append_left _ (List.mem_append_right _ h)))
  have hiX1 : ∀ w ∈ wsX10, w ∈ wsX4_payout := fun w h => List.mem_cons_of_mem _ (List.mem_append_left _ (List.mem_append_right _ h))
  have hP : va_P (dC, dI) vwCl [(h0, .inr (4, [.ref (q 1), .ref (q 10), .ref (q 18), .ref (q 22), .ref (q 26), .int (a 0 2), .int (a 0 1), .int (a 0 5), .int (a 0 6), .int (a 0 7), .int (a 0 8)])), (q 1, .inr (3, [.ref (q 2), .ref (q 3), .ref (q 4), .ref (q 5), .ref (q 6), .ref (q 7), .ref (q 8), .ref (q 9), .int (a 0 0)])), (q 2, .inl (cI, 8, .inl (a 1))), (q 3, .inl (cI, 8, .inl (a 2))), (q 4, .inl (cI, 8, .inl (a 3))), (q 5, .inl (cI, 8, .inl (a 4))), (q 6, .inl (cI, 8, .inl (a 5))), (q 7, .inl (cI, 8, .inl (a 6))), (q 8, .inl (cI, 8, .inl (a 7))), (q 9, .inl (cI, 8, .inl (a 8))), (q 10, .inr (2, [.ref (q 11), .ref (q 12), .ref (q 13), .ref (q 14), .ref (q 15), .ref (q 16), .ref (q 17), .int (a 0 3)])), (q 11, .inl (cI, 100, .inl (a 10))), (q 12, .inl (cF, 100, .inr (.inr (.inl (fun j => shF (a 13 j)))))), (q 13, .inl (cI, 100, .inl (a 14))), (q 14, .inl (cI, 100, .inl (fun j => a 11 j - a 12 j))), (q 15, .inl (cI, 100, .inl (fun j => a 15 j - a 16 j))), (q 16, .inl (cI, 100, .inl (a 17))), (q 17, .inl (cI, 100, .inl (a 18))), (q 18, .inr (1, [.ref (q 19), .ref (q 20), .ref (q 21), .int (a 0 4)])), (q 19, .inl (cI, capOf (nn (a 0 4)), .inl (a 20))), (q 20, .inl (cI, capOf (nn (a 0 4)), .inl (a 19))), (q 21, .inl (cI, capOf (nn (a 0 4)), .inl (a 21))), (q 22, .inr (0, [.ref (q 23), .ref (q 24), .ref (q 25), .int (nI k)])), (q 23, .inl (cI, 8, .inl (jc))), (q 24, .inl (cI, 256, .inl (js))), (q 25, .inl (cI, 256, .inl (jv))), (q 26, .inl (cF, 4, .inr (.inr (.inl (fun j => shF (a 9 j))))))] s.heap := hP
  refine y_enter (A := A) hP (fun H hP hS => ?_)
  have hBk := hB
  refine lv_aload_n hx hb dX4_payout_0 rfl (lv_at hl 0 rfl) ?_
  refine lv_iload_n hx hb dX4_payout_1 rfl (lv_at hl 1 rfl) ?_
  have e1 : ¬ payOKn a x → kPay a x = 1 := fun h9 => if_neg h9
  have hFc := y_free hD hS hA
  refine vx_callv (vx_runV (As := [.int x]) (rest := []) ⟨hx, hb, hml, hown, hts⟩ (c_X4_requirePayout l dC dI cI cF h0 q H.size a jc js jv k hst hC hB x) (cwV 1 hts gX4_payout_X4_requirePayout rfl rfl rfl (by decide +kernel) ⟨Nat.le_of_ble_eq_true rfl, Nat.le_of_ble_eq_true rfl⟩) ⟨pcV_blind, va_recv hK hP (ci := 4) (q0 := 0) rfl rfl, fun U hU hW => pcV_pre hP hD hK hV hS hFc hU hW⟩ rfl rfl hl.1 rfl (lv_room (Nat.le_of_ble_eq_true rfl)) dX4_payout_2 ⟨Nat.le_of_ble_eq_true rfl, Nat.le_of_ble_eq_true rfl⟩) hS (fun q _ h => hFc q h) hFc (fun q _ h => hFc q h) (fun E ce q9 u t H1 locs ht hvm hw hBx hz1 hk1 hS hce hcv hcl => ?_) (fun u t H1 locs ht hvm hw hB1 hz1 hk1 hS => ?_)
  · obtain ⟨hE, qx, jcx, jsx, jvx, kx, hCx, hPx, hKx, hDx⟩ := hBx
    rw [ht] at hPx
    exact vx_out (fun x hx9 => (htab x hx9).elim) hlocks hce hcv hcl (fun t9 ht9 hvm9 => ⟨(), (by rw [e1 hw]; decide), ⟨(by rw [e1 hw]; exact hE), atC_in hCx (⟨by rw [ht9]; exact hPx, va_K.moved hvm9 hK, hDx.weaken (fun kk qq _ h => hFc qq.1 h)⟩)⟩, hS.F ht9⟩) hS.2.2 (Nat.le_of_ble_eq_true rfl) (Nat.le_of_ble_eq_true rfl)
  · obtain ⟨q1, jc1, js1, jv1, k1, hC1, hP, hK1, hD1⟩ := hB1
    rw [ht] at hP
    have hD := hD1.weaken (fun kk qq _ h => hFc qq.1 h)
    generalize H1 = H at hP hS ⊢
    have hC1 : okC (a) jc1 js1 jv1 k1 := hC1
    have hP : va_P (dC, dI) vwCl (WC cI cF h0 q1 a jc1 js1 jv1 k1 (capOf (nn (a 0 4)))) H := hP
    have hD : va_D A (WC cI cF h0 q1 a jc1 js1 jv1 k1 (capOf (nn (a 0 4)))) := hD
    have hw1 := hw
    have hwsel := hw1
    have e0 : kPay a x = 0 := if_pos hwsel
    have hx1 := nat_of (hB 0 4 1024 rfl) (by decide) hwsel.1 hwsel.2
    have hx8 : nn x < capOf (nn (a 0 4)) := Nat.lt_of_lt_of_le hx1.2 (capOf_ge (hB 0 4 1024 rfl).2)
    refine lv_aload_n hx hb dX4_payout_5 rfl (lv_at hl 0 rfl) ?_
    refine va_get (D := (dC, dI)) (ci := 4) (v := .ref (q1 18)) (C := RX4) (T := TX4) (N := 11) hx hb hts hiX4 hown hK hP 0 rfl rfl 2 (by decide) (hts (.fieldLink RX4 26 "Payoutnet" "paidOut" "LPayoutnet$Payouts;") (List.mem_of_getElem? (i := 1) rfl)) (fun _ h9 => h9) rfl dX4_payout_6 ?_
    refine va_get (D := (dC, dI)) (ci := 1) (v := .ref (q1 20)) (C := RX1) (T := TX1) (N := 4) hx hb hts hiX1 hown hK hP 18 rfl rfl 1 (by decide) (hts (.fieldLink RX4 189 "Payoutnet$Payouts" "cents" "[I") (List.mem_of_getElem? (i := 2) rfl)) (fun _ h9 => h9) rfl dX4_payout_9 ?_
    refine lv_iload_n hx hb dX4_payout_12 rfl (lv_at hl 1 rfl) ?_
    refine y_topi (y := nI (nn x)) hx1.1 ?_
    refine y_ild hx hb hK hP 20 0 rfl rfl (t := nn x) (by omega) (by have := capOf_le (nn (a 0 4)); omega) dX4_payout_13 ?_
    refine W.widen (k := 1) (n := 6) (Nat.le_of_ble_eq_true rfl) (Nat.le_of_ble_eq_true rfl) ?_
    have hP9 := hP
    have hD9 := hD
    have hK9 := hK
    refine vx_ret ?_
    exact W.iret (v := (a 19) (nn x)) hx hb hr (fun t ht hW => ⟨⟨(a 19) (nn x), (), rfl, ⟨e0, rfl⟩, atC_in hC1 (atW_end hP9 hD9 hK9 ht hW)⟩, hS.F ht⟩) hS.2.2 dX4_payout_14
set_option maxHeartbeats 4000000 in
set_option maxRecDepth 100000 in
theorem c_X4_sellerOf (l : Launch) (dC : Nat → ClassId) (dI : Nat → Nat → Nat) (cI cF : ClassId) (h0 : Nat) (q : Nat → Nat) (sz : Nat) (a : yA) (jc js jv : Nat → Int32) (k : Nat) (hst : l.stackTraces = false)  (hC : okC a jc js jv k) (hB : okB a) (x : Int32) : vx_Met l yX4_sellerOf wsX4_sellerOf ({ frames := 7, cells := 1, slots := 6, locals := 111 } : Room) (va_Pc [.ref h0, .int x] (pcV dC dI [(cI, .int), (cF, .float)] (WC cI cF h0 q a jc js jv k (capOf (nn (a 0 4)))) sz)) (va_Qi (fun (r : Int32) (_ : Unit) => kPay a x = 0 ∧ r = a 20 (nn x)) (fun _ t => atC dC dI cI cF (va_A (WC cI cF h0 q a jc js jv k (capOf (nn (a 0 4)))) sz) h0 (a) t) (va_A (WC cI cF h0 q a jc js jv k (capOf (nn (a 0 4)))) sz)) (vx_X (fun _ : Unit => kPay a x ≠ 0) (fun E _ t => E = eI (kPay a x) ∧ atC dC dI cI cF (va_A (WC cI cF h0 q a jc js jv k (capOf (nn (a 0 4)))) sz) h0 a t) (va_A (WC cI cF h0 q a jc js jv k (capOf (nn (a 0 4)))) sz)) (1) (6) (va_A (WC cI cF h0 q a jc js jv k (capOf (nn (a 0 4)))) sz) := by
  refine vx_ofW (cc := cX4_sellerOf) (maxL := 2) (ret := (some .int)) (by decide) rfl ?_
  intro p e s m args below meth c s₁ B hml htab hv
  obtain ⟨rfl, ⟨hsz, hP, hK, hD0⟩, hV⟩ := hv
  have hx := B.exec
  have hb := B.bytes
  have hr := B.returns
  have hts := atoms_spec (ws := wsX4_sellerOf) B.pre
  have hown : s.vm.findClass RX4 = some m.cls := findClass_of_methodNamed B.named
  have hlocks := B.notSynchronized
  subst hsz
  have hD := hD0.self (sz := s.heap.size)
  generalize hAe : va_A [(h0, .inr (4, [.ref (q 1), .ref (q 10), .ref (q 18), .ref (q 22), .ref (q 26), .int (a 0 2), .int (a 0 1), .int (a 0 5), .int (a 0 6), .int (a 0 7), .int (a 0 8)])), (q 1, .inr (3, [.ref (q 2), .ref (q 3), .ref (q 4), .ref (q 5), .ref (q 6), .ref (q 7), .ref (q 8), .ref (q 9), .int (a 0 0)])), (q 2, .inl (cI, 8, .inl (a 1))), (q 3, .inl (cI, 8, .inl (a 2))), (q 4, .inl (cI, 8, .inl (a 3))), (q 5, .inl (cI, 8, .inl (a 4))), (q 6, .inl (cI, 8, .inl (a 5))), (q 7, .inl (cI, 8, .inl (a 6))), (q 8, .inl (cI, 8, .inl (a 7))), (q 9, .inl (cI, 8, .inl (a 8))), (q 10, .inr (2, [.ref (q 11), .ref (q 12), .ref (q 13), .ref (q 14), .ref (q 15), .ref (q 16), .ref (q 17), .int (a 0 3)])), (q 11, .inl (cI, 100, .inl (a 10))), (q 12, .inl (cF, 100, .inr (.inr (.inl (fun j => shF (a 13 j)))))), (q 13, .inl (cI, 100, .inl (a 14))), (q 14, .inl (cI, 100, .inl (fun j => a 11 j - a 12 j))), (q 15, .inl (cI, 100, .inl (fun j => a 15 j - a 16 j))), (q 16, .inl (cI, 100, .inl (a 17))), (q 17, .inl (cI, 100, .inl (a 18))), (q 18, .inr (1, [.ref (q 19), .ref (q 20), .ref (q 21), .int (a 0 4)])), (q 19, .inl (cI, capOf (nn (a 0 4)), .inl (a 20))), (q 20, .inl (cI, capOf (nn (a 0 4)), .inl (a 19))), (q 21, .inl (cI, capOf (nn (a 0 4)), .inl (a 21))), (q 22, .inr (0, [.ref (q 23), .ref (q 24), .ref (q 25), .int (nI k)])), (q 23, .inl (cI, 8, .inl (jc))), (q 24, .inl (cI, 256, .inl (js))), (q 25, .inl (cI, 256, .inl (jv))), (q 26, .inl (cF, 4, .inr (.inr (.inl (fun j => shF (a 9 j))))))] s.heap.size = A at hD hV ⊢
  have hA : ∀ q : Nat, s.heap.size ≤ q → A q := fun q h => by rw [← hAe]; exact Or.inr h
  have hS : va_S A s.heap s.heap [] := va_S.rf
  have hl := lv_entry ([.ref h0, .int x]) (n := 2) (Nat.le_of_ble_eq_true rfl)
  rw [lg_entry_eq]
  generalize (lg_sl ([.ref h0, .int x]) ++ List.replicate (2 - (lg_sl ([.ref h0, .int x])).length) Slot.unset).toArray = ls at hl ⊢
  have hl : lv_has ls 2 [(0, .ref h0), (1, .int x)] := hl
  have hiX4 : ∀ w ∈ wsX40, w ∈ wsX4_sellerOf := fun w h => List.mem_cons_of_mem _ (List.mem_append_left _ (List.mem_append_left _ (List.mem_append_right _ h)))
  have hiX1 : ∀ w ∈ wsX10, w ∈ wsX4_sellerOf := fun w h => List.mem_cons_of_mem _ (List.mem_append_left _ (List.mem_append_right _ h))
  have hP : va_P (dC, dI) vwCl [(h0, .inr (4, [.ref (q 1), .ref (q 10), .ref (q 18), .ref (q 22), .ref (q 26), .int (a 0 2), .int (a 0 1), .int (a 0 5), .int (a 0 6), .int (a 0 7), .int (a 0 8)])), (q 1, .inr (3, [.ref (q 2), .ref (q 3), .ref (q 4), .ref (q 5), .ref (q 6), .ref (q 7), .ref (q 8), .ref (q 9), .int (a 0 0)])), (q 2, .inl (cI, 8, .inl (a 1))), (q 3, .inl (cI, 8, .inl (a 2))), (q 4, .inl (cI, 8, .inl (a 3))), (q 5, .inl (cI, 8, .inl (a 4))), (q 6, .inl (cI, 8, .inl (a 5))), (q 7, .inl (cI, 8, .inl (a 6))), (q 8, .inl (cI, 8, .inl (a 7))), (q 9, .inl (cI, 8, .inl (a 8))), (q 10, .inr (2, [.ref (q 11), .ref (q 12), .ref (q 13), .ref (q 14), .ref (q 15), .ref (q 16), .ref (q 17), .int (a 0 3)])), (q 11, .inl (cI, 100, .inl (a 10))), (q 12, .inl (cF, 100, .inr (.inr (.inl (fun j => shF (a 13 j)))))), (q 13, .inl (cI, 100, .inl (a 14))), (q 14, .inl (cI, 100, .inl (fun j => a 11 j - a 12 j))), (q 15, .inl (cI, 100, .inl (fun j => a 15 j - a 16 j))), (q 16, .inl (cI, 100, .inl (a 17))), (q 17, .inl (cI, 100, .inl (a 18))), (q 18, .inr (1, [.ref (q 19), .ref (q 20), .ref (q 21), .int (a 0 4)])), (q 19, .inl (cI, capOf (nn (a 0 4)), .inl (a 20))), (q 20, .inl (cI, capOf (nn (a 0 4)), .inl (a 19))), (q 21, .inl (cI, capOf (nn (a 0 4)), .inl (a 21))), (q 22, .inr (0, [.ref (q 23), .ref (q 24), .ref (q 25), .int (nI k)])), (q 23, .inl (cI, 8, .inl (jc))), (q 24, .inl (cI, 256, .inl (js))), (q 25, .inl (cI, 256, .inl (jv))), (q 26, .inl (cF, 4, .inr (.inr (.inl (fun j => shF (a 9 j))))))] s.heap := hP
  refine y_enter (A := A) hP (fun H hP hS => ?_)
  have hBk := hB
  refine lv_aload_n hx hb dX4_sellerOf_0 rfl (lv_at hl 0 rfl) ?_
  refine lv_iload_n hx hb dX4_sellerOf_1 rfl (lv_at hl 1 rfl) ?_
  have e1 : ¬ payOKn a x → kPay a x = 1 := fun h9 => if_neg h9
  have hFc := y_free hD hS hA
  refine vx_callv (vx_runV (As := [.int x]) (rest := []) ⟨hx, hb, hml, hown, hts⟩ (c_X4_requirePayout l dC dI cI cF h0 q H.size a jc js jv k hst hC hB x) (cwV 1 hts gX4_sellerOf_X4_requirePayout rfl rfl rfl (by decide +kernel) ⟨Nat.le_of_ble_eq_true rfl, Nat.le_of_ble_eq_true rfl⟩) ⟨pcV_blind, va_recv hK hP (ci := 4) (q0 := 0) rfl rfl, fun U hU hW => pcV_pre hP hD hK hV hS hFc hU hW⟩ rfl rfl hl.1 rfl (lv_room (Nat.le_of_ble_eq_true rfl)) dX4_sellerOf_2 ⟨Nat.le_of_ble_eq_true rfl, Nat.le_of_ble_eq_true rfl⟩) hS (fun q _ h => hFc q h) hFc (fun q _ h => hFc q h) (fun E ce q9 u t H1 locs ht hvm hw hBx hz1 hk1 hS hce hcv hcl => ?_) (fun u t H1 locs ht hvm hw hB1 hz1 hk1 hS => ?_)
  · obtain ⟨hE, qx, jcx, jsx, jvx, kx, hCx, hPx, hKx, hDx⟩ := hBx
    rw [ht] at hPx
    exact vx_out (fun x hx9 => (htab x hx9).elim) hlocks hce hcv hcl (fun t9 ht9 hvm9 => ⟨(), (by rw [e1 hw]; decide), ⟨(by rw [e1 hw]; exact hE), atC_in hCx (⟨by rw [ht9]; exact hPx, va_K.moved hvm9 hK, hDx.weaken (fun kk qq _ h => hFc qq.1 h)⟩)⟩, hS.F ht9⟩) hS.2.2 (Nat.le_of_ble_eq_true rfl) (Nat.le_of_ble_eq_true rfl)
  · obtain ⟨q1, jc1, js1, jv1, k1, hC1, hP, hK1, hD1⟩ := hB1
    rw [ht] at hP
    have hD := hD1.weaken (fun kk qq _ h => hFc qq.1 h)
    generalize H1 = H at hP hS ⊢
    have hC1 : okC (a) jc1 js1 jv1 k1 := hC1
    have hP : va_P (dC, dI) vwCl (WC cI cF h0 q1 a jc1 js1 jv1 k1 (capOf (nn (a 0 4)))) H := hP
    have hD : va_D A (WC cI cF h0 q1 a jc1 js1 jv1 k1 (capOf (nn (a 0 4)))) := hD
    have hw1 := hw
    have hwsel := hw1
    have e0 : kPay a x = 0 := if_pos hwsel
    have hx1 := nat_of (hB 0 4 1024 rfl) (by decide) hwsel.1 hwsel.2
    have hx8 : nn x < capOf (nn (a 0 4)) := Nat.lt_of_lt_of_le hx1.2 (capOf_ge (hB 0 4 1024 rfl).2)
    refine lv_aload_n hx hb dX4_sellerOf_5 rfl (lv_at hl 0 rfl) ?_
    refine va_get (D := (dC, dI)) (ci := 4) (v := .ref (q1 18)) (C := RX4) (T := TX4) (N := 11) hx hb hts hiX4 hown hK hP 0 rfl rfl 2 (by decide) (hts (.fieldLink RX4 26 "Payoutnet" "paidOut" "LPayoutnet$Payouts;") (List.mem_of_getElem? (i := 1) rfl)) (fun _ h9 => h9) rfl dX4_sellerOf_6 ?_
    refine va_get (D := (dC, dI)) (ci := 1) (v := .ref (q1 19)) (C := RX1) (T := TX1) (N := 4) hx hb hts hiX1 hown hK hP 18 rfl rfl 0 (by decide) (hts (.fieldLink RX4 188 "Payoutnet$Payouts" "seller" "[I") (List.mem_of_getElem? (i := 2) rfl)) (fun _ h9 => h9) rfl dX4_sellerOf_9 ?_
    refine lv_iload_n hx hb dX4_sellerOf_12 rfl (lv_at hl 1 rfl) ?_
    refine y_topi (y := nI (nn x)) hx1.1 ?_
    refine y_ild hx hb hK hP 19 0 rfl rfl (t := nn x) (by omega) (by have := capOf_le (nn (a 0 4)); omega) dX4_sellerOf_13 ?_
    refine W.widen (k := 1) (n := 6) (Nat.le_of_ble_eq_true rfl) (Nat.le_of_ble_eq_true rfl) ?_
    have hP9 := hP
    have hD9 := hD
    have hK9 := hK
    refine vx_ret ?_
    exact W.iret (v := (a 20) (nn x)) hx hb hr (fun t ht hW => ⟨⟨(a 20) (nn x), (), rfl, ⟨e0, rfl⟩, atC_in hC1 (atW_end hP9 hD9 hK9 ht hW)⟩, hS.F ht⟩) hS.2.2 dX4_sellerOf_14
set_option maxHeartbeats 4000000 in
set_option maxRecDepth 100000 in
theorem c_X4_balance (l : Launch) (dC : Nat → ClassId) (dI : Nat → Nat → Nat) (cI cF : ClassId) (h0 : Nat) (q : Nat → Nat) (sz : Nat) (a : yA) (jc js jv : Nat → Int32) (k : Nat) (hst : l.stackTraces = false)  (hC : okC a jc js jv k) (hB : okB a) (x : Int32) : vx_Met l yX4_balance wsX4_balance ({ frames := 7, cells := 1, slots := 6, locals := 111 } : Room) (va_Pc [.ref h0, .int x] (pcV dC dI [(cI, .int), (cF, .float)] (WC cI cF h0 q a jc js jv k (capOf (nn (a 0 4)))) sz)) (va_Qi (fun (r : Int32) (_ : Unit) => kSel a x = 0 ∧ r = a 7 (nn x)) (fun _ t => atC dC dI cI cF (va_A (WC cI cF h0 q a jc js jv k (capOf (nn (a 0 4)))) sz) h0 (a) t) (va_A (WC cI cF h0 q a jc js jv k (capOf (nn (a 0 4)))) sz)) (vx_X (fun _ : Unit => kSel a x ≠ 0) (fun E _ t => E = eI (kSel a x) ∧ atC dC dI cI cF (va_A (WC cI cF h0 q a jc js jv k (capOf (nn (a 0 4)))) sz) h0 a t) (va_A (WC cI cF h0 q a jc js jv k (capOf (nn (a 0 4)))) sz)) (1) (6) (va_A (WC cI cF h0 q a jc js jv k (capOf (nn (a 0 4)))) sz) := by
  refine vx_ofW (cc := cX4_balance) (maxL := 2) (ret := (some .int)) (by decide) rfl ?_
  intro p e s m args below meth c s₁ B hml htab hv
  obtain ⟨rfl, ⟨hsz, hP, hK, hD0⟩, hV⟩ := hv
  have hx := B.exec
  have hb := B.bytes
  have hr := B.returns
  have hts := atoms_spec (ws := wsX4_balance) B.pre
  have hown : s.vm.findClass RX4 = some m.cls := findClass_of_methodNamed B.named
  have hlocks := B.notSynchronized
  subst hsz
  have hD := hD0.self (sz := s.heap.size)
  generalize hAe : va_A [(h0, .inr (4, [.ref (q 1), .ref (q 10), .ref (q 18), .ref (q 22), .ref (q 26), .int (a 0 2), .int (a 0 1), .int (a 0 5), .int (a 0 6), .int (a 0 7), .int (a 0 8)])), (q 1, .inr (3, [.ref (q 2), .ref (q 3), .ref (q 4), .ref (q 5), .ref (q 6), .ref (q 7), .ref (q 8), .ref (q 9), .int (a 0 0)])), (q 2, .inl (cI, 8, .inl (a 1))), (q 3, .inl (cI, 8, .inl (a 2))), (q 4, .inl (cI, 8, .inl (a 3))), (q 5, .inl (cI, 8, .inl (a 4))), (q 6, .inl (cI, 8, .inl (a 5))), (q 7, .inl (cI, 8, .inl (a 6))), (q 8, .inl (cI, 8, .inl (a 7))), (q 9, .inl (cI, 8, .inl (a 8))), (q 10, .inr (2, [.ref (q 11), .ref (q 12), .ref (q 13), .ref (q 14), .ref (q 15), .ref (q 16), .ref (q 17), .int (a 0 3)])), (q 11, .inl (cI, 100, .inl (a 10))), (q 12, .inl (cF, 100, .inr (.inr (.inl (fun j => shF (a 13 j)))))), (q 13, .inl (cI, 100, .inl (a 14))), (q 14, .inl (cI, 100, .inl (fun j => a 11 j - a 12 j))), (q 15, .inl (cI, 100, .inl (fun j => a 15 j - a 16 j))), (q 16, .inl (cI, 100, .inl (a 17))), (q 17, .inl (cI, 100, .inl (a 18))), (q 18, .inr (1, [.ref (q 19), .ref (q 20), .ref (q 21), .int (a 0 4)])), (q 19, .inl (cI, capOf (nn (a 0 4)), .inl (a 20))), (q 20, .inl (cI, capOf (nn (a 0 4)), .inl (a 19))), (q 21, .inl (cI, capOf (nn (a 0 4)), .inl (a 21))), (q 22, .inr (0, [.ref (q 23), .ref (q 24), .ref (q 25), .int (nI k)])), (q 23, .inl (cI, 8, .inl (jc))), (q 24, .inl (cI, 256, .inl (js))), (q 25, .inl (cI, 256, .inl (jv))), (q 26, .inl (cF, 4, .inr (.inr (.inl (fun j => shF (a 9 j))))))] s.heap.size = A at hD hV ⊢
  have hA : ∀ q : Nat, s.heap.size ≤ q → A q := fun q h => by rw [← hAe]; exact Or.inr h
  have hS : va_S A s.heap s.heap [] := va_S.rf
  have hl := lv_entry ([.ref h0, .int x]) (n := 2) (Nat.le_of_ble_eq_true rfl)
  rw [lg_entry_eq]
  generalize (lg_sl ([.ref h0, .int x]) ++ List.replicate (2 - (lg_sl ([.ref h0, .int x])).length) Slot.unset).toArray = ls at hl ⊢
  have hl : lv_has ls 2 [(0, .ref h0), (1, .int x)] := hl
  have hiX4 : ∀ w ∈ wsX40, w ∈ wsX4_balance := fun w h => List.mem_cons_of_mem _ (List.mem_append_left _ (List.mem_append_left _ (List.mem_append_right _ h)))
  have hiX3 : ∀ w ∈ wsX30, w ∈ wsX4_balance := fun w h => List.mem_cons_of_mem _ (List.mem_append_left _ (List.mem_append_right _ h))
  have hP : va_P (dC, dI) vwCl [(h0, .inr (4, [.ref (q 1), .ref (q 10), .ref (q 18), .ref (q 22), .ref (q 26), .int (a 0 2), .int (a 0 1), .int (a 0 5), .int (a 0 6), .int (a 0 7), .int (a 0 8)])), (q 1, .inr (3, [.ref (q 2), .ref (q 3), .ref (q 4), .ref (q 5), .ref (q 6), .ref (q 7), .ref (q 8), .ref (q 9), .int (a 0 0)])), (q 2, .inl (cI, 8, .inl (a 1))), (q 3, .inl (cI, 8, .inl (a 2))), (q 4, .inl (cI, 8, .inl (a 3))), (q 5, .inl (cI, 8, .inl (a 4))), (q 6, .inl (cI, 8, .inl (a 5))), (q 7, .inl (cI, 8, .inl (a 6))), (q 8, .inl (cI, 8, .inl (a 7))), (q 9, .inl (cI, 8, .inl (a 8))), (q 10, .inr (2, [.ref (q 11), .ref (q 12), .ref (q 13), .ref (q 14), .ref (q 15), .ref (q 16), .ref (q 17), .int (a 0 3)])), (q 11, .inl (cI, 100, .inl (a 10))), (q 12, .inl (cF, 100, .inr (.inr (.inl (fun j => shF (a 13 j)))))), (q 13, .inl (cI, 100, .inl (a 14))), (q 14, .inl (cI, 100, .inl (fun j => a 11 j - a 12 j))), (q 15, .inl (cI, 100, .inl (fun j => a 15 j - a 16 j))), (q 16, .inl (cI, 100, .inl (a 17))), (q 17, .inl (cI, 100, .inl (a 18))), (q 18, .inr (1, [.ref (q 19), .ref (q 20), .ref (q 21), .int (a 0 4)])), (q 19, .inl (cI, capOf (nn (a 0 4)), .inl (a 20))), (q 20, .inl (cI, capOf (nn (a 0 4)), .inl (a 19))), (q 21, .inl (cI, capOf (nn (a 0 4)), .inl (a 21))), (q 22, .inr (0, [.ref (q 23), .ref (q 24), .ref (q 25), .int (nI k)])), (q 23, .inl (cI, 8, .inl (jc))), (q 24, .inl (cI, 256, .inl (js))), (q 25, .inl (cI, 256, .inl (jv))), (q 26, .inl (cF, 4, .inr (.inr (.inl (fun j => shF (a 9 j))))))] s.heap := hP
  refine y_enter (A := A) hP (fun H hP hS => ?_)
  have hBk := hB
  refine lv_aload_n hx hb dX4_balance_0 rfl (lv_at hl 0 rfl) ?_
  refine lv_iload_n hx hb dX4_balance_1 rfl (lv_at hl 1 rfl) ?_
  have e1 : ¬ selOK a x → kSel a x = 1 := fun h9 => if_neg h9
  have hFc := y_free hD hS hA
  refine vx_callv (vx_runV (As := [.int x]) (rest := []) ⟨hx, hb, hml, hown, hts⟩ (c_X4_requireSeller l dC dI cI cF h0 q H.size a jc js jv k hst hC hB x) (cwV 1 hts gX4_balance_X4_requireSeller rfl rfl rfl (by decide +kernel) ⟨Nat.le_of_ble_eq_true rfl, Nat.le_of_ble_eq_true rfl⟩) ⟨pcV_blind, va_recv hK hP (ci := 4) (q0 := 0) rfl rfl, fun U hU hW => pcV_pre hP hD hK hV hS hFc hU hW⟩ rfl rfl hl.1 rfl (lv_room (Nat.le_of_ble_eq_true rfl)) dX4_balance_2 ⟨Nat.le_of_ble_eq_true rfl, Nat.le_of_ble_eq_true rfl⟩) hS (fun q _ h => hFc q h) hFc (fun q _ h => hFc q h) (fun E ce q9 u t H1 locs ht hvm hw hBx hz1 hk1 hS hce hcv hcl => ?_) (fun u t H1 locs ht hvm hw hB1 hz1 hk1 hS => ?_)
  · obtain ⟨hE, qx, jcx, jsx, jvx, kx, hCx, hPx, hKx, hDx⟩ := hBx
    rw [ht] at hPx
    exact vx_out (fun x hx9 => (htab x hx9).elim) hlocks hce hcv hcl (fun t9 ht9 hvm9 => ⟨(), (by rw [e1 hw]; decide), ⟨(by rw [e1 hw]; exact hE), atC_in hCx (⟨by rw [ht9]; exact hPx, va_K.moved hvm9 hK, hDx.weaken (fun kk qq _ h => hFc qq.1 h)⟩)⟩, hS.F ht9⟩) hS.2.2 (Nat.le_of_ble_eq_true rfl) (Nat.le_of_ble_eq_true rfl)
  · obtain ⟨q1, jc1, js1, jv1, k1, hC1, hP, hK1, hD1⟩ := hB1
    rw [ht] at hP
    have hD := hD1.weaken (fun kk qq _ h => hFc qq.1 h)
    generalize H1 = H at hP hS ⊢
    have hC1 : okC (a) jc1 js1 jv1 k1 := hC1
    have hP : va_P (dC, dI) vwCl (WC cI cF h0 q1 a jc1 js1 jv1 k1 (capOf (nn (a 0 4)))) H := hP
    have hD : va_D A (WC cI cF h0 q1 a jc1 js1 jv1 k1 (capOf (nn (a 0 4)))) := hD
    have hw1 := hw
    have hwsel := hw1
    have e0 : kSel a x = 0 := if_pos hwsel
    have hx1 := nat_of (hB 0 0 8 rfl) (by decide) hwsel.1 hwsel.2
    have hx8 : nn x < 8 := Nat.lt_of_lt_of_le hx1.2 (hB 0 0 8 rfl).2
    refine lv_aload_n hx hb dX4_balance_5 rfl (lv_at hl 0 rfl) ?_
    refine va_get (D := (dC, dI)) (ci := 4) (v := .ref (q1 1)) (C := RX4) (T := TX4) (N := 11) hx hb hts hiX4 hown hK hP 0 rfl rfl 0 (by decide) (hts (.fieldLink RX4 10 "Payoutnet" "shops" "LPayoutnet$Shops;") (List.mem_of_getElem? (i := 1) rfl)) (fun _ h9 => h9) rfl dX4_balance_6 ?_
    refine va_get (D := (dC, dI)) (ci := 3) (v := .ref (q1 8)) (C := RX3) (T := TX3) (N := 9) hx hb hts hiX3 hown hK hP 1 rfl rfl 6 (by decide) (hts (.fieldLink RX4 168 "Payoutnet$Shops" "balance" "[I") (List.mem_of_getElem? (i := 2) rfl)) (fun _ h9 => h9) rfl dX4_balance_9 ?_
    refine lv_iload_n hx hb dX4_balance_12 rfl (lv_at hl 1 rfl) ?_
    refine y_topi (y := nI (nn x)) hx1.1 ?_
    refine y_ild hx hb hK hP 8 0 rfl rfl (t := nn x) (by omega) (Nat.le_of_ble_eq_true rfl) dX4_balance_13 ?_
    refine W.widen (k := 1) (n := 6) (Nat.le_of_ble_eq_true rfl) (Nat.le_of_ble_eq_true rfl) ?_
    have hP9 := hP
    have hD9 := hD
    have hK9 := hK
    refine vx_ret ?_
    exact W.iret (v := (a 7) (nn x)) hx hb hr (fun t ht hW => ⟨⟨(a 7) (nn x), (), rfl, ⟨e0, rfl⟩, atC_in hC1 (atW_end hP9 hD9 hK9 ht hW)⟩, hS.F ht⟩) hS.2.2 dX4_balance_14
set_option maxHeartbeats 4000000 in
set_option maxRecDepth 100000 in
theorem c_X4_paidTo (l : Launch) (dC : Nat → ClassId) (dI : Nat → Nat → Nat) (cI cF : ClassId) (h0 : Nat) (q : Nat → Nat) (sz : Nat) (a : yA) (jc js jv : Nat → Int32) (k : Nat) (hst : l.stackTraces = false)  (hC : okC a jc js jv k) (hB : okB a) (x : Int32) : vx_Met l yX4_paidTo wsX4_paidTo ({ frames := 7, cells := 1, slots := 6, locals := 111 } : Room) (va_Pc [.ref h0, .int x] (pcV dC dI [(cI, .int), (cF, .float)] (WC cI cF h0 q a jc js jv k (capOf (nn (a 0 4)))) sz)) (va_Qi (fun (r : Int32) (_ : Unit) => kSel a x = 0 ∧ r = a 8 (nn x)) (fun _ t => atC dC dI cI cF (va_A (WC cI cF h0 q a jc js jv k (capOf (nn (a 0 4)))) sz) h0 (a) t) (va_A (WC cI cF h0 q a jc js jv k (capOf (nn (a 0 4)))) sz)) (vx_X (fun _ : Unit => kSel a x ≠ 0) (fun E _ t => E = eI (kSel a x) ∧ atC dC dI cI cF (va_A (WC cI cF h0 q a jc js jv k (capOf (nn (a 0 4)))) sz) h0 a t) (va_A (WC cI cF h0 q a jc js jv k (capOf (nn (a 0 4)))) sz)) (1) (6) (va_A (WC cI cF h0 q a jc js jv k (capOf (nn (a 0 4)))) sz) := by
  refine vx_ofW (cc := cX4_paidTo) (maxL := 2) (ret := (some .int)) (by decide) rfl ?_
  intro p e s m args below meth c s₁ B hml htab hv
  obtain ⟨rfl, ⟨hsz, hP, hK, hD0⟩, hV⟩ := hv
  have hx := B.exec
  have hb := B.bytes
  have hr := B.returns
  have hts := atoms_spec (ws := wsX4_paidTo) B.pre
  have hown : s.vm.findClass RX4 = some m.cls := findClass_of_methodNamed B.named
  have hlocks := B.notSynchronized
  subst hsz
  have hD := hD0.self (sz := s.heap.size)
  generalize hAe : va_A [(h0, .inr (4, [.ref (q 1), .ref (q 10), .ref (q 18), .ref (q 22), .ref (q 26), .int (a 0 2), .int (a 0 1), .int (a 0 5), .int (a 0 6), .int (a 0 7), .int (a 0 8)])), (q 1, .inr (3, [.ref (q 2), .ref (q 3), .ref (q 4), .ref (q 5), .ref (q 6), .ref (q 7), .ref (q 8), .ref (q 9), .int (a 0 0)])), (q 2, .inl (cI, 8, .inl (a 1))), (q 3, .inl (cI, 8, .inl (a 2))), (q 4, .inl (cI, 8, .inl (a 3))), (q 5, .inl (cI, 8, .inl (a 4))), (q 6, .inl (cI, 8, .inl (a 5))), (q 7, .inl (cI, 8, .inl (a 6))), (q 8, .inl (cI, 8, .inl (a 7))), (q 9, .inl (cI, 8, .inl (a 8))), (q 10, .inr (2, [.ref (q 11), .ref (q 12), .ref (q 13), .ref (q 14), .ref (q 15), .ref (q 16), .ref (q 17), .int (a 0 3)])), (q 11, .inl (cI, 100, .inl (a 10))), (q 12, .inl (cF, 100, .inr (.inr (.inl (fun j => shF (a 13 j)))))), (q 13, .inl (cI, 100, .inl (a 14))), (q 14, .inl (cI, 100, .inl (fun j => a 11 j - a 12 j))), (q 15, .inl (cI, 100, .inl (fun j => a 15 j - a 16 j))), (q 16, .inl (cI, 100, .inl (a 17))), (q 17, .inl (cI, 100, .inl (a 18))), (q 18, .inr (1, [.ref (q 19), .ref (q 20), .ref (q 21), .int (a 0 4)])), (q 19, .inl (cI, capOf (nn (a 0 4)), .inl (a 20))), (q 20, .inl (cI, capOf (nn (a 0 4)), .inl (a 19))), (q 21, .inl (cI, capOf (nn (a 0 4)), .inl (a 21))), (q 22, .inr (0, [.ref (q 23), .ref (q 24), .ref (q 25), .int (nI k)])), (q 23, .inl (cI, 8, .inl (jc))), (q 24, .inl (cI, 256, .inl (js))), (q 25, .inl (cI, 256, .inl (jv))), (q 26, .inl (cF, 4, .inr (.inr (.inl (fun j => shF (a 9 j))))))] s.heap.size = A at hD hV ⊢
  have hA : ∀ q : Nat, s.heap.size ≤ q → A q := fun q h => by rw [← hAe]; exact Or.inr h
  have hS : va_S A s.heap s.heap [] := va_S.rf
  have hl := lv_entry ([.ref h0, .int x]) (n := 2) (Nat.le_of_ble_eq_true rfl)
  rw [lg_entry_eq]
  generalize (lg_sl ([.ref h0, .int x]) ++ List.replicate (2 - (lg_sl ([.ref h0, .int x])).length) Slot.unset).toArray = ls at hl ⊢
  have hl : lv_has ls 2 [(0, .ref h0), (1, .int x)] := hl
  have hiX4 : ∀ w ∈ wsX40, w ∈ wsX4_paidTo := fun w h => List.mem_cons_of_mem _ (List.mem_append_left _ (List.mem_append_left _ (List.mem_append_right _ h)))
  have hiX3 : ∀ w ∈ wsX30, w ∈ wsX4_paidTo := fun w h => List.mem_cons_of_mem _ (List.mem_append_left _ (List.mem_append_right _ h))
  have hP : va_P (dC, dI) vwCl [(h0, .inr (4, [.ref (q 1), .ref (q 10), .ref (q 18), .ref (q 22), .ref (q 26), .int (a 0 2), .int (a 0 1), .int (a 0 5), .int (a 0 6), .int (a 0 7), .int (a 0 8)])), (q 1, .inr (3, [.ref (q 2), .ref (q 3), .ref (q 4), .ref (q 5), .ref (q 6), .ref (q 7), .ref (q 8), .ref (q 9), .int (a 0 0)])), (q 2, .inl (cI, 8, .inl (a 1))), (q 3, .inl (cI, 8, .inl (a 2))), (q 4, .inl (cI, 8, .inl (a 3))), (q 5, .inl (cI, 8, .inl (a 4))), (q 6, .inl (cI, 8, .inl (a 5))), (q 7, .inl (cI, 8, .inl (a 6))), (q 8, .inl (cI, 8, .inl (a 7))), (q 9, .inl (cI, 8, .inl (a 8))), (q 10, .inr (2, [.ref (q 11), .ref (q 12), .ref (q 13), .ref (q 14), .ref (q 15), .ref (q 16), .ref (q 17), .int (a 0 3)])), (q 11, .inl (cI, 100, .inl (a 10))), (q 12, .inl (cF, 100, .inr (.inr (.inl (fun j => shF (a 13 j)))))), (q 13, .inl (cI, 100, .inl (a 14))), (q 14, .inl (cI, 100, .inl (fun j => a 11 j - a 12 j))), (q 15, .inl (cI, 100, .inl (fun j => a 15 j - a 16 j))), (q 16, .inl (cI, 100, .inl (a 17))), (q 17, .inl (cI, 100, .inl (a 18))), (q 18, .inr (1, [.ref (q 19), .ref (q 20), .ref (q 21), .int (a 0 4)])), (q 19, .inl (cI, capOf (nn (a 0 4)), .inl (a 20))), (q 20, .inl (cI, capOf (nn (a 0 4)), .inl (a 19))), (q 21, .inl (cI, capOf (nn (a 0 4)), .inl (a 21))), (q 22, .inr (0, [.ref (q 23), .ref (q 24), .ref (q 25), .int (nI k)])), (q 23, .inl (cI, 8, .inl (jc))), (q 24, .inl (cI, 256, .inl (js))), (q 25, .inl (cI, 256, .inl (jv))), (q 26, .inl (cF, 4, .inr (.inr (.inl (fun j => shF (a 9 j))))))] s.heap := hP
  refine y_enter (A := A) hP (fun H hP hS => ?_)
  have hBk := hB
  refine lv_aload_n hx hb dX4_paidTo_0 rfl (lv_at hl 0 rfl) ?_
  refine lv_iload_n hx hb dX4_paidTo_1 rfl (lv_at hl 1 rfl) ?_
  have e1 : ¬ selOK a x → kSel a x = 1 := fun h9 => if_neg h9
  have hFc := y_free hD hS hA
  refine vx_callv (vx_runV (As := [.int x]) (rest := []) ⟨hx, hb, hml, hown, hts⟩ (c_X4_requireSeller l dC dI cI cF h0 q H.size a jc js jv k hst hC hB x) (cwV 1 hts gX4_paidTo_X4_requireSeller rfl rfl rfl (by decide +kernel) ⟨Nat.le_of_ble_eq_true rfl, Nat.le_of_ble_eq_true rfl⟩) ⟨pcV_blind, va_recv hK hP (ci := 4) (q0 := 0) rfl rfl, fun U hU hW => pcV_pre hP hD hK hV hS hFc hU hW⟩ rfl rfl hl.1 rfl (lv_room (Nat.le_of_ble_eq_true rfl)) dX4_paidTo_2 ⟨Nat.le_of_ble_eq_true rfl, Nat.le_of_ble_eq_true rfl⟩) hS (fun q _ h => hFc q h) hFc (fun q _ h => hFc q h) (fun E ce q9 u t H1 locs ht hvm hw hBx hz1 hk1 hS hce hcv hcl => ?_) (fun u t H1 locs ht hvm hw hB1 hz1 hk1 hS => ?_)
  · obtain ⟨hE, qx, jcx, jsx, jvx, kx, hCx, hPx, hKx, hDx⟩ := hBx
    rw [ht] at hPx
    exact vx_out (fun x hx9 => (htab x hx9).elim) hlocks hce hcv hcl (fun t9 ht9 hvm9 => ⟨(), (by rw [e1 hw]; decide), ⟨(by rw [e1 hw]; exact hE), atC_in hCx (⟨by rw [ht9]; exact hPx, va_K.moved hvm9 hK, hDx.weaken (fun kk qq _ h => hFc qq.1 h)⟩)⟩, hS.F ht9⟩) hS.2.2 (Nat.le_of_ble_eq_true rfl) (Nat.le_of_ble_eq_true rfl)
  · obtain ⟨q1, jc1, js1, jv1, k1, hC1, hP, hK1, hD1⟩ := hB1
    rw [ht] at hP
    have hD := hD1.weaken (fun kk qq _ h => hFc qq.1 h)
    generalize H1 = H at hP hS ⊢
    have hC1 : okC (a) jc1 js1 jv1 k1 := hC1
    have hP : va_P (dC, dI) vwCl (WC cI cF h0 q1 a jc1 js1 jv1 k1 (capOf (nn (a 0 4)))) H := hP
    have hD : va_D A (WC cI cF h0 q1 a jc1 js1 jv1 k1 (capOf (nn (a 0 4)))) := hD
    have hw1 := hw
    have hwsel := hw1
    have e0 : kSel a x = 0 := if_pos hwsel
    have hx1 := nat_of (hB 0 0 8 rfl) (by decide) hwsel.1 hwsel.2
    have hx8 : nn x < 8 := Nat.lt_of_lt_of_le hx1.2 (hB 0 0 8 rfl).2
    refine lv_aload_n hx hb dX4_paidTo_5 rfl (lv_at hl 0 rfl) ?_
    refine va_get (D := (dC, dI)) (ci := 4) (v := .ref (q1 1)) (C := RX4) (T := TX4) (N := 11) hx hb hts hiX4 hown hK hP 0 rfl rfl 0 (by decide) (hts (.fieldLink RX4 10 "Payoutnet" "shops" "LPayoutnet$Shops;") (List.mem_of_getElem? (i := 1) rfl)) (fun _ h9 => h9) rfl dX4_paidTo_6 ?_
    refine va_get (D := (dC, dI)) (ci := 3) (v := .ref (q1 9)) (C := RX3) (T := TX3) (N := 9) hx hb hts hiX3 hown hK hP 1 rfl rfl 7 (by decide) (hts (.fieldLink RX4 192 "Payoutnet$Shops" "paid" "[I") (List.mem_of_getElem? (i := 2) rfl)) (fun _ h9 => h9) rfl dX4_paidTo_9 ?_
    refine lv_iload_n hx hb dX4_paidTo_12 rfl (lv_at hl 1 rfl) ?_
    refine y_topi (y := nI (nn x)) hx1.1 ?_
    refine y_ild hx hb hK hP 9 0 rfl rfl (t := nn x) (by omega) (Nat.le_of_ble_eq_true rfl) dX4_paidTo_13 ?_
    refine W.widen (k := 1) (n := 6) (Nat.le_of_ble_eq_true rfl) (Nat.le_of_ble_eq_true rfl) ?_
    have hP9 := hP
    have hD9 := hD
    have hK9 := hK
    refine vx_ret ?_
    exact W.iret (v := (a 8) (nn x)) hx hb hr (fun t ht hW => ⟨⟨(a 8) (nn x), (), rfl, ⟨e0, rfl⟩, atC_in hC1 (atW_end hP9 hD9 hK9 ht hW)⟩, hS.F ht⟩) hS.2.2 dX4_paidTo_14
set_option maxHeartbeats 4000000 in
set_option maxRecDepth 100000 in
theorem c_X4_balanceByEntries (l : Launch) (dC : Nat → ClassId) (dI : Nat → Nat → Nat) (cI cF : ClassId) (h0 : Nat) (q : Nat → Nat) (sz : Nat) (a : yA) (jc js jv : Nat → Int32) (k : Nat) (hst : l.stackTraces = false)  (hC : okC a jc js jv k) (hB : okB a) (x : Int32) : vx_Met l yX4_balanceByEntries wsX4_balanceByEntries ({ frames := 7, cells := 1, slots := 6, locals := 111 } : Room) (va_Pc [.ref h0, .int x] (pcV dC dI [(cI, .int), (cF, .float)] (WC cI cF h0 q a jc js jv k (capOf (nn (a 0 4)))) sz)) (va_Qi (fun (r : Int32) (_ : Unit) => kSel a x = 0 ∧ r = a 7 (nn x)) (fun _ t => atC dC dI cI cF (va_A (WC cI cF h0 q a jc js jv k (capOf (nn (a 0 4)))) sz) h0 (a) t) (va_A (WC cI cF h0 q a jc js jv k (capOf (nn (a 0 4)))) sz)) (vx_X (fun _ : Unit => kSel a x ≠ 0) (fun E _ t => E = eI (kSel a x) ∧ atC dC dI cI cF (va_A (WC cI cF h0 q a jc js jv k (capOf (nn (a 0 4)))) sz) h0 a t) (va_A (WC cI cF h0 q a jc js jv k (capOf (nn (a 0 4)))) sz)) (1) (6) (va_A (WC cI cF h0 q a jc js jv k (capOf (nn (a 0 4)))) sz) := by
  refine vx_ofW (cc := cX4_balanceByEntries) (maxL := 2) (ret := (some .int)) (by decide) rfl ?_
  intro p e s m args below meth c s₁ B hml htab hv
  obtain ⟨rfl, ⟨hsz, hP, hK, hD0⟩, hV⟩ := hv
  have hx := B.exec
  have hb := B.bytes
  have hr := B.returns
  have hts := atoms_spec (ws := wsX4_balanceByEntries) B.pre
  have hown : s.vm.findClass RX4 = some m.cls := findClass_of_methodNamed B.named
  have hlocks := B.notSynchronized
  subst hsz
  have hD := hD0.self (sz := s.heap.size)
  generalize hAe : va_A [(h0, .inr (4, [.ref (q 1), .ref (q 10), .ref (q 18), .ref (q 22), .ref (q 26), .int (a 0 2), .int (a 0 1), .int (a 0 5), .int (a 0 6), .int (a 0 7), .int (a 0 8)])), (q 1, .inr (3, [.ref (q 2), .ref (q 3), .ref (q 4), .ref (q 5), .ref (q 6), .ref (q 7), .ref (q 8), .ref (q 9), .int (a 0 0)])), (q 2, .inl (cI, 8, .inl (a 1))), (q 3, .inl (cI, 8, .inl (a 2))), (q 4, .inl (cI, 8, .inl (a 3))), (q 5, .inl (cI, 8, .inl (a 4))), (q 6, .inl (cI, 8, .inl (a 5))), (q 7, .inl (cI, 8, .inl (a 6))), (q 8, .inl (cI, 8, .inl (a 7))), (q 9, .inl (cI, 8, .inl (a 8))), (q 10, .inr (2, [.ref (q 11), .ref (q 12), .ref (q 13), .ref (q 14), .ref (q 15), .ref (q 16), .ref (q 17), .int (a 0 3)])), (q 11, .inl (cI, 100, .inl (a 10))), (q 12, .inl (cF, 100, .inr (.inr (.inl (fun j => shF (a 13 j)))))), (q 13, .inl (cI, 100, .inl (a 14))), (q 14, .inl (cI, 100, .inl (fun j => a 11 j - a 12 j))), (q 15, .inl (cI, 100, .inl (fun j => a 15 j - a 16 j))), (q 16, .inl (cI, 100, .inl (a 17))), (q 17, .inl (cI, 100, .inl (a 18))), (q 18, .inr (1, [.ref (q 19), .ref (q 20), .ref (q 21), .int (a 0 4)])), (q 19, .inl (cI, capOf (nn (a 0 4)), .inl (a 20))), (q 20, .inl (cI, capOf (nn (a 0 4)), .inl (a 19))), (q 21, .inl (cI, capOf (nn (a 0 4)), .inl (a 21))), (q 22, .inr (0, [.ref (q 23), .ref (q 24), .ref (q 25), .int (nI k)])), (q 23, .inl (cI, 8, .inl (jc))), (q 24, .inl (cI, 256, .inl (js))), (q 25, .inl (cI, 256, .inl (jv))), (q 26, .inl (cF, 4, .inr (.inr (.inl (fun j => shF (a 9 j))))))] s.heap.size = A at hD hV ⊢
  have hA : ∀ q : Nat, s.heap.size ≤ q → A q := fun q h => by rw [← hAe]; exact Or.inr h
  have hS : va_S A s.heap s.heap [] := va_S.rf
  have hl := lv_entry ([.ref h0, .int x]) (n := 2) (Nat.le_of_ble_eq_true rfl)
  rw [lg_entry_eq]
  generalize (lg_sl ([.ref h0, .int x]) ++ List.replicate (2 - (lg_sl ([.ref h0, .int x])).length) Slot.unset).toArray = ls at hl ⊢
  have hl : lv_has ls 2 [(0, .ref h0), (1, .int x)] := hl
  have hiX4 : ∀ w ∈ wsX40, w ∈ wsX4_balanceByEntries := fun w h => List.mem_cons_of_mem _ (List.mem_append_left _ (List.mem_append_left _ (List.mem_append_left _ (List.mem_append_right _ h))))
  have hP : va_P (dC, dI) vwCl [(h0, .inr (4, [.ref (q 1), .ref (q 10), .ref (q 18), .ref (q 22), .ref (q 26), .int (a 0 2), .int (a 0 1), .int (a 0 5), .int (a 0 6), .int (a 0 7), .int (a 0 8)])), (q 1, .inr (3, [.ref (q 2), .ref (q 3), .ref (q 4), .ref (q 5), .ref (q 6), .ref (q 7), .ref (q 8), .ref (q 9), .int (a 0 0)])), (q 2, .inl (cI, 8, .inl (a 1))), (q 3, .inl (cI, 8, .inl (a 2))), (q 4, .inl (cI, 8, .inl (a 3))), (q 5, .inl (cI, 8, .inl (a 4))), (q 6, .inl (cI, 8, .inl (a 5))), (q 7, .inl (cI, 8, .inl (a 6))), (q 8, .inl (cI, 8, .inl (a 7))), (q 9, .inl (cI, 8, .inl (a 8))), (q 10, .inr (2, [.ref (q 11), .ref (q 12), .ref (q 13), .ref (q 14), .ref (q 15), .ref (q 16), .ref (q 17), .int (a 0 3)])), (q 11, .inl (cI, 100, .inl (a 10))), (q 12, .inl (cF, 100, .inr (.inr (.inl (fun j => shF (a 13 j)))))), (q 13, .inl (cI, 100, .inl (a 14))), (q 14, .inl (cI, 100, .inl (fun j => a 11 j - a 12 j))), (q 15, .inl (cI, 100, .inl (fun j => a 15 j - a 16 j))), (q 16, .inl (cI, 100, .inl (a 17))), (q 17, .inl (cI, 100, .inl (a 18))), (q 18, .inr (1, [.ref (q 19), .ref (q 20), .ref (q 21), .int (a 0 4)])), (q 19, .inl (cI, capOf (nn (a 0 4)), .inl (a 20))), (q 20, .inl (cI, capOf (nn (a 0 4)), .inl (a 19))), (q 21, .inl (cI, capOf (nn (a 0 4)), .inl (a 21))), (q 22, .inr (0, [.ref (q 23), .ref (q 24), .ref (q 25), .int (nI k)])), (q 23, .inl (cI, 8, .inl (jc))), (q 24, .inl (cI, 256, .inl (js))), (q 25, .inl (cI, 256, .inl (jv))), (q 26, .inl (cF, 4, .inr (.inr (.inl (fun j => shF (a 9 j))))))] s.heap := hP
  refine y_enter (A := A) hP (fun H hP hS => ?_)
  have hBk := hB
  refine lv_aload_n hx hb dX4_balanceByEntries_0 rfl (lv_at hl 0 rfl) ?_
  refine lv_iload_n hx hb dX4_balanceByEntries_1 rfl (lv_at hl 1 rfl) ?_
  have e1 : ¬ selOK a x → kSel a x = 1 := fun h9 => if_neg h9
  have hFc := y_free hD hS hA
  refine vx_callv (vx_runV (As := [.int x]) (rest := []) ⟨hx, hb, hml, hown, hts⟩ (c_X4_requireSeller l dC dI cI cF h0 q H.size a jc js jv k hst hC hB x) (cwV 1 hts gX4_balanceByEntries_X4_requireSeller rfl rfl rfl (by decide +kernel) ⟨Nat.le_of_ble_eq_true rfl, Nat.le_of_ble_eq_true rfl⟩) ⟨pcV_blind, va_recv hK hP (ci := 4) (q0 := 0) rfl rfl, fun U hU hW => pcV_pre hP hD hK hV hS hFc hU hW⟩ rfl rfl hl.1 rfl (lv_room (Nat.le_of_ble_eq_true rfl)) dX4_balanceByEntries_2 ⟨Nat.le_of_ble_eq_true rfl, Nat.le_of_ble_eq_true rfl⟩) hS (fun q _ h => hFc q h) hFc (fun q _ h => hFc q h) (fun E ce q9 u t H1 locs ht hvm hw hBx hz1 hk1 hS hce hcv hcl => ?_) (fun u t H1 locs ht hvm hw hB1 hz1 hk1 hS => ?_)
  · obtain ⟨hE, qx, jcx, jsx, jvx, kx, hCx, hPx, hKx, hDx⟩ := hBx
    rw [ht] at hPx
    exact vx_out (fun x hx9 => (htab x hx9).elim) hlocks hce hcv hcl (fun t9 ht9 hvm9 => ⟨(), (by rw [e1 hw]; decide), ⟨(by rw [e1 hw]; exact hE), atC_in hCx (⟨by rw [ht9]; exact hPx, va_K.moved hvm9 hK, hDx.weaken (fun kk qq _ h => hFc qq.1 h)⟩)⟩, hS.F ht9⟩) hS.2.2 (Nat.le_of_ble_eq_true rfl) (Nat.le_of_ble_eq_true rfl)
  · obtain ⟨q1, jc1, js1, jv1, k1, hC1, hP, hK1, hD1⟩ := hB1
    rw [ht] at hP
    have hD := hD1.weaken (fun kk qq _ h => hFc qq.1 h)
    generalize H1 = H at hP hS ⊢
    have hC1 : okC (a) jc1 js1 jv1 k1 := hC1
    have hP : va_P (dC, dI) vwCl (WC cI cF h0 q1 a jc1 js1 jv1 k1 (capOf (nn (a 0 4)))) H := hP
    have hD : va_D A (WC cI cF h0 q1 a jc1 js1 jv1 k1 (capOf (nn (a 0 4)))) := hD
    have hw1 := hw
    have hwsel := hw1
    have e0 : kSel a x = 0 := if_pos hwsel
    have hx1 := nat_of (hB 0 0 8 rfl) (by decide) hwsel.1 hwsel.2
    have hx8 : nn x < 8 := Nat.lt_of_lt_of_le hx1.2 (hB 0 0 8 rfl).2
    refine lv_aload_n hx hb dX4_balanceByEntries_5 rfl (lv_at hl 0 rfl) ?_
    refine va_get (D := (dC, dI)) (ci := 4) (v := .ref (q1 22)) (C := RX4) (T := TX4) (N := 11) hx hb hts hiX4 hown hK hP 0 rfl rfl 3 (by decide) (hts (.fieldLink RX4 33 "Payoutnet" "journal" "LPayoutnet$Journal;") (List.mem_of_getElem? (i := 1) rfl)) (fun _ h9 => h9) rfl dX4_balanceByEntries_6 ?_
    refine lv_iload_n hx hb dX4_balanceByEntries_9 rfl (lv_at hl 1 rfl) ?_
    refine y_topi (y := nI (nn x)) hx1.1 ?_
    obtain ⟨hk9, hj9, hcr9⟩ := hC1
    have hPc := hP.sub (ws' := [(q1 22, .inr (0, [.ref (q1 23), .ref (q1 24), .ref (q1 25), .int (nI k1)])), (q1 23, .inl (cI, 8, .inl (jc1))), (q1 24, .inl (cI, 256, .inl (js1))), (q1 25, .inl (cI, 256, .inl (jv1)))]) [22, 23, 24, 25] rfl
    have hDc := hD.sub (ws' := [(q1 22, .inr (0, [.ref (q1 23), .ref (q1 24), .ref (q1 25), .int (nI k1)])), (q1 23, .inl (cI, 8, .inl (jc1))), (q1 24, .inl (cI, 256, .inl (js1))), (q1 25, .inl (cI, 256, .inl (jv1)))]) [22, 23, 24, 25] (by decide) rfl
    have hFc := va_free (wc := [(q1 22, .inr (0, [.ref (q1 23), .ref (q1 24), .ref (q1 25), .int (nI k1)])), (q1 23, .inl (cI, 8, .inl (jc1))), (q1 24, .inl (cI, 256, .inl (js1))), (q1 25, .inl (cI, 256, .inl (jv1)))]) hD hS hA [22, 23, 24, 25] rfl
    have hKc := hK.sub (tys' := [(cI, .int)]) [0] rfl
    refine va_calli (va_runV (As := [.int (nI (nn x))]) (rest := []) ⟨hx, hb, hml, hown, hts⟩ (c_X0_sumOf l dC dI cI (q1 22) (q1 23) (q1 24) (q1 25) H.size jc1 js1 jv1 k1 (nn x) hk9 hj9 hx8) (cwV 1 hts gX4_balanceByEntries_X0_sumOf rfl rfl rfl (by decide +kernel) ⟨Nat.le_of_ble_eq_true rfl, Nat.le_of_ble_eq_true rfl⟩) ⟨pcW_blind, va_recv hKc hPc (ci := 0) (q0 := 0) rfl rfl, fun U hU hW => pcW_pre hPc hDc hKc hU hW⟩ rfl rfl hl.1 rfl (lv_room (Nat.le_of_ble_eq_true rfl)) dX4_balanceByEntries_10 ⟨Nat.le_of_ble_eq_true rfl, Nat.le_of_ble_eq_true rfl⟩) hS (fun q _ h => hFc q h) hFc (fun r u t H1 locs ht hvm hw hB hz1 hk1 hS => ?_)
    obtain ⟨hP1, hK1, hD1⟩ := hB
    rw [ht] at hP1
    obtain ⟨hP, hD⟩ := va_join (wr := [(h0, .inr (4, [.ref (q1 1), .ref (q1 10), .ref (q1 18), .ref (q1 22), .ref (q1 26), .int (a 0 2), .int (a 0 1), .int (a 0 5), .int (a 0 6), .int (a 0 7), .int (a 0 8)])), (q1 1, .inr (3, [.ref (q1 2), .ref (q1 3), .ref (q1 4), .ref (q1 5), .ref (q1 6), .ref (q1 7), .ref (q1 8), .ref (q1 9), .int (a 0 0)])), (q1 2, .inl (cI, 8, .inl (a 1))), (q1 3, .inl (cI, 8, .inl (a 2))), (q1 4, .inl (cI, 8, .inl (a 3))), (q1 5, .inl (cI, 8, .inl (a 4))), (q1 6, .inl (cI, 8, .inl (a 5))), (q1 7, .inl (cI, 8, .inl (a 6))), (q1 8, .inl (cI, 8, .inl (a 7))), (q1 9, .inl (cI, 8, .inl (a 8))), (q1 10, .inr (2, [.ref (q1 11), .ref (q1 12), .ref (q1 13), .ref (q1 14), .ref (q1 15), .ref (q1 16), .ref (q1 17), .int (a 0 3)])), (q1 11, .inl (cI, 100, .inl (a 10))), (q1 12, .inl (cF, 100, .inr (.inr (.inl (fun j => shF (a 13 j)))))), (q1 13, .inl (cI, 100, .inl (a 14))), (q1 14, .inl (cI, 100, .inl (fun j => a 11 j - a 12 j))), (q1 15, .inl (cI, 100, .inl (fun j => a 15 j - a 16 j))), (q1 16, .inl (cI, 100, .inl (a 17))), (q1 17, .inl (cI, 100, .inl (a 18))), (q1 18, .inr (1, [.ref (q1 19), .ref (q1 20), .ref (q1 21), .int (a 0 4)])), (q1 19, .inl (cI, capOf (nn (a 0 4)), .inl (a 20))), (q1 20, .inl (cI, capOf (nn (a 0 4)), .inl (a 19))), (q1 21, .inl (cI, capOf (nn (a 0 4)), .inl (a 21))), (q1 26, .inl (cF, 4, .inr (.inr (.inl (fun j => shF (a 9 j))))))]) (w1 := [(q1 22, .inr (0, [.ref (q1 23), .ref (q1 24), .ref (q1 25), .int (nI k1)])), (q1 23, .inl (cI, 8, .inl (jc1))), (q1 24, .inl (cI, 256, .inl (js1))), (q1 25, .inl (cI, 256, .inl (jv1)))]) hP hD [22, 23, 24, 25] [0, 1, 2, 3, 4, 5, 6, 7, 8, 9, 10, 11, 12, 13, 14, 15, 16, 17, 18, 19, 20, 21, 26] rfl rfl (by decide) (by decide) hk1 hFc hP1 hD1
    generalize H1 = H at hP hS ⊢
    have hP := hP.sub (ws' := [(h0, .inr (4, [.ref (q1 1), .ref (q1 10), .ref (q1 18), .ref (q1 22), .ref (q1 26), .int (a 0 2), .int (a 0 1), .int (a 0 5), .int (a 0 6), .int (a 0 7), .int (a 0 8)])), (q1 1, .inr (3, [.ref (q1 2), .ref (q1 3), .ref (q1 4), .ref (q1 5), .ref (q1 6), .ref (q1 7), .ref (q1 8), .ref (q1 9), .int (a 0 0)])), (q1 2, .inl (cI, 8, .inl (a 1))), (q1 3, .inl (cI, 8, .inl (a 2))), (q1 4, .inl (cI, 8, .inl (a 3))), (q1 5, .inl (cI, 8, .inl (a 4))), (q1 6, .inl (cI, 8, .inl (a 5))), (q1 7, .inl (cI, 8, .inl (a 6))), (q1 8, .inl (cI, 8, .inl (a 7))), (q1 9, .inl (cI, 8, .inl (a 8))), (q1 10, .inr (2, [.ref (q1 11), .ref (q1 12), .ref (q1 13), .ref (q1 14), .ref (q1 15), .ref (q1 16), .ref (q1 17), .int (a 0 3)])), (q1 11, .inl (cI, 100, .inl (a 10))), (q1 12, .inl (cF, 100, .inr (.inr (.inl (fun j => shF (a 13 j)))))), (q1 13, .inl (cI, 100, .inl (a 14))), (q1 14, .inl (cI, 100, .inl (fun j => a 11 j - a 12 j))), (q1 15, .inl (cI, 100, .inl (fun j => a 15 j - a 16 j))), (q1 16, .inl (cI, 100, .inl (a 17))), (q1 17, .inl (cI, 100, .inl (a 18))), (q1 18, .inr (1, [.ref (q1 19), .ref (q1 20), .ref (q1 21), .int (a 0 4)])), (q1 19, .inl (cI, capOf (nn (a 0 4)), .inl (a 20))), (q1 20, .inl (cI, capOf (nn (a 0 4)), .inl (a 19))), (q1 21, .inl (cI, capOf (nn (a 0 4)), .inl (a 21))), (q1 22, .inr (0, [.ref (q1 23), .ref (q1 24), .ref (q1 25), .int (nI k1)])), (q1 23, .inl (cI, 8, .inl (jc1))), (q1 24, .inl (cI, 256, .inl (js1))), (q1 25, .inl (cI, 256, .inl (jv1))), (q1 26, .inl (cF, 4, .inr (.inr (.inl (fun j => shF (a 9 j))))))]) [0, 1, 2, 3, 4, 5, 6, 7, 8, 9, 10, 11, 12, 13, 14, 15, 16, 17, 18, 19, 20, 21, 23, 24, 25, 26, 22] rfl
    have hD := hD.sub (ws' := [(h0, .inr (4, [.ref (q1 1), .ref (q1 10), .ref (q1 18), .ref (q1 22), .ref (q1 26), .int (a 0 2), .int (a 0 1), .int (a 0 5), .int (a 0 6), .int (a 0 7), .int (a 0 8)])), (q1 1, .inr (3, [.ref (q1 2), .ref (q1 3), .ref (q1 4), .ref (q1 5), .ref (q1 6), .ref (q1 7), .ref (q1 8), .ref (q1 9), .int (a 0 0)])), (q1 2, .inl (cI, 8, .inl (a 1))), (q1 3, .inl (cI, 8, .inl (a 2))), (q1 4, .inl (cI, 8, .inl (a 3))), (q1 5, .inl (cI, 8, .inl (a 4))), (q1 6, .inl (cI, 8, .inl (a 5))), (q1 7, .inl (cI, 8, .inl (a 6))), (q1 8, .inl (cI, 8, .inl (a 7))), (q1 9, .inl (cI, 8, .inl (a 8))), (q1 10, .inr (2, [.ref (q1 11), .ref (q1 12), .ref (q1 13), .ref (q1 14), .ref (q1 15), .ref (q1 16), .ref (q1 17), .int (a 0 3)])), (q1 11, .inl (cI, 100, .inl (a 10))), (q1 12, .inl (cF, 100, .inr (.inr (.inl (fun j => shF (a 13 j)))))), (q1 13, .inl (cI, 100, .inl (a 14))), (q1 14, .inl (cI, 100, .inl (fun j => a 11 j - a 12 j))), (q1 15, .inl (cI, 100, .inl (fun j => a 15 j - a 16 j))), (q1 16, .inl (cI, 100, .inl (a 17))), (q1 17, .inl (cI, 100, .inl (a 18))), (q1 18, .inr (1, [.ref (q1 19), .ref (q1 20), .ref (q1 21), .int (a 0 4)])), (q1 19, .inl (cI, capOf (nn (a 0 4)), .inl (a 20))), (q1 20, .inl (cI, capOf (nn (a 0 4)), .inl (a 19))), (q1 21, .inl (cI, capOf (nn (a 0 4)), .inl (a 21))), (q1 22, .inr (0, [.ref (q1 23), .ref (q1 24), .ref (q1 25), .int (nI k1)])), (q1 23, .inl (cI, 8, .inl (jc1))), (q1 24, .inl (cI, 256, .inl (js1))), (q1 25, .inl (cI, 256, .inl (jv1))), (q1 26, .inl (cF, 4, .inr (.inr (.inl (fun j => shF (a 9 j))))))]) [0, 1, 2, 3, 4, 5, 6, 7, 8, 9, 10, 11, 12, 13, 14, 15, 16, 17, 18, 19, 20, 21, 23, 24, 25, 26, 22] (by decide) rfl
    have hP : va_P (dC, dI) vwCl (WC cI cF h0 q1 a jc1 js1 jv1 k1 (capOf (nn (a 0 4)))) H := hP
    have hD : va_D A (WC cI cF h0 q1 a jc1 js1 jv1 k1 (capOf (nn (a 0 4)))) := hD
    refine W.widen (k := 1) (n := 6) (Nat.le_of_ble_eq_true rfl) (Nat.le_of_ble_eq_true rfl) ?_
    have hP9 := hP
    have hD9 := hD
    have hK9 := hK
    refine vx_ret ?_
    exact W.iret (v := r) hx hb hr (fun t ht hW => ⟨⟨r, (), rfl, ⟨e0, (hw.trans (congrFun hcr9 (nn x)))⟩, atC_in hC1 (atW_end hP9 hD9 hK9 ht hW)⟩, hS.F ht⟩) hS.2.2 dX4_balanceByEntries_13
set_option maxHeartbeats 4000000 in
set_option maxRecDepth 100000 in
theorem c_X4_reserve (l : Launch) (dC : Nat → ClassId) (dI : Nat → Nat → Nat) (cI cF : ClassId) (h0 : Nat) (q : Nat → Nat) (sz : Nat) (a : yA) (jc js jv : Nat → Int32) (k : Nat) (hst : l.stackTraces = false)  (hC : okC a jc js jv k) (hB : okB a) (x : Int32) : vx_Met l yX4_reserve wsX4_reserve ({ frames := 7, cells := 1, slots := 6, locals := 111 } : Room) (va_Pc [.ref h0, .int x] (pcV dC dI [(cI, .int), (cF, .float)] (WC cI cF h0 q a jc js jv k (capOf (nn (a 0 4)))) sz)) (va_Qi (fun (r : Int32) (_ : Unit) => kSel a x = 0 ∧ r = sHsum a (nn x) (nn (a 0 3))) (fun _ t => atC dC dI cI cF (va_A (WC cI cF h0 q a jc js jv k (capOf (nn (a 0 4)))) sz) h0 (a) t) (va_A (WC cI cF h0 q a jc js jv k (capOf (nn (a 0 4)))) sz)) (vx_X (fun _ : Unit => kSel a x ≠ 0) (fun E _ t => E = eI (kSel a x) ∧ atC dC dI cI cF (va_A (WC cI cF h0 q a jc js jv k (capOf (nn (a 0 4)))) sz) h0 a t) (va_A (WC cI cF h0 q a jc js jv k (capOf (nn (a 0 4)))) sz)) (1) (6) (va_A (WC cI cF h0 q a jc js jv k (capOf (nn (a 0 4)))) sz) := by
  refine vx_ofW (cc := cX4_reserve) (maxL := 2) (ret := (some .int)) (by decide) rfl ?_
  intro p e s m args below meth c s₁ B hml htab hv
  obtain ⟨rfl, ⟨hsz, hP, hK, hD0⟩, hV⟩ := hv
  have hx := B.exec
  have hb := B.bytes
  have hr := B.returns
  have hts := atoms_spec (ws := wsX4_reserve) B.pre
  have hown : s.vm.findClass RX4 = some m.cls := findClass_of_methodNamed B.named
  have hlocks := B.notSynchronized
  subst hsz
  have hD := hD0.self (sz := s.heap.size)
  generalize hAe : va_A [(h0, .inr (4, [.ref (q 1), .ref (q 10), .ref (q 18), .ref (q 22), .ref (q 26), .int (a 0 2), .int (a 0 1), .int (a 0 5), .int (a 0 6), .int (a 0 7), .int (a 0 8)])), (q 1, .inr (3, [.ref (q 2), .ref (q 3), .ref (q 4), .ref (q 5), .ref (q 6), .ref (q 7), .ref (q 8), .ref (q 9), .int (a 0 0)])), (q 2, .inl (cI, 8, .inl (a 1))), (q 3, .inl (cI, 8, .inl (a 2))), (q 4, .inl (cI, 8, .inl (a 3))), (q 5, .inl (cI, 8, .inl (a 4))), (q 6, .inl (cI, 8, .inl (a 5))), (q 7, .inl (cI, 8, .inl (a 6))), (q 8, .inl (cI, 8, .inl (a 7))), (q 9, .inl (cI, 8, .inl (a 8))), (q 10, .inr (2, [.ref (q 11), .ref (q 12), .ref (q 13), .ref (q 14), .ref (q 15), .ref (q 16), .ref (q 17), .int (a 0 3)])), (q 11, .inl (cI, 100, .inl (a 10))), (q 12, .inl (cF, 100, .inr (.inr (.inl (fun j => shF (a 13 j)))))), (q 13, .inl (cI, 100, .inl (a 14))), (q 14, .inl (cI, 100, .inl (fun j => a 11 j - a 12 j))), (q 15, .inl (cI, 100, .inl (fun j => a 15 j - a 16 j))), (q 16, .inl (cI, 100, .inl (a 17))), (q 17, .inl (cI, 100, .inl (a 18))), (q 18, .inr (1, [.ref (q 19), .ref (q 20), .ref (q 21), .int (a 0 4)])), (q 19, .inl (cI, capOf (nn (a 0 4)), .inl (a 20))), (q 20, .inl (cI, capOf (nn (a 0 4)), .inl (a 19))), (q 21, .inl (cI, capOf (nn (a 0 4)), .inl (a 21))), (q 22, .inr (0, [.ref (q 23), .ref (q 24), .ref (q 25), .int (nI k)])), (q 23, .inl (cI, 8, .inl (jc))), (q 24, .inl (cI, 256, .inl (js))), (q 25, .inl (cI, 256, .inl (jv))), (q 26, .inl (cF, 4, .inr (.inr (.inl (fun j => shF (a 9 j))))))] s.heap.size = A at hD hV ⊢
  have hA : ∀ q : Nat, s.heap.size ≤ q → A q := fun q h => by rw [← hAe]; exact Or.inr h
  have hS : va_S A s.heap s.heap [] := va_S.rf
  have hl := lv_entry ([.ref h0, .int x]) (n := 2) (Nat.le_of_ble_eq_true rfl)
  rw [lg_entry_eq]
  generalize (lg_sl ([.ref h0, .int x]) ++ List.replicate (2 - (lg_sl ([.ref h0, .int x])).length) Slot.unset).toArray = ls at hl ⊢
  have hl : lv_has ls 2 [(0, .ref h0), (1, .int x)] := hl
  have hiX4 : ∀ w ∈ wsX40, w ∈ wsX4_reserve := fun w h => List.mem_cons_of_mem _ (List.mem_append_left _ (List.mem_append_left _ (List.mem_append_left _ (List.mem_append_right _ h))))
  have hP : va_P (dC, dI) vwCl [(h0, .inr (4, [.ref (q 1), .ref (q 10), .ref (q 18), .ref (q 22), .ref (q 26), .int (a 0 2), .int (a 0 1), .int (a 0 5), .int (a 0 6), .int (a 0 7), .int (a 0 8)])), (q 1, .inr (3, [.ref (q 2), .ref (q 3), .ref (q 4), .ref (q 5), .ref (q 6), .ref (q 7), .ref (q 8), .ref (q 9), .int (a 0 0)])), (q 2, .inl (cI, 8, .inl (a 1))), (q 3, .inl (cI, 8, .inl (a 2))), (q 4, .inl (cI, 8, .inl (a 3))), (q 5, .inl (cI, 8, .inl (a 4))), (q 6, .inl (cI, 8, .inl (a 5))), (q 7, .inl (cI, 8, .inl (a 6))), (q 8, .inl (cI, 8, .inl (a 7))), (q 9, .inl (cI, 8, .inl (a 8))), (q 10, .inr (2, [.ref (q 11), .ref (q 12), .ref (q 13), .ref (q 14), .ref (q 15), .ref (q 16), .ref (q 17), .int (a 0 3)])), (q 11, .inl (cI, 100, .inl (a 10))), (q 12, .inl (cF, 100, .inr (.inr (.inl (fun j => shF (a 13 j)))))), (q 13, .inl (cI, 100, .inl (a 14))), (q 14, .inl (cI, 100, .inl (fun j => a 11 j - a 12 j))), (q 15, .inl (cI, 100, .inl (fun j => a 15 j - a 16 j))), (q 16, .inl (cI, 100, .inl (a 17))), (q 17, .inl (cI, 100, .inl (a 18))), (q 18, .inr (1, [.ref (q 19), .ref (q 20), .ref (q 21), .int (a 0 4)])), (q 19, .inl (cI, capOf (nn (a 0 4)), .inl (a 20))), (q 20, .inl (cI, capOf (nn (a 0 4)), .inl (a 19))), (q 21, .inl (cI, capOf (nn (a 0 4)), .inl (a 21))), (q 22, .inr (0, [.ref (q 23), .ref (q 24), .ref (q 25), .int (nI k)])), (q 23, .inl (cI, 8, .inl (jc))), (q 24, .inl (cI, 256, .inl (js))), (q 25, .inl (cI, 256, .inl (jv))), (q 26, .inl (cF, 4, .inr (.inr (.inl (fun j => shF (a 9 j))))))] s.heap := hP
  refine y_enter (A := A) hP (fun H hP hS => ?_)
  have hBk := hB
  refine lv_aload_n hx hb dX4_reserve_0 rfl (lv_at hl 0 rfl) ?_
  refine lv_iload_n hx hb dX4_reserve_1 rfl (lv_at hl 1 rfl) ?_
  have e1 : ¬ selOK a x → kSel a x = 1 := fun h9 => if_neg h9
  have hFc := y_free hD hS hA
  refine vx_callv (vx_runV (As := [.int x]) (rest := []) ⟨hx, hb, hml, hown, hts⟩ (c_X4_requireSeller l dC dI cI cF h0 q H.size a jc js jv k hst hC hB x) (cwV 1 hts gX4_reserve_X4_requireSeller rfl rfl rfl (by decide +kernel) ⟨Nat.le_of_ble_eq_true rfl, Nat.le_of_ble_eq_true rfl⟩) ⟨pcV_blind, va_recv hK hP (ci := 4) (q0 := 0) rfl rfl, fun U hU hW => pcV_pre hP hD hK hV hS hFc hU hW⟩ rfl rfl hl.1 rfl (lv_room (Nat.le_of_ble_eq_true rfl)) dX4_reserve_2 ⟨Nat.le_of_ble_eq_true rfl, Nat.le_of_ble_eq_true rfl⟩) hS (fun q _ h => hFc q h) hFc (fun q _ h => hFc q h) (fun E ce q9 u t H1 locs ht hvm hw hBx hz1 hk1 hS hce hcv hcl => ?_) (fun u t H1 locs ht hvm hw hB1 hz1 hk1 hS => ?_)
  · obtain ⟨hE, qx, jcx, jsx, jvx, kx, hCx, hPx, hKx, hDx⟩ := hBx
    rw [ht] at hPx
    exact vx_out (fun x hx9 => (htab x hx9).elim) hlocks hce hcv hcl (fun t9 ht9 hvm9 => ⟨(), (by rw [e1 hw]; decide), ⟨(by rw [e1 hw]; exact hE), atC_in hCx (⟨by rw [ht9]; exact hPx, va_K.moved hvm9 hK, hDx.weaken (fun kk qq _ h => hFc qq.1 h)⟩)⟩, hS.F ht9⟩) hS.2.2 (Nat.le_of_ble_eq_true rfl) (Nat.le_of_ble_eq_true rfl)
  · obtain ⟨q1, jc1, js1, jv1, k1, hC1, hP, hK1, hD1⟩ := hB1
    rw [ht] at hP
    have hD := hD1.weaken (fun kk qq _ h => hFc qq.1 h)
    generalize H1 = H at hP hS ⊢
    have hC1 : okC (a) jc1 js1 jv1 k1 := hC1
    have hP : va_P (dC, dI) vwCl (WC cI cF h0 q1 a jc1 js1 jv1 k1 (capOf (nn (a 0 4)))) H := hP
    have hD : va_D A (WC cI cF h0 q1 a jc1 js1 jv1 k1 (capOf (nn (a 0 4)))) := hD
    have hw1 := hw
    have hwsel := hw1
    have e0 : kSel a x = 0 := if_pos hwsel
    have hx1 := nat_of (hB 0 0 8 rfl) (by decide) hwsel.1 hwsel.2
    have hx8 : nn x < 8 := Nat.lt_of_lt_of_le hx1.2 (hB 0 0 8 rfl).2
    refine lv_aload_n hx hb dX4_reserve_5 rfl (lv_at hl 0 rfl) ?_
    refine va_get (D := (dC, dI)) (ci := 4) (v := .ref (q1 10)) (C := RX4) (T := TX4) (N := 11) hx hb hts hiX4 hown hK hP 0 rfl rfl 1 (by decide) (hts (.fieldLink RX4 19 "Payoutnet" "sales" "LPayoutnet$Sales;") (List.mem_of_getElem? (i := 1) rfl)) (fun _ h9 => h9) rfl dX4_reserve_6 ?_
    refine lv_iload_n hx hb dX4_reserve_9 rfl (lv_at hl 1 rfl) ?_
    refine y_topi (y := nI (nn x)) hx1.1 ?_
    have hPc := hP.sub (ws' := [(q1 10, .inr (2, [.ref (q1 11), .ref (q1 12), .ref (q1 13), .ref (q1 14), .ref (q1 15), .ref (q1 16), .ref (q1 17), .int (a 0 3)])), (q1 11, .inl (cI, 100, .inl (a 10))), (q1 16, .inl (cI, 100, .inl (a 17)))]) [10, 11, 16] rfl
    have hDc := hD.sub (ws' := [(q1 10, .inr (2, [.ref (q1 11), .ref (q1 12), .ref (q1 13), .ref (q1 14), .ref (q1 15), .ref (q1 16), .ref (q1 17), .int (a 0 3)])), (q1 11, .inl (cI, 100, .inl (a 10))), (q1 16, .inl (cI, 100, .inl (a 17)))]) [10, 11, 16] (by decide) rfl
    have hFc := va_free (wc := [(q1 10, .inr (2, [.ref (q1 11), .ref (q1 12), .ref (q1 13), .ref (q1 14), .ref (q1 15), .ref (q1 16), .ref (q1 17), .int (a 0 3)])), (q1 11, .inl (cI, 100, .inl (a 10))), (q1 16, .inl (cI, 100, .inl (a 17)))]) hD hS hA [10, 11, 16] rfl
    have hKc := hK.sub (tys' := [(cI, .int)]) [0] rfl
    refine va_calli (va_runV (As := [.int (nI (nn x))]) (rest := []) ⟨hx, hb, hml, hown, hts⟩ (c_X2_heldFor l dC dI cI (q1 10) (q1 11) (q1 12) (q1 13) (q1 14) (q1 15) (q1 16) (q1 17) H.size (a 10) (a 17) (nn (a 0 3)) (a 0 3) (hBk 0 3 100 rfl).1 (hBk 0 3 100 rfl).2 (nn x)) (cwV 1 hts gX4_reserve_X2_heldFor rfl rfl rfl (by decide +kernel) ⟨Nat.le_of_ble_eq_true rfl, Nat.le_of_ble_eq_true rfl⟩) ⟨pcW_blind, va_recv hKc hPc (ci := 2) (q0 := 0) rfl rfl, fun U hU hW => pcW_pre hPc hDc hKc hU hW⟩ rfl rfl hl.1 rfl (lv_room (Nat.le_of_ble_eq_true rfl)) dX4_reserve_10 ⟨Nat.le_of_ble_eq_true rfl, Nat.le_of_ble_eq_true rfl⟩) hS (fun q _ h => hFc q h) hFc (fun r u t H1 locs ht hvm hw hB hz1 hk1 hS => ?_)
    obtain ⟨hP1, hK1, hD1⟩ := hB
    rw [ht] at hP1
    obtain ⟨hP, hD⟩ := va_join (wr := [(h0, .inr (4, [.ref (q1 1), .ref (q1 10), .ref (q1 18), .ref (q1 22), .ref (q1 26), .int (a 0 2), .int (a 0 1), .int (a 0 5), .int (a 0 6), .int (a 0 7), .int (a 0 8)])), (q1 1, .inr (3, [.ref (q1 2), .ref (q1 3), .ref (q1 4), .ref (q1 5), .ref (q1 6), .ref (q1 7), .ref (q1 8), .ref (q1 9), .int (a 0 0)])), (q1 2, .inl (cI, 8, .inl (a 1))), (q1 3, .inl (cI, 8, .inl (a 2))), (q1 4, .inl (cI, 8, .inl (a 3))), (q1 5, .inl (cI, 8, .inl (a 4))), (q1 6, .inl (cI, 8, .inl (a 5))), (q1 7, .inl (cI, 8, .inl (a 6))), (q1 8, .inl (cI, 8, .inl (a 7))), (q1 9, .inl (cI, 8, .inl (a 8))), (q1 12, .inl (cF, 100, .inr (.inr (.inl (fun j => shF (a 13 j)))))), (q1 13, .inl (cI, 100, .inl (a 14))), (q1 14, .inl (cI, 100, .inl (fun j => a 11 j - a 12 j))), (q1 15, .inl (cI, 100, .inl (fun j => a 15 j - a 16 j))), (q1 17, .inl (cI, 100, .inl (a 18))), (q1 18, .inr (1, [.ref (q1 19), .ref (q1 20), .ref (q1 21), .int (a 0 4)])), (q1 19, .inl (cI, capOf (nn (a 0 4)), .inl (a 20))), (q1 20, .inl (cI, capOf (nn (a 0 4)), .inl (a 19))), (q1 21, .inl (cI, capOf (nn (a 0 4)), .inl (a 21))), (q1 22, .inr (0, [.ref (q1 23), .ref (q1 24), .ref (q1 25), .int (nI k1)])), (q1 23, .inl (cI, 8, .inl (jc1))), (q1 24, .inl (cI, 256, .inl (js1))), (q1 25, .inl (cI, 256, .inl (jv1))), (q1 26, .inl (cF, 4, .inr (.inr (.inl (fun j => shF (a 9 j))))))]) (w1 := [(q1 10, .inr (2, [.ref (q1 11), .ref (q1 12), .ref (q1 13), .ref (q1 14), .ref (q1 15), .ref (q1 16), .ref (q1 17), .int (a 0 3)])), (q1 11, .inl (cI, 100, .inl (a 10))), (q1 16, .inl (cI, 100, .inl (a 17)))]) hP hD [10, 11, 16] [0, 1, 2, 3, 4, 5, 6, 7, 8, 9, 12, 13, 14, 15, 17, 18, 19, 20, 21, 22, 23, 24, 25, 26] rfl rfl (by decide) (by decide) hk1 hFc hP1 hD1
    generalize H1 = H at hP hS ⊢
    have hP := hP.sub (ws' := [(h0, .inr (4, [.ref (q1 1), .ref (q1 10), .ref (q1 18), .ref (q1 22), .ref (q1 26), .int (a 0 2), .int (a 0 1), .int (a 0 5), .int (a 0 6), .int (a 0 7), .int (a 0 8)])), (q1 1, .inr (3, [.ref (q1 2), .ref (q1 3), .ref (q1 4), .ref (q1 5), .ref (q1 6), .ref (q1 7), .ref (q1 8), .ref (q1 9), .int (a 0 0)])), (q1 2, .inl (cI, 8, .inl (a 1))), (q1 3, .inl (cI, 8, .inl (a 2))), (q1 4, .inl (cI, 8, .inl (a 3))), (q1 5, .inl (cI, 8, .inl (a 4))), (q1 6, .inl (cI, 8, .inl (a 5))), (q1 7, .inl (cI, 8, .inl (a 6))), (q1 8, .inl (cI, 8, .inl (a 7))), (q1 9, .inl (cI, 8, .inl (a 8))), (q1 10, .inr (2, [.ref (q1 11), .ref (q1 12), .ref (q1 13), .ref (q1 14), .ref (q1 15), .ref (q1 16), .ref (q1 17), .int (a 0 3)])), (q1 11, .inl (cI, 100, .inl (a 10))), (q1 12, .inl (cF, 100, .inr (.inr (.inl (fun j => shF (a 13 j)))))), (q1 13, .inl (cI, 100, .inl (a 14))), (q1 14, .inl (cI, 100, .inl (fun j => a 11 j - a 12 j))), (q1 15, .inl (cI, 100, .inl (fun j => a 15 j - a 16 j))), (q1 16, .inl (cI, 100, .inl (a 17))), (q1 17, .inl (cI, 100, .inl (a 18))), (q1 18, .inr (1, [.ref (q1 19), .ref (q1 20), .ref (q1 21), .int (a 0 4)])), (q1 19, .inl (cI, capOf (nn (a 0 4)), .inl (a 20))), (q1 20, .inl (cI, capOf (nn (a 0 4)), .inl (a 19))), (q1 21, .inl (cI, capOf (nn (a 0 4)), .inl (a 21))), (q1 22, .inr (0, [.ref (q1 23), .ref (q1 24), .ref (q1 25), .int (nI k1)])), (q1 23, .inl (cI, 8, .inl (jc1))), (q1 24, .inl (cI, 256, .inl (js1))), (q1 25, .inl (cI, 256, .inl (jv1))), (q1 26, .inl (cF, 4, .inr (.inr (.inl (fun j => shF (a 9 j))))))]) [0, 1, 2, 3, 4, 5, 6, 7, 8, 9, 24, 25, 10, 11, 12, 13, 26, 14, 15, 16, 17, 18, 19, 20, 21, 22, 23] rfl
    have hD := hD.sub (ws' := [(h0, .inr (4, [.ref (q1 1), .ref (q1 10), .ref (q1 18), .ref (q1 22), .ref (q1 26), .int (a 0 2), .int (a 0 1), .int (a 0 5), .int (a 0 6), .int (a 0 7), .int (a 0 8)])), (q1 1, .inr (3, [.ref (q1 2), .ref (q1 3), .ref (q1 4), .ref (q1 5), .ref (q1 6), .ref (q1 7), .ref (q1 8), .ref (q1 9), .int (a 0 0)])), (q1 2, .inl (cI, 8, .inl (a 1))), (q1 3, .inl (cI, 8, .inl (a 2))), (q1 4, .inl (cI, 8, .inl (a 3))), (q1 5, .inl (cI, 8, .inl (a 4))), (q1 6, .inl (cI, 8, .inl (a 5))), (q1 7, .inl (cI, 8, .inl (a 6))), (q1 8, .inl (cI, 8, .inl (a 7))), (q1 9, .inl (cI, 8, .inl (a 8))), (q1 10, .inr (2, [.ref (q1 11), .ref (q1 12), .ref (q1 13), .ref (q1 14), .ref (q1 15), .ref (q1 16), .ref (q1 17), .int (a 0 3)])), (q1 11, .inl (cI, 100, .inl (a 10))), (q1 12, .inl (cF, 100, .inr (.inr (.inl (fun j => shF (a 13 j)))))), (q1 13, .inl (cI, 100, .inl (a 14))), (q1 14, .inl (cI, 100, .inl (fun j => a 11 j - a 12 j))), (q1 15, .inl (cI, 100, .inl (fun j => a 15 j - a 16 j))), (q1 16, .inl (cI, 100, .inl (a 17))), (q1 17, .inl (cI, 100, .inl (a 18))), (q1 18, .inr (1, [.ref (q1 19), .ref (q1 20), .ref (q1 21), .int (a 0 4)])), (q1 19, .inl (cI, capOf (nn (a 0 4)), .inl (a 20))), (q1 20, .inl (cI, capOf (nn (a 0 4)), .inl (a 19))), (q1 21, .inl (cI, capOf (nn (a 0 4)), .inl (a 21))), (q1 22, .inr (0, [.ref (q1 23), .ref (q1 24), .ref (q1 25), .int (nI k1)])), (q1 23, .inl (cI, 8, .inl (jc1))), (q1 24, .inl (cI, 256, .inl (js1))), (q1 25, .inl (cI, 256, .inl (jv1))), (q1 26, .inl (cF, 4, .inr (.inr (.inl (fun j => shF (a 9 j))))))]) [0, 1, 2, 3, 4, 5, 6, 7, 8, 9, 24, 25, 10, 11, 12, 13, 26, 14, 15, 16, 17, 18, 19, 20, 21, 22, 23] (by decide) rfl
    have hP : va_P (dC, dI) vwCl (WC cI cF h0 q1 a jc1 js1 jv1 k1 (capOf (nn (a 0 4)))) H := hP
    have hD : va_D A (WC cI cF h0 q1 a jc1 js1 jv1 k1 (capOf (nn (a 0 4)))) := hD
    refine W.widen (k := 1) (n := 6) (Nat.le_of_ble_eq_true rfl) (Nat.le_of_ble_eq_true rfl) ?_
    have hP9 := hP
    have hD9 := hD
    have hK9 := hK
    refine vx_ret ?_
    exact W.iret (v := r) hx hb hr (fun t ht hW => ⟨⟨r, (), rfl, ⟨e0, (hw.trans rfl)⟩, atC_in hC1 (atW_end hP9 hD9 hK9 ht hW)⟩, hS.F ht⟩) hS.2.2 dX4_reserve_13
