theorem cnt_8 {a : yA} (hB : okB a) : a 0 0 < 8 ↔ ¬ a 0 0 = 8 := by
  have h := hB 0 0 8 rfl
  have h2 := h.2
  rw [h.1]
  constructor
  · intro q e
    have := (nI_ltI (a := nn (a 0 0)) (b := 8) (by omega) (by decide)).mp q
    have := (nI_eq (a := nn (a 0 0)) (b := 8) (by omega) (by decide)).mp e
    omega
  · intro q
    refine (nI_ltI (a := nn (a 0 0)) (b := 8) (by omega) (by decide)).mpr ?_
    have : ¬ nn (a 0 0) = 8 := fun e => q (by rw [e]; rfl)
    omega
theorem sal_100 {a : yA} (hB : okB a) : a 0 3 + 1 ≤ 100 ↔ ¬ a 0 3 = 100 := by
  have h := hB 0 3 100 rfl
  have h2 := h.2
  constructor
  · intro q e
    have := room_nat h 1 (by decide) q
    rw [h.1] at e
    have := (nI_eq (a := nn (a 0 3)) (b := 100) (by omega) (by decide)).mp e
    omega
  · intro q
    refine room_back h 1 (by decide) ?_
    have : ¬ nn (a 0 3) = 100 := fun e => q (by rw [h.1, e]; rfl)
    omega
set_option maxHeartbeats 4000000 in
set_option maxRecDepth 100000 in
theorem c_X5_addSeller (l : Launch) (dC : Nat → ClassId) (dI : Nat → Nat → Nat) (cI cF cZ : ClassId) (h0 : Nat) (q : Nat → Nat) (sz : Nat) (a : yA) (th : Int32) (hB : okB a) (o : Int32) : Met l yX5_addSeller wsX5_addSeller ({ frames := 1, cells := 0, slots := 0, locals := 22 } : Room) (va_Pc [.ref h0, .int o] (pcW dC dI [(cI, .int), (cF, .float), (cZ, .boolean)] (WM cI cF cZ h0 q a th) sz)) (va_Qi (fun (r : Int32) (_ : Unit) => (kAdd a o = 0 → r = a 0 0)) (fun _ t => atM dC dI cI cF cZ (va_A (WM cI cF cZ h0 q a th) sz) h0 q (if kAdd a o = 0 then sAdd a o else a) (nI (kAdd a o)) t) (va_A (WM cI cF cZ h0 q a th) sz)) 0 0 (va_A (WM cI cF cZ h0 q a th) sz) := by
  refine Met.ofW (cc := cX5_addSeller) (maxL := 2) (ret := (some .int)) (by decide) rfl ?_
  intro p e s m args below meth c s₁ B hml hv
  obtain ⟨rfl, hsz, hP, hK, hD0⟩ := hv
  have hx := B.exec
  have hb := B.bytes
  have hr := B.returns
  have hts := atoms_spec (ws := wsX5_addSeller) B.pre
  have hown : s.vm.findClass RX5 = some m.cls := findClass_of_methodNamed B.named
  have hlocks := B.notSynchronized
  subst hsz
  have hD := hD0.self (sz := s.heap.size)
  generalize hAe : va_A [(h0, .inr (5, [.int th, .int (a 0 0), .int (a 0 1), .ref (q 1), .ref (q 2), .ref (q 3), .ref (q 4), .ref (q 5), .ref (q 6), .ref (q 7), .ref (q 8), .ref (q 9), .int (a 0 2), .int (a 0 3), .ref (q 10), .ref (q 11), .ref (q 12), .ref (q 13), .ref (q 14), .ref (q 15), .ref (q 16), .ref (q 17), .ref (q 18), .int (a 0 4), .ref (q 19), .ref (q 20), .ref (q 21), .int (a 0 5), .int (a 0 6), .int (a 0 7), .int (a 0 8)])), (q 1, .inl (cI, 8, .inl (a 1))), (q 2, .inl (cI, 8, .inl (a 2))), (q 3, .inl (cI, 8, .inl (a 3))), (q 4, .inl (cI, 8, .inl (a 4))), (q 5, .inl (cI, 8, .inl (a 5))), (q 6, .inl (cI, 8, .inl (a 6))), (q 7, .inl (cI, 8, .inl (a 7))), (q 8, .inl (cI, 8, .inl (a 8))), (q 9, .inl (cF, 4, .inr (.inr (.inl (fun j => shF (a 9 j)))))), (q 10, .inl (cI, 100, .inl (a 10))), (q 11, .inl (cI, 100, .inl (a 11))), (q 12, .inl (cI, 100, .inl (a 12))), (q 13, .inl (cF, 100, .inr (.inr (.inl (fun j => shF (a 13 j)))))), (q 14, .inl (cI, 100, .inl (a 14))), (q 15, .inl (cI, 100, .inl (a 15))), (q 16, .inl (cI, 100, .inl (a 16))), (q 17, .inl (cI, 100, .inl (a 17))), (q 18, .inl (cI, 100, .inl (a 18))), (q 19, .inl (cI, 2000, .inl (a 19))), (q 20, .inl (cI, 2000, .inl (a 20))), (q 21, .inl (cZ, 2000, .inl (a 21)))] s.heap.size = A at hD ⊢
  have hA : ∀ q : Nat, s.heap.size ≤ q → A q := fun q h => by rw [← hAe]; exact Or.inr h
  have hS : va_S A s.heap s.heap [] := va_S.rf
  have hl := lv_entry ([.ref h0, .int o]) (n := 2) (Nat.le_of_ble_eq_true rfl)
  rw [lg_entry_eq]
  generalize (lg_sl ([.ref h0, .int o]) ++ List.replicate (2 - (lg_sl ([.ref h0, .int o])).length) Slot.unset).toArray = ls at hl ⊢
  have hl : lv_has ls 2 [(0, .ref h0), (1, .int o)] := hl
  have hiX5 : ∀ w ∈ wsX50, w ∈ wsX5_addSeller := fun w h => List.mem_cons_of_mem _ (List.mem_append_right _ h)
  have hP : va_P (dC, dI) vwCl [(h0, .inr (5, [.int th, .int (a 0 0), .int (a 0 1), .ref (q 1), .ref (q 2), .ref (q 3), .ref (q 4), .ref (q 5), .ref (q 6), .ref (q 7), .ref (q 8), .ref (q 9), .int (a 0 2), .int (a 0 3), .ref (q 10), .ref (q 11), .ref (q 12), .ref (q 13), .ref (q 14), .ref (q 15), .ref (q 16), .ref (q 17), .ref (q 18), .int (a 0 4), .ref (q 19), .ref (q 20), .ref (q 21), .int (a 0 5), .int (a 0 6), .int (a 0 7), .int (a 0 8)])), (q 1, .inl (cI, 8, .inl (a 1))), (q 2, .inl (cI, 8, .inl (a 2))), (q 3, .inl (cI, 8, .inl (a 3))), (q 4, .inl (cI, 8, .inl (a 4))), (q 5, .inl (cI, 8, .inl (a 5))), (q 6, .inl (cI, 8, .inl (a 6))), (q 7, .inl (cI, 8, .inl (a 7))), (q 8, .inl (cI, 8, .inl (a 8))), (q 9, .inl (cF, 4, .inr (.inr (.inl (fun j => shF (a 9 j)))))), (q 10, .inl (cI, 100, .inl (a 10))), (q 11, .inl (cI, 100, .inl (a 11))), (q 12, .inl (cI, 100, .inl (a 12))), (q 13, .inl (cF, 100, .inr (.inr (.inl (fun j => shF (a 13 j)))))), (q 14, .inl (cI, 100, .inl (a 14))), (q 15, .inl (cI, 100, .inl (a 15))), (q 16, .inl (cI, 100, .inl (a 16))), (q 17, .inl (cI, 100, .inl (a 17))), (q 18, .inl (cI, 100, .inl (a 18))), (q 19, .inl (cI, 2000, .inl (a 19))), (q 20, .inl (cI, 2000, .inl (a 20))), (q 21, .inl (cZ, 2000, .inl (a 21)))] s.heap := hP
  refine y_enter (A := A) hP (fun H hP hS => ?_)
  have hBk := hB
  refine lv_aload_n hx hb dX5_addSeller_0 rfl (lv_at hl 0 rfl) ?_
  refine lv_iload_n hx hb dX5_addSeller_1 rfl (lv_at hl 1 rfl) ?_
  refine lv_iconst (v := 0) hx hb dX5_addSeller_2 (by decide) ?_
  refine lv_iconst (v := 3) hx hb dX5_addSeller_3 (by decide) ?_
  refine va_calli (va_runS (As := [.int o, .int 0, .int 3]) (rest := [.ref h0]) ⟨hx, hb, hml, hown, hts⟩ (c_X5_in l o 0 3) (va_cwS 3 hts gX5_addSeller_X5_in rfl rfl rfl (by decide +kernel) ⟨Nat.le_of_ble_eq_true rfl, Nat.le_of_ble_eq_true rfl⟩) ⟨pcT_blind, fun U hU hW => pcT_pre⟩ rfl rfl hl.1 rfl (lv_room (Nat.le_of_ble_eq_true rfl)) dX5_addSeller_4 ⟨(Nat.zero_le _), (Nat.zero_le _)⟩) hS (fun q _ h => h.elim) (fun q h => h.elim) (fun r u t H1 locs ht hvm hw hB1 hz1 hk1 hS => ?_)
  have hP := y_keptP hP hk1
  generalize H1 = H at hP hS ⊢
  refine y_topi (y := bI (bw o 0 3)) hw ?_
  refine lv_if_ne (tgt := 14) hx hb dX5_addSeller_7 (by decide) (fun c_1 => ?_) (fun c_1 => ?_)
  · have hc_1 : bw o 0 3 := bI_t c_1
    refine lv_aload_n hx hb dX5_addSeller_14 rfl (lv_at hl 0 rfl) ?_
    refine va_get (D := (dC, dI)) (ci := 5) (v := .int (a 0 0)) (C := RX5) (T := TX5) (N := 31) hx hb hts hiX5 hown hK hP 0 rfl rfl 1 (by decide) (hts (.fieldLink RX5 80 "PayoutnetModel" "sellers" "I") (List.mem_of_getElem? (i := 1) rfl)) (fun _ h9 => h9) rfl dX5_addSeller_15 ?_
    refine lv_bipush (v := 8) hx hb dX5_addSeller_18 (by decide) ?_
    refine lv_icmp_ne (tgt := 27) hx hb dX5_addSeller_20 (by decide) (fun c_2 => ?_) (fun c_2 => ?_)
    · have e0 : kAdd a o = 0 := by unfold kAdd; rw [if_pos hc_1, if_pos ((cnt_8 hB).mpr c_2)]
      refine lv_iconst (v := 0) hx hb dX5_addSeller_27 (by decide) ?_
      have hFc := y_free hD hS hA
      refine va_calli (va_runV (As := [.int 0]) (rest := []) ⟨hx, hb, hml, hown, hts⟩ (c_X5_holds l dC dI cI cF cZ h0 q H.size a th hB 0) (cwV 1 hts gX5_addSeller_X5_holds rfl rfl rfl (by decide +kernel) ⟨Nat.le_of_ble_eq_true rfl, Nat.le_of_ble_eq_true rfl⟩) ⟨pcW_blind, va_recv hK hP (ci := 5) (q0 := 0) rfl rfl, fun U hU hW => pcW_pre hP hD hK hU hW⟩ rfl rfl hl.1 rfl (lv_room (Nat.le_of_ble_eq_true rfl)) dX5_addSeller_28 ⟨Nat.zero_le _, Nat.zero_le _⟩) hS (fun q _ h => hFc q h) hFc (fun r u t H1 locs ht hvm hw hB1 hz1 hk1 hS => ?_)
      obtain ⟨hP, hK1, hD1⟩ := hB1
      rw [ht] at hP
      have hD := hD1.weaken (fun kk qq _ h => hFc qq.1 h)
      generalize H1 = H at hP hS ⊢
      have hP : va_P (dC, dI) vwCl (WM cI cF cZ h0 q a 0) H := hP
      have hD : va_D A (WM cI cF cZ h0 q a 0) := hD
      have hw3 := hw
      refine y_topi (y := 1) (hw3.trans (if_pos rfl)) ?_
      refine lv_if_ne (tgt := 36) hx hb dX5_addSeller_31 (by decide) (fun c_4 => ?_) (fun c_4 => ?_)
      · have hn8 : nn (a 0 0) < 8 := by have h := hB 0 0 8 rfl; have h7 := (cnt_8 hB).mpr c_2; rw [h.1] at h7; exact (nI_ltI (b := 8) (by have := h.2; omega) (by decide)).mp h7
        have hn := (hB 0 0 8 rfl).1
        refine lv_aload_n hx hb dX5_addSeller_36 rfl (lv_at hl 0 rfl) ?_
        refine va_get (D := (dC, dI)) (ci := 5) (v := .ref (q 1)) (C := RX5) (T := TX5) (N := 31) hx hb hts hiX5 hown hK hP 0 rfl rfl 3 (by decide) (hts (.fieldLink RX5 7 "PayoutnetModel" "owners" "[I") (List.mem_of_getElem? (i := 2) rfl)) (fun _ h9 => h9) rfl dX5_addSeller_37 ?_
        refine lv_aload_n hx hb dX5_addSeller_40 rfl (lv_at hl 0 rfl) ?_
        refine va_get (D := (dC, dI)) (ci := 5) (v := .int (a 0 0)) (C := RX5) (T := TX5) (N := 31) hx hb hts hiX5 hown hK hP 0 rfl rfl 1 (by decide) (hts (.fieldLink RX5 80 "PayoutnetModel" "sellers" "I") (List.mem_of_getElem? (i := 1) rfl)) (fun _ h9 => h9) rfl dX5_addSeller_41 ?_
        refine y_topi (y := nI (nn (a 0 0))) hn ?_
        refine lv_iload_n hx hb dX5_addSeller_44 rfl (lv_at hl 1 rfl) ?_
        refine y_ist hx hb hK hP hD hS 1 0 rfl rfl (t := nn (a 0 0)) (by omega) (Nat.le_of_ble_eq_true rfl) dX5_addSeller_45 (fun H locs hP hD hS => ?_)
        have hP : va_P (dC, dI) vwCl [(h0, .inr (5, [.int 0, .int (a 0 0), .int (a 0 1), .ref (q 1), .ref (q 2), .ref (q 3), .ref (q 4), .ref (q 5), .ref (q 6), .ref (q 7), .ref (q 8), .ref (q 9), .int (a 0 2), .int (a 0 3), .ref (q 10), .ref (q 11), .ref (q 12), .ref (q 13), .ref (q 14), .ref (q 15), .ref (q 16), .ref (q 17), .ref (q 18), .int (a 0 4), .ref (q 19), .ref (q 20), .ref (q 21), .int (a 0 5), .int (a 0 6), .int (a 0 7), .int (a 0 8)])), (q 1, .inl (cI, 8, .inl (upd (a 1) (nn (a 0 0)) o))), (q 2, .inl (cI, 8, .inl (a 2))), (q 3, .inl (cI, 8, .inl (a 3))), (q 4, .inl (cI, 8, .inl (a 4))), (q 5, .inl (cI, 8, .inl (a 5))), (q 6, .inl (cI, 8, .inl (a 6))), (q 7, .inl (cI, 8, .inl (a 7))), (q 8, .inl (cI, 8, .inl (a 8))), (q 9, .inl (cF, 4, .inr (.inr (.inl (fun j => shF (a 9 j)))))), (q 10, .inl (cI, 100, .inl (a 10))), (q 11, .inl (cI, 100, .inl (a 11))), (q 12, .inl (cI, 100, .inl (a 12))), (q 13, .inl (cF, 100, .inr (.inr (.inl (fun j => shF (a 13 j)))))), (q 14, .inl (cI, 100, .inl (a 14))), (q 15, .inl (cI, 100, .inl (a 15))), (q 16, .inl (cI, 100, .inl (a 16))), (q 17, .inl (cI, 100, .inl (a 17))), (q 18, .inl (cI, 100, .inl (a 18))), (q 19, .inl (cI, 2000, .inl (a 19))), (q 20, .inl (cI, 2000, .inl (a 20))), (q 21, .inl (cZ, 2000, .inl (a 21)))] H := hP
        have hD : va_D A [(h0, .inr (5, [.int 0, .int (a 0 0), .int (a 0 1), .ref (q 1), .ref (q 2), .ref (q 3), .ref (q 4), .ref (q 5), .ref (q 6), .ref (q 7), .ref (q 8), .ref (q 9), .int (a 0 2), .int (a 0 3), .ref (q 10), .ref (q 11), .ref (q 12), .ref (q 13), .ref (q 14), .ref (q 15), .ref (q 16), .ref (q 17), .ref (q 18), .int (a 0 4), .ref (q 19), .ref (q 20), .ref (q 21), .int (a 0 5), .int (a 0 6), .int (a 0 7), .int (a 0 8)])), (q 1, .inl (cI, 8, .inl (upd (a 1) (nn (a 0 0)) o))), (q 2, .inl (cI, 8, .inl (a 2))), (q 3, .inl (cI, 8, .inl (a 3))), (q 4, .inl (cI, 8, .inl (a 4))), (q 5, .inl (cI, 8, .inl (a 5))), (q 6, .inl (cI, 8, .inl (a 6))), (q 7, .inl (cI, 8, .inl (a 7))), (q 8, .inl (cI, 8, .inl (a 8))), (q 9, .inl (cF, 4, .inr (.inr (.inl (fun j => shF (a 9 j)))))), (q 10, .inl (cI, 100, .inl (a 10))), (q 11, .inl (cI, 100, .inl (a 11))), (q 12, .inl (cI, 100, .inl (a 12))), (q 13, .inl (cF, 100, .inr (.inr (.inl (fun j => shF (a 13 j)))))), (q 14, .inl (cI, 100, .inl (a 14))), (q 15, .inl (cI, 100, .inl (a 15))), (q 16, .inl (cI, 100, .inl (a 16))), (q 17, .inl (cI, 100, .inl (a 17))), (q 18, .inl (cI, 100, .inl (a 18))), (q 19, .inl (cI, 2000, .inl (a 19))), (q 20, .inl (cI, 2000, .inl (a 20))), (q 21, .inl (cZ, 2000, .inl (a 21)))] := hD
        refine lv_aload_n hx hb dX5_addSeller_46 rfl (lv_at hl 0 rfl) ?_
        refine va_get (D := (dC, dI)) (ci := 5) (v := .ref (q 4)) (C := RX5) (T := TX5) (N := 31) hx hb hts hiX5 hown hK hP 0 rfl rfl 6 (by decide) (hts (.fieldLink RX5 19 "PayoutnetModel" "leasts" "[I") (List.mem_of_getElem? (i := 3) rfl)) (fun _ h9 => h9) rfl dX5_addSeller_47 ?_
        refine lv_aload_n hx hb dX5_addSeller_50 rfl (lv_at hl 0 rfl) ?_
        refine va_get (D := (dC, dI)) (ci := 5) (v := .int (a 0 0)) (C := RX5) (T := TX5) (N := 31) hx hb hts hiX5 hown hK hP 0 rfl rfl 1 (by decide) (hts (.fieldLink RX5 80 "PayoutnetModel" "sellers" "I") (List.mem_of_getElem? (i := 1) rfl)) (fun _ h9 => h9) rfl dX5_addSeller_51 ?_
        refine y_topi (y := nI (nn (a 0 0))) hn ?_
        refine lv_iconst (v := 1) hx hb dX5_addSeller_54 (by decide) ?_
        refine y_ist hx hb hK hP hD hS 4 0 rfl rfl (t := nn (a 0 0)) (by omega) (Nat.le_of_ble_eq_true rfl) dX5_addSeller_55 (fun H locs hP hD hS => ?_)
        have hP : va_P (dC, dI) vwCl [(h0, .inr (5, [.int 0, .int (a 0 0), .int (a 0 1), .ref (q 1), .ref (q 2), .ref (q 3), .ref (q 4), .ref (q 5), .ref (q 6), .ref (q 7), .ref (q 8), .ref (q 9), .int (a 0 2), .int (a 0 3), .ref (q 10), .ref (q 11), .ref (q 12), .ref (q 13), .ref (q 14), .ref (q 15), .ref (q 16), .ref (q 17), .ref (q 18), .int (a 0 4), .ref (q 19), .ref (q 20), .ref (q 21), .int (a 0 5), .int (a 0 6), .int (a 0 7), .int (a 0 8)])), (q 1, .inl (cI, 8, .inl (upd (a 1) (nn (a 0 0)) o))), (q 2, .inl (cI, 8, .inl (a 2))), (q 3, .inl (cI, 8, .inl (a 3))), (q 4, .inl (cI, 8, .inl (upd (a 4) (nn (a 0 0)) 1))), (q 5, .inl (cI, 8, .inl (a 5))), (q 6, .inl (cI, 8, .inl (a 6))), (q 7, .inl (cI, 8, .inl (a 7))), (q 8, .inl (cI, 8, .inl (a 8))), (q 9, .inl (cF, 4, .inr (.inr (.inl (fun j => shF (a 9 j)))))), (q 10, .inl (cI, 100, .inl (a 10))), (q 11, .inl (cI, 100, .inl (a 11))), (q 12, .inl (cI, 100, .inl (a 12))), (q 13, .inl (cF, 100, .inr (.inr (.inl (fun j => shF (a 13 j)))))), (q 14, .inl (cI, 100, .inl (a 14))), (q 15, .inl (cI, 100, .inl (a 15))), (q 16, .inl (cI, 100, .inl (a 16))), (q 17, .inl (cI, 100, .inl (a 17))), (q 18, .inl (cI, 100, .inl (a 18))), (q 19, .inl (cI, 2000, .inl (a 19))), (q 20, .inl (cI, 2000, .inl (a 20))), (q 21, .inl (cZ, 2000, .inl (a 21)))] H := hP
        have hD : va_D A [(h0, .inr (5, [.int 0, .int (a 0 0), .int (a 0 1), .ref (q 1), .ref (q 2), .ref (q 3), .ref (q 4), .ref (q 5), .ref (q 6), .ref (q 7), .ref (q 8), .ref (q 9), .int (a 0 2), .int (a 0 3), .ref (q 10), .ref (q 11), .ref (q 12), .ref (q 13), .ref (q 14), .ref (q 15), .ref (q 16), .ref (q 17), .ref (q 18), .int (a 0 4), .ref (q 19), .ref (q 20), .ref (q 21), .int (a 0 5), .int (a 0 6), .int (a 0 7), .int (a 0 8)])), (q 1, .inl (cI, 8, .inl (upd (a 1) (nn (a 0 0)) o))), (q 2, .inl (cI, 8, .inl (a 2))), (q 3, .inl (cI, 8, .inl (a 3))), (q 4, .inl (cI, 8, .inl (upd (a 4) (nn (a 0 0)) 1))), (q 5, .inl (cI, 8, .inl (a 5))), (q 6, .inl (cI, 8, .inl (a 6))), (q 7, .inl (cI, 8, .inl (a 7))), (q 8, .inl (cI, 8, .inl (a 8))), (q 9, .inl (cF, 4, .inr (.inr (.inl (fun j => shF (a 9 j)))))), (q 10, .inl (cI, 100, .inl (a 10))), (q 11, .inl (cI, 100, .inl (a 11))), (q 12, .inl (cI, 100, .inl (a 12))), (q 13, .inl (cF, 100, .inr (.inr (.inl (fun j => shF (a 13 j)))))), (q 14, .inl (cI, 100, .inl (a 14))), (q 15, .inl (cI, 100, .inl (a 15))), (q 16, .inl (cI, 100, .inl (a 16))), (q 17, .inl (cI, 100, .inl (a 17))), (q 18, .inl (cI, 100, .inl (a 18))), (q 19, .inl (cI, 2000, .inl (a 19))), (q 20, .inl (cI, 2000, .inl (a 20))), (q 21, .inl (cZ, 2000, .inl (a 21)))] := hD
        refine lv_aload_n hx hb dX5_addSeller_56 rfl (lv_at hl 0 rfl) ?_
        refine va_get (D := (dC, dI)) (ci := 5) (v := .ref (q 6)) (C := RX5) (T := TX5) (N := 31) hx hb hts hiX5 hown hK hP 0 rfl rfl 8 (by decide) (hts (.fieldLink RX5 25 "PayoutnetModel" "reserveDays" "[I") (List.mem_of_getElem? (i := 4) rfl)) (fun _ h9 => h9) rfl dX5_addSeller_57 ?_
        refine lv_aload_n hx hb dX5_addSeller_60 rfl (lv_at hl 0 rfl) ?_
        refine va_get (D := (dC, dI)) (ci := 5) (v := .int (a 0 0)) (C := RX5) (T := TX5) (N := 31) hx hb hts hiX5 hown hK hP 0 rfl rfl 1 (by decide) (hts (.fieldLink RX5 80 "PayoutnetModel" "sellers" "I") (List.mem_of_getElem? (i := 1) rfl)) (fun _ h9 => h9) rfl dX5_addSeller_61 ?_
        refine y_topi (y := nI (nn (a 0 0))) hn ?_
        refine lv_bipush (v := 30) hx hb dX5_addSeller_64 (by decide) ?_
        refine y_ist hx hb hK hP hD hS 6 0 rfl rfl (t := nn (a 0 0)) (by omega) (Nat.le_of_ble_eq_true rfl) dX5_addSeller_66 (fun H locs hP hD hS => ?_)
        have hP : va_P (dC, dI) vwCl [(h0, .inr (5, [.int 0, .int (a 0 0), .int (a 0 1), .ref (q 1), .ref (q 2), .ref (q 3), .ref (q 4), .ref (q 5), .ref (q 6), .ref (q 7), .ref (q 8), .ref (q 9), .int (a 0 2), .int (a 0 3), .ref (q 10), .ref (q 11), .ref (q 12), .ref (q 13), .ref (q 14), .ref (q 15), .ref (q 16), .ref (q 17), .ref (q 18), .int (a 0 4), .ref (q 19), .ref (q 20), .ref (q 21), .int (a 0 5), .int (a 0 6), .int (a 0 7), .int (a 0 8)])), (q 1, .inl (cI, 8, .inl (upd (a 1) (nn (a 0 0)) o))), (q 2, .inl (cI, 8, .inl (a 2))), (q 3, .inl (cI, 8, .inl (a 3))), (q 4, .inl (cI, 8, .inl (upd (a 4) (nn (a 0 0)) 1))), (q 5, .inl (cI, 8, .inl (a 5))), (q 6, .inl (cI, 8, .inl (upd (a 6) (nn (a 0 0)) 30))), (q 7, .inl (cI, 8, .inl (a 7))), (q 8, .inl (cI, 8, .inl (a 8))), (q 9, .inl (cF, 4, .inr (.inr (.inl (fun j => shF (a 9 j)))))), (q 10, .inl (cI, 100, .inl (a 10))), (q 11, .inl (cI, 100, .inl (a 11))), (q 12, .inl (cI, 100, .inl (a 12))), (q 13, .inl (cF, 100, .inr (.inr (.inl (fun j => shF (a 13 j)))))), (q 14, .inl (cI, 100, .inl (a 14))), (q 15, .inl (cI, 100, .inl (a 15))), (q 16, .inl (cI, 100, .inl (a 16))), (q 17, .inl (cI, 100, .inl (a 17))), (q 18, .inl (cI, 100, .inl (a 18))), (q 19, .inl (cI, 2000, .inl (a 19))), (q 20, .inl (cI, 2000, .inl (a 20))), (q 21, .inl (cZ, 2000, .inl (a 21)))] H := hP
        have hD : va_D A [(h0, .inr (5, [.int 0, .int (a 0 0), .int (a 0 1), .ref (q 1), .ref (q 2), .ref (q 3), .ref (q 4), .ref (q 5), .ref (q 6), .ref (q 7), .ref (q 8), .ref (q 9), .int (a 0 2), .int (a 0 3), .ref (q 10), .ref (q 11), .ref (q 12), .ref (q 13), .ref (q 14), .ref (q 15), .ref (q 16), .ref (q 17), .ref (q 18), .int (a 0 4), .ref (q 19), .ref (q 20), .ref (q 21), .int (a 0 5), .int (a 0 6), .int (a 0 7), .int (a 0 8)])), (q 1, .inl (cI, 8, .inl (upd (a 1) (nn (a 0 0)) o))), (q 2, .inl (cI, 8, .inl (a 2))), (q 3, .inl (cI, 8, .inl (a 3))), (q 4, .inl (cI, 8, .inl (upd (a 4) (nn (a 0 0)) 1))), (q 5, .inl (cI, 8, .inl (a 5))), (q 6, .inl (cI, 8, .inl (upd (a 6) (nn (a 0 0)) 30))), (q 7, .inl (cI, 8, .inl (a 7))), (q 8, .inl (cI, 8, .inl (a 8))), (q 9, .inl (cF, 4, .inr (.inr (.inl (fun j => shF (a 9 j)))))), (q 10, .inl (cI, 100, .inl (a 10))), (q 11, .inl (cI, 100, .inl (a 11))), (q 12, .inl (cI, 100, .inl (a 12))), (q 13, .inl (cF, 100, .inr (.inr (.inl (fun j => shF (a 13 j)))))), (q 14, .inl (cI, 100, .inl (a 14))), (q 15, .inl (cI, 100, .inl (a 15))), (q 16, .inl (cI, 100, .inl (a 16))), (q 17, .inl (cI, 100, .inl (a 17))), (q 18, .inl (cI, 100, .inl (a 18))), (q 19, .inl (cI, 2000, .inl (a 19))), (q 20, .inl (cI, 2000, .inl (a 20))), (q 21, .inl (cZ, 2000, .inl (a 21)))] := hD
        refine lv_aload_n hx hb dX5_addSeller_67 rfl (lv_at hl 0 rfl) ?_
        refine lv_dup hx hb dX5_addSeller_68 rfl ?_
        refine va_get (D := (dC, dI)) (ci := 5) (v := .int (a 0 0)) (C := RX5) (T := TX5) (N := 31) hx hb hts hiX5 hown hK hP 0 rfl rfl 1 (by decide) (hts (.fieldLink RX5 80 "PayoutnetModel" "sellers" "I") (List.mem_of_getElem? (i := 1) rfl)) (fun _ h9 => h9) rfl dX5_addSeller_69 ?_
        refine lv_iconst (v := 1) hx hb dX5_addSeller_72 (by decide) ?_
        refine lv_iadd hx hb dX5_addSeller_73 ?_
        refine va_put (D := (dC, dI)) (ci := 5) (v := .int ((a 0 0) + 1)) (ty := .int) (C := RX5) (T := TX5) (N := 31) hx hb hts hiX5 tyX5 tyX5_ok nmX5 hown hK hP hD hS 0 rfl rfl 1 (by decide) (hts (.fieldLink RX5 80 "PayoutnetModel" "sellers" "I") (List.mem_of_getElem? (i := 1) rfl)) (fun _ h9 => h9) rfl (tyX5_ok 1 (by decide)) rfl rfl (Nat.le_of_ble_eq_true rfl) dX5_addSeller_74 (fun H locs hP hD hS => ?_)
        have hP : va_P (dC, dI) vwCl [(h0, .inr (5, [.int 0, .int ((a 0 0) + 1), .int (a 0 1), .ref (q 1), .ref (q 2), .ref (q 3), .ref (q 4), .ref (q 5), .ref (q 6), .ref (q 7), .ref (q 8), .ref (q 9), .int (a 0 2), .int (a 0 3), .ref (q 10), .ref (q 11), .ref (q 12), .ref (q 13), .ref (q 14), .ref (q 15), .ref (q 16), .ref (q 17), .ref (q 18), .int (a 0 4), .ref (q 19), .ref (q 20), .ref (q 21), .int (a 0 5), .int (a 0 6), .int (a 0 7), .int (a 0 8)])), (q 1, .inl (cI, 8, .inl (upd (a 1) (nn (a 0 0)) o))), (q 2, .inl (cI, 8, .inl (a 2))), (q 3, .inl (cI, 8, .inl (a 3))), (q 4, .inl (cI, 8, .inl (upd (a 4) (nn (a 0 0)) 1))), (q 5, .inl (cI, 8, .inl (a 5))), (q 6, .inl (cI, 8, .inl (upd (a 6) (nn (a 0 0)) 30))), (q 7, .inl (cI, 8, .inl (a 7))), (q 8, .inl (cI, 8, .inl (a 8))), (q 9, .inl (cF, 4, .inr (.inr (.inl (fun j => shF (a 9 j)))))), (q 10, .inl (cI, 100, .inl (a 10))), (q 11, .inl (cI, 100, .inl (a 11))), (q 12, .inl (cI, 100, .inl (a 12))), (q 13, .inl (cF, 100, .inr (.inr (.inl (fun j => shF (a 13 j)))))), (q 14, .inl (cI, 100, .inl (a 14))), (q 15, .inl (cI, 100, .inl (a 15))), (q 16, .inl (cI, 100, .inl (a 16))), (q 17, .inl (cI, 100, .inl (a 17))), (q 18, .inl (cI, 100, .inl (a 18))), (q 19, .inl (cI, 2000, .inl (a 19))), (q 20, .inl (cI, 2000, .inl (a 20))), (q 21, .inl (cZ, 2000, .inl (a 21)))] H := hP
        have hD : va_D A [(h0, .inr (5, [.int 0, .int ((a 0 0) + 1), .int (a 0 1), .ref (q 1), .ref (q 2), .ref (q 3), .ref (q 4), .ref (q 5), .ref (q 6), .ref (q 7), .ref (q 8), .ref (q 9), .int (a 0 2), .int (a 0 3), .ref (q 10), .ref (q 11), .ref (q 12), .ref (q 13), .ref (q 14), .ref (q 15), .ref (q 16), .ref (q 17), .ref (q 18), .int (a 0 4), .ref (q 19), .ref (q 20), .ref (q 21), .int (a 0 5), .int (a 0 6), .int (a 0 7), .int (a 0 8)])), (q 1, .inl (cI, 8, .inl (upd (a 1) (nn (a 0 0)) o))), (q 2, .inl (cI, 8, .inl (a 2))), (q 3, .inl (cI, 8, .inl (a 3))), (q 4, .inl (cI, 8, .inl (upd (a 4) (nn (a 0 0)) 1))), (q 5, .inl (cI, 8, .inl (a 5))), (q 6, .inl (cI, 8, .inl (upd (a 6) (nn (a 0 0)) 30))), (q 7, .inl (cI, 8, .inl (a 7))), (q 8, .inl (cI, 8, .inl (a 8))), (q 9, .inl (cF, 4, .inr (.inr (.inl (fun j => shF (a 9 j)))))), (q 10, .inl (cI, 100, .inl (a 10))), (q 11, .inl (cI, 100, .inl (a 11))), (q 12, .inl (cI, 100, .inl (a 12))), (q 13, .inl (cF, 100, .inr (.inr (.inl (fun j => shF (a 13 j)))))), (q 14, .inl (cI, 100, .inl (a 14))), (q 15, .inl (cI, 100, .inl (a 15))), (q 16, .inl (cI, 100, .inl (a 16))), (q 17, .inl (cI, 100, .inl (a 17))), (q 18, .inl (cI, 100, .inl (a 18))), (q 19, .inl (cI, 2000, .inl (a 19))), (q 20, .inl (cI, 2000, .inl (a 20))), (q 21, .inl (cZ, 2000, .inl (a 21)))] := hD
        refine lv_aload_n hx hb dX5_addSeller_77 rfl (lv_at hl 0 rfl) ?_
        refine va_get (D := (dC, dI)) (ci := 5) (v := .int ((a 0 0) + 1)) (C := RX5) (T := TX5) (N := 31) hx hb hts hiX5 hown hK hP 0 rfl rfl 1 (by decide) (hts (.fieldLink RX5 80 "PayoutnetModel" "sellers" "I") (List.mem_of_getElem? (i := 1) rfl)) (fun _ h9 => h9) rfl dX5_addSeller_78 ?_
        refine lv_iconst (v := 1) hx hb dX5_addSeller_81 (by decide) ?_
        refine lv_isub hx hb dX5_addSeller_82 ?_
        have hP : va_P (dC, dI) vwCl (WM cI cF cZ h0 q (sAdd a o) 0) H := hP
        have hD : va_D A (WM cI cF cZ h0 q (sAdd a o) 0) := hD
        have e8 : a 0 0 + 1 - 1 = a 0 0 := by rw [Int32.add_sub_cancel]
        have hP9 := hP
        have hD9 := hD
        have hK9 := hK
        exact W.iret (v := ((a 0 0) + 1) - 1) hx hb hr (fun t ht hW => ⟨⟨((a 0 0) + 1) - 1, (), rfl, (fun _ => e8), (by rw [e0]; exact atW_end hP9 hD9 hK9 ht hW)⟩, hS.F ht⟩) hS.2.2 dX5_addSeller_83
      · exact absurd c_4 (by decide)
    · have e2 : kAdd a o = 2 := by unfold kAdd; rw [if_pos hc_1, if_neg (fun h9 => (cnt_8 hB).mp h9 c_2)]
      refine lv_iconst (v := 2) hx hb dX5_addSeller_23 (by decide) ?_
      refine lv_goto (tgt := 28) hx hb dX5_addSeller_24 (by decide) ?_
      have hFc := y_free hD hS hA
      refine va_calli (va_runV (As := [.int 2]) (rest := []) ⟨hx, hb, hml, hown, hts⟩ (c_X5_holds l dC dI cI cF cZ h0 q H.size a th hB 2) (cwV 1 hts gX5_addSeller_X5_holds rfl rfl rfl (by decide +kernel) ⟨Nat.le_of_ble_eq_true rfl, Nat.le_of_ble_eq_true rfl⟩) ⟨pcW_blind, va_recv hK hP (ci := 5) (q0 := 0) rfl rfl, fun U hU hW => pcW_pre hP hD hK hU hW⟩ rfl rfl hl.1 rfl (lv_room (Nat.le_of_ble_eq_true rfl)) dX5_addSeller_28 ⟨Nat.zero_le _, Nat.zero_le _⟩) hS (fun q _ h => hFc q h) hFc (fun r u t H1 locs ht hvm hw hB1 hz1 hk1 hS => ?_)
      obtain ⟨hP, hK1, hD1⟩ := hB1
      rw [ht] at hP
      have hD := hD1.weaken (fun kk qq _ h => hFc qq.1 h)
      generalize H1 = H at hP hS ⊢
      have hP : va_P (dC, dI) vwCl (WM cI cF cZ h0 q a 2) H := hP
      have hD : va_D A (WM cI cF cZ h0 q a 2) := hD
      have hw5 := hw
      refine y_topi (y := 0) (hw5.trans (if_neg (by decide))) ?_
      refine lv_if_ne (tgt := 36) hx hb dX5_addSeller_31 (by decide) (fun c_6 => ?_) (fun c_6 => ?_)
      · exact absurd c_6 (by decide)
      · refine lv_iconst (v := 0) hx hb dX5_addSeller_34 (by decide) ?_
        have hP9 := hP
        have hD9 := hD
        have hK9 := hK
        exact W.iret (v := 0) hx hb hr (fun t ht hW => ⟨⟨0, (), rfl, (fun h9 => absurd (e2.symm.trans h9) (by decide)), (by rw [e2]; exact atW_end hP9 hD9 hK9 ht hW)⟩, hS.F ht⟩) hS.2.2 dX5_addSeller_35
  · have hc_1 : ¬ (bw o 0 3) := bI_f c_1
    have e1 : kAdd a o = 1 := if_neg hc_1
    refine lv_iconst (v := 1) hx hb dX5_addSeller_10 (by decide) ?_
    refine lv_goto (tgt := 28) hx hb dX5_addSeller_11 (by decide) ?_
    have hFc := y_free hD hS hA
    refine va_calli (va_runV (As := [.int 1]) (rest := []) ⟨hx, hb, hml, hown, hts⟩ (c_X5_holds l dC dI cI cF cZ h0 q H.size a th hB 1) (cwV 1 hts gX5_addSeller_X5_holds rfl rfl rfl (by decide +kernel) ⟨Nat.le_of_ble_eq_true rfl, Nat.le_of_ble_eq_true rfl⟩) ⟨pcW_blind, va_recv hK hP (ci := 5) (q0 := 0) rfl rfl, fun U hU hW => pcW_pre hP hD hK hU hW⟩ rfl rfl hl.1 rfl (lv_room (Nat.le_of_ble_eq_true rfl)) dX5_addSeller_28 ⟨Nat.zero_le _, Nat.zero_le _⟩) hS (fun q _ h => hFc q h) hFc (fun r u t H1 locs ht hvm hw hB1 hz1 hk1 hS => ?_)
    obtain ⟨hP, hK1, hD1⟩ := hB1
    rw [ht] at hP
    have hD := hD1.weaken (fun kk qq _ h => hFc qq.1 h)
    generalize H1 = H at hP hS ⊢
    have hP : va_P (dC, dI) vwCl (WM cI cF cZ h0 q a 1) H := hP
    have hD : va_D A (WM cI cF cZ h0 q a 1) := hD
    have hw7 := hw
    refine y_topi (y := 0) (hw7.trans (if_neg (by decide))) ?_
    refine lv_if_ne (tgt := 36) hx hb dX5_addSeller_31 (by decide) (fun c_8 => ?_) (fun c_8 => ?_)
    · exact absurd c_8 (by decide)
    · refine lv_iconst (v := 0) hx hb dX5_addSeller_34 (by decide) ?_
      have hP9 := hP
      have hD9 := hD
      have hK9 := hK
      exact W.iret (v := 0) hx hb hr (fun t ht hW => ⟨⟨0, (), rfl, (fun h9 => absurd (e1.symm.trans h9) (by decide)), (by rw [e1]; exact atW_end hP9 hD9 hK9 ht hW)⟩, hS.F ht⟩) hS.2.2 dX5_addSeller_35
set_option maxHeartbeats 4000000 in
set_option maxRecDepth 100000 in
theorem c_X5_verify (l : Launch) (dC : Nat → ClassId) (dI : Nat → Nat → Nat) (cI cF cZ : ClassId) (h0 : Nat) (q : Nat → Nat) (sz : Nat) (a : yA) (th : Int32) (hB : okB a) (x st : Int32) : Met l yX5_verify wsX5_verify ({ frames := 2, cells := 0, slots := 0, locals := 43 } : Room) (va_Pc [.ref h0, .int x, .int st] (pcW dC dI [(cI, .int), (cF, .float), (cZ, .boolean)] (WM cI cF cZ h0 q a th) sz)) (va_Qi (fun (r : Int32) (_ : Unit) => (kVer a x st = 0 → r = a 2 (nn x))) (fun _ t => atM dC dI cI cF cZ (va_A (WM cI cF cZ h0 q a th) sz) h0 q (if kVer a x st = 0 then sVer a x st else a) (nI (kVer a x st)) t) (va_A (WM cI cF cZ h0 q a th) sz)) 0 0 (va_A (WM cI cF cZ h0 q a th) sz) := by
  refine Met.ofW (cc := cX5_verify) (maxL := 4) (ret := (some .int)) (by decide) rfl ?_
  intro p e s m args below meth c s₁ B hml hv
  obtain ⟨rfl, hsz, hP, hK, hD0⟩ := hv
  have hx := B.exec
  have hb := B.bytes
  have hr := B.returns
  have hts := atoms_spec (ws := wsX5_verify) B.pre
  have hown : s.vm.findClass RX5 = some m.cls := findClass_of_methodNamed B.named
  have hlocks := B.notSynchronized
  subst hsz
  have hD := hD0.self (sz := s.heap.size)
  generalize hAe : va_A [(h0, .inr (5, [.int th, .int (a 0 0), .int (a 0 1), .ref (q 1), .ref (q 2), .ref (q 3), .ref (q 4), .ref (q 5), .ref (q 6), .ref (q 7), .ref (q 8), .ref (q 9), .int (a 0 2), .int (a 0 3), .ref (q 10), .ref (q 11), .ref (q 12), .ref (q 13), .ref (q 14), .ref (q 15), .ref (q 16), .ref (q 17), .ref (q 18), .int (a 0 4), .ref (q 19), .ref (q 20), .ref (q 21), .int (a 0 5), .int (a 0 6), .int (a 0 7), .int (a 0 8)])), (q 1, .inl (cI, 8, .inl (a 1))), (q 2, .inl (cI, 8, .inl (a 2))), (q 3, .inl (cI, 8, .inl (a 3))), (q 4, .inl (cI, 8, .inl (a 4))), (q 5, .inl (cI, 8, .inl (a 5))), (q 6, .inl (cI, 8, .inl (a 6))), (q 7, .inl (cI, 8, .inl (a 7))), (q 8, .inl (cI, 8, .inl (a 8))), (q 9, .inl (cF, 4, .inr (.inr (.inl (fun j => shF (a 9 j)))))), (q 10, .inl (cI, 100, .inl (a 10))), (q 11, .inl (cI, 100, .inl (a 11))), (q 12, .inl (cI, 100, .inl (a 12))), (q 13, .inl (cF, 100, .inr (.inr (.inl (fun j => shF (a 13 j)))))), (q 14, .inl (cI, 100, .inl (a 14))), (q 15, .inl (cI, 100, .inl (a 15))), (q 16, .inl (cI, 100, .inl (a 16))), (q 17, .inl (cI, 100, .inl (a 17))), (q 18, .inl (cI, 100, .inl (a 18))), (q 19, .inl (cI, 2000, .inl (a 19))), (q 20, .inl (cI, 2000, .inl (a 20))), (q 21, .inl (cZ, 2000, .inl (a 21)))] s.heap.size = A at hD ⊢
  have hA : ∀ q : Nat, s.heap.size ≤ q → A q := fun q h => by rw [← hAe]; exact Or.inr h
  have hS : va_S A s.heap s.heap [] := va_S.rf
  have hl := lv_entry ([.ref h0, .int x, .int st]) (n := 4) (Nat.le_of_ble_eq_true rfl)
  rw [lg_entry_eq]
  generalize (lg_sl ([.ref h0, .int x, .int st]) ++ List.replicate (4 - (lg_sl ([.ref h0, .int x, .int st])).length) Slot.unset).toArray = ls at hl ⊢
  have hl : lv_has ls 4 [(0, .ref h0), (1, .int x), (2, .int st)] := hl
  have hiX5 : ∀ w ∈ wsX50, w ∈ wsX5_verify := fun w h => List.mem_cons_of_mem _ (List.mem_append_right _ h)
  have hP : va_P (dC, dI) vwCl [(h0, .inr (5, [.int th, .int (a 0 0), .int (a 0 1), .ref (q 1), .ref (q 2), .ref (q 3), .ref (q 4), .ref (q 5), .ref (q 6), .ref (q 7), .ref (q 8), .ref (q 9), .int (a 0 2), .int (a 0 3), .ref (q 10), .ref (q 11), .ref (q 12), .ref (q 13), .ref (q 14), .ref (q 15), .ref (q 16), .ref (q 17), .ref (q 18), .int (a 0 4), .ref (q 19), .ref (q 20), .ref (q 21), .int (a 0 5), .int (a 0 6), .int (a 0 7), .int (a 0 8)])), (q 1, .inl (cI, 8, .inl (a 1))), (q 2, .inl (cI, 8, .inl (a 2))), (q 3, .inl (cI, 8, .inl (a 3))), (q 4, .inl (cI, 8, .inl (a 4))), (q 5, .inl (cI, 8, .inl (a 5))), (q 6, .inl (cI, 8, .inl (a 6))), (q 7, .inl (cI, 8, .inl (a 7))), (q 8, .inl (cI, 8, .inl (a 8))), (q 9, .inl (cF, 4, .inr (.inr (.inl (fun j => shF (a 9 j)))))), (q 10, .inl (cI, 100, .inl (a 10))), (q 11, .inl (cI, 100, .inl (a 11))), (q 12, .inl (cI, 100, .inl (a 12))), (q 13, .inl (cF, 100, .inr (.inr (.inl (fun j => shF (a 13 j)))))), (q 14, .inl (cI, 100, .inl (a 14))), (q 15, .inl (cI, 100, .inl (a 15))), (q 16, .inl (cI, 100, .inl (a 16))), (q 17, .inl (cI, 100, .inl (a 17))), (q 18, .inl (cI, 100, .inl (a 18))), (q 19, .inl (cI, 2000, .inl (a 19))), (q 20, .inl (cI, 2000, .inl (a 20))), (q 21, .inl (cZ, 2000, .inl (a 21)))] s.heap := hP
  refine y_enter (A := A) hP (fun H hP hS => ?_)
  have hBk := hB
  refine lv_aload_n hx hb dX5_verify_0 rfl (lv_at hl 0 rfl) ?_
  refine lv_aload_n hx hb dX5_verify_1 rfl (lv_at hl 0 rfl) ?_
  refine lv_iload_n hx hb dX5_verify_2 rfl (lv_at hl 1 rfl) ?_
  have hFc := y_free hD hS hA
  refine va_calli (va_runV (As := [.int x]) (rest := [.ref h0]) ⟨hx, hb, hml, hown, hts⟩ (c_X5_isSeller l dC dI cI cF cZ h0 q H.size a th hB x) (cwV 1 hts gX5_verify_X5_isSeller rfl rfl rfl (by decide +kernel) ⟨Nat.le_of_ble_eq_true rfl, Nat.le_of_ble_eq_true rfl⟩) ⟨pcW_blind, va_recv hK hP (ci := 5) (q0 := 0) rfl rfl, fun U hU hW => pcW_pre hP hD hK hU hW⟩ rfl rfl hl.1 rfl (lv_room (Nat.le_of_ble_eq_true rfl)) dX5_verify_3 ⟨Nat.zero_le _, Nat.zero_le _⟩) hS (fun q _ h => hFc q h) hFc (fun r u t H1 locs ht hvm hw hB1 hz1 hk1 hS => ?_)
  obtain ⟨hP, hK1, hD1⟩ := hB1
  rw [ht] at hP
  have hD := hD1.weaken (fun kk qq _ h => hFc qq.1 h)
  generalize H1 = H at hP hS ⊢
  have hP : va_P (dC, dI) vwCl (WM cI cF cZ h0 q a th) H := hP
  have hD : va_D A (WM cI cF cZ h0 q a th) := hD
  have hw1 := hw
  refine y_topi (y := bI (selOK a x)) hw1 ?_
  refine lv_if_ne (tgt := 13) hx hb dX5_verify_6 (by decide) (fun c_2 => ?_) (fun c_2 => ?_)
  · have hc_2 : selOK a x := bI_t c_2
    refine lv_iload_n hx hb dX5_verify_13 rfl (lv_at hl 2 rfl) ?_
    refine lv_iconst (v := 0) hx hb dX5_verify_14 (by decide) ?_
    refine lv_iconst (v := 2) hx hb dX5_verify_15 (by decide) ?_
    refine va_calli (va_runS (As := [.int st, .int 0, .int 2]) (rest := [.ref h0]) ⟨hx, hb, hml, hown, hts⟩ (c_X5_in l st 0 2) (va_cwS 3 hts gX5_verify_X5_in rfl rfl rfl (by decide +kernel) ⟨Nat.le_of_ble_eq_true rfl, Nat.le_of_ble_eq_true rfl⟩) ⟨pcT_blind, fun U hU hW => pcT_pre⟩ rfl rfl hl.1 rfl (lv_room (Nat.le_of_ble_eq_true rfl)) dX5_verify_16 ⟨(Nat.zero_le _), (Nat.zero_le _)⟩) hS (fun q _ h => h.elim) (fun q h => h.elim) (fun r u t H1 locs ht hvm hw hB1 hz1 hk1 hS => ?_)
    have hP := y_keptP hP hk1
    generalize H1 = H at hP hS ⊢
    refine y_topi (y := bI (bw st 0 2)) hw ?_
    refine lv_if_eq (tgt := 26) hx hb dX5_verify_19 (by decide) (fun c_3 => ?_) (fun c_3 => ?_)
    · have hc_3 : ¬ (bw st 0 2) := bI_f c_3
      have e2 : kVer a x st = 2 := by unfold kVer; rw [if_pos hc_2, if_neg hc_3]
      refine lv_iconst (v := 2) hx hb dX5_verify_26 (by decide) ?_
      have hFc := y_free hD hS hA
      refine va_calli (va_runV (As := [.int 2]) (rest := []) ⟨hx, hb, hml, hown, hts⟩ (c_X5_holds l dC dI cI cF cZ h0 q H.size a th hB 2) (cwV 1 hts gX5_verify_X5_holds rfl rfl rfl (by decide +kernel) ⟨Nat.le_of_ble_eq_true rfl, Nat.le_of_ble_eq_true rfl⟩) ⟨pcW_blind, va_recv hK hP (ci := 5) (q0 := 0) rfl rfl, fun U hU hW => pcW_pre hP hD hK hU hW⟩ rfl rfl hl.1 rfl (lv_room (Nat.le_of_ble_eq_true rfl)) dX5_verify_27 ⟨Nat.zero_le _, Nat.zero_le _⟩) hS (fun q _ h => hFc q h) hFc (fun r u t H1 locs ht hvm hw hB1 hz1 hk1 hS => ?_)
      obtain ⟨hP, hK1, hD1⟩ := hB1
      rw [ht] at hP
      have hD := hD1.weaken (fun kk qq _ h => hFc qq.1 h)
      generalize H1 = H at hP hS ⊢
      have hP : va_P (dC, dI) vwCl (WM cI cF cZ h0 q a 2) H := hP
      have hD : va_D A (WM cI cF cZ h0 q a 2) := hD
      have hw4 := hw
      refine y_topi (y := 0) (hw4.trans (if_neg (by decide))) ?_
      refine lv_if_ne (tgt := 35) hx hb dX5_verify_30 (by decide) (fun c_5 => ?_) (fun c_5 => ?_)
      · exact absurd c_5 (by decide)
      · refine lv_iconst (v := 0) hx hb dX5_verify_33 (by decide) ?_
        have hP9 := hP
        have hD9 := hD
        have hK9 := hK
        exact W.iret (v := 0) hx hb hr (fun t ht hW => ⟨⟨0, (), rfl, (fun h9 => absurd (e2.symm.trans h9) (by decide)), (by rw [e2]; exact atW_end hP9 hD9 hK9 ht hW)⟩, hS.F ht⟩) hS.2.2 dX5_verify_34
    · have hc_3 : bw st 0 2 := bI_t c_3
      have e0 : kVer a x st = 0 := by unfold kVer; rw [if_pos hc_2, if_pos hc_3]
      refine lv_iconst (v := 0) hx hb dX5_verify_22 (by decide) ?_
      refine lv_goto (tgt := 27) hx hb dX5_verify_23 (by decide) ?_
      have hFc := y_free hD hS hA
      refine va_calli (va_runV (As := [.int 0]) (rest := []) ⟨hx, hb, hml, hown, hts⟩ (c_X5_holds l dC dI cI cF cZ h0 q H.size a th hB 0) (cwV 1 hts gX5_verify_X5_holds rfl rfl rfl (by decide +kernel) ⟨Nat.le_of_ble_eq_true rfl, Nat.le_of_ble_eq_true rfl⟩) ⟨pcW_blind, va_recv hK hP (ci := 5) (q0 := 0) rfl rfl, fun U hU hW => pcW_pre hP hD hK hU hW⟩ rfl rfl hl.1 rfl (lv_room (Nat.le_of_ble_eq_true rfl)) dX5_verify_27 ⟨Nat.zero_le _, Nat.zero_le _⟩) hS (fun q _ h => hFc q h) hFc (fun r u t H1 locs ht hvm hw hB1 hz1 hk1 hS => ?_)
      obtain ⟨hP, hK1, hD1⟩ := hB1
      rw [ht] at hP
      have hD := hD1.weaken (fun kk qq _ h => hFc qq.1 h)
      generalize H1 = H at hP hS ⊢
      have hP : va_P (dC, dI) vwCl (WM cI cF cZ h0 q a 0) H := hP
      have hD : va_D A (WM cI cF cZ h0 q a 0) := hD
      have hw6 := hw
      refine y_topi (y := 1) (hw6.trans (if_pos rfl)) ?_
      refine lv_if_ne (tgt := 35) hx hb dX5_verify_30 (by decide) (fun c_7 => ?_) (fun c_7 => ?_)
      · have hx1 := nat_of (hB 0 0 8 rfl) (by decide) hc_2.1 hc_2.2
        have hx8 : nn x < 8 := Nat.lt_of_lt_of_le hx1.2 (hB 0 0 8 rfl).2
        refine lv_aload_n hx hb dX5_verify_35 rfl (lv_at hl 0 rfl) ?_
        refine va_get (D := (dC, dI)) (ci := 5) (v := .ref (q 2)) (C := RX5) (T := TX5) (N := 31) hx hb hts hiX5 hown hK hP 0 rfl rfl 4 (by decide) (hts (.fieldLink RX5 13 "PayoutnetModel" "steps" "[I") (List.mem_of_getElem? (i := 1) rfl)) (fun _ h9 => h9) rfl dX5_verify_36 ?_
        refine lv_iload_n hx hb dX5_verify_39 rfl (lv_at hl 1 rfl) ?_
        refine y_topi (y := nI (nn x)) hx1.1 ?_
        refine y_ild hx hb hK hP 2 0 rfl rfl (t := nn x) (by omega) (Nat.le_of_ble_eq_true rfl) dX5_verify_40 ?_
        refine lv_istore_n (lv' := [(3, .int ((a 2) (nn x))), (0, .ref h0), (1, .int x), (2, .int st)]) hx hb dX5_verify_41 rfl hl (by decide) rfl (fun ls hl => ?_)
        refine lv_aload_n hx hb dX5_verify_42 rfl (lv_at hl 1 rfl) ?_
        refine va_get (D := (dC, dI)) (ci := 5) (v := .ref (q 2)) (C := RX5) (T := TX5) (N := 31) hx hb hts hiX5 hown hK hP 0 rfl rfl 4 (by decide) (hts (.fieldLink RX5 13 "PayoutnetModel" "steps" "[I") (List.mem_of_getElem? (i := 1) rfl)) (fun _ h9 => h9) rfl dX5_verify_43 ?_
        refine lv_iload_n hx hb dX5_verify_46 rfl (lv_at hl 2 rfl) ?_
        refine y_topi (y := nI (nn x)) hx1.1 ?_
        refine lv_iload_n hx hb dX5_verify_47 rfl (lv_at hl 3 rfl) ?_
        refine y_ist hx hb hK hP hD hS 2 0 rfl rfl (t := nn x) (by omega) (Nat.le_of_ble_eq_true rfl) dX5_verify_48 (fun H locs hP hD hS => ?_)
        have hP : va_P (dC, dI) vwCl [(h0, .inr (5, [.int 0, .int (a 0 0), .int (a 0 1), .ref (q 1), .ref (q 2), .ref (q 3), .ref (q 4), .ref (q 5), .ref (q 6), .ref (q 7), .ref (q 8), .ref (q 9), .int (a 0 2), .int (a 0 3), .ref (q 10), .ref (q 11), .ref (q 12), .ref (q 13), .ref (q 14), .ref (q 15), .ref (q 16), .ref (q 17), .ref (q 18), .int (a 0 4), .ref (q 19), .ref (q 20), .ref (q 21), .int (a 0 5), .int (a 0 6), .int (a 0 7), .int (a 0 8)])), (q 1, .inl (cI, 8, .inl (a 1))), (q 2, .inl (cI, 8, .inl (upd (a 2) (nn x) st))), (q 3, .inl (cI, 8, .inl (a 3))), (q 4, .inl (cI, 8, .inl (a 4))), (q 5, .inl (cI, 8, .inl (a 5))), (q 6, .inl (cI, 8, .inl (a 6))), (q 7, .inl (cI, 8, .inl (a 7))), (q 8, .inl (cI, 8, .inl (a 8))), (q 9, .inl (cF, 4, .inr (.inr (.inl (fun j => shF (a 9 j)))))), (q 10, .inl (cI, 100, .inl (a 10))), (q 11, .inl (cI, 100, .inl (a 11))), (q 12, .inl (cI, 100, .inl (a 12))), (q 13, .inl (cF, 100, .inr (.inr (.inl (fun j => shF (a 13 j)))))), (q 14, .inl (cI, 100, .inl (a 14))), (q 15, .inl (cI, 100, .inl (a 15))), (q 16, .inl (cI, 100, .inl (a 16))), (q 17, .inl (cI, 100, .inl (a 17))), (q 18, .inl (cI, 100, .inl (a 18))), (q 19, .inl (cI, 2000, .inl (a 19))), (q 20, .inl (cI, 2000, .inl (a 20))), (q 21, .inl (cZ, 2000, .inl (a 21)))] H := hP
        have hD : va_D A [(h0, .inr (5, [.int 0, .int (a 0 0), .int (a 0 1), .ref (q 1), .ref (q 2), .ref (q 3), .ref (q 4), .ref (q 5), .ref (q 6), .ref (q 7), .ref (q 8), .ref (q 9), .int (a 0 2), .int (a 0 3), .ref (q 10), .ref (q 11), .ref (q 12), .ref (q 13), .ref (q 14), .ref (q 15), .ref (q 16), .ref (q 17), .ref (q 18), .int (a 0 4), .ref (q 19), .ref (q 20), .ref (q 21), .int (a 0 5), .int (a 0 6), .int (a 0 7), .int (a 0 8)])), (q 1, .inl (cI, 8, .inl (a 1))), (q 2, .inl (cI, 8, .inl (upd (a 2) (nn x) st))), (q 3, .inl (cI, 8, .inl (a 3))), (q 4, .inl (cI, 8, .inl (a 4))), (q 5, .inl (cI, 8, .inl (a 5))), (q 6, .inl (cI, 8, .inl (a 6))), (q 7, .inl (cI, 8, .inl (a 7))), (q 8, .inl (cI, 8, .inl (a 8))), (q 9, .inl (cF, 4, .inr (.inr (.inl (fun j => shF (a 9 j)))))), (q 10, .inl (cI, 100, .inl (a 10))), (q 11, .inl (cI, 100, .inl (a 11))), (q 12, .inl (cI, 100, .inl (a 12))), (q 13, .inl (cF, 100, .inr (.inr (.inl (fun j => shF (a 13 j)))))), (q 14, .inl (cI, 100, .inl (a 14))), (q 15, .inl (cI, 100, .inl (a 15))), (q 16, .inl (cI, 100, .inl (a 16))), (q 17, .inl (cI, 100, .inl (a 17))), (q 18, .inl (cI, 100, .inl (a 18))), (q 19, .inl (cI, 2000, .inl (a 19))), (q 20, .inl (cI, 2000, .inl (a 20))), (q 21, .inl (cZ, 2000, .inl (a 21)))] := hD
        refine lv_iload_n hx hb dX5_verify_49 rfl (lv_at hl 0 rfl) ?_
        have hP : va_P (dC, dI) vwCl (WM cI cF cZ h0 q (sVer a x st) 0) H := hP
        have hD : va_D A (WM cI cF cZ h0 q (sVer a x st) 0) := hD
        have hP9 := hP
        have hD9 := hD
        have hK9 := hK
        exact W.iret (v := (a 2) (nn x)) hx hb hr (fun t ht hW => ⟨⟨(a 2) (nn x), (), rfl, (fun _ => rfl), (by rw [e0]; exact atW_end hP9 hD9 hK9 ht hW)⟩, hS.F ht⟩) hS.2.2 dX5_verify_50
      · exact absurd c_7 (by decide)
  · have hc_2 : ¬ (selOK a x) := bI_f c_2
    have e1 : kVer a x st = 1 := if_neg hc_2
    refine lv_iconst (v := 1) hx hb dX5_verify_9 (by decide) ?_
    refine lv_goto (tgt := 27) hx hb dX5_verify_10 (by decide) ?_
    have hFc := y_free hD hS hA
    refine va_calli (va_runV (As := [.int 1]) (rest := []) ⟨hx, hb, hml, hown, hts⟩ (c_X5_holds l dC dI cI cF cZ h0 q H.size a th hB 1) (cwV 1 hts gX5_verify_X5_holds rfl rfl rfl (by decide +kernel) ⟨Nat.le_of_ble_eq_true rfl, Nat.le_of_ble_eq_true rfl⟩) ⟨pcW_blind, va_recv hK hP (ci := 5) (q0 := 0) rfl rfl, fun U hU hW => pcW_pre hP hD hK hU hW⟩ rfl rfl hl.1 rfl (lv_room (Nat.le_of_ble_eq_true rfl)) dX5_verify_27 ⟨Nat.zero_le _, Nat.zero_le _⟩) hS (fun q _ h => hFc q h) hFc (fun r u t H1 locs ht hvm hw hB1 hz1 hk1 hS => ?_)
    obtain ⟨hP, hK1, hD1⟩ := hB1
    rw [ht] at hP
    have hD := hD1.weaken (fun kk qq _ h => hFc qq.1 h)
    generalize H1 = H at hP hS ⊢
    have hP : va_P (dC, dI) vwCl (WM cI cF cZ h0 q a 1) H := hP
    have hD : va_D A (WM cI cF cZ h0 q a 1) := hD
    have hw8 := hw
    refine y_topi (y := 0) (hw8.trans (if_neg (by decide))) ?_
    refine lv_if_ne (tgt := 35) hx hb dX5_verify_30 (by decide) (fun c_9 => ?_) (fun c_9 => ?_)
    · exact absurd c_9 (by decide)
    · refine lv_iconst (v := 0) hx hb dX5_verify_33 (by decide) ?_
      have hP9 := hP
      have hD9 := hD
      have hK9 := hK
      exact W.iret (v := 0) hx hb hr (fun t ht hW => ⟨⟨0, (), rfl, (fun h9 => absurd (e1.symm.trans h9) (by decide)), (by rw [e1]; exact atW_end hP9 hD9 hK9 ht hW)⟩, hS.F ht⟩) hS.2.2 dX5_verify_34
set_option maxHeartbeats 4000000 in
set_option maxRecDepth 100000 in
theorem c_X5_setPayouts (l : Launch) (dC : Nat → ClassId) (dI : Nat → Nat → Nat) (cI cF cZ : ClassId) (h0 : Nat) (q : Nat → Nat) (sz : Nat) (a : yA) (th : Int32) (hB : okB a) (x y v : Int32) : Met l yX5_setPayouts wsX5_setPayouts ({ frames := 2, cells := 0, slots := 0, locals := 43 } : Room) (va_Pc [.ref h0, .int x, .int y, .int v] (pcW dC dI [(cI, .int), (cF, .float), (cZ, .boolean)] (WM cI cF cZ h0 q a th) sz)) (va_Qv (fun _ : Unit => True) (fun _ t => atM dC dI cI cF cZ (va_A (WM cI cF cZ h0 q a th) sz) h0 q (if kPO a x y v = 0 then sPO a x y v else a) (nI (kPO a x y v)) t) (va_A (WM cI cF cZ h0 q a th) sz)) 0 0 (va_A (WM cI cF cZ h0 q a th) sz) := by
  refine Met.ofW (cc := cX5_setPayouts) (maxL := 4) (ret := none) (by decide) rfl ?_
  intro p e s m args below meth c s₁ B hml hv
  obtain ⟨rfl, hsz, hP, hK, hD0⟩ := hv
  have hx := B.exec
  have hb := B.bytes
  have hr := B.returns
  have hts := atoms_spec (ws := wsX5_setPayouts) B.pre
  have hown : s.vm.findClass RX5 = some m.cls := findClass_of_methodNamed B.named
  have hlocks := B.notSynchronized
  subst hsz
  have hD := hD0.self (sz := s.heap.size)
  generalize hAe : va_A [(h0, .inr (5, [.int th, .int (a 0 0), .int (a 0 1), .ref (q 1), .ref (q 2), .ref (q 3), .ref (q 4), .ref (q 5), .ref (q 6), .ref (q 7), .ref (q 8), .ref (q 9), .int (a 0 2), .int (a 0 3), .ref (q 10), .ref (q 11), .ref (q 12), .ref (q 13), .ref (q 14), .ref (q 15), .ref (q 16), .ref (q 17), .ref (q 18), .int (a 0 4), .ref (q 19), .ref (q 20), .ref (q 21), .int (a 0 5), .int (a 0 6), .int (a 0 7), .int (a 0 8)])), (q 1, .inl (cI, 8, .inl (a 1))), (q 2, .inl (cI, 8, .inl (a 2))), (q 3, .inl (cI, 8, .inl (a 3))), (q 4, .inl (cI, 8, .inl (a 4))), (q 5, .inl (cI, 8, .inl (a 5))), (q 6, .inl (cI, 8, .inl (a 6))), (q 7, .inl (cI, 8, .inl (a 7))), (q 8, .inl (cI, 8, .inl (a 8))), (q 9, .inl (cF, 4, .inr (.inr (.inl (fun j => shF (a 9 j)))))), (q 10, .inl (cI, 100, .inl (a 10))), (q 11, .inl (cI, 100, .inl (a 11))), (q 12, .inl (cI, 100, .inl (a 12))), (q 13, .inl (cF, 100, .inr (.inr (.inl (fun j => shF (a 13 j)))))), (q 14, .inl (cI, 100, .inl (a 14))), (q 15, .inl (cI, 100, .inl (a 15))), (q 16, .inl (cI, 100, .inl (a 16))), (q 17, .inl (cI, 100, .inl (a 17))), (q 18, .inl (cI, 100, .inl (a 18))), (q 19, .inl (cI, 2000, .inl (a 19))), (q 20, .inl (cI, 2000, .inl (a 20))), (q 21, .inl (cZ, 2000, .inl (a 21)))] s.heap.size = A at hD ⊢
  have hA : ∀ q : Nat, s.heap.size ≤ q → A q := fun q h => by rw [← hAe]; exact Or.inr h
  have hS : va_S A s.heap s.heap [] := va_S.rf
  have hl := lv_entry ([.ref h0, .int x, .int y, .int v]) (n := 4) (Nat.le_of_ble_eq_true rfl)
  rw [lg_entry_eq]
  generalize (lg_sl ([.ref h0, .int x, .int y, .int v]) ++ List.replicate (4 - (lg_sl ([.ref h0, .int x, .int y, .int v])).length) Slot.unset).toArray = ls at hl ⊢
  have hl : lv_has ls 4 [(0, .ref h0), (1, .int x), (2, .int y), (3, .int v)] := hl
  have hiX5 : ∀ w ∈ wsX50, w ∈ wsX5_setPayouts := fun w h => List.mem_cons_of_mem _ (List.mem_append_right _ h)
  have hP : va_P (dC, dI) vwCl [(h0, .inr (5, [.int th, .int (a 0 0), .int (a 0 1), .ref (q 1), .ref (q 2), .ref (q 3), .ref (q 4), .ref (q 5), .ref (q 6), .ref (q 7), .ref (q 8), .ref (q 9), .int (a 0 2), .int (a 0 3), .ref (q 10), .ref (q 11), .ref (q 12), .ref (q 13), .ref (q 14), .ref (q 15), .ref (q 16), .ref (q 17), .ref (q 18), .int (a 0 4), .ref (q 19), .ref (q 20), .ref (q 21), .int (a 0 5), .int (a 0 6), .int (a 0 7), .int (a 0 8)])), (q 1, .inl (cI, 8, .inl (a 1))), (q 2, .inl (cI, 8, .inl (a 2))), (q 3, .inl (cI, 8, .inl (a 3))), (q 4, .inl (cI, 8, .inl (a 4))), (q 5, .inl (cI, 8, .inl (a 5))), (q 6, .inl (cI, 8, .inl (a 6))), (q 7, .inl (cI, 8, .inl (a 7))), (q 8, .inl (cI, 8, .inl (a 8))), (q 9, .inl (cF, 4, .inr (.inr (.inl (fun j => shF (a 9 j)))))), (q 10, .inl (cI, 100, .inl (a 10))), (q 11, .inl (cI, 100, .inl (a 11))), (q 12, .inl (cI, 100, .inl (a 12))), (q 13, .inl (cF, 100, .inr (.inr (.inl (fun j => shF (a 13 j)))))), (q 14, .inl (cI, 100, .inl (a 14))), (q 15, .inl (cI, 100, .inl (a 15))), (q 16, .inl (cI, 100, .inl (a 16))), (q 17, .inl (cI, 100, .inl (a 17))), (q 18, .inl (cI, 100, .inl (a 18))), (q 19, .inl (cI, 2000, .inl (a 19))), (q 20, .inl (cI, 2000, .inl (a 20))), (q 21, .inl (cZ, 2000, .inl (a 21)))] s.heap := hP
  refine y_enter (A := A) hP (fun H hP hS => ?_)
  have hBk := hB
  refine lv_aload_n hx hb dX5_setPayouts_0 rfl (lv_at hl 0 rfl) ?_
  refine lv_aload_n hx hb dX5_setPayouts_1 rfl (lv_at hl 0 rfl) ?_
  refine lv_iload_n hx hb dX5_setPayouts_2 rfl (lv_at hl 1 rfl) ?_
  have hFc := y_free hD hS hA
  refine va_calli (va_runV (As := [.int x]) (rest := [.ref h0]) ⟨hx, hb, hml, hown, hts⟩ (c_X5_isSeller l dC dI cI cF cZ h0 q H.size a th hB x) (cwV 1 hts gX5_setPayouts_X5_isSeller rfl rfl rfl (by decide +kernel) ⟨Nat.le_of_ble_eq_true rfl, Nat.le_of_ble_eq_true rfl⟩) ⟨pcW_blind, va_recv hK hP (ci := 5) (q0 := 0) rfl rfl, fun U hU hW => pcW_pre hP hD hK hU hW⟩ rfl rfl hl.1 rfl (lv_room (Nat.le_of_ble_eq_true rfl)) dX5_setPayouts_3 ⟨Nat.zero_le _, Nat.zero_le _⟩) hS (fun q _ h => hFc q h) hFc (fun r u t H1 locs ht hvm hw hB1 hz1 hk1 hS => ?_)
  obtain ⟨hP, hK1, hD1⟩ := hB1
  rw [ht] at hP
  have hD := hD1.weaken (fun kk qq _ h => hFc qq.1 h)
  generalize H1 = H at hP hS ⊢
  have hP : va_P (dC, dI) vwCl (WM cI cF cZ h0 q a th) H := hP
  have hD : va_D A (WM cI cF cZ h0 q a th) := hD
  have hw1 := hw
  refine y_topi (y := bI (selOK a x)) hw1 ?_
  refine lv_if_ne (tgt := 13) hx hb dX5_setPayouts_6 (by decide) (fun c_2 => ?_) (fun c_2 => ?_)
  · have hc_2 : selOK a x := bI_t c_2
    refine lv_iload_n hx hb dX5_setPayouts_13 rfl (lv_at hl 2 rfl) ?_
    refine lv_iconst (v := 0) hx hb dX5_setPayouts_14 (by decide) ?_
    refine lv_bipush (v := 6) hx hb dX5_setPayouts_15 (by decide) ?_
    refine va_calli (va_runS (As := [.int y, .int 0, .int 6]) (rest := [.ref h0]) ⟨hx, hb, hml, hown, hts⟩ (c_X5_in l y 0 6) (va_cwS 3 hts gX5_setPayouts_X5_in rfl rfl rfl (by decide +kernel) ⟨Nat.le_of_ble_eq_true rfl, Nat.le_of_ble_eq_true rfl⟩) ⟨pcT_blind, fun U hU hW => pcT_pre⟩ rfl rfl hl.1 rfl (lv_room (Nat.le_of_ble_eq_true rfl)) dX5_setPayouts_17 ⟨(Nat.zero_le _), (Nat.zero_le _)⟩) hS (fun q _ h => h.elim) (fun q h => h.elim) (fun r u t H1 locs ht hvm hw hB1 hz1 hk1 hS => ?_)
    have hP := y_keptP hP hk1
    generalize H1 = H at hP hS ⊢
    refine y_topi (y := bI (bw y 0 6)) hw ?_
    refine lv_if_eq (tgt := 37) hx hb dX5_setPayouts_20 (by decide) (fun c_3 => ?_) (fun c_3 => ?_)
    · have hc_3 : ¬ (bw y 0 6) := bI_f c_3
      have e2 : kPO a x y v = 2 := by unfold kPO; rw [if_pos hc_2, if_neg (fun h9 => hc_3 h9.1)]
      refine lv_iconst (v := 2) hx hb dX5_setPayouts_37 (by decide) ?_
      have hFc := y_free hD hS hA
      refine va_calli (va_runV (As := [.int 2]) (rest := []) ⟨hx, hb, hml, hown, hts⟩ (c_X5_holds l dC dI cI cF cZ h0 q H.size a th hB 2) (cwV 1 hts gX5_setPayouts_X5_holds rfl rfl rfl (by decide +kernel) ⟨Nat.le_of_ble_eq_true rfl, Nat.le_of_ble_eq_true rfl⟩) ⟨pcW_blind, va_recv hK hP (ci := 5) (q0 := 0) rfl rfl, fun U hU hW => pcW_pre hP hD hK hU hW⟩ rfl rfl hl.1 rfl (lv_room (Nat.le_of_ble_eq_true rfl)) dX5_setPayouts_38 ⟨Nat.zero_le _, Nat.zero_le _⟩) hS (fun q _ h => hFc q h) hFc (fun r u t H1 locs ht hvm hw hB1 hz1 hk1 hS => ?_)
      obtain ⟨hP, hK1, hD1⟩ := hB1
      rw [ht] at hP
      have hD := hD1.weaken (fun kk qq _ h => hFc qq.1 h)
      generalize H1 = H at hP hS ⊢
      have hP : va_P (dC, dI) vwCl (WM cI cF cZ h0 q a 2) H := hP
      have hD : va_D A (WM cI cF cZ h0 q a 2) := hD
      have hw4 := hw
      refine y_topi (y := 0) (hw4.trans (if_neg (by decide))) ?_
      refine lv_if_eq (tgt := 58) hx hb dX5_setPayouts_41 (by decide) (fun c_5 => ?_) (fun c_5 => ?_)
      · have hP9 := hP
        have hD9 := hD
        have hK9 := hK
        exact W.vret hx hb hr (fun t ht hW => ⟨⟨(), rfl, trivial, (by rw [e2]; exact atW_end hP9 hD9 hK9 ht hW)⟩, hS.F ht⟩) hS.2.2 dX5_setPayouts_58
      · exact absurd c_5 (by decide)
    · have hc_3 : bw y 0 6 := bI_t c_3
      refine lv_iload_n hx hb dX5_setPayouts_23 rfl (lv_at hl 3 rfl) ?_
      refine lv_iconst (v := 1) hx hb dX5_setPayouts_24 (by decide) ?_
      refine lv_ldc hx hb hown (hts (.constant RX5 94 (1000000)) (List.mem_of_getElem? (i := 1) rfl)) dX5_setPayouts_25 ?_
      refine va_calli (va_runS (As := [.int v, .int 1, .int 1000000]) (rest := [.ref h0]) ⟨hx, hb, hml, hown, hts⟩ (c_X5_in l v 1 1000000) (va_cwS 3 hts gX5_setPayouts_X5_in rfl rfl rfl (by decide +kernel) ⟨Nat.le_of_ble_eq_true rfl, Nat.le_of_ble_eq_true rfl⟩) ⟨pcT_blind, fun U hU hW => pcT_pre⟩ rfl rfl hl.1 rfl (lv_room (Nat.le_of_ble_eq_true rfl)) dX5_setPayouts_27 ⟨(Nat.zero_le _), (Nat.zero_le _)⟩) hS (fun q _ h => h.elim) (fun q h => h.elim) (fun r u t H1 locs ht hvm hw hB1 hz1 hk1 hS => ?_)
      have hP := y_keptP hP hk1
      generalize H1 = H at hP hS ⊢
      refine y_topi (y := bI (bw v 1 1000000)) hw ?_
      refine lv_if_eq (tgt := 37) hx hb dX5_setPayouts_30 (by decide) (fun c_6 => ?_) (fun c_6 => ?_)
      · have hc_6 : ¬ (bw v 1 1000000) := bI_f c_6
        have e3 : kPO a x y v = 2 := by unfold kPO; rw [if_pos hc_2, if_neg (fun h9 => hc_6 h9.2)]
        refine lv_iconst (v := 2) hx hb dX5_setPayouts_37 (by decide) ?_
        have hFc := y_free hD hS hA
        refine va_calli (va_runV (As := [.int 2]) (rest := []) ⟨hx, hb, hml, hown, hts⟩ (c_X5_holds l dC dI cI cF cZ h0 q H.size a th hB 2) (cwV 1 hts gX5_setPayouts_X5_holds rfl rfl rfl (by decide +kernel) ⟨Nat.le_of_ble_eq_true rfl, Nat.le_of_ble_eq_true rfl⟩) ⟨pcW_blind, va_recv hK hP (ci := 5) (q0 := 0) rfl rfl, fun U hU hW => pcW_pre hP hD hK hU hW⟩ rfl rfl hl.1 rfl (lv_room (Nat.le_of_ble_eq_true rfl)) dX5_setPayouts_38 ⟨Nat.zero_le _, Nat.zero_le _⟩) hS (fun q _ h => hFc q h) hFc (fun r u t H1 locs ht hvm hw hB1 hz1 hk1 hS => ?_)
        obtain ⟨hP, hK1, hD1⟩ := hB1
        rw [ht] at hP
        have hD := hD1.weaken (fun kk qq _ h => hFc qq.1 h)
        generalize H1 = H at hP hS ⊢
        have hP : va_P (dC, dI) vwCl (WM cI cF cZ h0 q a 2) H := hP
        have hD : va_D A (WM cI cF cZ h0 q a 2) := hD
        have hw7 := hw
        refine y_topi (y := 0) (hw7.trans (if_neg (by decide))) ?_
        refine lv_if_eq (tgt := 58) hx hb dX5_setPayouts_41 (by decide) (fun c_8 => ?_) (fun c_8 => ?_)
        · have hP9 := hP
          have hD9 := hD
          have hK9 := hK
          exact W.vret hx hb hr (fun t ht hW => ⟨⟨(), rfl, trivial, (by rw [e3]; exact atW_end hP9 hD9 hK9 ht hW)⟩, hS.F ht⟩) hS.2.2 dX5_setPayouts_58
        · exact absurd c_8 (by decide)
      · have hc_6 : bw v 1 1000000 := bI_t c_6
        have e0 : kPO a x y v = 0 := by unfold kPO; rw [if_pos hc_2, if_pos ⟨hc_3, hc_6⟩]
        refine lv_iconst (v := 0) hx hb dX5_setPayouts_33 (by decide) ?_
        refine lv_goto (tgt := 38) hx hb dX5_setPayouts_34 (by decide) ?_
        have hFc := y_free hD hS hA
        refine va_calli (va_runV (As := [.int 0]) (rest := []) ⟨hx, hb, hml, hown, hts⟩ (c_X5_holds l dC dI cI cF cZ h0 q H.size a th hB 0) (cwV 1 hts gX5_setPayouts_X5_holds rfl rfl rfl (by decide +kernel) ⟨Nat.le_of_ble_eq_true rfl, Nat.le_of_ble_eq_true rfl⟩) ⟨pcW_blind, va_recv hK hP (ci := 5) (q0 := 0) rfl rfl, fun U hU hW => pcW_pre hP hD hK hU hW⟩ rfl rfl hl.1 rfl (lv_room (Nat.le_of_ble_eq_true rfl)) dX5_setPayouts_38 ⟨Nat.zero_le _, Nat.zero_le _⟩) hS (fun q _ h => hFc q h) hFc (fun r u t H1 locs ht hvm hw hB1 hz1 hk1 hS => ?_)
        obtain ⟨hP, hK1, hD1⟩ := hB1
        rw [ht] at hP
        have hD := hD1.weaken (fun kk qq _ h => hFc qq.1 h)
        generalize H1 = H at hP hS ⊢
        have hP : va_P (dC, dI) vwCl (WM cI cF cZ h0 q a 0) H := hP
        have hD : va_D A (WM cI cF cZ h0 q a 0) := hD
        have hw9 := hw
        refine y_topi (y := 1) (hw9.trans (if_pos rfl)) ?_
        refine lv_if_eq (tgt := 58) hx hb dX5_setPayouts_41 (by decide) (fun c_10 => ?_) (fun c_10 => ?_)
        · exact absurd c_10 (by decide)
        · have hx1 := nat_of (hB 0 0 8 rfl) (by decide) hc_2.1 hc_2.2
          have hx8 : nn x < 8 := Nat.lt_of_lt_of_le hx1.2 (hB 0 0 8 rfl).2
          refine lv_aload_n hx hb dX5_setPayouts_44 rfl (lv_at hl 0 rfl) ?_
          refine va_get (D := (dC, dI)) (ci := 5) (v := .ref (q 3)) (C := RX5) (T := TX5) (N := 31) hx hb hts hiX5 hown hK hP 0 rfl rfl 5 (by decide) (hts (.fieldLink RX5 16 "PayoutnetModel" "weekdays" "[I") (List.mem_of_getElem? (i := 2) rfl)) (fun _ h9 => h9) rfl dX5_setPayouts_45 ?_
          refine lv_iload_n hx hb dX5_setPayouts_48 rfl (lv_at hl 1 rfl) ?_
          refine y_topi (y := nI (nn x)) hx1.1 ?_
          refine lv_iload_n hx hb dX5_setPayouts_49 rfl (lv_at hl 2 rfl) ?_
          refine y_ist hx hb hK hP hD hS 3 0 rfl rfl (t := nn x) (by omega) (Nat.le_of_ble_eq_true rfl) dX5_setPayouts_50 (fun H locs hP hD hS => ?_)
          have hP : va_P (dC, dI) vwCl [(h0, .inr (5, [.int 0, .int (a 0 0), .int (a 0 1), .ref (q 1), .ref (q 2), .ref (q 3), .ref (q 4), .ref (q 5), .ref (q 6), .ref (q 7), .ref (q 8), .ref (q 9), .int (a 0 2), .int (a 0 3), .ref (q 10), .ref (q 11), .ref (q 12), .ref (q 13), .ref (q 14), .ref (q 15), .ref (q 16), .ref (q 17), .ref (q 18), .int (a 0 4), .ref (q 19), .ref (q 20), .ref (q 21), .int (a 0 5), .int (a 0 6), .int (a 0 7), .int (a 0 8)])), (q 1, .inl (cI, 8, .inl (a 1))), (q 2, .inl (cI, 8, .inl (a 2))), (q 3, .inl (cI, 8, .inl (upd (a 3) (nn x) y))), (q 4, .inl (cI, 8, .inl (a 4))), (q 5, .inl (cI, 8, .inl (a 5))), (q 6, .inl (cI, 8, .inl (a 6))), (q 7, .inl (cI, 8, .inl (a 7))), (q 8, .inl (cI, 8, .inl (a 8))), (q 9, .inl (cF, 4, .inr (.inr (.inl (fun j => shF (a 9 j)))))), (q 10, .inl (cI, 100, .inl (a 10))), (q 11, .inl (cI, 100, .inl (a 11))), (q 12, .inl (cI, 100, .inl (a 12))), (q 13, .inl (cF, 100, .inr (.inr (.inl (fun j => shF (a 13 j)))))), (q 14, .inl (cI, 100, .inl (a 14))), (q 15, .inl (cI, 100, .inl (a 15))), (q 16, .inl (cI, 100, .inl (a 16))), (q 17, .inl (cI, 100, .inl (a 17))), (q 18, .inl (cI, 100, .inl (a 18))), (q 19, .inl (cI, 2000, .inl (a 19))), (q 20, .inl (cI, 2000, .inl (a 20))), (q 21, .inl (cZ, 2000, .inl (a 21)))] H := hP
          have hD : va_D A [(h0, .inr (5, [.int 0, .int (a 0 0), .int (a 0 1), .ref (q 1), .ref (q 2), .ref (q 3), .ref (q 4), .ref (q 5), .ref (q 6), .ref (q 7), .ref (q 8), .ref (q 9), .int (a 0 2), .int (a 0 3), .ref (q 10), .ref (q 11), .ref (q 12), .ref (q 13), .ref (q 14), .ref (q 15), .ref (q 16), .ref (q 17), .ref (q 18), .int (a 0 4), .ref (q 19), .ref (q 20), .ref (q 21), .int (a 0 5), .int (a 0 6), .int (a 0 7), .int (a 0 8)])), (q 1, .inl (cI, 8, .inl (a 1))), (q 2, .inl (cI, 8, .inl (a 2))), (q 3, .inl (cI, 8, .inl (upd (a 3) (nn x) y))), (q 4, .inl (cI, 8, .inl (a 4))), (q 5, .inl (cI, 8, .inl (a 5))), (q 6, .inl (cI, 8, .inl (a 6))), (q 7, .inl (cI, 8, .inl (a 7))), (q 8, .inl (cI, 8, .inl (a 8))), (q 9, .inl (cF, 4, .inr (.inr (.inl (fun j => shF (a 9 j)))))), (q 10, .inl (cI, 100, .inl (a 10))), (q 11, .inl (cI, 100, .inl (a 11))), (q 12, .inl (cI, 100, .inl (a 12))), (q 13, .inl (cF, 100, .inr (.inr (.inl (fun j => shF (a 13 j)))))), (q 14, .inl (cI, 100, .inl (a 14))), (q 15, .inl (cI, 100, .inl (a 15))), (q 16, .inl (cI, 100, .inl (a 16))), (q 17, .inl (cI, 100, .inl (a 17))), (q 18, .inl (cI, 100, .inl (a 18))), (q 19, .inl (cI, 2000, .inl (a 19))), (q 20, .inl (cI, 2000, .inl (a 20))), (q 21, .inl (cZ, 2000, .inl (a 21)))] := hD
          refine lv_aload_n hx hb dX5_setPayouts_51 rfl (lv_at hl 0 rfl) ?_
          refine va_get (D := (dC, dI)) (ci := 5) (v := .ref (q 4)) (C := RX5) (T := TX5) (N := 31) hx hb hts hiX5 hown hK hP 0 rfl rfl 6 (by decide) (hts (.fieldLink RX5 19 "PayoutnetModel" "leasts" "[I") (List.mem_of_getElem? (i := 3) rfl)) (fun _ h9 => h9) rfl dX5_setPayouts_52 ?_
          refine lv_iload_n hx hb dX5_setPayouts_55 rfl (lv_at hl 1 rfl) ?_
          refine y_topi (y := nI (nn x)) hx1.1 ?_
          refine lv_iload_n hx hb dX5_setPayouts_56 rfl (lv_at hl 3 rfl) ?_
          refine y_ist hx hb hK hP hD hS 4 0 rfl rfl (t := nn x) (by omega) (Nat.le_of_ble_eq_true rfl) dX5_setPayouts_57 (fun H locs hP hD hS => ?_)
          have hP : va_P (dC, dI) vwCl [(h0, .inr (5, [.int 0, .int (a 0 0), .int (a 0 1), .ref (q 1), .ref (q 2), .ref (q 3), .ref (q 4), .ref (q 5), .ref (q 6), .ref (q 7), .ref (q 8), .ref (q 9), .int (a 0 2), .int (a 0 3), .ref (q 10), .ref (q 11), .ref (q 12), .ref (q 13), .ref (q 14), .ref (q 15), .ref (q 16), .ref (q 17), .ref (q 18), .int (a 0 4), .ref (q 19), .ref (q 20), .ref (q 21), .int (a 0 5), .int (a 0 6), .int (a 0 7), .int (a 0 8)])), (q 1, .inl (cI, 8, .inl (a 1))), (q 2, .inl (cI, 8, .inl (a 2))), (q 3, .inl (cI, 8, .inl (upd (a 3) (nn x) y))), (q 4, .inl (cI, 8, .inl (upd (a 4) (nn x) v))), (q 5, .inl (cI, 8, .inl (a 5))), (q 6, .inl (cI, 8, .inl (a 6))), (q 7, .inl (cI, 8, .inl (a 7))), (q 8, .inl (cI, 8, .inl (a 8))), (q 9, .inl (cF, 4, .inr (.inr (.inl (fun j => shF (a 9 j)))))), (q 10, .inl (cI, 100, .inl (a 10))), (q 11, .inl (cI, 100, .inl (a 11))), (q 12, .inl (cI, 100, .inl (a 12))), (q 13, .inl (cF, 100, .inr (.inr (.inl (fun j => shF (a 13 j)))))), (q 14, .inl (cI, 100, .inl (a 14))), (q 15, .inl (cI, 100, .inl (a 15))), (q 16, .inl (cI, 100, .inl (a 16))), (q 17, .inl (cI, 100, .inl (a 17))), (q 18, .inl (cI, 100, .inl (a 18))), (q 19, .inl (cI, 2000, .inl (a 19))), (q 20, .inl (cI, 2000, .inl (a 20))), (q 21, .inl (cZ, 2000, .inl (a 21)))] H := hP
          have hD : va_D A [(h0, .inr (5, [.int 0, .int (a 0 0), .int (a 0 1), .ref (q 1), .ref (q 2), .ref (q 3), .ref (q 4), .ref (q 5), .ref (q 6), .ref (q 7), .ref (q 8), .ref (q 9), .int (a 0 2), .int (a 0 3), .ref (q 10), .ref (q 11), .ref (q 12), .ref (q 13), .ref (q 14), .ref (q 15), .ref (q 16), .ref (q 17), .ref (q 18), .int (a 0 4), .ref (q 19), .ref (q 20), .ref (q 21), .int (a 0 5), .int (a 0 6), .int (a 0 7), .int (a 0 8)])), (q 1, .inl (cI, 8, .inl (a 1))), (q 2, .inl (cI, 8, .inl (a 2))), (q 3, .inl (cI, 8, .inl (upd (a 3) (nn x) y))), (q 4, .inl (cI, 8, .inl (upd (a 4) (nn x) v))), (q 5, .inl (cI, 8, .inl (a 5))), (q 6, .inl (cI, 8, .inl (a 6))), (q 7, .inl (cI, 8, .inl (a 7))), (q 8, .inl (cI, 8, .inl (a 8))), (q 9, .inl (cF, 4, .inr (.inr (.inl (fun j => shF (a 9 j)))))), (q 10, .inl (cI, 100, .inl (a 10))), (q 11, .inl (cI, 100, .inl (a 11))), (q 12, .inl (cI, 100, .inl (a 12))), (q 13, .inl (cF, 100, .inr (.inr (.inl (fun j => shF (a 13 j)))))), (q 14, .inl (cI, 100, .inl (a 14))), (q 15, .inl (cI, 100, .inl (a 15))), (q 16, .inl (cI, 100, .inl (a 16))), (q 17, .inl (cI, 100, .inl (a 17))), (q 18, .inl (cI, 100, .inl (a 18))), (q 19, .inl (cI, 2000, .inl (a 19))), (q 20, .inl (cI, 2000, .inl (a 20))), (q 21, .inl (cZ, 2000, .inl (a 21)))] := hD
          have hP : va_P (dC, dI) vwCl (WM cI cF cZ h0 q (sPO a x y v) 0) H := hP
          have hD : va_D A (WM cI cF cZ h0 q (sPO a x y v) 0) := hD
          have hP9 := hP
          have hD9 := hD
          have hK9 := hK
          exact W.vret hx hb hr (fun t ht hW => ⟨⟨(), rfl, trivial, (by rw [e0]; exact atW_end hP9 hD9 hK9 ht hW)⟩, hS.F ht⟩) hS.2.2 dX5_setPayouts_58
  · have hc_2 : ¬ (selOK a x) := bI_f c_2
    have e1 : kPO a x y v = 1 := if_neg hc_2
    refine lv_iconst (v := 1) hx hb dX5_setPayouts_9 (by decide) ?_
    refine lv_goto (tgt := 38) hx hb dX5_setPayouts_10 (by decide) ?_
    have hFc := y_free hD hS hA
    refine va_calli (va_runV (As := [.int 1]) (rest := []) ⟨hx, hb, hml, hown, hts⟩ (c_X5_holds l dC dI cI cF cZ h0 q H.size a th hB 1) (cwV 1 hts gX5_setPayouts_X5_holds rfl rfl rfl (by decide +kernel) ⟨Nat.le_of_ble_eq_true rfl, Nat.le_of_ble_eq_true rfl⟩) ⟨pcW_blind, va_recv hK hP (ci := 5) (q0 := 0) rfl rfl, fun U hU hW => pcW_pre hP hD hK hU hW⟩ rfl rfl hl.1 rfl (lv_room (Nat.le_of_ble_eq_true rfl)) dX5_setPayouts_38 ⟨Nat.zero_le _, Nat.zero_le _⟩) hS (fun q _ h => hFc q h) hFc (fun r u t H1 locs ht hvm hw hB1 hz1 hk1 hS => ?_)
    obtain ⟨hP, hK1, hD1⟩ := hB1
    rw [ht] at hP
    have hD := hD1.weaken (fun kk qq _ h => hFc qq.1 h)
    generalize H1 = H at hP hS ⊢
    have hP : va_P (dC, dI) vwCl (WM cI cF cZ h0 q a 1) H := hP
    have hD : va_D A (WM cI cF cZ h0 q a 1) := hD
    have hw11 := hw
    refine y_topi (y := 0) (hw11.trans (if_neg (by decide))) ?_
    refine lv_if_eq (tgt := 58) hx hb dX5_setPayouts_41 (by decide) (fun c_12 => ?_) (fun c_12 => ?_)
    · have hP9 := hP
      have hD9 := hD
      have hK9 := hK
      exact W.vret hx hb hr (fun t ht hW => ⟨⟨(), rfl, trivial, (by rw [e1]; exact atW_end hP9 hD9 hK9 ht hW)⟩, hS.F ht⟩) hS.2.2 dX5_setPayouts_58
    · exact absurd c_12 (by decide)
set_option maxHeartbeats 4000000 in
set_option maxRecDepth 100000 in
theorem c_X5_setReserve (l : Launch) (dC : Nat → ClassId) (dI : Nat → Nat → Nat) (cI cF cZ : ClassId) (h0 : Nat) (q : Nat → Nat) (sz : Nat) (a : yA) (th : Int32) (hB : okB a) (x y v : Int32) : Met l yX5_setReserve wsX5_setReserve ({ frames := 2, cells := 0, slots := 0, locals := 43 } : Room) (va_Pc [.ref h0, .int x, .int y, .int v] (pcW dC dI [(cI, .int), (cF, .float), (cZ, .boolean)] (WM cI cF cZ h0 q a th) sz)) (va_Qv (fun _ : Unit => True) (fun _ t => atM dC dI cI cF cZ (va_A (WM cI cF cZ h0 q a th) sz) h0 q (if kRes a x y v = 0 then sRes a x y v else a) (nI (kRes a x y v)) t) (va_A (WM cI cF cZ h0 q a th) sz)) 0 0 (va_A (WM cI cF cZ h0 q a th) sz) := by
  refine Met.ofW (cc := cX5_setReserve) (maxL := 4) (ret := none) (by decide) rfl ?_
  intro p e s m args below meth c s₁ B hml hv
  obtain ⟨rfl, hsz, hP, hK, hD0⟩ := hv
  have hx := B.exec
  have hb := B.bytes
  have hr := B.returns
  have hts := atoms_spec (ws := wsX5_setReserve) B.pre
  have hown : s.vm.findClass RX5 = some m.cls := findClass_of_methodNamed B.named
  have hlocks := B.notSynchronized
  subst hsz
  have hD := hD0.self (sz := s.heap.size)
  generalize hAe : va_A [(h0, .inr (5, [.int th, .int (a 0 0), .int (a 0 1), .ref (q 1), .ref (q 2), .ref (q 3), .ref (q 4), .ref (q 5), .ref (q 6), .ref (q 7), .ref (q 8), .ref (q 9), .int (a 0 2), .int (a 0 3), .ref (q 10), .ref (q 11), .ref (q 12), .ref (q 13), .ref (q 14), .ref (q 15), .ref (q 16), .ref (q 17), .ref (q 18), .int (a 0 4), .ref (q 19), .ref (q 20), .ref (q 21), .int (a 0 5), .int (a 0 6), .int (a 0 7), .int (a 0 8)])), (q 1, .inl (cI, 8, .inl (a 1))), (q 2, .inl (cI, 8, .inl (a 2))), (q 3, .inl (cI, 8, .inl (a 3))), (q 4, .inl (cI, 8, .inl (a 4))), (q 5, .inl (cI, 8, .inl (a 5))), (q 6, .inl (cI, 8, .inl (a 6))), (q 7, .inl (cI, 8, .inl (a 7))), (q 8, .inl (cI, 8, .inl (a 8))), (q 9, .inl (cF, 4, .inr (.inr (.inl (fun j => shF (a 9 j)))))), (q 10, .inl (cI, 100, .inl (a 10))), (q 11, .inl (cI, 100, .inl (a 11))), (q 12, .inl (cI, 100, .inl (a 12))), (q 13, .inl (cF, 100, .inr (.inr (.inl (fun j => shF (a 13 j)))))), (q 14, .inl (cI, 100, .inl (a 14))), (q 15, .inl (cI, 100, .inl (a 15))), (q 16, .inl (cI, 100, .inl (a 16))), (q 17, .inl (cI, 100, .inl (a 17))), (q 18, .inl (cI, 100, .inl (a 18))), (q 19, .inl (cI, 2000, .inl (a 19))), (q 20, .inl (cI, 2000, .inl (a 20))), (q 21, .inl (cZ, 2000, .inl (a 21)))] s.heap.size = A at hD ⊢
  have hA : ∀ q : Nat, s.heap.size ≤ q → A q := fun q h => by rw [← hAe]; exact Or.inr h
  have hS : va_S A s.heap s.heap [] := va_S.rf
  have hl := lv_entry ([.ref h0, .int x, .int y, .int v]) (n := 4) (Nat.le_of_ble_eq_true rfl)
  rw [lg_entry_eq]
  generalize (lg_sl ([.ref h0, .int x, .int y, .int v]) ++ List.replicate (4 - (lg_sl ([.ref h0, .int x, .int y, .int v])).length) Slot.unset).toArray = ls at hl ⊢
  have hl : lv_has ls 4 [(0, .ref h0), (1, .int x), (2, .int y), (3, .int v)] := hl
  have hiX5 : ∀ w ∈ wsX50, w ∈ wsX5_setReserve := fun w h => List.mem_cons_of_mem _ (List.mem_append_right _ h)
  have hP : va_P (dC, dI) vwCl [(h0, .inr (5, [.int th, .int (a 0 0), .int (a 0 1), .ref (q 1), .ref (q 2), .ref (q 3), .ref (q 4), .ref (q 5), .ref (q 6), .ref (q 7), .ref (q 8), .ref (q 9), .int (a 0 2), .int (a 0 3), .ref (q 10), .ref (q 11), .ref (q 12), .ref (q 13), .ref (q 14), .ref (q 15), .ref (q 16), .ref (q 17), .ref (q 18), .int (a 0 4), .ref (q 19), .ref (q 20), .ref (q 21), .int (a 0 5), .int (a 0 6), .int (a 0 7), .int (a 0 8)])), (q 1, .inl (cI, 8, .inl (a 1))), (q 2, .inl (cI, 8, .inl (a 2))), (q 3, .inl (cI, 8, .inl (a 3))), (q 4, .inl (cI, 8, .inl (a 4))), (q 5, .inl (cI, 8, .inl (a 5))), (q 6, .inl (cI, 8, .inl (a 6))), (q 7, .inl (cI, 8, .inl (a 7))), (q 8, .inl (cI, 8, .inl (a 8))), (q 9, .inl (cF, 4, .inr (.inr (.inl (fun j => shF (a 9 j)))))), (q 10, .inl (cI, 100, .inl (a 10))), (q 11, .inl (cI, 100, .inl (a 11))), (q 12, .inl (cI, 100, .inl (a 12))), (q 13, .inl (cF, 100, .inr (.inr (.inl (fun j => shF (a 13 j)))))), (q 14, .inl (cI, 100, .inl (a 14))), (q 15, .inl (cI, 100, .inl (a 15))), (q 16, .inl (cI, 100, .inl (a 16))), (q 17, .inl (cI, 100, .inl (a 17))), (q 18, .inl (cI, 100, .inl (a 18))), (q 19, .inl (cI, 2000, .inl (a 19))), (q 20, .inl (cI, 2000, .inl (a 20))), (q 21, .inl (cZ, 2000, .inl (a 21)))] s.heap := hP
  refine y_enter (A := A) hP (fun H hP hS => ?_)
  have hBk := hB
  refine lv_aload_n hx hb dX5_setReserve_0 rfl (lv_at hl 0 rfl) ?_
  refine lv_aload_n hx hb dX5_setReserve_1 rfl (lv_at hl 0 rfl) ?_
  refine lv_iload_n hx hb dX5_setReserve_2 rfl (lv_at hl 1 rfl) ?_
  have hFc := y_free hD hS hA
  refine va_calli (va_runV (As := [.int x]) (rest := [.ref h0]) ⟨hx, hb, hml, hown, hts⟩ (c_X5_isSeller l dC dI cI cF cZ h0 q H.size a th hB x) (cwV 1 hts gX5_setReserve_X5_isSeller rfl rfl rfl (by decide +kernel) ⟨Nat.le_of_ble_eq_true rfl, Nat.le_of_ble_eq_true rfl⟩) ⟨pcW_blind, va_recv hK hP (ci := 5) (q0 := 0) rfl rfl, fun U hU hW => pcW_pre hP hD hK hU hW⟩ rfl rfl hl.1 rfl (lv_room (Nat.le_of_ble_eq_true rfl)) dX5_setReserve_3 ⟨Nat.zero_le _, Nat.zero_le _⟩) hS (fun q _ h => hFc q h) hFc (fun r u t H1 locs ht hvm hw hB1 hz1 hk1 hS => ?_)
  obtain ⟨hP, hK1, hD1⟩ := hB1
  rw [ht] at hP
  have hD := hD1.weaken (fun kk qq _ h => hFc qq.1 h)
  generalize H1 = H at hP hS ⊢
  have hP : va_P (dC, dI) vwCl (WM cI cF cZ h0 q a th) H := hP
  have hD : va_D A (WM cI cF cZ h0 q a th) := hD
  have hw1 := hw
  refine y_topi (y := bI (selOK a x)) hw1 ?_
  refine lv_if_ne (tgt := 13) hx hb dX5_setReserve_6 (by decide) (fun c_2 => ?_) (fun c_2 => ?_)
  · have hc_2 : selOK a x := bI_t c_2
    refine lv_iload_n hx hb dX5_setReserve_13 rfl (lv_at hl 2 rfl) ?_
    refine lv_iconst (v := 0) hx hb dX5_setReserve_14 (by decide) ?_
    refine lv_sipush (v := 1000) hx hb dX5_setReserve_15 (by decide) ?_
    refine va_calli (va_runS (As := [.int y, .int 0, .int 1000]) (rest := [.ref h0]) ⟨hx, hb, hml, hown, hts⟩ (c_X5_in l y 0 1000) (va_cwS 3 hts gX5_setReserve_X5_in rfl rfl rfl (by decide +kernel) ⟨Nat.le_of_ble_eq_true rfl, Nat.le_of_ble_eq_true rfl⟩) ⟨pcT_blind, fun U hU hW => pcT_pre⟩ rfl rfl hl.1 rfl (lv_room (Nat.le_of_ble_eq_true rfl)) dX5_setReserve_18 ⟨(Nat.zero_le _), (Nat.zero_le _)⟩) hS (fun q _ h => h.elim) (fun q h => h.elim) (fun r u t H1 locs ht hvm hw hB1 hz1 hk1 hS => ?_)
    have hP := y_keptP hP hk1
    generalize H1 = H at hP hS ⊢
    refine y_topi (y := bI (bw y 0 1000)) hw ?_
    refine lv_if_eq (tgt := 39) hx hb dX5_setReserve_21 (by decide) (fun c_3 => ?_) (fun c_3 => ?_)
    · have hc_3 : ¬ (bw y 0 1000) := bI_f c_3
      have e2 : kRes a x y v = 2 := by unfold kRes; rw [if_pos hc_2, if_neg (fun h9 => hc_3 h9.1)]
      refine lv_iconst (v := 2) hx hb dX5_setReserve_39 (by decide) ?_
      have hFc := y_free hD hS hA
      refine va_calli (va_runV (As := [.int 2]) (rest := []) ⟨hx, hb, hml, hown, hts⟩ (c_X5_holds l dC dI cI cF cZ h0 q H.size a th hB 2) (cwV 1 hts gX5_setReserve_X5_holds rfl rfl rfl (by decide +kernel) ⟨Nat.le_of_ble_eq_true rfl, Nat.le_of_ble_eq_true rfl⟩) ⟨pcW_blind, va_recv hK hP (ci := 5) (q0 := 0) rfl rfl, fun U hU hW => pcW_pre hP hD hK hU hW⟩ rfl rfl hl.1 rfl (lv_room (Nat.le_of_ble_eq_true rfl)) dX5_setReserve_40 ⟨Nat.zero_le _, Nat.zero_le _⟩) hS (fun q _ h => hFc q h) hFc (fun r u t H1 locs ht hvm hw hB1 hz1 hk1 hS => ?_)
      obtain ⟨hP, hK1, hD1⟩ := hB1
      rw [ht] at hP
      have hD := hD1.weaken (fun kk qq _ h => hFc qq.1 h)
      generalize H1 = H at hP hS ⊢
      have hP : va_P (dC, dI) vwCl (WM cI cF cZ h0 q a 2) H := hP
      have hD : va_D A (WM cI cF cZ h0 q a 2) := hD
      have hw4 := hw
      refine y_topi (y := 0) (hw4.trans (if_neg (by decide))) ?_
      refine lv_if_eq (tgt := 60) hx hb dX5_setReserve_43 (by decide) (fun c_5 => ?_) (fun c_5 => ?_)
      · have hP9 := hP
        have hD9 := hD
        have hK9 := hK
        exact W.vret hx hb hr (fun t ht hW => ⟨⟨(), rfl, trivial, (by rw [e2]; exact atW_end hP9 hD9 hK9 ht hW)⟩, hS.F ht⟩) hS.2.2 dX5_setReserve_60
      · exact absurd c_5 (by decide)
    · have hc_3 : bw y 0 1000 := bI_t c_3
      refine lv_iload_n hx hb dX5_setReserve_24 rfl (lv_at hl 3 rfl) ?_
      refine lv_iconst (v := 1) hx hb dX5_setReserve_25 (by decide) ?_
      refine lv_sipush (v := 180) hx hb dX5_setReserve_26 (by decide) ?_
      refine va_calli (va_runS (As := [.int v, .int 1, .int 180]) (rest := [.ref h0]) ⟨hx, hb, hml, hown, hts⟩ (c_X5_in l v 1 180) (va_cwS 3 hts gX5_setReserve_X5_in rfl rfl rfl (by decide +kernel) ⟨Nat.le_of_ble_eq_true rfl, Nat.le_of_ble_eq_true rfl⟩) ⟨pcT_blind, fun U hU hW => pcT_pre⟩ rfl rfl hl.1 rfl (lv_room (Nat.le_of_ble_eq_true rfl)) dX5_setReserve_29 ⟨(Nat.zero_le _), (Nat.zero_le _)⟩) hS (fun q _ h => h.elim) (fun q h => h.elim) (fun r u t H1 locs ht hvm hw hB1 hz1 hk1 hS => ?_)
      have hP := y_keptP hP hk1
      generalize H1 = H at hP hS ⊢
      refine y_topi (y := bI (bw v 1 180)) hw ?_
      refine lv_if_eq (tgt := 39) hx hb dX5_setReserve_32 (by decide) (fun c_6 => ?_) (fun c_6 => ?_)
      · have hc_6 : ¬ (bw v 1 180) := bI_f c_6
        have e3 : kRes a x y v = 2 := by unfold kRes; rw [if_pos hc_2, if_neg (fun h9 => hc_6 h9.2)]
        refine lv_iconst (v := 2) hx hb dX5_setReserve_39 (by decide) ?_
        have hFc := y_free hD hS hA
        refine va_calli (va_runV (As := [.int 2]) (rest := []) ⟨hx, hb, hml, hown, hts⟩ (c_X5_holds l dC dI cI cF cZ h0 q H.size a th hB 2) (cwV 1 hts gX5_setReserve_X5_holds rfl rfl rfl (by decide +kernel) ⟨Nat.le_of_ble_eq_true rfl, Nat.le_of_ble_eq_true rfl⟩) ⟨pcW_blind, va_recv hK hP (ci := 5) (q0 := 0) rfl rfl, fun U hU hW => pcW_pre hP hD hK hU hW⟩ rfl rfl hl.1 rfl (lv_room (Nat.le_of_ble_eq_true rfl)) dX5_setReserve_40 ⟨Nat.zero_le _, Nat.zero_le _⟩) hS (fun q _ h => hFc q h) hFc (fun r u t H1 locs ht hvm hw hB1 hz1 hk1 hS => ?_)
        obtain ⟨hP, hK1, hD1⟩ := hB1
        rw [ht] at hP
        have hD := hD1.weaken (fun kk qq _ h => hFc qq.1 h)
        generalize H1 = H at hP hS ⊢
        have hP : va_P (dC, dI) vwCl (WM cI cF cZ h0 q a 2) H := hP
        have hD : va_D A (WM cI cF cZ h0 q a 2) := hD
        have hw7 := hw
        refine y_topi (y := 0) (hw7.trans (if_neg (by decide))) ?_
        refine lv_if_eq (tgt := 60) hx hb dX5_setReserve_43 (by decide) (fun c_8 => ?_) (fun c_8 => ?_)
        · have hP9 := hP
          have hD9 := hD
          have hK9 := hK
          exact W.vret hx hb hr (fun t ht hW => ⟨⟨(), rfl, trivial, (by rw [e3]; exact atW_end hP9 hD9 hK9 ht hW)⟩, hS.F ht⟩) hS.2.2 dX5_setReserve_60
        · exact absurd c_8 (by decide)
      · have hc_6 : bw v 1 180 := bI_t c_6
        have e0 : kRes a x y v = 0 := by unfold kRes; rw [if_pos hc_2, if_pos ⟨hc_3, hc_6⟩]
        refine lv_iconst (v := 0) hx hb dX5_setReserve_35 (by decide) ?_
        refine lv_goto (tgt := 40) hx hb dX5_setReserve_36 (by decide) ?_
        have hFc := y_free hD hS hA
        refine va_calli (va_runV (As := [.int 0]) (rest := []) ⟨hx, hb, hml, hown, hts⟩ (c_X5_holds l dC dI cI cF cZ h0 q H.size a th hB 0) (cwV 1 hts gX5_setReserve_X5_holds rfl rfl rfl (by decide +kernel) ⟨Nat.le_of_ble_eq_true rfl, Nat.le_of_ble_eq_true rfl⟩) ⟨pcW_blind, va_recv hK hP (ci := 5) (q0 := 0) rfl rfl, fun U hU hW => pcW_pre hP hD hK hU hW⟩ rfl rfl hl.1 rfl (lv_room (Nat.le_of_ble_eq_true rfl)) dX5_setReserve_40 ⟨Nat.zero_le _, Nat.zero_le _⟩) hS (fun q _ h => hFc q h) hFc (fun r u t H1 locs ht hvm hw hB1 hz1 hk1 hS => ?_)
        obtain ⟨hP, hK1, hD1⟩ := hB1
        rw [ht] at hP
        have hD := hD1.weaken (fun kk qq _ h => hFc qq.1 h)
        generalize H1 = H at hP hS ⊢
        have hP : va_P (dC, dI) vwCl (WM cI cF cZ h0 q a 0) H := hP
        have hD : va_D A (WM cI cF cZ h0 q a 0) := hD
        have hw9 := hw
        refine y_topi (y := 1) (hw9.trans (if_pos rfl)) ?_
        refine lv_if_eq (tgt := 60) hx hb dX5_setReserve_43 (by decide) (fun c_10 => ?_) (fun c_10 => ?_)
        · exact absurd c_10 (by decide)
        · have hx1 := nat_of (hB 0 0 8 rfl) (by decide) hc_2.1 hc_2.2
          have hx8 : nn x < 8 := Nat.lt_of_lt_of_le hx1.2 (hB 0 0 8 rfl).2
          refine lv_aload_n hx hb dX5_setReserve_46 rfl (lv_at hl 0 rfl) ?_
          refine va_get (D := (dC, dI)) (ci := 5) (v := .ref (q 5)) (C := RX5) (T := TX5) (N := 31) hx hb hts hiX5 hown hK hP 0 rfl rfl 7 (by decide) (hts (.fieldLink RX5 22 "PayoutnetModel" "thousandths" "[I") (List.mem_of_getElem? (i := 1) rfl)) (fun _ h9 => h9) rfl dX5_setReserve_47 ?_
          refine lv_iload_n hx hb dX5_setReserve_50 rfl (lv_at hl 1 rfl) ?_
          refine y_topi (y := nI (nn x)) hx1.1 ?_
          refine lv_iload_n hx hb dX5_setReserve_51 rfl (lv_at hl 2 rfl) ?_
          refine y_ist hx hb hK hP hD hS 5 0 rfl rfl (t := nn x) (by omega) (Nat.le_of_ble_eq_true rfl) dX5_setReserve_52 (fun H locs hP hD hS => ?_)
          have hP : va_P (dC, dI) vwCl [(h0, .inr (5, [.int 0, .int (a 0 0), .int (a 0 1), .ref (q 1), .ref (q 2), .ref (q 3), .ref (q 4), .ref (q 5), .ref (q 6), .ref (q 7), .ref (q 8), .ref (q 9), .int (a 0 2), .int (a 0 3), .ref (q 10), .ref (q 11), .ref (q 12), .ref (q 13), .ref (q 14), .ref (q 15), .ref (q 16), .ref (q 17), .ref (q 18), .int (a 0 4), .ref (q 19), .ref (q 20), .ref (q 21), .int (a 0 5), .int (a 0 6), .int (a 0 7), .int (a 0 8)])), (q 1, .inl (cI, 8, .inl (a 1))), (q 2, .inl (cI, 8, .inl (a 2))), (q 3, .inl (cI, 8, .inl (a 3))), (q 4, .inl (cI, 8, .inl (a 4))), (q 5, .inl (cI, 8, .inl (upd (a 5) (nn x) y))), (q 6, .inl (cI, 8, .inl (a 6))), (q 7, .inl (cI, 8, .inl (a 7))), (q 8, .inl (cI, 8, .inl (a 8))), (q 9, .inl (cF, 4, .inr (.inr (.inl (fun j => shF (a 9 j)))))), (q 10, .inl (cI, 100, .inl (a 10))), (q 11, .inl (cI, 100, .inl (a 11))), (q 12, .inl (cI, 100, .inl (a 12))), (q 13, .inl (cF, 100, .inr (.inr (.inl (fun j => shF (a 13 j)))))), (q 14, .inl (cI, 100, .inl (a 14))), (q 15, .inl (cI, 100, .inl (a 15))), (q 16, .inl (cI, 100, .inl (a 16))), (q 17, .inl (cI, 100, .inl (a 17))), (q 18, .inl (cI, 100, .inl (a 18))), (q 19, .inl (cI, 2000, .inl (a 19))), (q 20, .inl (cI, 2000, .inl (a 20))), (q 21, .inl (cZ, 2000, .inl (a 21)))] H := hP
          have hD : va_D A [(h0, .inr (5, [.int 0, .int (a 0 0), .int (a 0 1), .ref (q 1), .ref (q 2), .ref (q 3), .ref (q 4), .ref (q 5), .ref (q 6), .ref (q 7), .ref (q 8), .ref (q 9), .int (a 0 2), .int (a 0 3), .ref (q 10), .ref (q 11), .ref (q 12), .ref (q 13), .ref (q 14), .ref (q 15), .ref (q 16), .ref (q 17), .ref (q 18), .int (a 0 4), .ref (q 19), .ref (q 20), .ref (q 21), .int (a 0 5), .int (a 0 6), .int (a 0 7), .int (a 0 8)])), (q 1, .inl (cI, 8, .inl (a 1))), (q 2, .inl (cI, 8, .inl (a 2))), (q 3, .inl (cI, 8, .inl (a 3))), (q 4, .inl (cI, 8, .inl (a 4))), (q 5, .inl (cI, 8, .inl (upd (a 5) (nn x) y))), (q 6, .inl (cI, 8, .inl (a 6))), (q 7, .inl (cI, 8, .inl (a 7))), (q 8, .inl (cI, 8, .inl (a 8))), (q 9, .inl (cF, 4, .inr (.inr (.inl (fun j => shF (a 9 j)))))), (q 10, .inl (cI, 100, .inl (a 10))), (q 11, .inl (cI, 100, .inl (a 11))), (q 12, .inl (cI, 100, .inl (a 12))), (q 13, .inl (cF, 100, .inr (.inr (.inl (fun j => shF (a 13 j)))))), (q 14, .inl (cI, 100, .inl (a 14))), (q 15, .inl (cI, 100, .inl (a 15))), (q 16, .inl (cI, 100, .inl (a 16))), (q 17, .inl (cI, 100, .inl (a 17))), (q 18, .inl (cI, 100, .inl (a 18))), (q 19, .inl (cI, 2000, .inl (a 19))), (q 20, .inl (cI, 2000, .inl (a 20))), (q 21, .inl (cZ, 2000, .inl (a 21)))] := hD
          refine lv_aload_n hx hb dX5_setReserve_53 rfl (lv_at hl 0 rfl) ?_
          refine va_get (D := (dC, dI)) (ci := 5) (v := .ref (q 6)) (C := RX5) (T := TX5) (N := 31) hx hb hts hiX5 hown hK hP 0 rfl rfl 8 (by decide) (hts (.fieldLink RX5 25 "PayoutnetModel" "reserveDays" "[I") (List.mem_of_getElem? (i := 2) rfl)) (fun _ h9 => h9) rfl dX5_setReserve_54 ?_
          refine lv_iload_n hx hb dX5_setReserve_57 rfl (lv_at hl 1 rfl) ?_
          refine y_topi (y := nI (nn x)) hx1.1 ?_
          refine lv_iload_n hx hb dX5_setReserve_58 rfl (lv_at hl 3 rfl) ?_
          refine y_ist hx hb hK hP hD hS 6 0 rfl rfl (t := nn x) (by omega) (Nat.le_of_ble_eq_true rfl) dX5_setReserve_59 (fun H locs hP hD hS => ?_)
          have hP : va_P (dC, dI) vwCl [(h0, .inr (5, [.int 0, .int (a 0 0), .int (a 0 1), .ref (q 1), .ref (q 2), .ref (q 3), .ref (q 4), .ref (q 5), .ref (q 6), .ref (q 7), .ref (q 8), .ref (q 9), .int (a 0 2), .int (a 0 3), .ref (q 10), .ref (q 11), .ref (q 12), .ref (q 13), .ref (q 14), .ref (q 15), .ref (q 16), .ref (q 17), .ref (q 18), .int (a 0 4), .ref (q 19), .ref (q 20), .ref (q 21), .int (a 0 5), .int (a 0 6), .int (a 0 7), .int (a 0 8)])), (q 1, .inl (cI, 8, .inl (a 1))), (q 2, .inl (cI, 8, .inl (a 2))), (q 3, .inl (cI, 8, .inl (a 3))), (q 4, .inl (cI, 8, .inl (a 4))), (q 5, .inl (cI, 8, .inl (upd (a 5) (nn x) y))), (q 6, .inl (cI, 8, .inl (upd (a 6) (nn x) v))), (q 7, .inl (cI, 8, .inl (a 7))), (q 8, .inl (cI, 8, .inl (a 8))), (q 9, .inl (cF, 4, .inr (.inr (.inl (fun j => shF (a 9 j)))))), (q 10, .inl (cI, 100, .inl (a 10))), (q 11, .inl (cI, 100, .inl (a 11))), (q 12, .inl (cI, 100, .inl (a 12))), (q 13, .inl (cF, 100, .inr (.inr (.inl (fun j => shF (a 13 j)))))), (q 14, .inl (cI, 100, .inl (a 14))), (q 15, .inl (cI, 100, .inl (a 15))), (q 16, .inl (cI, 100, .inl (a 16))), (q 17, .inl (cI, 100, .inl (a 17))), (q 18, .inl (cI, 100, .inl (a 18))), (q 19, .inl (cI, 2000, .inl (a 19))), (q 20, .inl (cI, 2000, .inl (a 20))), (q 21, .inl (cZ, 2000, .inl (a 21)))] H := hP
          have hD : va_D A [(h0, .inr (5, [.int 0, .int (a 0 0), .int (a 0 1), .ref (q 1), .ref (q 2), .ref (q 3), .ref (q 4), .ref (q 5), .ref (q 6), .ref (q 7), .ref (q 8), .ref (q 9), .int (a 0 2), .int (a 0 3), .ref (q 10), .ref (q 11), .ref (q 12), .ref (q 13), .ref (q 14), .ref (q 15), .ref (q 16), .ref (q 17), .ref (q 18), .int (a 0 4), .ref (q 19), .ref (q 20), .ref (q 21), .int (a 0 5), .int (a 0 6), .int (a 0 7), .int (a 0 8)])), (q 1, .inl (cI, 8, .inl (a 1))), (q 2, .inl (cI, 8, .inl (a 2))), (q 3, .inl (cI, 8, .inl (a 3))), (q 4, .inl (cI, 8, .inl (a 4))), (q 5, .inl (cI, 8, .inl (upd (a 5) (nn x) y))), (q 6, .inl (cI, 8, .inl (upd (a 6) (nn x) v))), (q 7, .inl (cI, 8, .inl (a 7))), (q 8, .inl (cI, 8, .inl (a 8))), (q 9, .inl (cF, 4, .inr (.inr (.inl (fun j => shF (a 9 j)))))), (q 10, .inl (cI, 100, .inl (a 10))), (q 11, .inl (cI, 100, .inl (a 11))), (q 12, .inl (cI, 100, .inl (a 12))), (q 13, .inl (cF, 100, .inr (.inr (.inl (fun j => shF (a 13 j)))))), (q 14, .inl (cI, 100, .inl (a 14))), (q 15, .inl (cI, 100, .inl (a 15))), (q 16, .inl (cI, 100, .inl (a 16))), (q 17, .inl (cI, 100, .inl (a 17))), (q 18, .inl (cI, 100, .inl (a 18))), (q 19, .inl (cI, 2000, .inl (a 19))), (q 20, .inl (cI, 2000, .inl (a 20))), (q 21, .inl (cZ, 2000, .inl (a 21)))] := hD
          have hP : va_P (dC, dI) vwCl (WM cI cF cZ h0 q (sRes a x y v) 0) H := hP
          have hD : va_D A (WM cI cF cZ h0 q (sRes a x y v) 0) := hD
          have hP9 := hP
          have hD9 := hD
          have hK9 := hK
          exact W.vret hx hb hr (fun t ht hW => ⟨⟨(), rfl, trivial, (by rw [e0]; exact atW_end hP9 hD9 hK9 ht hW)⟩, hS.F ht⟩) hS.2.2 dX5_setReserve_60
  · have hc_2 : ¬ (selOK a x) := bI_f c_2
    have e1 : kRes a x y v = 1 := if_neg hc_2
    refine lv_iconst (v := 1) hx hb dX5_setReserve_9 (by decide) ?_
    refine lv_goto (tgt := 40) hx hb dX5_setReserve_10 (by decide) ?_
    have hFc := y_free hD hS hA
    refine va_calli (va_runV (As := [.int 1]) (rest := []) ⟨hx, hb, hml, hown, hts⟩ (c_X5_holds l dC dI cI cF cZ h0 q H.size a th hB 1) (cwV 1 hts gX5_setReserve_X5_holds rfl rfl rfl (by decide +kernel) ⟨Nat.le_of_ble_eq_true rfl, Nat.le_of_ble_eq_true rfl⟩) ⟨pcW_blind, va_recv hK hP (ci := 5) (q0 := 0) rfl rfl, fun U hU hW => pcW_pre hP hD hK hU hW⟩ rfl rfl hl.1 rfl (lv_room (Nat.le_of_ble_eq_true rfl)) dX5_setReserve_40 ⟨Nat.zero_le _, Nat.zero_le _⟩) hS (fun q _ h => hFc q h) hFc (fun r u t H1 locs ht hvm hw hB1 hz1 hk1 hS => ?_)
    obtain ⟨hP, hK1, hD1⟩ := hB1
    rw [ht] at hP
    have hD := hD1.weaken (fun kk qq _ h => hFc qq.1 h)
    generalize H1 = H at hP hS ⊢
    have hP : va_P (dC, dI) vwCl (WM cI cF cZ h0 q a 1) H := hP
    have hD : va_D A (WM cI cF cZ h0 q a 1) := hD
    have hw11 := hw
    refine y_topi (y := 0) (hw11.trans (if_neg (by decide))) ?_
    refine lv_if_eq (tgt := 60) hx hb dX5_setReserve_43 (by decide) (fun c_12 => ?_) (fun c_12 => ?_)
    · have hP9 := hP
      have hD9 := hD
      have hK9 := hK
      exact W.vret hx hb hr (fun t ht hW => ⟨⟨(), rfl, trivial, (by rw [e1]; exact atW_end hP9 hD9 hK9 ht hW)⟩, hS.F ht⟩) hS.2.2 dX5_setReserve_60
    · exact absurd c_12 (by decide)
set_option maxHeartbeats 4000000 in
set_option maxRecDepth 100000 in
theorem c_X5_setTax (l : Launch) (dC : Nat → ClassId) (dI : Nat → Nat → Nat) (cI cF cZ : ClassId) (h0 : Nat) (q : Nat → Nat) (sz : Nat) (a : yA) (th : Int32) (hB : okB a) (t0 : Int32) : Met l yX5_setTax wsX5_setTax ({ frames := 1, cells := 0, slots := 0, locals := 22 } : Room) (va_Pc [.ref h0, .int t0] (pcW dC dI [(cI, .int), (cF, .float), (cZ, .boolean)] (WM cI cF cZ h0 q a th) sz)) (va_Qi (fun (r : Int32) (_ : Unit) => (kTax t0 = 0 → r = a 0 2)) (fun _ t => atM dC dI cI cF cZ (va_A (WM cI cF cZ h0 q a th) sz) h0 q (if kTax t0 = 0 then sTaxS a t0 else a) (nI (kTax t0)) t) (va_A (WM cI cF cZ h0 q a th) sz)) 0 0 (va_A (WM cI cF cZ h0 q a th) sz) := by
  refine Met.ofW (cc := cX5_setTax) (maxL := 3) (ret := (some .int)) (by decide) rfl ?_
  intro p e s m args below meth c s₁ B hml hv
  obtain ⟨rfl, hsz, hP, hK, hD0⟩ := hv
  have hx := B.exec
  have hb := B.bytes
  have hr := B.returns
  have hts := atoms_spec (ws := wsX5_setTax) B.pre
  have hown : s.vm.findClass RX5 = some m.cls := findClass_of_methodNamed B.named
  have hlocks := B.notSynchronized
  subst hsz
  have hD := hD0.self (sz := s.heap.size)
  generalize hAe : va_A [(h0, .inr (5, [.int th, .int (a 0 0), .int (a 0 1), .ref (q 1), .ref (q 2), .ref (q 3), .ref (q 4), .ref (q 5), .ref (q 6), .ref (q 7), .ref (q 8), .ref (q 9), .int (a 0 2), .int (a 0 3), .ref (q 10), .ref (q 11), .ref (q 12), .ref (q 13), .ref (q 14), .ref (q 15), .ref (q 16), .ref (q 17), .ref (q 18), .int (a 0 4), .ref (q 19), .ref (q 20), .ref (q 21), .int (a 0 5), .int (a 0 6), .int (a 0 7), .int (a 0 8)])), (q 1, .inl (cI, 8, .inl (a 1))), (q 2, .inl (cI, 8, .inl (a 2))), (q 3, .inl (cI, 8, .inl (a 3))), (q 4, .inl (cI, 8, .inl (a 4))), (q 5, .inl (cI, 8, .inl (a 5))), (q 6, .inl (cI, 8, .inl (a 6))), (q 7, .inl (cI, 8, .inl (a 7))), (q 8, .inl (cI, 8, .inl (a 8))), (q 9, .inl (cF, 4, .inr (.inr (.inl (fun j => shF (a 9 j)))))), (q 10, .inl (cI, 100, .inl (a 10))), (q 11, .inl (cI, 100, .inl (a 11))), (q 12, .inl (cI, 100, .inl (a 12))), (q 13, .inl (cF, 100, .inr (.inr (.inl (fun j => shF (a 13 j)))))), (q 14, .inl (cI, 100, .inl (a 14))), (q 15, .inl (cI, 100, .inl (a 15))), (q 16, .inl (cI, 100, .inl (a 16))), (q 17, .inl (cI, 100, .inl (a 17))), (q 18, .inl (cI, 100, .inl (a 18))), (q 19, .inl (cI, 2000, .inl (a 19))), (q 20, .inl (cI, 2000, .inl (a 20))), (q 21, .inl (cZ, 2000, .inl (a 21)))] s.heap.size = A at hD ⊢
  have hA : ∀ q : Nat, s.heap.size ≤ q → A q := fun q h => by rw [← hAe]; exact Or.inr h
  have hS : va_S A s.heap s.heap [] := va_S.rf
  have hl := lv_entry ([.ref h0, .int t0]) (n := 3) (Nat.le_of_ble_eq_true rfl)
  rw [lg_entry_eq]
  generalize (lg_sl ([.ref h0, .int t0]) ++ List.replicate (3 - (lg_sl ([.ref h0, .int t0])).length) Slot.unset).toArray = ls at hl ⊢
  have hl : lv_has ls 3 [(0, .ref h0), (1, .int t0)] := hl
  have hiX5 : ∀ w ∈ wsX50, w ∈ wsX5_setTax := fun w h => List.mem_cons_of_mem _ (List.mem_append_right _ h)
  have hP : va_P (dC, dI) vwCl [(h0, .inr (5, [.int th, .int (a 0 0), .int (a 0 1), .ref (q 1), .ref (q 2), .ref (q 3), .ref (q 4), .ref (q 5), .ref (q 6), .ref (q 7), .ref (q 8), .ref (q 9), .int (a 0 2), .int (a 0 3), .ref (q 10), .ref (q 11), .ref (q 12), .ref (q 13), .ref (q 14), .ref (q 15), .ref (q 16), .ref (q 17), .ref (q 18), .int (a 0 4), .ref (q 19), .ref (q 20), .ref (q 21), .int (a 0 5), .int (a 0 6), .int (a 0 7), .int (a 0 8)])), (q 1, .inl (cI, 8, .inl (a 1))), (q 2, .inl (cI, 8, .inl (a 2))), (q 3, .inl (cI, 8, .inl (a 3))), (q 4, .inl (cI, 8, .inl (a 4))), (q 5, .inl (cI, 8, .inl (a 5))), (q 6, .inl (cI, 8, .inl (a 6))), (q 7, .inl (cI, 8, .inl (a 7))), (q 8, .inl (cI, 8, .inl (a 8))), (q 9, .inl (cF, 4, .inr (.inr (.inl (fun j => shF (a 9 j)))))), (q 10, .inl (cI, 100, .inl (a 10))), (q 11, .inl (cI, 100, .inl (a 11))), (q 12, .inl (cI, 100, .inl (a 12))), (q 13, .inl (cF, 100, .inr (.inr (.inl (fun j => shF (a 13 j)))))), (q 14, .inl (cI, 100, .inl (a 14))), (q 15, .inl (cI, 100, .inl (a 15))), (q 16, .inl (cI, 100, .inl (a 16))), (q 17, .inl (cI, 100, .inl (a 17))), (q 18, .inl (cI, 100, .inl (a 18))), (q 19, .inl (cI, 2000, .inl (a 19))), (q 20, .inl (cI, 2000, .inl (a 20))), (q 21, .inl (cZ, 2000, .inl (a 21)))] s.heap := hP
  refine y_enter (A := A) hP (fun H hP hS => ?_)
  have hBk := hB
  refine lv_aload_n hx hb dX5_setTax_0 rfl (lv_at hl 0 rfl) ?_
  refine lv_iload_n hx hb dX5_setTax_1 rfl (lv_at hl 1 rfl) ?_
  refine lv_iconst (v := 0) hx hb dX5_setTax_2 (by decide) ?_
  refine lv_sipush (v := 500) hx hb dX5_setTax_3 (by decide) ?_
  refine va_calli (va_runS (As := [.int t0, .int 0, .int 500]) (rest := [.ref h0]) ⟨hx, hb, hml, hown, hts⟩ (c_X5_in l t0 0 500) (va_cwS 3 hts gX5_setTax_X5_in rfl rfl rfl (by decide +kernel) ⟨Nat.le_of_ble_eq_true rfl, Nat.le_of_ble_eq_true rfl⟩) ⟨pcT_blind, fun U hU hW => pcT_pre⟩ rfl rfl hl.1 rfl (lv_room (Nat.le_of_ble_eq_true rfl)) dX5_setTax_6 ⟨(Nat.zero_le _), (Nat.zero_le _)⟩) hS (fun q _ h => h.elim) (fun q h => h.elim) (fun r u t H1 locs ht hvm hw hB1 hz1 hk1 hS => ?_)
  have hP := y_keptP hP hk1
  generalize H1 = H at hP hS ⊢
  refine y_topi (y := bI (bw t0 0 500)) hw ?_
  refine lv_if_eq (tgt := 16) hx hb dX5_setTax_9 (by decide) (fun c_1 => ?_) (fun c_1 => ?_)
  · have hc_1 : ¬ (bw t0 0 500) := bI_f c_1
    have e1 : kTax t0 = 1 := if_neg hc_1
    refine lv_iconst (v := 1) hx hb dX5_setTax_16 (by decide) ?_
    have hFc := y_free hD hS hA
    refine va_calli (va_runV (As := [.int 1]) (rest := []) ⟨hx, hb, hml, hown, hts⟩ (c_X5_holds l dC dI cI cF cZ h0 q H.size a th hB 1) (cwV 1 hts gX5_setTax_X5_holds rfl rfl rfl (by decide +kernel) ⟨Nat.le_of_ble_eq_true rfl, Nat.le_of_ble_eq_true rfl⟩) ⟨pcW_blind, va_recv hK hP (ci := 5) (q0 := 0) rfl rfl, fun U hU hW => pcW_pre hP hD hK hU hW⟩ rfl rfl hl.1 rfl (lv_room (Nat.le_of_ble_eq_true rfl)) dX5_setTax_17 ⟨Nat.zero_le _, Nat.zero_le _⟩) hS (fun q _ h => hFc q h) hFc (fun r u t H1 locs ht hvm hw hB1 hz1 hk1 hS => ?_)
    obtain ⟨hP, hK1, hD1⟩ := hB1
    rw [ht] at hP
    have hD := hD1.weaken (fun kk qq _ h => hFc qq.1 h)
    generalize H1 = H at hP hS ⊢
    have hP : va_P (dC, dI) vwCl (WM cI cF cZ h0 q a 1) H := hP
    have hD : va_D A (WM cI cF cZ h0 q a 1) := hD
    have hw2 := hw
    refine y_topi (y := 0) (hw2.trans (if_neg (by decide))) ?_
    refine lv_if_ne (tgt := 25) hx hb dX5_setTax_20 (by decide) (fun c_3 => ?_) (fun c_3 => ?_)
    · exact absurd c_3 (by decide)
    · refine lv_iconst (v := 0) hx hb dX5_setTax_23 (by decide) ?_
      have hP9 := hP
      have hD9 := hD
      have hK9 := hK
      exact W.iret (v := 0) hx hb hr (fun t ht hW => ⟨⟨0, (), rfl, (fun h9 => absurd (e1.symm.trans h9) (by decide)), (by rw [e1]; exact atW_end hP9 hD9 hK9 ht hW)⟩, hS.F ht⟩) hS.2.2 dX5_setTax_24
  · have hc_1 : bw t0 0 500 := bI_t c_1
    have e0 : kTax t0 = 0 := if_pos hc_1
    refine lv_iconst (v := 0) hx hb dX5_setTax_12 (by decide) ?_
    refine lv_goto (tgt := 17) hx hb dX5_setTax_13 (by decide) ?_
    have hFc := y_free hD hS hA
    refine va_calli (va_runV (As := [.int 0]) (rest := []) ⟨hx, hb, hml, hown, hts⟩ (c_X5_holds l dC dI cI cF cZ h0 q H.size a th hB 0) (cwV 1 hts gX5_setTax_X5_holds rfl rfl rfl (by decide +kernel) ⟨Nat.le_of_ble_eq_true rfl, Nat.le_of_ble_eq_true rfl⟩) ⟨pcW_blind, va_recv hK hP (ci := 5) (q0 := 0) rfl rfl, fun U hU hW => pcW_pre hP hD hK hU hW⟩ rfl rfl hl.1 rfl (lv_room (Nat.le_of_ble_eq_true rfl)) dX5_setTax_17 ⟨Nat.zero_le _, Nat.zero_le _⟩) hS (fun q _ h => hFc q h) hFc (fun r u t H1 locs ht hvm hw hB1 hz1 hk1 hS => ?_)
    obtain ⟨hP, hK1, hD1⟩ := hB1
    rw [ht] at hP
    have hD := hD1.weaken (fun kk qq _ h => hFc qq.1 h)
    generalize H1 = H at hP hS ⊢
    have hP : va_P (dC, dI) vwCl (WM cI cF cZ h0 q a 0) H := hP
    have hD : va_D A (WM cI cF cZ h0 q a 0) := hD
    have hw4 := hw
    refine y_topi (y := 1) (hw4.trans (if_pos rfl)) ?_
    refine lv_if_ne (tgt := 25) hx hb dX5_setTax_20 (by decide) (fun c_5 => ?_) (fun c_5 => ?_)
    · refine lv_aload_n hx hb dX5_setTax_25 rfl (lv_at hl 0 rfl) ?_
      refine va_get (D := (dC, dI)) (ci := 5) (v := .int (a 0 2)) (C := RX5) (T := TX5) (N := 31) hx hb hts hiX5 hown hK hP 0 rfl rfl 12 (by decide) (hts (.fieldLink RX5 105 "PayoutnetModel" "tax" "I") (List.mem_of_getElem? (i := 1) rfl)) (fun _ h9 => h9) rfl dX5_setTax_26 ?_
      refine lv_istore_n (lv' := [(2, .int (a 0 2)), (0, .ref h0), (1, .int t0)]) hx hb dX5_setTax_29 rfl hl (by decide) rfl (fun ls hl => ?_)
      refine lv_aload_n hx hb dX5_setTax_30 rfl (lv_at hl 1 rfl) ?_
      refine lv_iload_n hx hb dX5_setTax_31 rfl (lv_at hl 2 rfl) ?_
      refine va_put (D := (dC, dI)) (ci := 5) (v := .int t0) (ty := .int) (C := RX5) (T := TX5) (N := 31) hx hb hts hiX5 tyX5 tyX5_ok nmX5 hown hK hP hD hS 0 rfl rfl 12 (by decide) (hts (.fieldLink RX5 105 "PayoutnetModel" "tax" "I") (List.mem_of_getElem? (i := 1) rfl)) (fun _ h9 => h9) rfl (tyX5_ok 12 (by decide)) rfl rfl (Nat.le_of_ble_eq_true rfl) dX5_setTax_32 (fun H locs hP hD hS => ?_)
      have hP : va_P (dC, dI) vwCl [(h0, .inr (5, [.int 0, .int (a 0 0), .int (a 0 1), .ref (q 1), .ref (q 2), .ref (q 3), .ref (q 4), .ref (q 5), .ref (q 6), .ref (q 7), .ref (q 8), .ref (q 9), .int t0, .int (a 0 3), .ref (q 10), .ref (q 11), .ref (q 12), .ref (q 13), .ref (q 14), .ref (q 15), .ref (q 16), .ref (q 17), .ref (q 18), .int (a 0 4), .ref (q 19), .ref (q 20), .ref (q 21), .int (a 0 5), .int (a 0 6), .int (a 0 7), .int (a 0 8)])), (q 1, .inl (cI, 8, .inl (a 1))), (q 2, .inl (cI, 8, .inl (a 2))), (q 3, .inl (cI, 8, .inl (a 3))), (q 4, .inl (cI, 8, .inl (a 4))), (q 5, .inl (cI, 8, .inl (a 5))), (q 6, .inl (cI, 8, .inl (a 6))), (q 7, .inl (cI, 8, .inl (a 7))), (q 8, .inl (cI, 8, .inl (a 8))), (q 9, .inl (cF, 4, .inr (.inr (.inl (fun j => shF (a 9 j)))))), (q 10, .inl (cI, 100, .inl (a 10))), (q 11, .inl (cI, 100, .inl (a 11))), (q 12, .inl (cI, 100, .inl (a 12))), (q 13, .inl (cF, 100, .inr (.inr (.inl (fun j => shF (a 13 j)))))), (q 14, .inl (cI, 100, .inl (a 14))), (q 15, .inl (cI, 100, .inl (a 15))), (q 16, .inl (cI, 100, .inl (a 16))), (q 17, .inl (cI, 100, .inl (a 17))), (q 18, .inl (cI, 100, .inl (a 18))), (q 19, .inl (cI, 2000, .inl (a 19))), (q 20, .inl (cI, 2000, .inl (a 20))), (q 21, .inl (cZ, 2000, .inl (a 21)))] H := hP
      have hD : va_D A [(h0, .inr (5, [.int 0, .int (a 0 0), .int (a 0 1), .ref (q 1), .ref (q 2), .ref (q 3), .ref (q 4), .ref (q 5), .ref (q 6), .ref (q 7), .ref (q 8), .ref (q 9), .int t0, .int (a 0 3), .ref (q 10), .ref (q 11), .ref (q 12), .ref (q 13), .ref (q 14), .ref (q 15), .ref (q 16), .ref (q 17), .ref (q 18), .int (a 0 4), .ref (q 19), .ref (q 20), .ref (q 21), .int (a 0 5), .int (a 0 6), .int (a 0 7), .int (a 0 8)])), (q 1, .inl (cI, 8, .inl (a 1))), (q 2, .inl (cI, 8, .inl (a 2))), (q 3, .inl (cI, 8, .inl (a 3))), (q 4, .inl (cI, 8, .inl (a 4))), (q 5, .inl (cI, 8, .inl (a 5))), (q 6, .inl (cI, 8, .inl (a 6))), (q 7, .inl (cI, 8, .inl (a 7))), (q 8, .inl (cI, 8, .inl (a 8))), (q 9, .inl (cF, 4, .inr (.inr (.inl (fun j => shF (a 9 j)))))), (q 10, .inl (cI, 100, .inl (a 10))), (q 11, .inl (cI, 100, .inl (a 11))), (q 12, .inl (cI, 100, .inl (a 12))), (q 13, .inl (cF, 100, .inr (.inr (.inl (fun j => shF (a 13 j)))))), (q 14, .inl (cI, 100, .inl (a 14))), (q 15, .inl (cI, 100, .inl (a 15))), (q 16, .inl (cI, 100, .inl (a 16))), (q 17, .inl (cI, 100, .inl (a 17))), (q 18, .inl (cI, 100, .inl (a 18))), (q 19, .inl (cI, 2000, .inl (a 19))), (q 20, .inl (cI, 2000, .inl (a 20))), (q 21, .inl (cZ, 2000, .inl (a 21)))] := hD
      refine lv_iload_n hx hb dX5_setTax_35 rfl (lv_at hl 0 rfl) ?_
      have hP : va_P (dC, dI) vwCl (WM cI cF cZ h0 q (sTaxS a t0) 0) H := hP
      have hD : va_D A (WM cI cF cZ h0 q (sTaxS a t0) 0) := hD
      have hP9 := hP
      have hD9 := hD
      have hK9 := hK
      exact W.iret (v := a 0 2) hx hb hr (fun t ht hW => ⟨⟨a 0 2, (), rfl, (fun _ => rfl), (by rw [e0]; exact atW_end hP9 hD9 hK9 ht hW)⟩, hS.F ht⟩) hS.2.2 dX5_setTax_36
    · exact absurd c_5 (by decide)
theorem y_ofWF {l : Launch} {y : MethodName} {ws ws' : List Cond} {rm : Room} {Pc : Array Value → State → Prop} {Qc : Array Value → State → Outcome → State → Prop} {mc ms : Nat} {free : Addr → Prop} {cc : ByteArray} {maxL : Nat} {ret : Option FieldType}
    (hy : plainFor y = true) (hw : ws = Cond.code y cc maxL ret :: ws')
    (body : ∀ p e s m args below meth c s₁, BodyLoose p l y (headSpec ws rm) cc maxL ret e s m args below meth c s₁ → c.maxLocals = maxL → Pc args s →
      W p l e (headSpec ws rm).room s m args below meth c s.heap [] 0 0 (MQ below Qc args s mc ms free) (entryFrame m args maxL)) : Met l y ws rm Pc Qc mc ms free := by
  refine MetFree.of_bodySF (code := cc) (maxLocals := maxL) (ret := ret) hy ?_ ?_
  · intro args s m h hn
    obtain ⟨meth, c, h1, h2, h3, h4, h5, h6, -, -⟩ := Cond.code_spec hn (atoms_spec (ws := ws) h _ (by rw [hw]; exact List.mem_cons_self))
    exact ⟨meth, c, h1, h2, h3, h4, h5, h6⟩
  · intro p e s m args below meth c s₁ B hml hP _
    have hh0 : s₁.heap = s.heap := by rw [B.state]; rfl
    obtain ⟨t, a1, o, b1, b2, b3⟩ := body p e s m args below meth c s₁ B hml hP s₁ hh0 (Stand.of_body B)
    exact ⟨t, o, a1, b1, b2, ⟨b3.1, b3.2⟩⟩
set_option maxHeartbeats 4000000 in
set_option maxRecDepth 100000 in
theorem c_Jxf58ca_isNaN_12338 (l : Launch) (k : Nat) (hk : k ≤ 999) : Met l yJxf58ca_isNaN_12338 wsJxf58ca_isNaN_12338 ({ frames := 0, cells := 0, slots := 0, locals := 0 } : Room) (va_Pc [.float (shF (nI k))] (fun _ => True)) (va_Qi (fun (r : Int32) (_ : Unit) => r = 0) (fun _ _ => True) (fun _ => False)) 0 0 (fun _ => False) := by
  refine y_ofWF (cc := cJxf58ca_isNaN_12338) (maxL := 1) (ret := (some .boolean)) (by decide +kernel) rfl ?_
  intro p e s m args below meth c s₁ B hml hv
  obtain ⟨rfl, -⟩ := hv
  have hx := B.exec
  have hb := B.bytes
  have hr := B.returns
  have hts := atoms_spec (ws := wsJxf58ca_isNaN_12338) B.pre
  have hown : s.vm.findClass RJxf58ca = some m.cls := findClass_of_methodNamed B.named
  have hlocks := B.notSynchronized
  have hS : va_S (fun _ => False) s.heap s.heap [] := va_S.rf
  have hl := lv_entry ([.float (shF (nI k))]) (n := 1) (Nat.le_of_ble_eq_true rfl)
  rw [lg_entry_eq]
  generalize (lg_sl ([.float (shF (nI k))]) ++ List.replicate (1 - (lg_sl ([.float (shF (nI k))])).length) Slot.unset).toArray = ls at hl ⊢

  have hl : lv_has ls 1 [(0, .float (shF (nI k)))] := hl
  refine lv_fload_n hx hb dJxf58ca_isNaN_12338_0 rfl (lv_at hl 0 rfl) ?_
  refine lv_fload_n hx hb dJxf58ca_isNaN_12338_1 rfl (lv_at hl 0 rfl) ?_
  refine lv_fcmp hx hb dJxf58ca_isNaN_12338_2 ?_
  have hc0 : Op.cmpValue (FP.fcmp (shF (nI k)) (shF (nI k))) .l = 0 := by
    have : ∀ k, k < 1000 → Op.cmpValue (FP.fcmp (shF (nI k)) (shF (nI k))) .l = 0 := by decide +kernel
    exact this k (by omega)
  refine lv_if_eq (tgt := 10) hx hb dJxf58ca_isNaN_12338_3 (by decide) (fun c_1 => ?_) (fun c_1 => ?_)
  · refine lv_iconst (v := 0) hx hb dJxf58ca_isNaN_12338_10 (by decide) ?_
    exact W.zret (v := 0) (ty := .boolean) hx hb hr rfl (fun t ht hW => ⟨⟨0, (), rfl, rfl, trivial⟩, hS.F ht⟩) hS.2.2 dJxf58ca_isNaN_12338_11
  · exact absurd hc0 c_1
set_option maxHeartbeats 4000000 in
set_option maxRecDepth 100000 in
theorem c_Jxf58ca_floatToIntBits_5c35a (l : Launch) (k : Nat) (hk : k ≤ 999) : Met l yJxf58ca_floatToIntBits_5c35a wsJxf58ca_floatToIntBits_5c35a ({ frames := 2, cells := 0, slots := 0, locals := 38 } : Room) (va_Pc [.float (shF (nI k))] (fun _ => True)) (va_Qi (fun (r : Int32) (_ : Unit) => r = shB k) (fun _ _ => True) (fun _ => False)) 0 0 (fun _ => False) := by
  refine y_ofWF (cc := cJxf58ca_floatToIntBits_5c35a) (maxL := 1) (ret := (some .int)) (by decide +kernel) rfl ?_
  intro p e s m args below meth c s₁ B hml hv
  obtain ⟨rfl, -⟩ := hv
  have hx := B.exec
  have hb := B.bytes
  have hr := B.returns
  have hts := atoms_spec (ws := wsJxf58ca_floatToIntBits_5c35a) B.pre
  have hown : s.vm.findClass RJxf58ca = some m.cls := findClass_of_methodNamed B.named
  have hlocks := B.notSynchronized
  have hS : va_S (fun _ => False) s.heap s.heap [] := va_S.rf
  have hl := lv_entry ([.float (shF (nI k))]) (n := 1) (Nat.le_of_ble_eq_true rfl)
  rw [lg_entry_eq]
  generalize (lg_sl ([.float (shF (nI k))]) ++ List.replicate (1 - (lg_sl ([.float (shF (nI k))])).length) Slot.unset).toArray = ls at hl ⊢
  have hl : lv_has ls 1 [(0, .float (shF (nI k)))] := hl
  have hP : va_P ((fun _ => 0), (fun _ _ => 0)) vwCl [] s.heap := va_P_nil
  refine lv_fload_n hx hb dJxf58ca_floatToIntBits_5c35a_0 rfl (lv_at hl 0 rfl) ?_
  refine va_calli (va_runS (As := [.float (shF (nI k))]) (rest := []) ⟨hx, hb, hml, hown, hts⟩ (c_Jxf58ca_isNaN_12338 l k hk) (va_cwS 1 hts gJxf58ca_floatToIntBits_5c35a_Jxf58ca_isNaN_12338 rfl rfl rfl (by decide +kernel) ⟨Nat.le_of_ble_eq_true rfl, Nat.le_of_ble_eq_true rfl⟩) ⟨pcT_blind, fun U hU hW => pcT_pre⟩ rfl rfl hl.1 rfl (lv_room (Nat.le_of_ble_eq_true rfl)) dJxf58ca_floatToIntBits_5c35a_1 ⟨(Nat.zero_le _), (Nat.zero_le _)⟩) hS (fun q _ h => h.elim) (fun q h => h.elim) (fun r u t H1 locs ht hvm hw hB1 hz1 hk1 hS => ?_)
  have hP := y_keptP hP hk1
  generalize H1 = H at hP hS ⊢
  refine y_topi (y := 0) hw ?_
  refine lv_if_ne (tgt := 12) hx hb dJxf58ca_floatToIntBits_5c35a_4 (by decide) (fun c_1 => ?_) (fun c_1 => ?_)
  · exact absurd rfl c_1
  · refine lv_fload_n hx hb dJxf58ca_floatToIntBits_5c35a_7 rfl (lv_at hl 0 rfl) ?_
    refine vn_f2i hx hb (hml.trans hl.1.symm) hown (hts (.methodLink RJxf58ca 74 ⟨"java/lang/Float", "floatToRawIntBits", "(F)I"⟩) (List.mem_of_getElem? (i := 1) rfl)) (hts (.native ⟨"java/lang/Float", "floatToRawIntBits", "(F)I"⟩) (List.mem_of_getElem? (i := 2) rfl)) (hts (.static ⟨"java/lang/Float", "floatToRawIntBits", "(F)I"⟩) (List.mem_of_getElem? (i := 3) rfl)) (hts (.initialized "java/lang/Float") (List.mem_of_getElem? (i := 4) rfl)) (Nat.le_of_ble_eq_true rfl) (Nat.le_of_ble_eq_true rfl) dJxf58ca_floatToIntBits_5c35a_8 ?_
    exact W.iret (v := (shF (nI k)).toInt32) hx hb hr (fun t ht hW => ⟨⟨(shF (nI k)).toInt32, (), rfl, rfl, trivial⟩, hS.F ht⟩) hS.2.2 dJxf58ca_floatToIntBits_5c35a_11
set_option maxHeartbeats 4000000 in
set_option maxRecDepth 100000 in
theorem c_X5_setShare (l : Launch) (dC : Nat → ClassId) (dI : Nat → Nat → Nat) (cI cF cZ : ClassId) (h0 : Nat) (q : Nat → Nat) (sz : Nat) (a : yA) (th : Int32) (hB : okB a) (kd t0 : Int32) : Met l yX5_setShare wsX5_setShare ({ frames := 3, cells := 0, slots := 0, locals := 58 } : Room) (va_Pc [.ref h0, .int kd, .int t0] (pcW dC dI [(cI, .int), (cF, .float), (cZ, .boolean)] (WM cI cF cZ h0 q a th) sz)) (va_Qi (fun (r : Int32) (_ : Unit) => (kShr kd t0 = 0 → r = shB (nn t0))) (fun _ t => atM dC dI cI cF cZ (va_A (WM cI cF cZ h0 q a th) sz) h0 q (if kShr kd t0 = 0 then sShr a kd t0 else a) (nI (kShr kd t0)) t) (va_A (WM cI cF cZ h0 q a th) sz)) 0 0 (va_A (WM cI cF cZ h0 q a th) sz) := by
  refine Met.ofW (cc := cX5_setShare) (maxL := 3) (ret := (some .int)) (by decide) rfl ?_
  intro p e s m args below meth c s₁ B hml hv
  obtain ⟨rfl, hsz, hP, hK, hD0⟩ := hv
  have hx := B.exec
  have hb := B.bytes
  have hr := B.returns
  have hts := atoms_spec (ws := wsX5_setShare) B.pre
  have hown : s.vm.findClass RX5 = some m.cls := findClass_of_methodNamed B.named
  have hlocks := B.notSynchronized
  subst hsz
  have hD := hD0.self (sz := s.heap.size)
  generalize hAe : va_A [(h0, .inr (5, [.int th, .int (a 0 0), .int (a 0 1), .ref (q 1), .ref (q 2), .ref (q 3), .ref (q 4), .ref (q 5), .ref (q 6), .ref (q 7), .ref (q 8), .ref (q 9), .int (a 0 2), .int (a 0 3), .ref (q 10), .ref (q 11), .ref (q 12), .ref (q 13), .ref (q 14), .ref (q 15), .ref (q 16), .ref (q 17), .ref (q 18), .int (a 0 4), .ref (q 19), .ref (q 20), .ref (q 21), .int (a 0 5), .int (a 0 6), .int (a 0 7), .int (a 0 8)])), (q 1, .inl (cI, 8, .inl (a 1))), (q 2, .inl (cI, 8, .inl (a 2))), (q 3, .inl (cI, 8, .inl (a 3))), (q 4, .inl (cI, 8, .inl (a 4))), (q 5, .inl (cI, 8, .inl (a 5))), (q 6, .inl (cI, 8, .inl (a 6))), (q 7, .inl (cI, 8, .inl (a 7))), (q 8, .inl (cI, 8, .inl (a 8))), (q 9, .inl (cF, 4, .inr (.inr (.inl (fun j => shF (a 9 j)))))), (q 10, .inl (cI, 100, .inl (a 10))), (q 11, .inl (cI, 100, .inl (a 11))), (q 12, .inl (cI, 100, .inl (a 12))), (q 13, .inl (cF, 100, .inr (.inr (.inl (fun j => shF (a 13 j)))))), (q 14, .inl (cI, 100, .inl (a 14))), (q 15, .inl (cI, 100, .inl (a 15))), (q 16, .inl (cI, 100, .inl (a 16))), (q 17, .inl (cI, 100, .inl (a 17))), (q 18, .inl (cI, 100, .inl (a 18))), (q 19, .inl (cI, 2000, .inl (a 19))), (q 20, .inl (cI, 2000, .inl (a 20))), (q 21, .inl (cZ, 2000, .inl (a 21)))] s.heap.size = A at hD ⊢
  have hA : ∀ q : Nat, s.heap.size ≤ q → A q := fun q h => by rw [← hAe]; exact Or.inr h
  have hS : va_S A s.heap s.heap [] := va_S.rf
  have hl := lv_entry ([.ref h0, .int kd, .int t0]) (n := 3) (Nat.le_of_ble_eq_true rfl)
  rw [lg_entry_eq]
  generalize (lg_sl ([.ref h0, .int kd, .int t0]) ++ List.replicate (3 - (lg_sl ([.ref h0, .int kd, .int t0])).length) Slot.unset).toArray = ls at hl ⊢
  have hl : lv_has ls 3 [(0, .ref h0), (1, .int kd), (2, .int t0)] := hl
  have hiX5 : ∀ w ∈ wsX50, w ∈ wsX5_setShare := fun w h => List.mem_cons_of_mem _ (List.mem_append_right _ h)
  have hP : va_P (dC, dI) vwCl [(h0, .inr (5, [.int th, .int (a 0 0), .int (a 0 1), .ref (q 1), .ref (q 2), .ref (q 3), .ref (q 4), .ref (q 5), .ref (q 6), .ref (q 7), .ref (q 8), .ref (q 9), .int (a 0 2), .int (a 0 3), .ref (q 10), .ref (q 11), .ref (q 12), .ref (q 13), .ref (q 14), .ref (q 15), .ref (q 16), .ref (q 17), .ref (q 18), .int (a 0 4), .ref (q 19), .ref (q 20), .ref (q 21), .int (a 0 5), .int (a 0 6), .int (a 0 7), .int (a 0 8)])), (q 1, .inl (cI, 8, .inl (a 1))), (q 2, .inl (cI, 8, .inl (a 2))), (q 3, .inl (cI, 8, .inl (a 3))), (q 4, .inl (cI, 8, .inl (a 4))), (q 5, .inl (cI, 8, .inl (a 5))), (q 6, .inl (cI, 8, .inl (a 6))), (q 7, .inl (cI, 8, .inl (a 7))), (q 8, .inl (cI, 8, .inl (a 8))), (q 9, .inl (cF, 4, .inr (.inr (.inl (fun j => shF (a 9 j)))))), (q 10, .inl (cI, 100, .inl (a 10))), (q 11, .inl (cI, 100, .inl (a 11))), (q 12, .inl (cI, 100, .inl (a 12))), (q 13, .inl (cF, 100, .inr (.inr (.inl (fun j => shF (a 13 j)))))), (q 14, .inl (cI, 100, .inl (a 14))), (q 15, .inl (cI, 100, .inl (a 15))), (q 16, .inl (cI, 100, .inl (a 16))), (q 17, .inl (cI, 100, .inl (a 17))), (q 18, .inl (cI, 100, .inl (a 18))), (q 19, .inl (cI, 2000, .inl (a 19))), (q 20, .inl (cI, 2000, .inl (a 20))), (q 21, .inl (cZ, 2000, .inl (a 21)))] s.heap := hP
  refine y_enter (A := A) hP (fun H hP hS => ?_)
  have hBk := hB
  refine lv_aload_n hx hb dX5_setShare_0 rfl (lv_at hl 0 rfl) ?_
  refine lv_iload_n hx hb dX5_setShare_1 rfl (lv_at hl 1 rfl) ?_
  refine va_calli (va_runS (As := [.int kd]) (rest := [.ref h0]) ⟨hx, hb, hml, hown, hts⟩ (c_X5_isKind l kd) (va_cwS 1 hts gX5_setShare_X5_isKind rfl rfl rfl (by decide +kernel) ⟨Nat.le_of_ble_eq_true rfl, Nat.le_of_ble_eq_true rfl⟩) ⟨pcT_blind, fun U hU hW => pcT_pre⟩ rfl rfl hl.1 rfl (lv_room (Nat.le_of_ble_eq_true rfl)) dX5_setShare_2 ⟨(Nat.zero_le _), (Nat.zero_le _)⟩) hS (fun q _ h => h.elim) (fun q h => h.elim) (fun r u t H1 locs ht hvm hw hB1 hz1 hk1 hS => ?_)
  have hP := y_keptP hP hk1
  generalize H1 = H at hP hS ⊢
  refine y_topi (y := bI (bw kd 0 3)) hw ?_
  refine lv_if_ne (tgt := 12) hx hb dX5_setShare_5 (by decide) (fun c_1 => ?_) (fun c_1 => ?_)
  · have hc_1 : bw kd 0 3 := bI_t c_1
    refine lv_iload_n hx hb dX5_setShare_12 rfl (lv_at hl 2 rfl) ?_
    refine lv_iconst (v := 0) hx hb dX5_setShare_13 (by decide) ?_
    refine lv_sipush (v := 999) hx hb dX5_setShare_14 (by decide) ?_
    refine va_calli (va_runS (As := [.int t0, .int 0, .int 999]) (rest := [.ref h0]) ⟨hx, hb, hml, hown, hts⟩ (c_X5_in l t0 0 999) (va_cwS 3 hts gX5_setShare_X5_in rfl rfl rfl (by decide +kernel) ⟨Nat.le_of_ble_eq_true rfl, Nat.le_of_ble_eq_true rfl⟩) ⟨pcT_blind, fun U hU hW => pcT_pre⟩ rfl rfl hl.1 rfl (lv_room (Nat.le_of_ble_eq_true rfl)) dX5_setShare_17 ⟨(Nat.zero_le _), (Nat.zero_le _)⟩) hS (fun q _ h => h.elim) (fun q h => h.elim) (fun r u t H1 locs ht hvm hw hB1 hz1 hk1 hS => ?_)
    have hP := y_keptP hP hk1
    generalize H1 = H at hP hS ⊢
    refine y_topi (y := bI (bw t0 0 999)) hw ?_
    refine lv_if_eq (tgt := 27) hx hb dX5_setShare_20 (by decide) (fun c_2 => ?_) (fun c_2 => ?_)
    · have hc_2 : ¬ (bw t0 0 999) := bI_f c_2
      have e2 : kShr kd t0 = 2 := by unfold kShr; rw [if_pos hc_1, if_neg hc_2]
      refine lv_iconst (v := 2) hx hb dX5_setShare_27 (by decide) ?_
      have hFc := y_free hD hS hA
      refine va_calli (va_runV (As := [.int 2]) (rest := []) ⟨hx, hb, hml, hown, hts⟩ (c_X5_holds l dC dI cI cF cZ h0 q H.size a th hB 2) (cwV 1 hts gX5_setShare_X5_holds rfl rfl rfl (by decide +kernel) ⟨Nat.le_of_ble_eq_true rfl, Nat.le_of_ble_eq_true rfl⟩) ⟨pcW_blind, va_recv hK hP (ci := 5) (q0 := 0) rfl rfl, fun U hU hW => pcW_pre hP hD hK hU hW⟩ rfl rfl hl.1 rfl (lv_room (Nat.le_of_ble_eq_true rfl)) dX5_setShare_28 ⟨Nat.zero_le _, Nat.zero_le _⟩) hS (fun q _ h => hFc q h) hFc (fun r u t H1 locs ht hvm hw hB1 hz1 hk1 hS => ?_)
      obtain ⟨hP, hK1, hD1⟩ := hB1
      rw [ht] at hP
      have hD := hD1.weaken (fun kk qq _ h => hFc qq.1 h)
      generalize H1 = H at hP hS ⊢
      have hP : va_P (dC, dI) vwCl (WM cI cF cZ h0 q a 2) H := hP
      have hD : va_D A (WM cI cF cZ h0 q a 2) := hD
      have hw3 := hw
      refine y_topi (y := 0) (hw3.trans (if_neg (by decide))) ?_
      refine lv_if_ne (tgt := 36) hx hb dX5_setShare_31 (by decide) (fun c_4 => ?_) (fun c_4 => ?_)
      · exact absurd c_4 (by decide)
      · refine lv_iconst (v := 0) hx hb dX5_setShare_34 (by decide) ?_
        have hP9 := hP
        have hD9 := hD
        have hK9 := hK
        exact W.iret (v := 0) hx hb hr (fun t ht hW => ⟨⟨0, (), rfl, (fun h9 => absurd (e2.symm.trans h9) (by decide)), (by rw [e2]; exact atW_end hP9 hD9 hK9 ht hW)⟩, hS.F ht⟩) hS.2.2 dX5_setShare_35
    · have hc_2 : bw t0 0 999 := bI_t c_2
      have e0 : kShr kd t0 = 0 := by unfold kShr; rw [if_pos hc_1, if_pos hc_2]
      refine lv_iconst (v := 0) hx hb dX5_setShare_23 (by decide) ?_
      refine lv_goto (tgt := 28) hx hb dX5_setShare_24 (by decide) ?_
      have hFc := y_free hD hS hA
      refine va_calli (va_runV (As := [.int 0]) (rest := []) ⟨hx, hb, hml, hown, hts⟩ (c_X5_holds l dC dI cI cF cZ h0 q H.size a th hB 0) (cwV 1 hts gX5_setShare_X5_holds rfl rfl rfl (by decide +kernel) ⟨Nat.le_of_ble_eq_true rfl, Nat.le_of_ble_eq_true rfl⟩) ⟨pcW_blind, va_recv hK hP (ci := 5) (q0 := 0) rfl rfl, fun U hU hW => pcW_pre hP hD hK hU hW⟩ rfl rfl hl.1 rfl (lv_room (Nat.le_of_ble_eq_true rfl)) dX5_setShare_28 ⟨Nat.zero_le _, Nat.zero_le _⟩) hS (fun q _ h => hFc q h) hFc (fun r u t H1 locs ht hvm hw hB1 hz1 hk1 hS => ?_)
      obtain ⟨hP, hK1, hD1⟩ := hB1
      rw [ht] at hP
      have hD := hD1.weaken (fun kk qq _ h => hFc qq.1 h)
      generalize H1 = H at hP hS ⊢
      have hP : va_P (dC, dI) vwCl (WM cI cF cZ h0 q a 0) H := hP
      have hD : va_D A (WM cI cF cZ h0 q a 0) := hD
      have hw5 := hw
      refine y_topi (y := 1) (hw5.trans (if_pos rfl)) ?_
      refine lv_if_ne (tgt := 36) hx hb dX5_setShare_31 (by decide) (fun c_6 => ?_) (fun c_6 => ?_)
      · have hkd1 := nat_le (b := 3) (by decide) hc_1.1 hc_1.2
        have ht1 := nat_le (b := 999) (by decide) hc_2.1 hc_2.2
        refine lv_aload_n hx hb dX5_setShare_36 rfl (lv_at hl 0 rfl) ?_
        refine va_get (D := (dC, dI)) (ci := 5) (v := .ref (q 9)) (C := RX5) (T := TX5) (N := 31) hx hb hts hiX5 hown hK hP 0 rfl rfl 11 (by decide) (hts (.fieldLink RX5 34 "PayoutnetModel" "shares" "[F") (List.mem_of_getElem? (i := 1) rfl)) (fun _ h9 => h9) rfl dX5_setShare_37 ?_
        refine lv_iload_n hx hb dX5_setShare_40 rfl (lv_at hl 1 rfl) ?_
        refine y_topi (y := nI (nn kd)) hkd1.1 ?_
        refine lv_iload_n hx hb dX5_setShare_41 rfl (lv_at hl 2 rfl) ?_
        refine lv_i2f hx hb dX5_setShare_42 ?_
        refine lv_ldcf hx hb hown (hts (.constantFloat RX5 98 (1148846080)) (List.mem_of_getElem? (i := 2) rfl)) dX5_setShare_43 ?_
        refine lv_fdiv hx hb dX5_setShare_45 (by rw [ht1.1]; exact shF_n ht1.2) ?_
        refine y_topf (y := shF t0) rfl ?_
        refine y_fst hx hb hK hP hD hS 9 1 rfl rfl (t := nn kd) (Nat.lt_succ_of_le hkd1.2) (Nat.le_of_ble_eq_true rfl) dX5_setShare_46 (fun H locs hP hD hS => ?_)
        have hP : va_P (dC, dI) vwCl [(h0, .inr (5, [.int 0, .int (a 0 0), .int (a 0 1), .ref (q 1), .ref (q 2), .ref (q 3), .ref (q 4), .ref (q 5), .ref (q 6), .ref (q 7), .ref (q 8), .ref (q 9), .int (a 0 2), .int (a 0 3), .ref (q 10), .ref (q 11), .ref (q 12), .ref (q 13), .ref (q 14), .ref (q 15), .ref (q 16), .ref (q 17), .ref (q 18), .int (a 0 4), .ref (q 19), .ref (q 20), .ref (q 21), .int (a 0 5), .int (a 0 6), .int (a 0 7), .int (a 0 8)])), (q 1, .inl (cI, 8, .inl (a 1))), (q 2, .inl (cI, 8, .inl (a 2))), (q 3, .inl (cI, 8, .inl (a 3))), (q 4, .inl (cI, 8, .inl (a 4))), (q 5, .inl (cI, 8, .inl (a 5))), (q 6, .inl (cI, 8, .inl (a 6))), (q 7, .inl (cI, 8, .inl (a 7))), (q 8, .inl (cI, 8, .inl (a 8))), (q 9, .inl (cF, 4, .inr (.inr (.inl (vf_upd (fun j => shF (a 9 j)) (nn kd) (shF t0)))))), (q 10, .inl (cI, 100, .inl (a 10))), (q 11, .inl (cI, 100, .inl (a 11))), (q 12, .inl (cI, 100, .inl (a 12))), (q 13, .inl (cF, 100, .inr (.inr (.inl (fun j => shF (a 13 j)))))), (q 14, .inl (cI, 100, .inl (a 14))), (q 15, .inl (cI, 100, .inl (a 15))), (q 16, .inl (cI, 100, .inl (a 16))), (q 17, .inl (cI, 100, .inl (a 17))), (q 18, .inl (cI, 100, .inl (a 18))), (q 19, .inl (cI, 2000, .inl (a 19))), (q 20, .inl (cI, 2000, .inl (a 20))), (q 21, .inl (cZ, 2000, .inl (a 21)))] H := hP
        have hD : va_D A [(h0, .inr (5, [.int 0, .int (a 0 0), .int (a 0 1), .ref (q 1), .ref (q 2), .ref (q 3), .ref (q 4), .ref (q 5), .ref (q 6), .ref (q 7), .ref (q 8), .ref (q 9), .int (a 0 2), .int (a 0 3), .ref (q 10), .ref (q 11), .ref (q 12), .ref (q 13), .ref (q 14), .ref (q 15), .ref (q 16), .ref (q 17), .ref (q 18), .int (a 0 4), .ref (q 19), .ref (q 20), .ref (q 21), .int (a 0 5), .int (a 0 6), .int (a 0 7), .int (a 0 8)])), (q 1, .inl (cI, 8, .inl (a 1))), (q 2, .inl (cI, 8, .inl (a 2))), (q 3, .inl (cI, 8, .inl (a 3))), (q 4, .inl (cI, 8, .inl (a 4))), (q 5, .inl (cI, 8, .inl (a 5))), (q 6, .inl (cI, 8, .inl (a 6))), (q 7, .inl (cI, 8, .inl (a 7))), (q 8, .inl (cI, 8, .inl (a 8))), (q 9, .inl (cF, 4, .inr (.inr (.inl (vf_upd (fun j => shF (a 9 j)) (nn kd) (shF t0)))))), (q 10, .inl (cI, 100, .inl (a 10))), (q 11, .inl (cI, 100, .inl (a 11))), (q 12, .inl (cI, 100, .inl (a 12))), (q 13, .inl (cF, 100, .inr (.inr (.inl (fun j => shF (a 13 j)))))), (q 14, .inl (cI, 100, .inl (a 14))), (q 15, .inl (cI, 100, .inl (a 15))), (q 16, .inl (cI, 100, .inl (a 16))), (q 17, .inl (cI, 100, .inl (a 17))), (q 18, .inl (cI, 100, .inl (a 18))), (q 19, .inl (cI, 2000, .inl (a 19))), (q 20, .inl (cI, 2000, .inl (a 20))), (q 21, .inl (cZ, 2000, .inl (a 21)))] := hD
        rw [shF_upd] at hP hD
        refine lv_aload_n hx hb dX5_setShare_47 rfl (lv_at hl 0 rfl) ?_
        refine va_get (D := (dC, dI)) (ci := 5) (v := .ref (q 9)) (C := RX5) (T := TX5) (N := 31) hx hb hts hiX5 hown hK hP 0 rfl rfl 11 (by decide) (hts (.fieldLink RX5 34 "PayoutnetModel" "shares" "[F") (List.mem_of_getElem? (i := 1) rfl)) (fun _ h9 => h9) rfl dX5_setShare_48 ?_
        refine lv_iload_n hx hb dX5_setShare_51 rfl (lv_at hl 1 rfl) ?_
        refine y_topi (y := nI (nn kd)) hkd1.1 ?_
        refine y_fld hx hb hK hP 9 1 rfl rfl (t := nn kd) (Nat.lt_succ_of_le hkd1.2) (Nat.le_of_ble_eq_true rfl) dX5_setShare_52 ?_
        refine y_topf (y := shF (nI (nn t0))) (by rw [← ht1.1]; show shF (upd (a 9) (nn kd) t0 (nn kd)) = _; rw [show upd (a 9) (nn kd) t0 (nn kd) = t0 by simp [upd]]) ?_
        refine va_calli (va_runS (As := [.float (shF (nI (nn t0)))]) (rest := []) ⟨hx, hb, hml, hown, hts⟩ (c_Jxf58ca_floatToIntBits_5c35a l (nn t0) ht1.2) (va_cwS 1 hts gX5_setShare_Jxf58ca_floatToIntBits_5c35a rfl rfl rfl (by decide +kernel) ⟨Nat.le_of_ble_eq_true rfl, Nat.le_of_ble_eq_true rfl⟩) ⟨pcT_blind, fun U hU hW => pcT_pre⟩ rfl rfl hl.1 rfl (lv_room (Nat.le_of_ble_eq_true rfl)) dX5_setShare_53 ⟨(Nat.zero_le _), (Nat.zero_le _)⟩) hS (fun q _ h => h.elim) (fun q h => h.elim) (fun r u t H1 locs ht hvm hw hB1 hz1 hk1 hS => ?_)
        have hP := y_keptP hP hk1
        generalize H1 = H at hP hS ⊢
        refine y_topi (y := shB (nn t0)) hw ?_
        have hP : va_P (dC, dI) vwCl (WM cI cF cZ h0 q (sShr a kd t0) 0) H := hP
        have hD : va_D A (WM cI cF cZ h0 q (sShr a kd t0) 0) := hD
        have hP9 := hP
        have hD9 := hD
        have hK9 := hK
        exact W.iret (v := shB (nn t0)) hx hb hr (fun t ht hW => ⟨⟨shB (nn t0), (), rfl, (fun _ => rfl), (by rw [e0]; exact atW_end hP9 hD9 hK9 ht hW)⟩, hS.F ht⟩) hS.2.2 dX5_setShare_56
      · exact absurd c_6 (by decide)
  · have hc_1 : ¬ (bw kd 0 3) := bI_f c_1
    have e1 : kShr kd t0 = 1 := if_neg hc_1
    refine lv_iconst (v := 1) hx hb dX5_setShare_8 (by decide) ?_
    refine lv_goto (tgt := 28) hx hb dX5_setShare_9 (by decide) ?_
    have hFc := y_free hD hS hA
    refine va_calli (va_runV (As := [.int 1]) (rest := []) ⟨hx, hb, hml, hown, hts⟩ (c_X5_holds l dC dI cI cF cZ h0 q H.size a th hB 1) (cwV 1 hts gX5_setShare_X5_holds rfl rfl rfl (by decide +kernel) ⟨Nat.le_of_ble_eq_true rfl, Nat.le_of_ble_eq_true rfl⟩) ⟨pcW_blind, va_recv hK hP (ci := 5) (q0 := 0) rfl rfl, fun U hU hW => pcW_pre hP hD hK hU hW⟩ rfl rfl hl.1 rfl (lv_room (Nat.le_of_ble_eq_true rfl)) dX5_setShare_28 ⟨Nat.zero_le _, Nat.zero_le _⟩) hS (fun q _ h => hFc q h) hFc (fun r u t H1 locs ht hvm hw hB1 hz1 hk1 hS => ?_)
    obtain ⟨hP, hK1, hD1⟩ := hB1
    rw [ht] at hP
    have hD := hD1.weaken (fun kk qq _ h => hFc qq.1 h)
    generalize H1 = H at hP hS ⊢
    have hP : va_P (dC, dI) vwCl (WM cI cF cZ h0 q a 1) H := hP
    have hD : va_D A (WM cI cF cZ h0 q a 1) := hD
    have hw7 := hw
    refine y_topi (y := 0) (hw7.trans (if_neg (by decide))) ?_
    refine lv_if_ne (tgt := 36) hx hb dX5_setShare_31 (by decide) (fun c_8 => ?_) (fun c_8 => ?_)
    · exact absurd c_8 (by decide)
    · refine lv_iconst (v := 0) hx hb dX5_setShare_34 (by decide) ?_
      have hP9 := hP
      have hD9 := hD
      have hK9 := hK
      exact W.iret (v := 0) hx hb hr (fun t ht hW => ⟨⟨0, (), rfl, (fun h9 => absurd (e1.symm.trans h9) (by decide)), (by rw [e1]; exact atW_end hP9 hD9 hK9 ht hW)⟩, hS.F ht⟩) hS.2.2 dX5_setShare_35
