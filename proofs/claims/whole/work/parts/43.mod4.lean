theorem bit_one : ∀ set, set < 256 → ∀ i, i < 8 → (((nI set >>> (nI i &&& 31)) &&& 1 = 1) ↔ set.testBit i = true) := by decide +kernel
theorem shl_lt : ∀ n, n < 9 → ∀ set, set < 256 → ((1 : Int32) <<< (nI n &&& 31) ≤ nI set ↔ ¬ set < 2 ^ n) := by decide +kernel
theorem ord_hi {a : yA} {set k ev rm n : Nat} (h : set < 2 ^ n) : ∀ z, n ≤ z → sOrd a set k ev rm z = sOrd a set k ev rm n := by
  intro z
  induction z with
  | zero => intro hz; rw [show n = 0 by omega]
  | succ z ih =>
    intro hz
    by_cases e : n = z + 1
    · rw [e]
    · have hb : set.testBit z = false := Nat.testBit_lt_two_pow (Nat.lt_of_lt_of_le h (Nat.pow_le_pow_right (by decide) (by omega)))
      rw [sOrd_step, if_neg (fun q => by rw [hb] at q; cases q.1)]
      exact ih (by omega)
set_option maxHeartbeats 4000000 in
set_option maxRecDepth 100000 in
theorem c_X5_order (l : Launch) (dC : Nat → ClassId) (dI : Nat → Nat → Nat) (cI cF cZ : ClassId) (h0 : Nat) (q : Nat → Nat) (sz : Nat) (a : yA) (th : Int32) (hB : okB a) (hY : okY a) (x kd am : Int32) : Met l yX5_order wsX5_order ({ frames := 2, cells := 0, slots := 0, locals := 48 } : Room) (va_Pc [.ref h0, .int x, .int kd, .int am] (pcW dC dI [(cI, .int), (cF, .float), (cZ, .boolean)] (WM cI cF cZ h0 q a th) sz)) (va_Qi (fun (r : Int32) (_ : Unit) => (kOrd a x kd am = 0 → r = nI (min (cntB (nn x) 8) (nn am)))) (fun _ t => atM dC dI cI cF cZ (va_A (WM cI cF cZ h0 q a th) sz) h0 q (if kOrd a x kd am = 0 then sOrder a x kd am else a) (nI (kOrd a x kd am)) t) (va_A (WM cI cF cZ h0 q a th) sz)) 0 0 (va_A (WM cI cF cZ h0 q a th) sz) := by
  refine Met.ofW (cc := cX5_order) (maxL := 11) (ret := (some .int)) (by decide) rfl ?_
  intro p e s m args below meth c s₁ B hml hv
  obtain ⟨rfl, hsz, hP, hK, hD0⟩ := hv
  have hx := B.exec
  have hb := B.bytes
  have hr := B.returns
  have hts := atoms_spec (ws := wsX5_order) B.pre
  have hown : s.vm.findClass RX5 = some m.cls := findClass_of_methodNamed B.named
  have hlocks := B.notSynchronized
  subst hsz
  have hD := hD0.self (sz := s.heap.size)
  generalize hAe : va_A [(h0, .inr (5, [.int th, .int (a 0 0), .int (a 0 1), .ref (q 1), .ref (q 2), .ref (q 3), .ref (q 4), .ref (q 5), .ref (q 6), .ref (q 7), .ref (q 8), .ref (q 9), .int (a 0 2), .int (a 0 3), .ref (q 10), .ref (q 11), .ref (q 12), .ref (q 13), .ref (q 14), .ref (q 15), .ref (q 16), .ref (q 17), .ref (q 18), .int (a 0 4), .ref (q 19), .ref (q 20), .ref (q 21), .int (a 0 5), .int (a 0 6), .int (a 0 7), .int (a 0 8)])), (q 1, .inl (cI, 8, .inl (a 1))), (q 2, .inl (cI, 8, .inl (a 2))), (q 3, .inl (cI, 8, .inl (a 3))), (q 4, .inl (cI, 8, .inl (a 4))), (q 5, .inl (cI, 8, .inl (a 5))), (q 6, .inl (cI, 8, .inl (a 6))), (q 7, .inl (cI, 8, .inl (a 7))), (q 8, .inl (cI, 8, .inl (a 8))), (q 9, .inl (cF, 4, .inr (.inr (.inl (fun j => shF (a 9 j)))))), (q 10, .inl (cI, 100, .inl (a 10))), (q 11, .inl (cI, 100, .inl (a 11))), (q 12, .inl (cI, 100, .inl (a 12))), (q 13, .inl (cF, 100, .inr (.inr (.inl (fun j => shF (a 13 j)))))), (q 14, .inl (cI, 100, .inl (a 14))), (q 15, .inl (cI, 100, .inl (a 15))), (q 16, .inl (cI, 100, .inl (a 16))), (q 17, .inl (cI, 100, .inl (a 17))), (q 18, .inl (cI, 100, .inl (a 18))), (q 19, .inl (cI, 2000, .inl (a 19))), (q 20, .inl (cI, 2000, .inl (a 20))), (q 21, .inl (cZ, 2000, .inl (a 21)))] s.heap.size = A at hD ⊢
  have hA : ∀ q : Nat, s.heap.size ≤ q → A q := fun q h => by rw [← hAe]; exact Or.inr h
  have hS : va_S A s.heap s.heap [] := va_S.rf
  have hl := lv_entry ([.ref h0, .int x, .int kd, .int am]) (n := 11) (Nat.le_of_ble_eq_true rfl)
  rw [lg_entry_eq]
  generalize (lg_sl ([.ref h0, .int x, .int kd, .int am]) ++ List.replicate (11 - (lg_sl ([.ref h0, .int x, .int kd, .int am])).length) Slot.unset).toArray = ls at hl ⊢
  have hl : lv_has ls 11 [(0, .ref h0), (1, .int x), (2, .int kd), (3, .int am)] := hl
  have hiX5 : ∀ w ∈ wsX50, w ∈ wsX5_order := fun w h => List.mem_cons_of_mem _ (List.mem_append_right _ h)
  have hP : va_P (dC, dI) vwCl [(h0, .inr (5, [.int th, .int (a 0 0), .int (a 0 1), .ref (q 1), .ref (q 2), .ref (q 3), .ref (q 4), .ref (q 5), .ref (q 6), .ref (q 7), .ref (q 8), .ref (q 9), .int (a 0 2), .int (a 0 3), .ref (q 10), .ref (q 11), .ref (q 12), .ref (q 13), .ref (q 14), .ref (q 15), .ref (q 16), .ref (q 17), .ref (q 18), .int (a 0 4), .ref (q 19), .ref (q 20), .ref (q 21), .int (a 0 5), .int (a 0 6), .int (a 0 7), .int (a 0 8)])), (q 1, .inl (cI, 8, .inl (a 1))), (q 2, .inl (cI, 8, .inl (a 2))), (q 3, .inl (cI, 8, .inl (a 3))), (q 4, .inl (cI, 8, .inl (a 4))), (q 5, .inl (cI, 8, .inl (a 5))), (q 6, .inl (cI, 8, .inl (a 6))), (q 7, .inl (cI, 8, .inl (a 7))), (q 8, .inl (cI, 8, .inl (a 8))), (q 9, .inl (cF, 4, .inr (.inr (.inl (fun j => shF (a 9 j)))))), (q 10, .inl (cI, 100, .inl (a 10))), (q 11, .inl (cI, 100, .inl (a 11))), (q 12, .inl (cI, 100, .inl (a 12))), (q 13, .inl (cF, 100, .inr (.inr (.inl (fun j => shF (a 13 j)))))), (q 14, .inl (cI, 100, .inl (a 14))), (q 15, .inl (cI, 100, .inl (a 15))), (q 16, .inl (cI, 100, .inl (a 16))), (q 17, .inl (cI, 100, .inl (a 17))), (q 18, .inl (cI, 100, .inl (a 18))), (q 19, .inl (cI, 2000, .inl (a 19))), (q 20, .inl (cI, 2000, .inl (a 20))), (q 21, .inl (cZ, 2000, .inl (a 21)))] s.heap := hP
  refine y_enter (A := A) hP (fun H hP hS => ?_)
  have hBk := hB
  refine lv_iload_n hx hb dX5_order_0 rfl (lv_at hl 1 rfl) ?_
  refine lv_iconst (v := 1) hx hb dX5_order_1 (by decide) ?_
  refine lv_sipush (v := 255) hx hb dX5_order_2 (by decide) ?_
  refine va_calli (va_runS (As := [.int x, .int 1, .int 255]) (rest := []) ⟨hx, hb, hml, hown, hts⟩ (c_X5_in l x 1 255) (va_cwS 3 hts gX5_order_X5_in rfl rfl rfl (by decide +kernel) ⟨Nat.le_of_ble_eq_true rfl, Nat.le_of_ble_eq_true rfl⟩) ⟨pcT_blind, fun U hU hW => pcT_pre⟩ rfl rfl hl.1 rfl (lv_room (Nat.le_of_ble_eq_true rfl)) dX5_order_5 ⟨(Nat.zero_le _), (Nat.zero_le _)⟩) hS (fun q _ h => h.elim) (fun q h => h.elim) (fun r u t H1 locs ht hvm hw hB1 hz1 hk1 hS => ?_)
  have hP := y_keptP hP hk1
  generalize H1 = H at hP hS ⊢
  refine y_topi (y := bI (bw x 1 255)) hw ?_
  refine lv_if_eq (tgt := 25) hx hb dX5_order_8 (by decide) (fun c_1 => ?_) (fun c_1 => ?_)
  · have hc_1 : ¬ (bw x 1 255) := bI_f c_1
    refine lv_iconst (v := 0) hx hb dX5_order_25 (by decide) ?_
    have hare : ¬ (bw x 1 255 ∧ bw am 1 1000000) := (fun h9 => hc_1 h9.1)
    refine lv_istore (lv' := [(4, .int 0), (0, .ref h0), (1, .int x), (2, .int kd), (3, .int am)]) hx hb dX5_order_26 hl (by decide) rfl (fun ls hl => ?_)
    refine lv_iload hx hb dX5_order_28 (lv_at hl 0 rfl) ?_
    refine lv_if_eq (tgt := 40) hx hb dX5_order_30 (by decide) (fun c_2 => ?_) (fun c_2 => ?_)
    · refine lv_iconst (v := 1) hx hb dX5_order_40 (by decide) ?_
      refine lv_istore (lv' := [(5, .int 1), (4, .int 0), (0, .ref h0), (1, .int x), (2, .int kd), (3, .int am)]) hx hb dX5_order_41 hl (by decide) rfl (fun ls hl => ?_)
      refine lv_iload hx hb dX5_order_43 (lv_at hl 1 rfl) ?_
      refine lv_if_eq (tgt := 58) hx hb dX5_order_45 (by decide) (fun c_3 => ?_) (fun c_3 => ?_)
      · refine lv_iload hx hb dX5_order_58 (lv_at hl 0 rfl) ?_
        refine lv_istore (lv' := [(6, .int 1), (5, .int 1), (4, .int 0), (0, .ref h0), (1, .int x), (2, .int kd), (3, .int am)]) hx hb dX5_order_60 hl (by decide) rfl (fun ls hl => ?_)
        refine lv_iload hx hb dX5_order_62 (lv_at hl 2 rfl) ?_
        refine lv_if_eq (tgt := 93) hx hb dX5_order_64 (by decide) (fun c_4 => ?_) (fun c_4 => ?_)
        · refine lv_iconst (v := 0) hx hb dX5_order_93 (by decide) ?_
          refine lv_istore (lv' := [(7, .int 0), (6, .int 1), (5, .int 1), (4, .int 0), (0, .ref h0), (1, .int x), (2, .int kd), (3, .int am)]) hx hb dX5_order_94 hl (by decide) rfl (fun ls hl => ?_)
          refine lv_aload_n hx hb dX5_order_96 rfl (lv_at hl 4 rfl) ?_
          refine lv_iload_n hx hb dX5_order_97 rfl (lv_at hl 6 rfl) ?_
          refine va_calli (va_runS (As := [.int kd]) (rest := [.ref h0]) ⟨hx, hb, hml, hown, hts⟩ (c_X5_isKind l kd) (va_cwS 1 hts gX5_order_X5_isKind rfl rfl rfl (by decide +kernel) ⟨Nat.le_of_ble_eq_true rfl, Nat.le_of_ble_eq_true rfl⟩) ⟨pcT_blind, fun U hU hW => pcT_pre⟩ rfl rfl hl.1 rfl (lv_room (Nat.le_of_ble_eq_true rfl)) dX5_order_98 ⟨(Nat.zero_le _), (Nat.zero_le _)⟩) hS (fun q _ h => h.elim) (fun q h => h.elim) (fun r u t H1 locs ht hvm hw hB1 hz1 hk1 hS => ?_)
          have hP := y_keptP hP hk1
          generalize H1 = H at hP hS ⊢
          refine y_topi (y := bI (bw kd 0 3)) hw ?_
          refine lv_if_ne (tgt := 108) hx hb dX5_order_101 (by decide) (fun c_5 => ?_) (fun c_5 => ?_)
          · have hc_5 : bw kd 0 3 := bI_t c_5
            refine lv_iload hx hb dX5_order_108 (lv_at hl 3 rfl) ?_
            refine lv_if_ne (tgt := 117) hx hb dX5_order_110 (by decide) (fun c_6 => ?_) (fun c_6 => ?_)
            · exact absurd rfl c_6
            · have e2 : kOrd a x kd am = 2 := by unfold kOrd; rw [if_pos hc_5, if_neg hare]
              refine lv_iconst (v := 2) hx hb dX5_order_113 (by decide) ?_
              refine lv_goto (tgt := 127) hx hb dX5_order_114 (by decide) ?_
              have hFc := y_free hD hS hA
              refine va_calli (va_runV (As := [.int 2]) (rest := []) ⟨hx, hb, hml, hown, hts⟩ (c_X5_holds l dC dI cI cF cZ h0 q H.size a th hB 2) (cwV 1 hts gX5_order_X5_holds rfl rfl rfl (by decide +kernel) ⟨Nat.le_of_ble_eq_true rfl, Nat.le_of_ble_eq_true rfl⟩) ⟨pcW_blind, va_recv hK hP (ci := 5) (q0 := 0) rfl rfl, fun U hU hW => pcW_pre hP hD hK hU hW⟩ rfl rfl hl.1 rfl (lv_room (Nat.le_of_ble_eq_true rfl)) dX5_order_127 ⟨Nat.zero_le _, Nat.zero_le _⟩) hS (fun q _ h => hFc q h) hFc (fun r u t H1 locs ht hvm hw hB1 hz1 hk1 hS => ?_)
              obtain ⟨hP, hK1, hD1⟩ := hB1
              rw [ht] at hP
              have hD := hD1.weaken (fun kk qq _ h => hFc qq.1 h)
              generalize H1 = H at hP hS ⊢
              have hP : va_P (dC, dI) vwCl (WM cI cF cZ h0 q a 2) H := hP
              have hD : va_D A (WM cI cF cZ h0 q a 2) := hD
              have hw7 := hw
              refine y_topi (y := 0) (hw7.trans (if_neg (by decide))) ?_
              refine lv_if_ne (tgt := 135) hx hb dX5_order_130 (by decide) (fun c_8 => ?_) (fun c_8 => ?_)
              · exact absurd c_8 (by decide)
              · refine lv_iconst (v := 0) hx hb dX5_order_133 (by decide) ?_
                have hP9 := hP
                have hD9 := hD
                have hK9 := hK
                exact W.iret (v := 0) hx hb hr (fun t ht hW => ⟨⟨0, (), rfl, (fun h9 => absurd (e2.symm.trans h9) (by decide)), (by rw [e2]; exact atW_end hP9 hD9 hK9 ht hW)⟩, hS.F ht⟩) hS.2.2 dX5_order_134
          · have hc_5 : ¬ (bw kd 0 3) := bI_f c_5
            have e1 : kOrd a x kd am = 1 := if_neg hc_5
            refine lv_iconst (v := 1) hx hb dX5_order_104 (by decide) ?_
            refine lv_goto (tgt := 127) hx hb dX5_order_105 (by decide) ?_
            have hFc := y_free hD hS hA
            refine va_calli (va_runV (As := [.int 1]) (rest := []) ⟨hx, hb, hml, hown, hts⟩ (c_X5_holds l dC dI cI cF cZ h0 q H.size a th hB 1) (cwV 1 hts gX5_order_X5_holds rfl rfl rfl (by decide +kernel) ⟨Nat.le_of_ble_eq_true rfl, Nat.le_of_ble_eq_true rfl⟩) ⟨pcW_blind, va_recv hK hP (ci := 5) (q0 := 0) rfl rfl, fun U hU hW => pcW_pre hP hD hK hU hW⟩ rfl rfl hl.1 rfl (lv_room (Nat.le_of_ble_eq_true rfl)) dX5_order_127 ⟨Nat.zero_le _, Nat.zero_le _⟩) hS (fun q _ h => hFc q h) hFc (fun r u t H1 locs ht hvm hw hB1 hz1 hk1 hS => ?_)
            obtain ⟨hP, hK1, hD1⟩ := hB1
            rw [ht] at hP
            have hD := hD1.weaken (fun kk qq _ h => hFc qq.1 h)
            generalize H1 = H at hP hS ⊢
            have hP : va_P (dC, dI) vwCl (WM cI cF cZ h0 q a 1) H := hP
            have hD : va_D A (WM cI cF cZ h0 q a 1) := hD
            have hw9 := hw
            refine y_topi (y := 0) (hw9.trans (if_neg (by decide))) ?_
            refine lv_if_ne (tgt := 135) hx hb dX5_order_130 (by decide) (fun c_10 => ?_) (fun c_10 => ?_)
            · exact absurd c_10 (by decide)
            · refine lv_iconst (v := 0) hx hb dX5_order_133 (by decide) ?_
              have hP9 := hP
              have hD9 := hD
              have hK9 := hK
              exact W.iret (v := 0) hx hb hr (fun t ht hW => ⟨⟨0, (), rfl, (fun h9 => absurd (e1.symm.trans h9) (by decide)), (by rw [e1]; exact atW_end hP9 hD9 hK9 ht hW)⟩, hS.F ht⟩) hS.2.2 dX5_order_134
        · exact absurd rfl c_4
      · exact absurd rfl c_3
    · exact absurd rfl c_2
  · have hc_1 : bw x 1 255 := bI_t c_1
    refine lv_iload_n hx hb dX5_order_11 rfl (lv_at hl 3 rfl) ?_
    refine lv_iconst (v := 1) hx hb dX5_order_12 (by decide) ?_
    refine lv_ldc hx hb hown (hts (.constant RX5 94 (1000000)) (List.mem_of_getElem? (i := 1) rfl)) dX5_order_13 ?_
    refine va_calli (va_runS (As := [.int am, .int 1, .int 1000000]) (rest := []) ⟨hx, hb, hml, hown, hts⟩ (c_X5_in l am 1 1000000) (va_cwS 3 hts gX5_order_X5_in rfl rfl rfl (by decide +kernel) ⟨Nat.le_of_ble_eq_true rfl, Nat.le_of_ble_eq_true rfl⟩) ⟨pcT_blind, fun U hU hW => pcT_pre⟩ rfl rfl hl.1 rfl (lv_room (Nat.le_of_ble_eq_true rfl)) dX5_order_15 ⟨(Nat.zero_le _), (Nat.zero_le _)⟩) hS (fun q _ h => h.elim) (fun q h => h.elim) (fun r u t H1 locs ht hvm hw hB1 hz1 hk1 hS => ?_)
    have hP := y_keptP hP hk1
    generalize H1 = H at hP hS ⊢
    refine y_topi (y := bI (bw am 1 1000000)) hw ?_
    refine lv_if_eq (tgt := 25) hx hb dX5_order_18 (by decide) (fun c_11 => ?_) (fun c_11 => ?_)
    · have hc_11 : ¬ (bw am 1 1000000) := bI_f c_11
      refine lv_iconst (v := 0) hx hb dX5_order_25 (by decide) ?_
      have hare : ¬ (bw x 1 255 ∧ bw am 1 1000000) := (fun h9 => hc_11 h9.2)
      refine lv_istore (lv' := [(4, .int 0), (0, .ref h0), (1, .int x), (2, .int kd), (3, .int am)]) hx hb dX5_order_26 hl (by decide) rfl (fun ls hl => ?_)
      refine lv_iload hx hb dX5_order_28 (lv_at hl 0 rfl) ?_
      refine lv_if_eq (tgt := 40) hx hb dX5_order_30 (by decide) (fun c_12 => ?_) (fun c_12 => ?_)
      · refine lv_iconst (v := 1) hx hb dX5_order_40 (by decide) ?_
        refine lv_istore (lv' := [(5, .int 1), (4, .int 0), (0, .ref h0), (1, .int x), (2, .int kd), (3, .int am)]) hx hb dX5_order_41 hl (by decide) rfl (fun ls hl => ?_)
        refine lv_iload hx hb dX5_order_43 (lv_at hl 1 rfl) ?_
        refine lv_if_eq (tgt := 58) hx hb dX5_order_45 (by decide) (fun c_13 => ?_) (fun c_13 => ?_)
        · refine lv_iload hx hb dX5_order_58 (lv_at hl 0 rfl) ?_
          refine lv_istore (lv' := [(6, .int 1), (5, .int 1), (4, .int 0), (0, .ref h0), (1, .int x), (2, .int kd), (3, .int am)]) hx hb dX5_order_60 hl (by decide) rfl (fun ls hl => ?_)
          refine lv_iload hx hb dX5_order_62 (lv_at hl 2 rfl) ?_
          refine lv_if_eq (tgt := 93) hx hb dX5_order_64 (by decide) (fun c_14 => ?_) (fun c_14 => ?_)
          · refine lv_iconst (v := 0) hx hb dX5_order_93 (by decide) ?_
            refine lv_istore (lv' := [(7, .int 0), (6, .int 1), (5, .int 1), (4, .int 0), (0, .ref h0), (1, .int x), (2, .int kd), (3, .int am)]) hx hb dX5_order_94 hl (by decide) rfl (fun ls hl => ?_)
            refine lv_aload_n hx hb dX5_order_96 rfl (lv_at hl 4 rfl) ?_
            refine lv_iload_n hx hb dX5_order_97 rfl (lv_at hl 6 rfl) ?_
            refine va_calli (va_runS (As := [.int kd]) (rest := [.ref h0]) ⟨hx, hb, hml, hown, hts⟩ (c_X5_isKind l kd) (va_cwS 1 hts gX5_order_X5_isKind rfl rfl rfl (by decide +kernel) ⟨Nat.le_of_ble_eq_true rfl, Nat.le_of_ble_eq_true rfl⟩) ⟨pcT_blind, fun U hU hW => pcT_pre⟩ rfl rfl hl.1 rfl (lv_room (Nat.le_of_ble_eq_true rfl)) dX5_order_98 ⟨(Nat.zero_le _), (Nat.zero_le _)⟩) hS (fun q _ h => h.elim) (fun q h => h.elim) (fun r u t H1 locs ht hvm hw hB1 hz1 hk1 hS => ?_)
            have hP := y_keptP hP hk1
            generalize H1 = H at hP hS ⊢
            refine y_topi (y := bI (bw kd 0 3)) hw ?_
            refine lv_if_ne (tgt := 108) hx hb dX5_order_101 (by decide) (fun c_15 => ?_) (fun c_15 => ?_)
            · have hc_15 : bw kd 0 3 := bI_t c_15
              refine lv_iload hx hb dX5_order_108 (lv_at hl 3 rfl) ?_
              refine lv_if_ne (tgt := 117) hx hb dX5_order_110 (by decide) (fun c_16 => ?_) (fun c_16 => ?_)
              · exact absurd rfl c_16
              · have e2 : kOrd a x kd am = 2 := by unfold kOrd; rw [if_pos hc_15, if_neg hare]
                refine lv_iconst (v := 2) hx hb dX5_order_113 (by decide) ?_
                refine lv_goto (tgt := 127) hx hb dX5_order_114 (by decide) ?_
                have hFc := y_free hD hS hA
                refine va_calli (va_runV (As := [.int 2]) (rest := []) ⟨hx, hb, hml, hown, hts⟩ (c_X5_holds l dC dI cI cF cZ h0 q H.size a th hB 2) (cwV 1 hts gX5_order_X5_holds rfl rfl rfl (by decide +kernel) ⟨Nat.le_of_ble_eq_true rfl, Nat.le_of_ble_eq_true rfl⟩) ⟨pcW_blind, va_recv hK hP (ci := 5) (q0 := 0) rfl rfl, fun U hU hW => pcW_pre hP hD hK hU hW⟩ rfl rfl hl.1 rfl (lv_room (Nat.le_of_ble_eq_true rfl)) dX5_order_127 ⟨Nat.zero_le _, Nat.zero_le _⟩) hS (fun q _ h => hFc q h) hFc (fun r u t H1 locs ht hvm hw hB1 hz1 hk1 hS => ?_)
                obtain ⟨hP, hK1, hD1⟩ := hB1
                rw [ht] at hP
                have hD := hD1.weaken (fun kk qq _ h => hFc qq.1 h)
                generalize H1 = H at hP hS ⊢
                have hP : va_P (dC, dI) vwCl (WM cI cF cZ h0 q a 2) H := hP
                have hD : va_D A (WM cI cF cZ h0 q a 2) := hD
                have hw17 := hw
                refine y_topi (y := 0) (hw17.trans (if_neg (by decide))) ?_
                refine lv_if_ne (tgt := 135) hx hb dX5_order_130 (by decide) (fun c_18 => ?_) (fun c_18 => ?_)
                · exact absurd c_18 (by decide)
                · refine lv_iconst (v := 0) hx hb dX5_order_133 (by decide) ?_
                  have hP9 := hP
                  have hD9 := hD
                  have hK9 := hK
                  exact W.iret (v := 0) hx hb hr (fun t ht hW => ⟨⟨0, (), rfl, (fun h9 => absurd (e2.symm.trans h9) (by decide)), (by rw [e2]; exact atW_end hP9 hD9 hK9 ht hW)⟩, hS.F ht⟩) hS.2.2 dX5_order_134
            · have hc_15 : ¬ (bw kd 0 3) := bI_f c_15
              have e1 : kOrd a x kd am = 1 := if_neg hc_15
              refine lv_iconst (v := 1) hx hb dX5_order_104 (by decide) ?_
              refine lv_goto (tgt := 127) hx hb dX5_order_105 (by decide) ?_
              have hFc := y_free hD hS hA
              refine va_calli (va_runV (As := [.int 1]) (rest := []) ⟨hx, hb, hml, hown, hts⟩ (c_X5_holds l dC dI cI cF cZ h0 q H.size a th hB 1) (cwV 1 hts gX5_order_X5_holds rfl rfl rfl (by decide +kernel) ⟨Nat.le_of_ble_eq_true rfl, Nat.le_of_ble_eq_true rfl⟩) ⟨pcW_blind, va_recv hK hP (ci := 5) (q0 := 0) rfl rfl, fun U hU hW => pcW_pre hP hD hK hU hW⟩ rfl rfl hl.1 rfl (lv_room (Nat.le_of_ble_eq_true rfl)) dX5_order_127 ⟨Nat.zero_le _, Nat.zero_le _⟩) hS (fun q _ h => hFc q h) hFc (fun r u t H1 locs ht hvm hw hB1 hz1 hk1 hS => ?_)
              obtain ⟨hP, hK1, hD1⟩ := hB1
              rw [ht] at hP
              have hD := hD1.weaken (fun kk qq _ h => hFc qq.1 h)
              generalize H1 = H at hP hS ⊢
              have hP : va_P (dC, dI) vwCl (WM cI cF cZ h0 q a 1) H := hP
              have hD : va_D A (WM cI cF cZ h0 q a 1) := hD
              have hw19 := hw
              refine y_topi (y := 0) (hw19.trans (if_neg (by decide))) ?_
              refine lv_if_ne (tgt := 135) hx hb dX5_order_130 (by decide) (fun c_20 => ?_) (fun c_20 => ?_)
              · exact absurd c_20 (by decide)
              · refine lv_iconst (v := 0) hx hb dX5_order_133 (by decide) ?_
                have hP9 := hP
                have hD9 := hD
                have hK9 := hK
                exact W.iret (v := 0) hx hb hr (fun t ht hW => ⟨⟨0, (), rfl, (fun h9 => absurd (e1.symm.trans h9) (by decide)), (by rw [e1]; exact atW_end hP9 hD9 hK9 ht hW)⟩, hS.F ht⟩) hS.2.2 dX5_order_134
          · exact absurd rfl c_14
        · exact absurd rfl c_13
      · exact absurd rfl c_12
    · have hc_11 : bw am 1 1000000 := bI_t c_11
      refine lv_iconst (v := 1) hx hb dX5_order_21 (by decide) ?_
      refine lv_goto (tgt := 26) hx hb dX5_order_22 (by decide) ?_
      have hare : bw x 1 255 ∧ bw am 1 1000000 := ⟨hc_1, hc_11⟩
      have hx1 := nat_le (b := 255) (by decide) (Int32.le_trans (by decide) hare.1.1) hare.1.2
      have ha1 := am_nat hare.2
      have hxs : nn x < 256 := Nat.lt_succ_of_le hx1.2
      have hx0 : 1 ≤ nn x := by have h8 := hare.1.1; rw [hx1.1] at h8; exact (nI_leI (a := 1) (by decide) (by omega)).mp h8
      obtain ⟨hd, ehd⟩ : ∃ z, z = cntB (nn x) 8 := ⟨_, rfl⟩
      have hd8 : hd ≤ 8 := by rw [ehd]; exact cntB_le _ _
      have hd1 : 1 ≤ hd := by rw [ehd]; exact (cntB_1 (nn x) hxs).mpr hx0
      have hns := hB 0 0 8 rfl
      have hn3 := hB 0 3 100 rfl
      have hn32 := hn3.2
      refine lv_istore (lv' := [(4, .int 1), (0, .ref h0), (1, .int x), (2, .int kd), (3, .int am)]) hx hb dX5_order_26 hl (by decide) rfl (fun ls hl => ?_)
      refine lv_iload hx hb dX5_order_28 (lv_at hl 0 rfl) ?_
      refine lv_if_eq (tgt := 40) hx hb dX5_order_30 (by decide) (fun c_21 => ?_) (fun c_21 => ?_)
      · exact absurd c_21 (by decide)
      · refine lv_iload_n hx hb dX5_order_33 rfl (lv_at hl 2 rfl) ?_
        refine y_topi (y := nI (nn x)) hx1.1 ?_
        refine va_calli (va_runS (As := [.int (nI (nn x))]) (rest := []) ⟨hx, hb, hml, hown, hts⟩ (c_X5_many l (nn x) hxs) (va_cwS 1 hts gX5_order_X5_many rfl rfl rfl (by decide +kernel) ⟨Nat.le_of_ble_eq_true rfl, Nat.le_of_ble_eq_true rfl⟩) ⟨pcT_blind, fun U hU hW => pcT_pre⟩ rfl rfl hl.1 rfl (lv_room (Nat.le_of_ble_eq_true rfl)) dX5_order_34 ⟨(Nat.zero_le _), (Nat.zero_le _)⟩) hS (fun q _ h => h.elim) (fun q h => h.elim) (fun r u t H1 locs ht hvm hw hB1 hz1 hk1 hS => ?_)
        have hP := y_keptP hP hk1
        generalize H1 = H at hP hS ⊢
        refine y_topi (y := nI hd) (by rw [hw, ehd]) ?_
        refine lv_goto (tgt := 41) hx hb dX5_order_37 (by decide) ?_
        refine lv_istore (lv' := [(5, .int (nI hd)), (4, .int 1), (0, .ref h0), (1, .int x), (2, .int kd), (3, .int am)]) hx hb dX5_order_41 hl (by decide) rfl (fun ls hl => ?_)
        refine lv_iload hx hb dX5_order_43 (lv_at hl 1 rfl) ?_
        refine lv_if_eq (tgt := 58) hx hb dX5_order_45 (by decide) (fun c_22 => ?_) (fun c_22 => ?_)
        · exact absurd c_22 (by decide)
        · refine lv_iload_n hx hb dX5_order_48 rfl (lv_at hl 5 rfl) ?_
          refine y_topi (y := nI (nn am)) ha1.1 ?_
          refine lv_iload hx hb dX5_order_49 (lv_at hl 0 rfl) ?_
          refine lv_icmp_ge (tgt := 58) hx hb dX5_order_51 (by decide) (fun c_23 => ?_) (fun c_23 => ?_)
          · have emn : hd = min hd (nn am) := by have := (nI_leI (a := hd) (b := nn am) (by omega) (by omega)).mp c_23; omega
            refine lv_iload hx hb dX5_order_58 (lv_at hl 0 rfl) ?_
            refine y_topi (y := nI (min hd (nn am))) (by rw [← emn]) ?_
            have hmn : min hd (nn am) ≤ 8 := Nat.le_trans (Nat.min_le_left _ _) hd8
            refine lv_istore (lv' := [(6, .int (nI (min hd (nn am)))), (5, .int (nI hd)), (4, .int 1), (0, .ref h0), (1, .int x), (2, .int kd), (3, .int am)]) hx hb dX5_order_60 hl (by decide) rfl (fun ls hl => ?_)
            refine lv_iload hx hb dX5_order_62 (lv_at hl 2 rfl) ?_
            refine lv_if_eq (tgt := 93) hx hb dX5_order_64 (by decide) (fun c_24 => ?_) (fun c_24 => ?_)
            · exact absurd c_24 (by decide)
            · refine lv_iload_n hx hb dX5_order_67 rfl (lv_at hl 4 rfl) ?_
              refine y_topi (y := nI (nn x)) hx1.1 ?_
              refine lv_iconst (v := 1) hx hb dX5_order_68 (by decide) ?_
              refine lv_aload_n hx hb dX5_order_69 rfl (lv_at hl 3 rfl) ?_
              refine va_get (D := (dC, dI)) (ci := 5) (v := .int (a 0 0)) (C := RX5) (T := TX5) (N := 31) hx hb hts hiX5 hown hK hP 0 rfl rfl 1 (by decide) (hts (.fieldLink RX5 80 "PayoutnetModel" "sellers" "I") (List.mem_of_getElem? (i := 2) rfl)) (fun _ h9 => h9) rfl dX5_order_70 ?_
              refine y_topi (y := nI (nn (a 0 0))) hns.1 ?_
              refine lv_ishl hx hb dX5_order_73 ?_
              refine lv_icmp_ge (tgt := 93) hx hb dX5_order_74 (by decide) (fun c_25 => ?_) (fun c_25 => ?_)
              · have hmay : ¬ (nn x < 2 ^ nn (a 0 0) ∧ nn (a 0 3) + min (cntB (nn x) 8) (nn am) ≤ 100) := fun h9 => (shl_lt (nn (a 0 0)) (Nat.lt_succ_of_le hns.2) (nn x) hxs).mp c_25 h9.1
                refine lv_iconst (v := 0) hx hb dX5_order_93 (by decide) ?_
                refine lv_istore (lv' := [(7, .int 0), (6, .int (nI (min hd (nn am)))), (5, .int (nI hd)), (4, .int 1), (0, .ref h0), (1, .int x), (2, .int kd), (3, .int am)]) hx hb dX5_order_94 hl (by decide) rfl (fun ls hl => ?_)
                refine lv_aload_n hx hb dX5_order_96 rfl (lv_at hl 4 rfl) ?_
                refine lv_iload_n hx hb dX5_order_97 rfl (lv_at hl 6 rfl) ?_
                refine va_calli (va_runS (As := [.int kd]) (rest := [.ref h0]) ⟨hx, hb, hml, hown, hts⟩ (c_X5_isKind l kd) (va_cwS 1 hts gX5_order_X5_isKind rfl rfl rfl (by decide +kernel) ⟨Nat.le_of_ble_eq_true rfl, Nat.le_of_ble_eq_true rfl⟩) ⟨pcT_blind, fun U hU hW => pcT_pre⟩ rfl rfl hl.1 rfl (lv_room (Nat.le_of_ble_eq_true rfl)) dX5_order_98 ⟨(Nat.zero_le _), (Nat.zero_le _)⟩) hS (fun q _ h => h.elim) (fun q h => h.elim) (fun r u t H1 locs ht hvm hw hB1 hz1 hk1 hS => ?_)
                have hP := y_keptP hP hk1
                generalize H1 = H at hP hS ⊢
                refine y_topi (y := bI (bw kd 0 3)) hw ?_
                refine lv_if_ne (tgt := 108) hx hb dX5_order_101 (by decide) (fun c_26 => ?_) (fun c_26 => ?_)
                · have hc_26 : bw kd 0 3 := bI_t c_26
                  refine lv_iload hx hb dX5_order_108 (lv_at hl 3 rfl) ?_
                  refine lv_if_ne (tgt := 117) hx hb dX5_order_110 (by decide) (fun c_27 => ?_) (fun c_27 => ?_)
                  · refine lv_iload hx hb dX5_order_117 (lv_at hl 0 rfl) ?_
                    refine lv_if_eq (tgt := 126) hx hb dX5_order_119 (by decide) (fun c_28 => ?_) (fun c_28 => ?_)
                    · have e3 : kOrd a x kd am = 3 := by unfold kOrd; rw [if_pos hc_26, if_pos hare, if_neg hmay]
                      refine lv_iconst (v := 3) hx hb dX5_order_126 (by decide) ?_
                      have hFc := y_free hD hS hA
                      refine va_calli (va_runV (As := [.int 3]) (rest := []) ⟨hx, hb, hml, hown, hts⟩ (c_X5_holds l dC dI cI cF cZ h0 q H.size a th hB 3) (cwV 1 hts gX5_order_X5_holds rfl rfl rfl (by decide +kernel) ⟨Nat.le_of_ble_eq_true rfl, Nat.le_of_ble_eq_true rfl⟩) ⟨pcW_blind, va_recv hK hP (ci := 5) (q0 := 0) rfl rfl, fun U hU hW => pcW_pre hP hD hK hU hW⟩ rfl rfl hl.1 rfl (lv_room (Nat.le_of_ble_eq_true rfl)) dX5_order_127 ⟨Nat.zero_le _, Nat.zero_le _⟩) hS (fun q _ h => hFc q h) hFc (fun r u t H1 locs ht hvm hw hB1 hz1 hk1 hS => ?_)
                      obtain ⟨hP, hK1, hD1⟩ := hB1
                      rw [ht] at hP
                      have hD := hD1.weaken (fun kk qq _ h => hFc qq.1 h)
                      generalize H1 = H at hP hS ⊢
                      have hP : va_P (dC, dI) vwCl (WM cI cF cZ h0 q a 3) H := hP
                      have hD : va_D A (WM cI cF cZ h0 q a 3) := hD
                      have hw29 := hw
                      refine y_topi (y := 0) (hw29.trans (if_neg (by decide))) ?_
                      refine lv_if_ne (tgt := 135) hx hb dX5_order_130 (by decide) (fun c_30 => ?_) (fun c_30 => ?_)
                      · exact absurd c_30 (by decide)
                      · refine lv_iconst (v := 0) hx hb dX5_order_133 (by decide) ?_
                        have hP9 := hP
                        have hD9 := hD
                        have hK9 := hK
                        exact W.iret (v := 0) hx hb hr (fun t ht hW => ⟨⟨0, (), rfl, (fun h9 => absurd (e3.symm.trans h9) (by decide)), (by rw [e3]; exact atW_end hP9 hD9 hK9 ht hW)⟩, hS.F ht⟩) hS.2.2 dX5_order_134
                    · exact absurd rfl c_28
                  · exact absurd c_27 (by decide)
                · have hc_26 : ¬ (bw kd 0 3) := bI_f c_26
                  have e1 : kOrd a x kd am = 1 := if_neg hc_26
                  refine lv_iconst (v := 1) hx hb dX5_order_104 (by decide) ?_
                  refine lv_goto (tgt := 127) hx hb dX5_order_105 (by decide) ?_
                  have hFc := y_free hD hS hA
                  refine va_calli (va_runV (As := [.int 1]) (rest := []) ⟨hx, hb, hml, hown, hts⟩ (c_X5_holds l dC dI cI cF cZ h0 q H.size a th hB 1) (cwV 1 hts gX5_order_X5_holds rfl rfl rfl (by decide +kernel) ⟨Nat.le_of_ble_eq_true rfl, Nat.le_of_ble_eq_true rfl⟩) ⟨pcW_blind, va_recv hK hP (ci := 5) (q0 := 0) rfl rfl, fun U hU hW => pcW_pre hP hD hK hU hW⟩ rfl rfl hl.1 rfl (lv_room (Nat.le_of_ble_eq_true rfl)) dX5_order_127 ⟨Nat.zero_le _, Nat.zero_le _⟩) hS (fun q _ h => hFc q h) hFc (fun r u t H1 locs ht hvm hw hB1 hz1 hk1 hS => ?_)
                  obtain ⟨hP, hK1, hD1⟩ := hB1
                  rw [ht] at hP
                  have hD := hD1.weaken (fun kk qq _ h => hFc qq.1 h)
                  generalize H1 = H at hP hS ⊢
                  have hP : va_P (dC, dI) vwCl (WM cI cF cZ h0 q a 1) H := hP
                  have hD : va_D A (WM cI cF cZ h0 q a 1) := hD
                  have hw31 := hw
                  refine y_topi (y := 0) (hw31.trans (if_neg (by decide))) ?_
                  refine lv_if_ne (tgt := 135) hx hb dX5_order_130 (by decide) (fun c_32 => ?_) (fun c_32 => ?_)
                  · exact absurd c_32 (by decide)
                  · refine lv_iconst (v := 0) hx hb dX5_order_133 (by decide) ?_
                    have hP9 := hP
                    have hD9 := hD
                    have hK9 := hK
                    exact W.iret (v := 0) hx hb hr (fun t ht hW => ⟨⟨0, (), rfl, (fun h9 => absurd (e1.symm.trans h9) (by decide)), (by rw [e1]; exact atW_end hP9 hD9 hK9 ht hW)⟩, hS.F ht⟩) hS.2.2 dX5_order_134
              · have hlt : nn x < 2 ^ nn (a 0 0) := Decidable.not_not.mp (fun h9 => c_25 ((shl_lt (nn (a 0 0)) (Nat.lt_succ_of_le hns.2) (nn x) hxs).mpr h9))
                refine lv_aload_n hx hb dX5_order_77 rfl (lv_at hl 3 rfl) ?_
                refine va_get (D := (dC, dI)) (ci := 5) (v := .int (a 0 3)) (C := RX5) (T := TX5) (N := 31) hx hb hts hiX5 hown hK hP 0 rfl rfl 13 (by decide) (hts (.fieldLink RX5 114 "PayoutnetModel" "sales" "I") (List.mem_of_getElem? (i := 3) rfl)) (fun _ h9 => h9) rfl dX5_order_78 ?_
                refine lv_iload hx hb dX5_order_81 (lv_at hl 0 rfl) ?_
                refine lv_iadd hx hb dX5_order_83 ?_
                refine lv_bipush (v := 100) hx hb dX5_order_84 (by decide) ?_
                refine lv_icmp_gt (tgt := 93) hx hb dX5_order_86 (by decide) (fun c_33 => ?_) (fun c_33 => ?_)
                · have hmay : ¬ (nn x < 2 ^ nn (a 0 0) ∧ nn (a 0 3) + min (cntB (nn x) 8) (nn am) ≤ 100) := fun h9 => absurd c_33 (Int32.not_lt.mpr (room_back hn3 (min hd (nn am)) (by omega) (by rw [ehd]; exact h9.2)))
                  refine lv_iconst (v := 0) hx hb dX5_order_93 (by decide) ?_
                  refine lv_istore (lv' := [(7, .int 0), (6, .int (nI (min hd (nn am)))), (5, .int (nI hd)), (4, .int 1), (0, .ref h0), (1, .int x), (2, .int kd), (3, .int am)]) hx hb dX5_order_94 hl (by decide) rfl (fun ls hl => ?_)
                  refine lv_aload_n hx hb dX5_order_96 rfl (lv_at hl 4 rfl) ?_
                  refine lv_iload_n hx hb dX5_order_97 rfl (lv_at hl 6 rfl) ?_
                  refine va_calli (va_runS (As := [.int kd]) (rest := [.ref h0]) ⟨hx, hb, hml, hown, hts⟩ (c_X5_isKind l kd) (va_cwS 1 hts gX5_order_X5_isKind rfl rfl rfl (by decide +kernel) ⟨Nat.le_of_ble_eq_true rfl, Nat.le_of_ble_eq_true rfl⟩) ⟨pcT_blind, fun U hU hW => pcT_pre⟩ rfl rfl hl.1 rfl (lv_room (Nat.le_of_ble_eq_true rfl)) dX5_order_98 ⟨(Nat.zero_le _), (Nat.zero_le _)⟩) hS (fun q _ h => h.elim) (fun q h => h.elim) (fun r u t H1 locs ht hvm hw hB1 hz1 hk1 hS => ?_)
                  have hP := y_keptP hP hk1
                  generalize H1 = H at hP hS ⊢
                  refine y_topi (y := bI (bw kd 0 3)) hw ?_
                  refine lv_if_ne (tgt := 108) hx hb dX5_order_101 (by decide) (fun c_34 => ?_) (fun c_34 => ?_)
                  · have hc_34 : bw kd 0 3 := bI_t c_34
                    refine lv_iload hx hb dX5_order_108 (lv_at hl 3 rfl) ?_
                    refine lv_if_ne (tgt := 117) hx hb dX5_order_110 (by decide) (fun c_35 => ?_) (fun c_35 => ?_)
                    · refine lv_iload hx hb dX5_order_117 (lv_at hl 0 rfl) ?_
                      refine lv_if_eq (tgt := 126) hx hb dX5_order_119 (by decide) (fun c_36 => ?_) (fun c_36 => ?_)
                      · have e3 : kOrd a x kd am = 3 := by unfold kOrd; rw [if_pos hc_34, if_pos hare, if_neg hmay]
                        refine lv_iconst (v := 3) hx hb dX5_order_126 (by decide) ?_
                        have hFc := y_free hD hS hA
                        refine va_calli (va_runV (As := [.int 3]) (rest := []) ⟨hx, hb, hml, hown, hts⟩ (c_X5_holds l dC dI cI cF cZ h0 q H.size a th hB 3) (cwV 1 hts gX5_order_X5_holds rfl rfl rfl (by decide +kernel) ⟨Nat.le_of_ble_eq_true rfl, Nat.le_of_ble_eq_true rfl⟩) ⟨pcW_blind, va_recv hK hP (ci := 5) (q0 := 0) rfl rfl, fun U hU hW => pcW_pre hP hD hK hU hW⟩ rfl rfl hl.1 rfl (lv_room (Nat.le_of_ble_eq_true rfl)) dX5_order_127 ⟨Nat.zero_le _, Nat.zero_le _⟩) hS (fun q _ h => hFc q h) hFc (fun r u t H1 locs ht hvm hw hB1 hz1 hk1 hS => ?_)
                        obtain ⟨hP, hK1, hD1⟩ := hB1
                        rw [ht] at hP
                        have hD := hD1.weaken (fun kk qq _ h => hFc qq.1 h)
                        generalize H1 = H at hP hS ⊢
                        have hP : va_P (dC, dI) vwCl (WM cI cF cZ h0 q a 3) H := hP
                        have hD : va_D A (WM cI cF cZ h0 q a 3) := hD
                        have hw37 := hw
                        refine y_topi (y := 0) (hw37.trans (if_neg (by decide))) ?_
                        refine lv_if_ne (tgt := 135) hx hb dX5_order_130 (by decide) (fun c_38 => ?_) (fun c_38 => ?_)
                        · exact absurd c_38 (by decide)
                        · refine lv_iconst (v := 0) hx hb dX5_order_133 (by decide) ?_
                          have hP9 := hP
                          have hD9 := hD
                          have hK9 := hK
                          exact W.iret (v := 0) hx hb hr (fun t ht hW => ⟨⟨0, (), rfl, (fun h9 => absurd (e3.symm.trans h9) (by decide)), (by rw [e3]; exact atW_end hP9 hD9 hK9 ht hW)⟩, hS.F ht⟩) hS.2.2 dX5_order_134
                      · exact absurd rfl c_36
                    · exact absurd c_35 (by decide)
                  · have hc_34 : ¬ (bw kd 0 3) := bI_f c_34
                    have e1 : kOrd a x kd am = 1 := if_neg hc_34
                    refine lv_iconst (v := 1) hx hb dX5_order_104 (by decide) ?_
                    refine lv_goto (tgt := 127) hx hb dX5_order_105 (by decide) ?_
                    have hFc := y_free hD hS hA
                    refine va_calli (va_runV (As := [.int 1]) (rest := []) ⟨hx, hb, hml, hown, hts⟩ (c_X5_holds l dC dI cI cF cZ h0 q H.size a th hB 1) (cwV 1 hts gX5_order_X5_holds rfl rfl rfl (by decide +kernel) ⟨Nat.le_of_ble_eq_true rfl, Nat.le_of_ble_eq_true rfl⟩) ⟨pcW_blind, va_recv hK hP (ci := 5) (q0 := 0) rfl rfl, fun U hU hW => pcW_pre hP hD hK hU hW⟩ rfl rfl hl.1 rfl (lv_room (Nat.le_of_ble_eq_true rfl)) dX5_order_127 ⟨Nat.zero_le _, Nat.zero_le _⟩) hS (fun q _ h => hFc q h) hFc (fun r u t H1 locs ht hvm hw hB1 hz1 hk1 hS => ?_)
                    obtain ⟨hP, hK1, hD1⟩ := hB1
                    rw [ht] at hP
                    have hD := hD1.weaken (fun kk qq _ h => hFc qq.1 h)
                    generalize H1 = H at hP hS ⊢
                    have hP : va_P (dC, dI) vwCl (WM cI cF cZ h0 q a 1) H := hP
                    have hD : va_D A (WM cI cF cZ h0 q a 1) := hD
                    have hw39 := hw
                    refine y_topi (y := 0) (hw39.trans (if_neg (by decide))) ?_
                    refine lv_if_ne (tgt := 135) hx hb dX5_order_130 (by decide) (fun c_40 => ?_) (fun c_40 => ?_)
                    · exact absurd c_40 (by decide)
                    · refine lv_iconst (v := 0) hx hb dX5_order_133 (by decide) ?_
                      have hP9 := hP
                      have hD9 := hD
                      have hK9 := hK
                      exact W.iret (v := 0) hx hb hr (fun t ht hW => ⟨⟨0, (), rfl, (fun h9 => absurd (e1.symm.trans h9) (by decide)), (by rw [e1]; exact atW_end hP9 hD9 hK9 ht hW)⟩, hS.F ht⟩) hS.2.2 dX5_order_134
                · have hr1 : nn (a 0 3) + min hd (nn am) ≤ 100 := room_nat hn3 (min hd (nn am)) (by omega) (Int32.not_lt.mp c_33)
                  have hmay : nn x < 2 ^ nn (a 0 0) ∧ nn (a 0 3) + min (cntB (nn x) 8) (nn am) ≤ 100 := ⟨hlt, by rw [← ehd]; exact hr1⟩
                  refine lv_iconst (v := 1) hx hb dX5_order_89 (by decide) ?_
                  refine lv_goto (tgt := 94) hx hb dX5_order_90 (by decide) ?_
                  refine lv_istore (lv' := [(7, .int 1), (6, .int (nI (min hd (nn am)))), (5, .int (nI hd)), (4, .int 1), (0, .ref h0), (1, .int x), (2, .int kd), (3, .int am)]) hx hb dX5_order_94 hl (by decide) rfl (fun ls hl => ?_)
                  refine lv_aload_n hx hb dX5_order_96 rfl (lv_at hl 4 rfl) ?_
                  refine lv_iload_n hx hb dX5_order_97 rfl (lv_at hl 6 rfl) ?_
                  refine va_calli (va_runS (As := [.int kd]) (rest := [.ref h0]) ⟨hx, hb, hml, hown, hts⟩ (c_X5_isKind l kd) (va_cwS 1 hts gX5_order_X5_isKind rfl rfl rfl (by decide +kernel) ⟨Nat.le_of_ble_eq_true rfl, Nat.le_of_ble_eq_true rfl⟩) ⟨pcT_blind, fun U hU hW => pcT_pre⟩ rfl rfl hl.1 rfl (lv_room (Nat.le_of_ble_eq_true rfl)) dX5_order_98 ⟨(Nat.zero_le _), (Nat.zero_le _)⟩) hS (fun q _ h => h.elim) (fun q h => h.elim) (fun r u t H1 locs ht hvm hw hB1 hz1 hk1 hS => ?_)
                  have hP := y_keptP hP hk1
                  generalize H1 = H at hP hS ⊢
                  refine y_topi (y := bI (bw kd 0 3)) hw ?_
                  refine lv_if_ne (tgt := 108) hx hb dX5_order_101 (by decide) (fun c_41 => ?_) (fun c_41 => ?_)
                  · have hc_41 : bw kd 0 3 := bI_t c_41
                    refine lv_iload hx hb dX5_order_108 (lv_at hl 3 rfl) ?_
                    refine lv_if_ne (tgt := 117) hx hb dX5_order_110 (by decide) (fun c_42 => ?_) (fun c_42 => ?_)
                    · refine lv_iload hx hb dX5_order_117 (lv_at hl 0 rfl) ?_
                      refine lv_if_eq (tgt := 126) hx hb dX5_order_119 (by decide) (fun c_43 => ?_) (fun c_43 => ?_)
                      · exact absurd c_43 (by decide)
                      · have e0 : kOrd a x kd am = 0 := by unfold kOrd; rw [if_pos hc_41, if_pos hare, if_pos hmay]
                        refine lv_iconst (v := 0) hx hb dX5_order_122 (by decide) ?_
                        refine lv_goto (tgt := 127) hx hb dX5_order_123 (by decide) ?_
                        have hFc := y_free hD hS hA
                        refine va_calli (va_runV (As := [.int 0]) (rest := []) ⟨hx, hb, hml, hown, hts⟩ (c_X5_holds l dC dI cI cF cZ h0 q H.size a th hB 0) (cwV 1 hts gX5_order_X5_holds rfl rfl rfl (by decide +kernel) ⟨Nat.le_of_ble_eq_true rfl, Nat.le_of_ble_eq_true rfl⟩) ⟨pcW_blind, va_recv hK hP (ci := 5) (q0 := 0) rfl rfl, fun U hU hW => pcW_pre hP hD hK hU hW⟩ rfl rfl hl.1 rfl (lv_room (Nat.le_of_ble_eq_true rfl)) dX5_order_127 ⟨Nat.zero_le _, Nat.zero_le _⟩) hS (fun q _ h => hFc q h) hFc (fun r u t H1 locs ht hvm hw hB1 hz1 hk1 hS => ?_)
                        obtain ⟨hP, hK1, hD1⟩ := hB1
                        rw [ht] at hP
                        have hD := hD1.weaken (fun kk qq _ h => hFc qq.1 h)
                        generalize H1 = H at hP hS ⊢
                        have hP : va_P (dC, dI) vwCl (WM cI cF cZ h0 q a 0) H := hP
                        have hD : va_D A (WM cI cF cZ h0 q a 0) := hD
                        have hw44 := hw
                        refine y_topi (y := 1) (hw44.trans (if_pos rfl)) ?_
                        refine lv_if_ne (tgt := 135) hx hb dX5_order_130 (by decide) (fun c_45 => ?_) (fun c_45 => ?_)
                        · have hkd1 := nat_le (b := 3) (by decide) hc_41.1 hc_41.2
                          obtain ⟨ev, eev⟩ : ∃ z, z = nn am / hd := ⟨_, rfl⟩
                          obtain ⟨rm, erm⟩ : ∃ z, z = nn am % hd := ⟨_, rfl⟩
                          have hrm : rm < hd := by rw [erm]; exact Nat.mod_lt _ (by omega)
                          have hdv : ev ≤ nn am := by rw [eev]; exact Nat.div_le_self _ _
                          have hdv2 : 0 < rm → ev + 1 ≤ 1000000 := fun h9 => by have h8 : nn am / hd ≤ nn am / 2 := Nat.div_le_div_left (by omega) (by decide); omega
                          have hcp : nn (a 0 3) + cntP (nn x) ev rm 8 ≤ 100 := by rw [eev, erm, ehd, cntP_all (n := 8) hxs (by decide) (by rw [← ehd]; exact hd1), ← ehd]; exact hr1
                          refine lv_iconst (v := 0) hx hb dX5_order_135 (by decide) ?_
                          refine lv_istore (lv' := [(8, .int 0), (7, .int 1), (6, .int (nI (min hd (nn am)))), (5, .int (nI hd)), (4, .int 1), (0, .ref h0), (1, .int x), (2, .int kd), (3, .int am)]) hx hb dX5_order_136 hl (by decide) rfl (fun ls hl => ?_)
                          refine lv_iconst (v := 0) hx hb dX5_order_138 (by decide) ?_
                          refine lv_istore (lv' := [(9, .int 0), (8, .int 0), (7, .int 1), (6, .int (nI (min hd (nn am)))), (5, .int (nI hd)), (4, .int 1), (0, .ref h0), (1, .int x), (2, .int kd), (3, .int am)]) hx hb dX5_order_139 hl (by decide) rfl (fun ls hl => ?_)
                          refine y_loop (fun k9 H locs ls => ∃ (i : Nat), k9 + i = 8 ∧ va_P (dC, dI) vwCl [(h0, .inr (5, [.int 0, .int ((sOrd a (nn x) (nn kd) ev rm i) 0 0), .int ((sOrd a (nn x) (nn kd) ev rm i) 0 1), .ref (q 1), .ref (q 2), .ref (q 3), .ref (q 4), .ref (q 5), .ref (q 6), .ref (q 7), .ref (q 8), .ref (q 9), .int ((sOrd a (nn x) (nn kd) ev rm i) 0 2), .int ((sOrd a (nn x) (nn kd) ev rm i) 0 3), .ref (q 10), .ref (q 11), .ref (q 12), .ref (q 13), .ref (q 14), .ref (q 15), .ref (q 16), .ref (q 17), .ref (q 18), .int ((sOrd a (nn x) (nn kd) ev rm i) 0 4), .ref (q 19), .ref (q 20), .ref (q 21), .int ((sOrd a (nn x) (nn kd) ev rm i) 0 5), .int ((sOrd a (nn x) (nn kd) ev rm i) 0 6), .int ((sOrd a (nn x) (nn kd) ev rm i) 0 7), .int ((sOrd a (nn x) (nn kd) ev rm i) 0 8)])), (q 1, .inl (cI, 8, .inl ((sOrd a (nn x) (nn kd) ev rm i) 1))), (q 2, .inl (cI, 8, .inl ((sOrd a (nn x) (nn kd) ev rm i) 2))), (q 3, .inl (cI, 8, .inl ((sOrd a (nn x) (nn kd) ev rm i) 3))), (q 4, .inl (cI, 8, .inl ((sOrd a (nn x) (nn kd) ev rm i) 4))), (q 5, .inl (cI, 8, .inl ((sOrd a (nn x) (nn kd) ev rm i) 5))), (q 6, .inl (cI, 8, .inl ((sOrd a (nn x) (nn kd) ev rm i) 6))), (q 7, .inl (cI, 8, .inl ((sOrd a (nn x) (nn kd) ev rm i) 7))), (q 8, .inl (cI, 8, .inl ((sOrd a (nn x) (nn kd) ev rm i) 8))), (q 9, .inl (cF, 4, .inr (.inr (.inl (fun j => shF ((sOrd a (nn x) (nn kd) ev rm i) 9 j)))))), (q 10, .inl (cI, 100, .inl ((sOrd a (nn x) (nn kd) ev rm i) 10))), (q 11, .inl (cI, 100, .inl ((sOrd a (nn x) (nn kd) ev rm i) 11))), (q 12, .inl (cI, 100, .inl ((sOrd a (nn x) (nn kd) ev rm i) 12))), (q 13, .inl (cF, 100, .inr (.inr (.inl (fun j => shF ((sOrd a (nn x) (nn kd) ev rm i) 13 j)))))), (q 14, .inl (cI, 100, .inl ((sOrd a (nn x) (nn kd) ev rm i) 14))), (q 15, .inl (cI, 100, .inl ((sOrd a (nn x) (nn kd) ev rm i) 15))), (q 16, .inl (cI, 100, .inl ((sOrd a (nn x) (nn kd) ev rm i) 16))), (q 17, .inl (cI, 100, .inl ((sOrd a (nn x) (nn kd) ev rm i) 17))), (q 18, .inl (cI, 100, .inl ((sOrd a (nn x) (nn kd) ev rm i) 18))), (q 19, .inl (cI, 2000, .inl ((sOrd a (nn x) (nn kd) ev rm i) 19))), (q 20, .inl (cI, 2000, .inl ((sOrd a (nn x) (nn kd) ev rm i) 20))), (q 21, .inl (cZ, 2000, .inl ((sOrd a (nn x) (nn kd) ev rm i) 21)))] H ∧ va_D A [(h0, .inr (5, [.int 0, .int ((sOrd a (nn x) (nn kd) ev rm i) 0 0), .int ((sOrd a (nn x) (nn kd) ev rm i) 0 1), .ref (q 1), .ref (q 2), .ref (q 3), .ref (q 4), .ref (q 5), .ref (q 6), .ref (q 7), .ref (q 8), .ref (q 9), .int ((sOrd a (nn x) (nn kd) ev rm i) 0 2), .int ((sOrd a (nn x) (nn kd) ev rm i) 0 3), .ref (q 10), .ref (q 11), .ref (q 12), .ref (q 13), .ref (q 14), .ref (q 15), .ref (q 16), .ref (q 17), .ref (q 18), .int ((sOrd a (nn x) (nn kd) ev rm i) 0 4), .ref (q 19), .ref (q 20), .ref (q 21), .int ((sOrd a (nn x) (nn kd) ev rm i) 0 5), .int ((sOrd a (nn x) (nn kd) ev rm i) 0 6), .int ((sOrd a (nn x) (nn kd) ev rm i) 0 7), .int ((sOrd a (nn x) (nn kd) ev rm i) 0 8)])), (q 1, .inl (cI, 8, .inl ((sOrd a (nn x) (nn kd) ev rm i) 1))), (q 2, .inl (cI, 8, .inl ((sOrd a (nn x) (nn kd) ev rm i) 2))), (q 3, .inl (cI, 8, .inl ((sOrd a (nn x) (nn kd) ev rm i) 3))), (q 4, .inl (cI, 8, .inl ((sOrd a (nn x) (nn kd) ev rm i) 4))), (q 5, .inl (cI, 8, .inl ((sOrd a (nn x) (nn kd) ev rm i) 5))), (q 6, .inl (cI, 8, .inl ((sOrd a (nn x) (nn kd) ev rm i) 6))), (q 7, .inl (cI, 8, .inl ((sOrd a (nn x) (nn kd) ev rm i) 7))), (q 8, .inl (cI, 8, .inl ((sOrd a (nn x) (nn kd) ev rm i) 8))), (q 9, .inl (cF, 4, .inr (.inr (.inl (fun j => shF ((sOrd a (nn x) (nn kd) ev rm i) 9 j)))))), (q 10, .inl (cI, 100, .inl ((sOrd a (nn x) (nn kd) ev rm i) 10))), (q 11, .inl (cI, 100, .inl ((sOrd a (nn x) (nn kd) ev rm i) 11))), (q 12, .inl (cI, 100, .inl ((sOrd a (nn x) (nn kd) ev rm i) 12))), (q 13, .inl (cF, 100, .inr (.inr (.inl (fun j => shF ((sOrd a (nn x) (nn kd) ev rm i) 13 j)))))), (q 14, .inl (cI, 100, .inl ((sOrd a (nn x) (nn kd) ev rm i) 14))), (q 15, .inl (cI, 100, .inl ((sOrd a (nn x) (nn kd) ev rm i) 15))), (q 16, .inl (cI, 100, .inl ((sOrd a (nn x) (nn kd) ev rm i) 16))), (q 17, .inl (cI, 100, .inl ((sOrd a (nn x) (nn kd) ev rm i) 17))), (q 18, .inl (cI, 100, .inl ((sOrd a (nn x) (nn kd) ev rm i) 18))), (q 19, .inl (cI, 2000, .inl ((sOrd a (nn x) (nn kd) ev rm i) 19))), (q 20, .inl (cI, 2000, .inl ((sOrd a (nn x) (nn kd) ev rm i) 20))), (q 21, .inl (cZ, 2000, .inl ((sOrd a (nn x) (nn kd) ev rm i) 21)))] ∧ va_S A s.heap H locs ∧ lv_has ls 11 [(9, .int (nI i)), (8, .int (nI (cntB (nn x) i))), (6, .int (nI (min hd (nn am)))), (5, .int (nI hd)), (3, .int am), (2, .int kd), (1, .int x), (0, .ref h0)]) (8) ⟨0, by omega, hP, hD, hS, lv_sub hl [0, 1, 3, 4, 9, 8, 7, 6] rfl⟩ (fun k9 H locs ls hI ih => ?_)
                          obtain ⟨i, hf0, hP, hD, hS, hl⟩ := hI
                          have hroomi : nn (a 0 3) + cntP (nn x) ev rm i ≤ 100 := Nat.le_trans (Nat.add_le_add_left (cntP_up (nn x) ev rm (show i ≤ 8 by omega)) _) hcp
                          obtain ⟨hBi, hYi, hni⟩ := ord_ok hB hY (set := nn x) (k := nn kd) (ev := ev) (rm := rm) (Nat.lt_succ_of_le hkd1.2) (by omega) hdv2 i (by omega) hroomi
                          have hcb := cntB_le (nn x) i
                          refine lv_iload hx hb dX5_order_141 (lv_at hl 0 rfl) ?_
                          refine lv_bipush (v := 8) hx hb dX5_order_143 (by decide) ?_
                          refine lv_icmp_ge (tgt := 202) hx hb dX5_order_145 (by decide) (fun c_46 => ?_) (fun c_46 => ?_)
                          · have hik : i = 8 := by have := (nI_leI (a := 8) (b := i) (by decide) (by omega)).mp c_46; omega
                            have e5 : sOrd a (nn x) (nn kd) ev rm i = sOrder a x kd am := by rw [hik, ord_hi hlt 8 hns.2, eev, erm, ehd]; rfl
                            rw [e5] at hP hD
                            refine lv_iload hx hb dX5_order_202 (lv_at hl 2 rfl) ?_
                            have hP9 := hP
                            have hD9 := hD
                            have hK9 := hK
                            exact W.iret (v := nI (min hd (nn am))) hx hb hr (fun t ht hW => ⟨⟨nI (min hd (nn am)), (), rfl, (fun _ => by rw [ehd]), (by rw [e0]; exact atW_end hP9 hD9 hK9 ht hW)⟩, hS.F ht⟩) hS.2.2 dX5_order_204
                          · have hik : i < 8 := Nat.lt_of_not_le (fun h => c_46 ((nI_leI (a := 8) (b := i) (by decide) (by omega)).mpr h))
                            refine lv_iload_n hx hb dX5_order_148 rfl (lv_at hl 6 rfl) ?_
                            refine y_topi (y := nI (nn x)) hx1.1 ?_
                            refine lv_iload hx hb dX5_order_149 (lv_at hl 0 rfl) ?_
                            refine lv_ishr hx hb dX5_order_151 ?_
                            refine lv_iconst (v := 1) hx hb dX5_order_152 (by decide) ?_
                            refine lv_iand hx hb dX5_order_153 ?_
                            refine lv_iconst (v := 1) hx hb dX5_order_154 (by decide) ?_
                            refine lv_icmp_ne (tgt := 196) hx hb dX5_order_155 (by decide) (fun c_47 => ?_) (fun c_47 => ?_)
                            · have hbit : (nn x).testBit i = false := by cases hb9 : (nn x).testBit i with | false => rfl | true => exact absurd ((bit_one (nn x) hxs i hik).mpr hb9) c_47
                              have e9 : sOrd a (nn x) (nn kd) ev rm (i + 1) = sOrd a (nn x) (nn kd) ev rm i := by rw [sOrd_step, if_neg (fun h9 => by rw [hbit] at h9; cases h9.1)]
                              have ecb : nI (cntB (nn x) (i + 1)) = nI (cntB (nn x) i) := by show nI (cntB (nn x) i + (if (nn x).testBit i = true then 1 else 0)) = _; rw [hbit]; rfl
                              refine lv_iinc (v := nI (i + 1)) (lv' := [(9, .int (nI (i + 1))), (8, .int (nI (cntB (nn x) i))), (6, .int (nI (min hd (nn am)))), (5, .int (nI hd)), (3, .int am), (2, .int kd), (1, .int x), (0, .ref h0)]) hx hb dX5_order_196 hl (k := 0) rfl (nI_1 i) (by decide) rfl (fun ls hl => ?_)
                              refine lv_goto (tgt := 141) hx hb dX5_order_199 (by decide) ?_
                              rw [← e9] at hP hD
                              rw [← ecb] at hl
                              exact ih (k9 - 1) H locs ls (by omega) ⟨i + 1, by omega, hP, hD, hS, lv_sub hl [0, 1, 2, 3, 4, 5, 6, 7] rfl⟩
                            · have hbit : (nn x).testBit i = true := (bit_one (nn x) hxs i hik).mp c_47
                              have ecb : nI (cntB (nn x) (i + 1)) = nI (cntB (nn x) i + 1) := by show nI (cntB (nn x) i + (if (nn x).testBit i = true then 1 else 0)) = _; rw [hbit]; rfl
                              refine lv_iload_n hx hb dX5_order_158 rfl (lv_at hl 4 rfl) ?_
                              refine y_topi (y := nI (nn am)) ha1.1 ?_
                              refine lv_iload hx hb dX5_order_159 (lv_at hl 3 rfl) ?_
                              refine lv_idiv hx hb dX5_order_161 (nI_ne0 (by omega) (by omega)) ?_
                              refine y_topi (y := nI ev) (by rw [eev]; exact pk_div (by omega) (by omega) (by omega)) ?_
                              refine lv_iload hx hb dX5_order_162 (lv_at hl 1 rfl) ?_
                              refine lv_iload_n hx hb dX5_order_164 rfl (lv_at hl 4 rfl) ?_
                              refine y_topi (y := nI (nn am)) ha1.1 ?_
                              refine lv_iload hx hb dX5_order_165 (lv_at hl 3 rfl) ?_
                              refine lv_irem hx hb dX5_order_167 (nI_ne0 (by omega) (by omega)) ?_
                              refine y_topi (y := nI rm) (by rw [erm]; exact pk_rem (by omega) (by omega) (by omega)) ?_
                              refine lv_icmp_ge (tgt := 175) hx hb dX5_order_168 (by decide) (fun c_48 => ?_) (fun c_48 => ?_)
                              · have hrr : ¬ cntB (nn x) i < rm := Nat.not_lt.mpr ((nI_leI (a := rm) (b := cntB (nn x) i) (by omega) (by omega)).mp c_48)
                                refine lv_iconst (v := 0) hx hb dX5_order_175 (by decide) ?_
                                refine lv_iadd hx hb dX5_order_176 ?_
                                refine y_topi (y := nI (ev)) (by first | exact nI_1 ev | exact Int32.add_zero _) ?_
                                have ept : ptN (nn x) ev rm i = ev := if_neg hrr
                                refine lv_istore (lv' := [(10, .int (nI (ev))), (9, .int (nI i)), (8, .int (nI (cntB (nn x) i))), (6, .int (nI (min hd (nn am)))), (5, .int (nI hd)), (3, .int am), (2, .int kd), (1, .int x), (0, .ref h0)]) hx hb dX5_order_177 hl (by decide) rfl (fun ls hl => ?_)
                                refine lv_iload hx hb dX5_order_179 (lv_at hl 0 rfl) ?_
                                refine lv_if_le (tgt := 193) hx hb dX5_order_181 (by decide) (fun c_49 => ?_) (fun c_49 => ?_)
                                · have hz0 : ¬ 0 < ptN (nn x) ev rm i := by rw [ept]; intro h9; exact absurd ((nI_leI (b := 0) (by omega) (by decide)).mp c_49) (by omega)
                                  have e9 : sOrd a (nn x) (nn kd) ev rm (i + 1) = sOrd a (nn x) (nn kd) ev rm i := by rw [sOrd_step, if_neg (fun h9 => hz0 h9.2)]
                                  refine lv_iinc (v := nI (cntB (nn x) i + 1)) (lv' := [(8, .int (nI (cntB (nn x) i + 1))), (10, .int (nI (ev))), (9, .int (nI i)), (6, .int (nI (min hd (nn am)))), (5, .int (nI hd)), (3, .int am), (2, .int kd), (1, .int x), (0, .ref h0)]) hx hb dX5_order_193 hl (k := 2) rfl (nI_1 _) (by decide) rfl (fun ls hl => ?_)
                                  refine lv_iinc (v := nI (i + 1)) (lv' := [(9, .int (nI (i + 1))), (8, .int (nI (cntB (nn x) i + 1))), (10, .int (nI (ev))), (6, .int (nI (min hd (nn am)))), (5, .int (nI hd)), (3, .int am), (2, .int kd), (1, .int x), (0, .ref h0)]) hx hb dX5_order_196 hl (k := 2) rfl (nI_1 i) (by decide) rfl (fun ls hl => ?_)
                                  refine lv_goto (tgt := 141) hx hb dX5_order_199 (by decide) ?_
                                  rw [← e9] at hP hD
                                  rw [← ecb] at hl
                                  exact ih (k9 - 1) H locs ls (by omega) ⟨i + 1, by omega, hP, hD, hS, lv_sub hl [0, 1, 3, 4, 5, 6, 7, 8] rfl⟩
                                · have hz0 : 0 < ptN (nn x) ev rm i := by rw [ept]; exact Nat.lt_of_not_le (fun h9 => c_49 ((nI_leI (b := 0) (by omega) (by decide)).mpr h9))
                                  have e9 : sOrd a (nn x) (nn kd) ev rm (i + 1) = sSettle (sOrd a (nn x) (nn kd) ev rm i) i (nn kd) (nI (ev)) := by rw [sOrd_step, if_pos ⟨hbit, hz0⟩, ept]
                                  have hroom2 : nn (a 0 3) + cntP (nn x) ev rm (i + 1) ≤ 100 := Nat.le_trans (Nat.add_le_add_left (cntP_up (nn x) ev rm (show i + 1 ≤ 8 by omega)) _) hcp
                                  have ecp : cntP (nn x) ev rm (i + 1) = cntP (nn x) ev rm i + 1 := by show cntP (nn x) ev rm i + _ = _; rw [if_pos ⟨hbit, hz0⟩]
                                  refine lv_aload_n hx hb dX5_order_184 rfl (lv_at hl 8 rfl) ?_
                                  refine lv_iload hx hb dX5_order_185 (lv_at hl 1 rfl) ?_
                                  refine lv_iload_n hx hb dX5_order_187 rfl (lv_at hl 6 rfl) ?_
                                  refine y_topi (y := nI (nn kd)) hkd1.1 ?_
                                  refine lv_iload hx hb dX5_order_188 (lv_at hl 0 rfl) ?_
                                  have hFc := y_free hD hS hA
                                  refine va_callv (va_runV (As := [.int (nI i), .int (nI (nn kd)), .int (nI (ev))]) (rest := []) ⟨hx, hb, hml, hown, hts⟩ (c_X5_settles l dC dI cI cF cZ h0 q H.size (sOrd a (nn x) (nn kd) ev rm i) 0 hBi i (nn kd) (ev) hik (Nat.lt_succ_of_le hkd1.2) (by omega) (by omega) (by omega)) (cwV 3 hts gX5_order_X5_settles rfl rfl rfl (by decide +kernel) ⟨Nat.le_of_ble_eq_true rfl, Nat.le_of_ble_eq_true rfl⟩) ⟨pcW_blind, va_recv hK hP (ci := 5) (q0 := 0) rfl rfl, fun U hU hW => pcW_pre hP hD hK hU hW⟩ rfl rfl hl.1 rfl (lv_room (Nat.le_of_ble_eq_true rfl)) dX5_order_190 ⟨Nat.zero_le _, Nat.zero_le _⟩) hS (fun q _ h => hFc q h) hFc (fun u t H1 locs ht hvm hw hB1 hz1 hk1 hS => ?_)
                                  obtain ⟨hP, hK1, hD1⟩ := hB1
                                  rw [ht] at hP
                                  have hD := hD1.weaken (fun kk qq _ h => hFc qq.1 h)
                                  generalize H1 = H at hP hS ⊢
                                  have hP : va_P (dC, dI) vwCl (WM cI cF cZ h0 q (sSettle (sOrd a (nn x) (nn kd) ev rm i) i (nn kd) (nI (ev))) 0) H := hP
                                  have hD : va_D A (WM cI cF cZ h0 q (sSettle (sOrd a (nn x) (nn kd) ev rm i) i (nn kd) (nI (ev))) 0) := hD
                                  refine lv_iinc (v := nI (cntB (nn x) i + 1)) (lv' := [(8, .int (nI (cntB (nn x) i + 1))), (10, .int (nI (ev))), (9, .int (nI i)), (6, .int (nI (min hd (nn am)))), (5, .int (nI hd)), (3, .int am), (2, .int kd), (1, .int x), (0, .ref h0)]) hx hb dX5_order_193 hl (k := 2) rfl (nI_1 _) (by decide) rfl (fun ls hl => ?_)
                                  refine lv_iinc (v := nI (i + 1)) (lv' := [(9, .int (nI (i + 1))), (8, .int (nI (cntB (nn x) i + 1))), (10, .int (nI (ev))), (6, .int (nI (min hd (nn am)))), (5, .int (nI hd)), (3, .int am), (2, .int kd), (1, .int x), (0, .ref h0)]) hx hb dX5_order_196 hl (k := 2) rfl (nI_1 i) (by decide) rfl (fun ls hl => ?_)
                                  refine lv_goto (tgt := 141) hx hb dX5_order_199 (by decide) ?_
                                  rw [← e9] at hP hD
                                  rw [← ecb] at hl
                                  exact ih (k9 - 1) H locs ls (by omega) ⟨i + 1, by omega, hP, hD, hS, lv_sub hl [0, 1, 3, 4, 5, 6, 7, 8] rfl⟩
                              · have hrr : cntB (nn x) i < rm := Nat.lt_of_not_le (fun h9 => c_48 ((nI_leI (a := rm) (b := cntB (nn x) i) (by omega) (by omega)).mpr h9))
                                have hev1 := hdv2 (by omega)
                                refine lv_iconst (v := 1) hx hb dX5_order_171 (by decide) ?_
                                refine lv_goto (tgt := 176) hx hb dX5_order_172 (by decide) ?_
                                refine lv_iadd hx hb dX5_order_176 ?_
                                refine y_topi (y := nI (ev + 1)) (by first | exact nI_1 ev | exact Int32.add_zero _) ?_
                                have ept : ptN (nn x) ev rm i = ev + 1 := if_pos hrr
                                refine lv_istore (lv' := [(10, .int (nI (ev + 1))), (9, .int (nI i)), (8, .int (nI (cntB (nn x) i))), (6, .int (nI (min hd (nn am)))), (5, .int (nI hd)), (3, .int am), (2, .int kd), (1, .int x), (0, .ref h0)]) hx hb dX5_order_177 hl (by decide) rfl (fun ls hl => ?_)
                                refine lv_iload hx hb dX5_order_179 (lv_at hl 0 rfl) ?_
                                refine lv_if_le (tgt := 193) hx hb dX5_order_181 (by decide) (fun c_50 => ?_) (fun c_50 => ?_)
                                · have hz0 : ¬ 0 < ptN (nn x) ev rm i := by rw [ept]; intro h9; exact absurd ((nI_leI (b := 0) (by omega) (by decide)).mp c_50) (by omega)
                                  have e9 : sOrd a (nn x) (nn kd) ev rm (i + 1) = sOrd a (nn x) (nn kd) ev rm i := by rw [sOrd_step, if_neg (fun h9 => hz0 h9.2)]
                                  refine lv_iinc (v := nI (cntB (nn x) i + 1)) (lv' := [(8, .int (nI (cntB (nn x) i + 1))), (10, .int (nI (ev + 1))), (9, .int (nI i)), (6, .int (nI (min hd (nn am)))), (5, .int (nI hd)), (3, .int am), (2, .int kd), (1, .int x), (0, .ref h0)]) hx hb dX5_order_193 hl (k := 2) rfl (nI_1 _) (by decide) rfl (fun ls hl => ?_)
                                  refine lv_iinc (v := nI (i + 1)) (lv' := [(9, .int (nI (i + 1))), (8, .int (nI (cntB (nn x) i + 1))), (10, .int (nI (ev + 1))), (6, .int (nI (min hd (nn am)))), (5, .int (nI hd)), (3, .int am), (2, .int kd), (1, .int x), (0, .ref h0)]) hx hb dX5_order_196 hl (k := 2) rfl (nI_1 i) (by decide) rfl (fun ls hl => ?_)
                                  refine lv_goto (tgt := 141) hx hb dX5_order_199 (by decide) ?_
                                  rw [← e9] at hP hD
                                  rw [← ecb] at hl
                                  exact ih (k9 - 1) H locs ls (by omega) ⟨i + 1, by omega, hP, hD, hS, lv_sub hl [0, 1, 3, 4, 5, 6, 7, 8] rfl⟩
                                · have hz0 : 0 < ptN (nn x) ev rm i := by rw [ept]; exact Nat.lt_of_not_le (fun h9 => c_50 ((nI_leI (b := 0) (by omega) (by decide)).mpr h9))
                                  have e9 : sOrd a (nn x) (nn kd) ev rm (i + 1) = sSettle (sOrd a (nn x) (nn kd) ev rm i) i (nn kd) (nI (ev + 1)) := by rw [sOrd_step, if_pos ⟨hbit, hz0⟩, ept]
                                  have hroom2 : nn (a 0 3) + cntP (nn x) ev rm (i + 1) ≤ 100 := Nat.le_trans (Nat.add_le_add_left (cntP_up (nn x) ev rm (show i + 1 ≤ 8 by omega)) _) hcp
                                  have ecp : cntP (nn x) ev rm (i + 1) = cntP (nn x) ev rm i + 1 := by show cntP (nn x) ev rm i + _ = _; rw [if_pos ⟨hbit, hz0⟩]
                                  refine lv_aload_n hx hb dX5_order_184 rfl (lv_at hl 8 rfl) ?_
                                  refine lv_iload hx hb dX5_order_185 (lv_at hl 1 rfl) ?_
                                  refine lv_iload_n hx hb dX5_order_187 rfl (lv_at hl 6 rfl) ?_
                                  refine y_topi (y := nI (nn kd)) hkd1.1 ?_
                                  refine lv_iload hx hb dX5_order_188 (lv_at hl 0 rfl) ?_
                                  have hFc := y_free hD hS hA
                                  refine va_callv (va_runV (As := [.int (nI i), .int (nI (nn kd)), .int (nI (ev + 1))]) (rest := []) ⟨hx, hb, hml, hown, hts⟩ (c_X5_settles l dC dI cI cF cZ h0 q H.size (sOrd a (nn x) (nn kd) ev rm i) 0 hBi i (nn kd) (ev + 1) hik (Nat.lt_succ_of_le hkd1.2) (by omega) (by omega) (by omega)) (cwV 3 hts gX5_order_X5_settles rfl rfl rfl (by decide +kernel) ⟨Nat.le_of_ble_eq_true rfl, Nat.le_of_ble_eq_true rfl⟩) ⟨pcW_blind, va_recv hK hP (ci := 5) (q0 := 0) rfl rfl, fun U hU hW => pcW_pre hP hD hK hU hW⟩ rfl rfl hl.1 rfl (lv_room (Nat.le_of_ble_eq_true rfl)) dX5_order_190 ⟨Nat.zero_le _, Nat.zero_le _⟩) hS (fun q _ h => hFc q h) hFc (fun u t H1 locs ht hvm hw hB1 hz1 hk1 hS => ?_)
                                  obtain ⟨hP, hK1, hD1⟩ := hB1
                                  rw [ht] at hP
                                  have hD := hD1.weaken (fun kk qq _ h => hFc qq.1 h)
                                  generalize H1 = H at hP hS ⊢
                                  have hP : va_P (dC, dI) vwCl (WM cI cF cZ h0 q (sSettle (sOrd a (nn x) (nn kd) ev rm i) i (nn kd) (nI (ev + 1))) 0) H := hP
                                  have hD : va_D A (WM cI cF cZ h0 q (sSettle (sOrd a (nn x) (nn kd) ev rm i) i (nn kd) (nI (ev + 1))) 0) := hD
                                  refine lv_iinc (v := nI (cntB (nn x) i + 1)) (lv' := [(8, .int (nI (cntB (nn x) i + 1))), (10, .int (nI (ev + 1))), (9, .int (nI i)), (6, .int (nI (min hd (nn am)))), (5, .int (nI hd)), (3, .int am), (2, .int kd), (1, .int x), (0, .ref h0)]) hx hb dX5_order_193 hl (k := 2) rfl (nI_1 _) (by decide) rfl (fun ls hl => ?_)
                                  refine lv_iinc (v := nI (i + 1)) (lv' := [(9, .int (nI (i + 1))), (8, .int (nI (cntB (nn x) i + 1))), (10, .int (nI (ev + 1))), (6, .int (nI (min hd (nn am)))), (5, .int (nI hd)), (3, .int am), (2, .int kd), (1, .int x), (0, .ref h0)]) hx hb dX5_order_196 hl (k := 2) rfl (nI_1 i) (by decide) rfl (fun ls hl => ?_)
                                  refine lv_goto (tgt := 141) hx hb dX5_order_199 (by decide) ?_
                                  rw [← e9] at hP hD
                                  rw [← ecb] at hl
                                  exact ih (k9 - 1) H locs ls (by omega) ⟨i + 1, by omega, hP, hD, hS, lv_sub hl [0, 1, 3, 4, 5, 6, 7, 8] rfl⟩
                        · exact absurd c_45 (by decide)
                    · exact absurd c_42 (by decide)
                  · have hc_41 : ¬ (bw kd 0 3) := bI_f c_41
                    have e1 : kOrd a x kd am = 1 := if_neg hc_41
                    refine lv_iconst (v := 1) hx hb dX5_order_104 (by decide) ?_
                    refine lv_goto (tgt := 127) hx hb dX5_order_105 (by decide) ?_
                    have hFc := y_free hD hS hA
                    refine va_calli (va_runV (As := [.int 1]) (rest := []) ⟨hx, hb, hml, hown, hts⟩ (c_X5_holds l dC dI cI cF cZ h0 q H.size a th hB 1) (cwV 1 hts gX5_order_X5_holds rfl rfl rfl (by decide +kernel) ⟨Nat.le_of_ble_eq_true rfl, Nat.le_of_ble_eq_true rfl⟩) ⟨pcW_blind, va_recv hK hP (ci := 5) (q0 := 0) rfl rfl, fun U hU hW => pcW_pre hP hD hK hU hW⟩ rfl rfl hl.1 rfl (lv_room (Nat.le_of_ble_eq_true rfl)) dX5_order_127 ⟨Nat.zero_le _, Nat.zero_le _⟩) hS (fun q _ h => hFc q h) hFc (fun r u t H1 locs ht hvm hw hB1 hz1 hk1 hS => ?_)
                    obtain ⟨hP, hK1, hD1⟩ := hB1
                    rw [ht] at hP
                    have hD := hD1.weaken (fun kk qq _ h => hFc qq.1 h)
                    generalize H1 = H at hP hS ⊢
                    have hP : va_P (dC, dI) vwCl (WM cI cF cZ h0 q a 1) H := hP
                    have hD : va_D A (WM cI cF cZ h0 q a 1) := hD
                    have hw51 := hw
                    refine y_topi (y := 0) (hw51.trans (if_neg (by decide))) ?_
                    refine lv_if_ne (tgt := 135) hx hb dX5_order_130 (by decide) (fun c_52 => ?_) (fun c_52 => ?_)
                    · exact absurd c_52 (by decide)
                    · refine lv_iconst (v := 0) hx hb dX5_order_133 (by decide) ?_
                      have hP9 := hP
                      have hD9 := hD
                      have hK9 := hK
                      exact W.iret (v := 0) hx hb hr (fun t ht hW => ⟨⟨0, (), rfl, (fun h9 => absurd (e1.symm.trans h9) (by decide)), (by rw [e1]; exact atW_end hP9 hD9 hK9 ht hW)⟩, hS.F ht⟩) hS.2.2 dX5_order_134
          · have emn : nn am = min hd (nn am) := (Nat.min_eq_right (Nat.le_of_not_le (fun h8 => c_23 ((nI_leI (a := hd) (b := nn am) (by omega) (by omega)).mpr h8)))).symm
            refine lv_iload_n hx hb dX5_order_54 rfl (lv_at hl 5 rfl) ?_
            refine y_topi (y := nI (nn am)) ha1.1 ?_
            refine lv_goto (tgt := 60) hx hb dX5_order_55 (by decide) ?_
            refine y_topi (y := nI (min hd (nn am))) (by rw [← emn]) ?_
            have hmn : min hd (nn am) ≤ 8 := Nat.le_trans (Nat.min_le_left _ _) hd8
            refine lv_istore (lv' := [(6, .int (nI (min hd (nn am)))), (5, .int (nI hd)), (4, .int 1), (0, .ref h0), (1, .int x), (2, .int kd), (3, .int am)]) hx hb dX5_order_60 hl (by decide) rfl (fun ls hl => ?_)
            refine lv_iload hx hb dX5_order_62 (lv_at hl 2 rfl) ?_
            refine lv_if_eq (tgt := 93) hx hb dX5_order_64 (by decide) (fun c_53 => ?_) (fun c_53 => ?_)
            · exact absurd c_53 (by decide)
            · refine lv_iload_n hx hb dX5_order_67 rfl (lv_at hl 4 rfl) ?_
              refine y_topi (y := nI (nn x)) hx1.1 ?_
              refine lv_iconst (v := 1) hx hb dX5_order_68 (by decide) ?_
              refine lv_aload_n hx hb dX5_order_69 rfl (lv_at hl 3 rfl) ?_
              refine va_get (D := (dC, dI)) (ci := 5) (v := .int (a 0 0)) (C := RX5) (T := TX5) (N := 31) hx hb hts hiX5 hown hK hP 0 rfl rfl 1 (by decide) (hts (.fieldLink RX5 80 "PayoutnetModel" "sellers" "I") (List.mem_of_getElem? (i := 2) rfl)) (fun _ h9 => h9) rfl dX5_order_70 ?_
              refine y_topi (y := nI (nn (a 0 0))) hns.1 ?_
              refine lv_ishl hx hb dX5_order_73 ?_
              refine lv_icmp_ge (tgt := 93) hx hb dX5_order_74 (by decide) (fun c_54 => ?_) (fun c_54 => ?_)
              · have hmay : ¬ (nn x < 2 ^ nn (a 0 0) ∧ nn (a 0 3) + min (cntB (nn x) 8) (nn am) ≤ 100) := fun h9 => (shl_lt (nn (a 0 0)) (Nat.lt_succ_of_le hns.2) (nn x) hxs).mp c_54 h9.1
                refine lv_iconst (v := 0) hx hb dX5_order_93 (by decide) ?_
                refine lv_istore (lv' := [(7, .int 0), (6, .int (nI (min hd (nn am)))), (5, .int (nI hd)), (4, .int 1), (0, .ref h0), (1, .int x), (2, .int kd), (3, .int am)]) hx hb dX5_order_94 hl (by decide) rfl (fun ls hl => ?_)
                refine lv_aload_n hx hb dX5_order_96 rfl (lv_at hl 4 rfl) ?_
                refine lv_iload_n hx hb dX5_order_97 rfl (lv_at hl 6 rfl) ?_
                refine va_calli (va_runS (As := [.int kd]) (rest := [.ref h0]) ⟨hx, hb, hml, hown, hts⟩ (c_X5_isKind l kd) (va_cwS 1 hts gX5_order_X5_isKind rfl rfl rfl (by decide +kernel) ⟨Nat.le_of_ble_eq_true rfl, Nat.le_of_ble_eq_true rfl⟩) ⟨pcT_blind, fun U hU hW => pcT_pre⟩ rfl rfl hl.1 rfl (lv_room (Nat.le_of_ble_eq_true rfl)) dX5_order_98 ⟨(Nat.zero_le _), (Nat.zero_le _)⟩) hS (fun q _ h => h.elim) (fun q h => h.elim) (fun r u t H1 locs ht hvm hw hB1 hz1 hk1 hS => ?_)
                have hP := y_keptP hP hk1
                generalize H1 = H at hP hS ⊢
                refine y_topi (y := bI (bw kd 0 3)) hw ?_
                refine lv_if_ne (tgt := 108) hx hb dX5_order_101 (by decide) (fun c_55 => ?_) (fun c_55 => ?_)
                · have hc_55 : bw kd 0 3 := bI_t c_55
                  refine lv_iload hx hb dX5_order_108 (lv_at hl 3 rfl) ?_
                  refine lv_if_ne (tgt := 117) hx hb dX5_order_110 (by decide) (fun c_56 => ?_) (fun c_56 => ?_)
                  · refine lv_iload hx hb dX5_order_117 (lv_at hl 0 rfl) ?_
                    refine lv_if_eq (tgt := 126) hx hb dX5_order_119 (by decide) (fun c_57 => ?_) (fun c_57 => ?_)
                    · have e3 : kOrd a x kd am = 3 := by unfold kOrd; rw [if_pos hc_55, if_pos hare, if_neg hmay]
                      refine lv_iconst (v := 3) hx hb dX5_order_126 (by decide) ?_
                      have hFc := y_free hD hS hA
                      refine va_calli (va_runV (As := [.int 3]) (rest := []) ⟨hx, hb, hml, hown, hts⟩ (c_X5_holds l dC dI cI cF cZ h0 q H.size a th hB 3) (cwV 1 hts gX5_order_X5_holds rfl rfl rfl (by decide +kernel) ⟨Nat.le_of_ble_eq_true rfl, Nat.le_of_ble_eq_true rfl⟩) ⟨pcW_blind, va_recv hK hP (ci := 5) (q0 := 0) rfl rfl, fun U hU hW => pcW_pre hP hD hK hU hW⟩ rfl rfl hl.1 rfl (lv_room (Nat.le_of_ble_eq_true rfl)) dX5_order_127 ⟨Nat.zero_le _, Nat.zero_le _⟩) hS (fun q _ h => hFc q h) hFc (fun r u t H1 locs ht hvm hw hB1 hz1 hk1 hS => ?_)
                      obtain ⟨hP, hK1, hD1⟩ := hB1
                      rw [ht] at hP
                      have hD := hD1.weaken (fun kk qq _ h => hFc qq.1 h)
                      generalize H1 = H at hP hS ⊢
                      have hP : va_P (dC, dI) vwCl (WM cI cF cZ h0 q a 3) H := hP
                      have hD : va_D A (WM cI cF cZ h0 q a 3) := hD
                      have hw58 := hw
                      refine y_topi (y := 0) (hw58.trans (if_neg (by decide))) ?_
                      refine lv_if_ne (tgt := 135) hx hb dX5_order_130 (by decide) (fun c_59 => ?_) (fun c_59 => ?_)
                      · exact absurd c_59 (by decide)
                      · refine lv_iconst (v := 0) hx hb dX5_order_133 (by decide) ?_
                        have hP9 := hP
                        have hD9 := hD
                        have hK9 := hK
                        exact W.iret (v := 0) hx hb hr (fun t ht hW => ⟨⟨0, (), rfl, (fun h9 => absurd (e3.symm.trans h9) (by decide)), (by rw [e3]; exact atW_end hP9 hD9 hK9 ht hW)⟩, hS.F ht⟩) hS.2.2 dX5_order_134
                    · exact absurd rfl c_57
                  · exact absurd c_56 (by decide)
                · have hc_55 : ¬ (bw kd 0 3) := bI_f c_55
                  have e1 : kOrd a x kd am = 1 := if_neg hc_55
                  refine lv_iconst (v := 1) hx hb dX5_order_104 (by decide) ?_
                  refine lv_goto (tgt := 127) hx hb dX5_order_105 (by decide) ?_
                  have hFc := y_free hD hS hA
                  refine va_calli (va_runV (As := [.int 1]) (rest := []) ⟨hx, hb, hml, hown, hts⟩ (c_X5_holds l dC dI cI cF cZ h0 q H.size a th hB 1) (cwV 1 hts gX5_order_X5_holds rfl rfl rfl (by decide +kernel) ⟨Nat.le_of_ble_eq_true rfl, Nat.le_of_ble_eq_true rfl⟩) ⟨pcW_blind, va_recv hK hP (ci := 5) (q0 := 0) rfl rfl, fun U hU hW => pcW_pre hP hD hK hU hW⟩ rfl rfl hl.1 rfl (lv_room (Nat.le_of_ble_eq_true rfl)) dX5_order_127 ⟨Nat.zero_le _, Nat.zero_le _⟩) hS (fun q _ h => hFc q h) hFc (fun r u t H1 locs ht hvm hw hB1 hz1 hk1 hS => ?_)
                  obtain ⟨hP, hK1, hD1⟩ := hB1
                  rw [ht] at hP
                  have hD := hD1.weaken (fun kk qq _ h => hFc qq.1 h)
                  generalize H1 = H at hP hS ⊢
                  have hP : va_P (dC, dI) vwCl (WM cI cF cZ h0 q a 1) H := hP
                  have hD : va_D A (WM cI cF cZ h0 q a 1) := hD
                  have hw60 := hw
                  refine y_topi (y := 0) (hw60.trans (if_neg (by decide))) ?_
                  refine lv_if_ne (tgt := 135) hx hb dX5_order_130 (by decide) (fun c_61 => ?_) (fun c_61 => ?_)
                  · exact absurd c_61 (by decide)
                  · refine lv_iconst (v := 0) hx hb dX5_order_133 (by decide) ?_
                    have hP9 := hP
                    have hD9 := hD
                    have hK9 := hK
                    exact W.iret (v := 0) hx hb hr (fun t ht hW => ⟨⟨0, (), rfl, (fun h9 => absurd (e1.symm.trans h9) (by decide)), (by rw [e1]; exact atW_end hP9 hD9 hK9 ht hW)⟩, hS.F ht⟩) hS.2.2 dX5_order_134
              · have hlt : nn x < 2 ^ nn (a 0 0) := Decidable.not_not.mp (fun h9 => c_54 ((shl_lt (nn (a 0 0)) (Nat.lt_succ_of_le hns.2) (nn x) hxs).mpr h9))
                refine lv_aload_n hx hb dX5_order_77 rfl (lv_at hl 3 rfl) ?_
                refine va_get (D := (dC, dI)) (ci := 5) (v := .int (a 0 3)) (C := RX5) (T := TX5) (N := 31) hx hb hts hiX5 hown hK hP 0 rfl rfl 13 (by decide) (hts (.fieldLink RX5 114 "PayoutnetModel" "sales" "I") (List.mem_of_getElem? (i := 3) rfl)) (fun _ h9 => h9) rfl dX5_order_78 ?_
                refine lv_iload hx hb dX5_order_81 (lv_at hl 0 rfl) ?_
                refine lv_iadd hx hb dX5_order_83 ?_
                refine lv_bipush (v := 100) hx hb dX5_order_84 (by decide) ?_
                refine lv_icmp_gt (tgt := 93) hx hb dX5_order_86 (by decide) (fun c_62 => ?_) (fun c_62 => ?_)
                · have hmay : ¬ (nn x < 2 ^ nn (a 0 0) ∧ nn (a 0 3) + min (cntB (nn x) 8) (nn am) ≤ 100) := fun h9 => absurd c_62 (Int32.not_lt.mpr (room_back hn3 (min hd (nn am)) (by omega) (by rw [ehd]; exact h9.2)))
                  refine lv_iconst (v := 0) hx hb dX5_order_93 (by decide) ?_
                  refine lv_istore (lv' := [(7, .int 0), (6, .int (nI (min hd (nn am)))), (5, .int (nI hd)), (4, .int 1), (0, .ref h0), (1, .int x), (2, .int kd), (3, .int am)]) hx hb dX5_order_94 hl (by decide) rfl (fun ls hl => ?_)
                  refine lv_aload_n hx hb dX5_order_96 rfl (lv_at hl 4 rfl) ?_
                  refine lv_iload_n hx hb dX5_order_97 rfl (lv_at hl 6 rfl) ?_
                  refine va_calli (va_runS (As := [.int kd]) (rest := [.ref h0]) ⟨hx, hb, hml, hown, hts⟩ (c_X5_isKind l kd) (va_cwS 1 hts gX5_order_X5_isKind rfl rfl rfl (by decide +kernel) ⟨Nat.le_of_ble_eq_true rfl, Nat.le_of_ble_eq_true rfl⟩) ⟨pcT_blind, fun U hU hW => pcT_pre⟩ rfl rfl hl.1 rfl (lv_room (Nat.le_of_ble_eq_true rfl)) dX5_order_98 ⟨(Nat.zero_le _), (Nat.zero_le _)⟩) hS (fun q _ h => h.elim) (fun q h => h.elim) (fun r u t H1 locs ht hvm hw hB1 hz1 hk1 hS => ?_)
                  have hP := y_keptP hP hk1
                  generalize H1 = H at hP hS ⊢
                  refine y_topi (y := bI (bw kd 0 3)) hw ?_
                  refine lv_if_ne (tgt := 108) hx hb dX5_order_101 (by decide) (fun c_63 => ?_) (fun c_63 => ?_)
                  · have hc_63 : bw kd 0 3 := bI_t c_63
                    refine lv_iload hx hb dX5_order_108 (lv_at hl 3 rfl) ?_
                    refine lv_if_ne (tgt := 117) hx hb dX5_order_110 (by decide) (fun c_64 => ?_) (fun c_64 => ?_)
                    · refine lv_iload hx hb dX5_order_117 (lv_at hl 0 rfl) ?_
                      refine lv_if_eq (tgt := 126) hx hb dX5_order_119 (by decide) (fun c_65 => ?_) (fun c_65 => ?_)
                      · have e3 : kOrd a x kd am = 3 := by unfold kOrd; rw [if_pos hc_63, if_pos hare, if_neg hmay]
                        refine lv_iconst (v := 3) hx hb dX5_order_126 (by decide) ?_
                        have hFc := y_free hD hS hA
                        refine va_calli (va_runV (As := [.int 3]) (rest := []) ⟨hx, hb, hml, hown, hts⟩ (c_X5_holds l dC dI cI cF cZ h0 q H.size a th hB 3) (cwV 1 hts gX5_order_X5_holds rfl rfl rfl (by decide +kernel) ⟨Nat.le_of_ble_eq_true rfl, Nat.le_of_ble_eq_true rfl⟩) ⟨pcW_blind, va_recv hK hP (ci := 5) (q0 := 0) rfl rfl, fun U hU hW => pcW_pre hP hD hK hU hW⟩ rfl rfl hl.1 rfl (lv_room (Nat.le_of_ble_eq_true rfl)) dX5_order_127 ⟨Nat.zero_le _, Nat.zero_le _⟩) hS (fun q _ h => hFc q h) hFc (fun r u t H1 locs ht hvm hw hB1 hz1 hk1 hS => ?_)
                        obtain ⟨hP, hK1, hD1⟩ := hB1
                        rw [ht] at hP
                        have hD := hD1.weaken (fun kk qq _ h => hFc qq.1 h)
                        generalize H1 = H at hP hS ⊢
                        have hP : va_P (dC, dI) vwCl (WM cI cF cZ h0 q a 3) H := hP
                        have hD : va_D A (WM cI cF cZ h0 q a 3) := hD
                        have hw66 := hw
                        refine y_topi (y := 0) (hw66.trans (if_neg (by decide))) ?_
                        refine lv_if_ne (tgt := 135) hx hb dX5_order_130 (by decide) (fun c_67 => ?_) (fun c_67 => ?_)
                        · exact absurd c_67 (by decide)
                        · refine lv_iconst (v := 0) hx hb dX5_order_133 (by decide) ?_
                          have hP9 := hP
                          have hD9 := hD
                          have hK9 := hK
                          exact W.iret (v := 0) hx hb hr (fun t ht hW => ⟨⟨0, (), rfl, (fun h9 => absurd (e3.symm.trans h9) (by decide)), (by rw [e3]; exact atW_end hP9 hD9 hK9 ht hW)⟩, hS.F ht⟩) hS.2.2 dX5_order_134
                      · exact absurd rfl c_65
                    · exact absurd c_64 (by decide)
                  · have hc_63 : ¬ (bw kd 0 3) := bI_f c_63
                    have e1 : kOrd a x kd am = 1 := if_neg hc_63
                    refine lv_iconst (v := 1) hx hb dX5_order_104 (by decide) ?_
                    refine lv_goto (tgt := 127) hx hb dX5_order_105 (by decide) ?_
                    have hFc := y_free hD hS hA
                    refine va_calli (va_runV (As := [.int 1]) (rest := []) ⟨hx, hb, hml, hown, hts⟩ (c_X5_holds l dC dI cI cF cZ h0 q H.size a th hB 1) (cwV 1 hts gX5_order_X5_holds rfl rfl rfl (by decide +kernel) ⟨Nat.le_of_ble_eq_true rfl, Nat.le_of_ble_eq_true rfl⟩) ⟨pcW_blind, va_recv hK hP (ci := 5) (q0 := 0) rfl rfl, fun U hU hW => pcW_pre hP hD hK hU hW⟩ rfl rfl hl.1 rfl (lv_room (Nat.le_of_ble_eq_true rfl)) dX5_order_127 ⟨Nat.zero_le _, Nat.zero_le _⟩) hS (fun q _ h => hFc q h) hFc (fun r u t H1 locs ht hvm hw hB1 hz1 hk1 hS => ?_)
                    obtain ⟨hP, hK1, hD1⟩ := hB1
                    rw [ht] at hP
                    have hD := hD1.weaken (fun kk qq _ h => hFc qq.1 h)
                    generalize H1 = H at hP hS ⊢
                    have hP : va_P (dC, dI) vwCl (WM cI cF cZ h0 q a 1) H := hP
                    have hD : va_D A (WM cI cF cZ h0 q a 1) := hD
                    have hw68 := hw
                    refine y_topi (y := 0) (hw68.trans (if_neg (by decide))) ?_
                    refine lv_if_ne (tgt := 135) hx hb dX5_order_130 (by decide) (fun c_69 => ?_) (fun c_69 => ?_)
                    · exact absurd c_69 (by decide)
                    · refine lv_iconst (v := 0) hx hb dX5_order_133 (by decide) ?_
                      have hP9 := hP
                      have hD9 := hD
                      have hK9 := hK
                      exact W.iret (v := 0) hx hb hr (fun t ht hW => ⟨⟨0, (), rfl, (fun h9 => absurd (e1.symm.trans h9) (by decide)), (by rw [e1]; exact atW_end hP9 hD9 hK9 ht hW)⟩, hS.F ht⟩) hS.2.2 dX5_order_134
                · have hr1 : nn (a 0 3) + min hd (nn am) ≤ 100 := room_nat hn3 (min hd (nn am)) (by omega) (Int32.not_lt.mp c_62)
                  have hmay : nn x < 2 ^ nn (a 0 0) ∧ nn (a 0 3) + min (cntB (nn x) 8) (nn am) ≤ 100 := ⟨hlt, by rw [← ehd]; exact hr1⟩
                  refine lv_iconst (v := 1) hx hb dX5_order_89 (by decide) ?_
                  refine lv_goto (tgt := 94) hx hb dX5_order_90 (by decide) ?_
                  refine lv_istore (lv' := [(7, .int 1), (6, .int (nI (min hd (nn am)))), (5, .int (nI hd)), (4, .int 1), (0, .ref h0), (1, .int x), (2, .int kd), (3, .int am)]) hx hb dX5_order_94 hl (by decide) rfl (fun ls hl => ?_)
                  refine lv_aload_n hx hb dX5_order_96 rfl (lv_at hl 4 rfl) ?_
                  refine lv_iload_n hx hb dX5_order_97 rfl (lv_at hl 6 rfl) ?_
                  refine va_calli (va_runS (As := [.int kd]) (rest := [.ref h0]) ⟨hx, hb, hml, hown, hts⟩ (c_X5_isKind l kd) (va_cwS 1 hts gX5_order_X5_isKind rfl rfl rfl (by decide +kernel) ⟨Nat.le_of_ble_eq_true rfl, Nat.le_of_ble_eq_true rfl⟩) ⟨pcT_blind, fun U hU hW => pcT_pre⟩ rfl rfl hl.1 rfl (lv_room (Nat.le_of_ble_eq_true rfl)) dX5_order_98 ⟨(Nat.zero_le _), (Nat.zero_le _)⟩) hS (fun q _ h => h.elim) (fun q h => h.elim) (fun r u t H1 locs ht hvm hw hB1 hz1 hk1 hS => ?_)
                  have hP := y_keptP hP hk1
                  generalize H1 = H at hP hS ⊢
                  refine y_topi (y := bI (bw kd 0 3)) hw ?_
                  refine lv_if_ne (tgt := 108) hx hb dX5_order_101 (by decide) (fun c_70 => ?_) (fun c_70 => ?_)
                  · have hc_70 : bw kd 0 3 := bI_t c_70
                    refine lv_iload hx hb dX5_order_108 (lv_at hl 3 rfl) ?_
                    refine lv_if_ne (tgt := 117) hx hb dX5_order_110 (by decide) (fun c_71 => ?_) (fun c_71 => ?_)
                    · refine lv_iload hx hb dX5_order_117 (lv_at hl 0 rfl) ?_
                      refine lv_if_eq (tgt := 126) hx hb dX5_order_119 (by decide) (fun c_72 => ?_) (fun c_72 => ?_)
                      · exact absurd c_72 (by decide)
                      · have e0 : kOrd a x kd am = 0 := by unfold kOrd; rw [if_pos hc_70, if_pos hare, if_pos hmay]
                        refine lv_iconst (v := 0) hx hb dX5_order_122 (by decide) ?_
                        refine lv_goto (tgt := 127) hx hb dX5_order_123 (by decide) ?_
                        have hFc := y_free hD hS hA
                        refine va_calli (va_runV (As := [.int 0]) (rest := []) ⟨hx, hb, hml, hown, hts⟩ (c_X5_holds l dC dI cI cF cZ h0 q H.size a th hB 0) (cwV 1 hts gX5_order_X5_holds rfl rfl rfl (by decide +kernel) ⟨Nat.le_of_ble_eq_true rfl, Nat.le_of_ble_eq_true rfl⟩) ⟨pcW_blind, va_recv hK hP (ci := 5) (q0 := 0) rfl rfl, fun U hU hW => pcW_pre hP hD hK hU hW⟩ rfl rfl hl.1 rfl (lv_room (Nat.le_of_ble_eq_true rfl)) dX5_order_127 ⟨Nat.zero_le _, Nat.zero_le _⟩) hS (fun q _ h => hFc q h) hFc (fun r u t H1 locs ht hvm hw hB1 hz1 hk1 hS => ?_)
                        obtain ⟨hP, hK1, hD1⟩ := hB1
                        rw [ht] at hP
                        have hD := hD1.weaken (fun kk qq _ h => hFc qq.1 h)
                        generalize H1 = H at hP hS ⊢
                        have hP : va_P (dC, dI) vwCl (WM cI cF cZ h0 q a 0) H := hP
                        have hD : va_D A (WM cI cF cZ h0 q a 0) := hD
                        have hw73 := hw
                        refine y_topi (y := 1) (hw73.trans (if_pos rfl)) ?_
                        refine lv_if_ne (tgt := 135) hx hb dX5_order_130 (by decide) (fun c_74 => ?_) (fun c_74 => ?_)
                        · have hkd1 := nat_le (b := 3) (by decide) hc_70.1 hc_70.2
                          obtain ⟨ev, eev⟩ : ∃ z, z = nn am / hd := ⟨_, rfl⟩
                          obtain ⟨rm, erm⟩ : ∃ z, z = nn am % hd := ⟨_, rfl⟩
                          have hrm : rm < hd := by rw [erm]; exact Nat.mod_lt _ (by omega)
                          have hdv : ev ≤ nn am := by rw [eev]; exact Nat.div_le_self _ _
                          have hdv2 : 0 < rm → ev + 1 ≤ 1000000 := fun h9 => by have h8 : nn am / hd ≤ nn am / 2 := Nat.div_le_div_left (by omega) (by decide); omega
                          have hcp : nn (a 0 3) + cntP (nn x) ev rm 8 ≤ 100 := by rw [eev, erm, ehd, cntP_all (n := 8) hxs (by decide) (by rw [← ehd]; exact hd1), ← ehd]; exact hr1
                          refine lv_iconst (v := 0) hx hb dX5_order_135 (by decide) ?_
                          refine lv_istore (lv' := [(8, .int 0), (7, .int 1), (6, .int (nI (min hd (nn am)))), (5, .int (nI hd)), (4, .int 1), (0, .ref h0), (1, .int x), (2, .int kd), (3, .int am)]) hx hb dX5_order_136 hl (by decide) rfl (fun ls hl => ?_)
                          refine lv_iconst (v := 0) hx hb dX5_order_138 (by decide) ?_
                          refine lv_istore (lv' := [(9, .int 0), (8, .int 0), (7, .int 1), (6, .int (nI (min hd (nn am)))), (5, .int (nI hd)), (4, .int 1), (0, .ref h0), (1, .int x), (2, .int kd), (3, .int am)]) hx hb dX5_order_139 hl (by decide) rfl (fun ls hl => ?_)
                          refine y_loop (fun k9 H locs ls => ∃ (i : Nat), k9 + i = 8 ∧ va_P (dC, dI) vwCl [(h0, .inr (5, [.int 0, .int ((sOrd a (nn x) (nn kd) ev rm i) 0 0), .int ((sOrd a (nn x) (nn kd) ev rm i) 0 1), .ref (q 1), .ref (q 2), .ref (q 3), .ref (q 4), .ref (q 5), .ref (q 6), .ref (q 7), .ref (q 8), .ref (q 9), .int ((sOrd a (nn x) (nn kd) ev rm i) 0 2), .int ((sOrd a (nn x) (nn kd) ev rm i) 0 3), .ref (q 10), .ref (q 11), .ref (q 12), .ref (q 13), .ref (q 14), .ref (q 15), .ref (q 16), .ref (q 17), .ref (q 18), .int ((sOrd a (nn x) (nn kd) ev rm i) 0 4), .ref (q 19), .ref (q 20), .ref (q 21), .int ((sOrd a (nn x) (nn kd) ev rm i) 0 5), .int ((sOrd a (nn x) (nn kd) ev rm i) 0 6), .int ((sOrd a (nn x) (nn kd) ev rm i) 0 7), .int ((sOrd a (nn x) (nn kd) ev rm i) 0 8)])), (q 1, .inl (cI, 8, .inl ((sOrd a (nn x) (nn kd) ev rm i) 1))), (q 2, .inl (cI, 8, .inl ((sOrd a (nn x) (nn kd) ev rm i) 2))), (q 3, .inl (cI, 8, .inl ((sOrd a (nn x) (nn kd) ev rm i) 3))), (q 4, .inl (cI, 8, .inl ((sOrd a (nn x) (nn kd) ev rm i) 4))), (q 5, .inl (cI, 8, .inl ((sOrd a (nn x) (nn kd) ev rm i) 5))), (q 6, .inl (cI, 8, .inl ((sOrd a (nn x) (nn kd) ev rm i) 6))), (q 7, .inl (cI, 8, .inl ((sOrd a (nn x) (nn kd) ev rm i) 7))), (q 8, .inl (cI, 8, .inl ((sOrd a (nn x) (nn kd) ev rm i) 8))), (q 9, .inl (cF, 4, .inr (.inr (.inl (fun j => shF ((sOrd a (nn x) (nn kd) ev rm i) 9 j)))))), (q 10, .inl (cI, 100, .inl ((sOrd a (nn x) (nn kd) ev rm i) 10))), (q 11, .inl (cI, 100, .inl ((sOrd a (nn x) (nn kd) ev rm i) 11))), (q 12, .inl (cI, 100, .inl ((sOrd a (nn x) (nn kd) ev rm i) 12))), (q 13, .inl (cF, 100, .inr (.inr (.inl (fun j => shF ((sOrd a (nn x) (nn kd) ev rm i) 13 j)))))), (q 14, .inl (cI, 100, .inl ((sOrd a (nn x) (nn kd) ev rm i) 14))), (q 15, .inl (cI, 100, .inl ((sOrd a (nn x) (nn kd) ev rm i) 15))), (q 16, .inl (cI, 100, .inl ((sOrd a (nn x) (nn kd) ev rm i) 16))), (q 17, .inl (cI, 100, .inl ((sOrd a (nn x) (nn kd) ev rm i) 17))), (q 18, .inl (cI, 100, .inl ((sOrd a (nn x) (nn kd) ev rm i) 18))), (q 19, .inl (cI, 2000, .inl ((sOrd a (nn x) (nn kd) ev rm i) 19))), (q 20, .inl (cI, 2000, .inl ((sOrd a (nn x) (nn kd) ev rm i) 20))), (q 21, .inl (cZ, 2000, .inl ((sOrd a (nn x) (nn kd) ev rm i) 21)))] H ∧ va_D A [(h0, .inr (5, [.int 0, .int ((sOrd a (nn x) (nn kd) ev rm i) 0 0), .int ((sOrd a (nn x) (nn kd) ev rm i) 0 1), .ref (q 1), .ref (q 2), .ref (q 3), .ref (q 4), .ref (q 5), .ref (q 6), .ref (q 7), .ref (q 8), .ref (q 9), .int ((sOrd a (nn x) (nn kd) ev rm i) 0 2), .int ((sOrd a (nn x) (nn kd) ev rm i) 0 3), .ref (q 10), .ref (q 11), .ref (q 12), .ref (q 13), .ref (q 14), .ref (q 15), .ref (q 16), .ref (q 17), .ref (q 18), .int ((sOrd a (nn x) (nn kd) ev rm i) 0 4), .ref (q 19), .ref (q 20), .ref (q 21), .int ((sOrd a (nn x) (nn kd) ev rm i) 0 5), .int ((sOrd a (nn x) (nn kd) ev rm i) 0 6), .int ((sOrd a (nn x) (nn kd) ev rm i) 0 7), .int ((sOrd a (nn x) (nn kd) ev rm i) 0 8)])), (q 1, .inl (cI, 8, .inl ((sOrd a (nn x) (nn kd) ev rm i) 1))), (q 2, .inl (cI, 8, .inl ((sOrd a (nn x) (nn kd) ev rm i) 2))), (q 3, .inl (cI, 8, .inl ((sOrd a (nn x) (nn kd) ev rm i) 3))), (q 4, .inl (cI, 8, .inl ((sOrd a (nn x) (nn kd) ev rm i) 4))), (q 5, .inl (cI, 8, .inl ((sOrd a (nn x) (nn kd) ev rm i) 5))), (q 6, .inl (cI, 8, .inl ((sOrd a (nn x) (nn kd) ev rm i) 6))), (q 7, .inl (cI, 8, .inl ((sOrd a (nn x) (nn kd) ev rm i) 7))), (q 8, .inl (cI, 8, .inl ((sOrd a (nn x) (nn kd) ev rm i) 8))), (q 9, .inl (cF, 4, .inr (.inr (.inl (fun j => shF ((sOrd a (nn x) (nn kd) ev rm i) 9 j)))))), (q 10, .inl (cI, 100, .inl ((sOrd a (nn x) (nn kd) ev rm i) 10))), (q 11, .inl (cI, 100, .inl ((sOrd a (nn x) (nn kd) ev rm i) 11))), (q 12, .inl (cI, 100, .inl ((sOrd a (nn x) (nn kd) ev rm i) 12))), (q 13, .inl (cF, 100, .inr (.inr (.inl (fun j => shF ((sOrd a (nn x) (nn kd) ev rm i) 13 j)))))), (q 14, .inl (cI, 100, .inl ((sOrd a (nn x) (nn kd) ev rm i) 14))), (q 15, .inl (cI, 100, .inl ((sOrd a (nn x) (nn kd) ev rm i) 15))), (q 16, .inl (cI, 100, .inl ((sOrd a (nn x) (nn kd) ev rm i) 16))), (q 17, .inl (cI, 100, .inl ((sOrd a (nn x) (nn kd) ev rm i) 17))), (q 18, .inl (cI, 100, .inl ((sOrd a (nn x) (nn kd) ev rm i) 18))), (q 19, .inl (cI, 2000, .inl ((sOrd a (nn x) (nn kd) ev rm i) 19))), (q 20, .inl (cI, 2000, .inl ((sOrd a (nn x) (nn kd) ev rm i) 20))), (q 21, .inl (cZ, 2000, .inl ((sOrd a (nn x) (nn kd) ev rm i) 21)))] ∧ va_S A s.heap H locs ∧ lv_has ls 11 [(9, .int (nI i)), (8, .int (nI (cntB (nn x) i))), (6, .int (nI (min hd (nn am)))), (5, .int (nI hd)), (3, .int am), (2, .int kd), (1, .int x), (0, .ref h0)]) (8) ⟨0, by omega, hP, hD, hS, lv_sub hl [0, 1, 3, 4, 9, 8, 7, 6] rfl⟩ (fun k9 H locs ls hI ih => ?_)
                          obtain ⟨i, hf0, hP, hD, hS, hl⟩ := hI
                          have hroomi : nn (a 0 3) + cntP (nn x) ev rm i ≤ 100 := Nat.le_trans (Nat.add_le_add_left (cntP_up (nn x) ev rm (show i ≤ 8 by omega)) _) hcp
                          obtain ⟨hBi, hYi, hni⟩ := ord_ok hB hY (set := nn x) (k := nn kd) (ev := ev) (rm := rm) (Nat.lt_succ_of_le hkd1.2) (by omega) hdv2 i (by omega) hroomi
                          have hcb := cntB_le (nn x) i
                          refine lv_iload hx hb dX5_order_141 (lv_at hl 0 rfl) ?_
                          refine lv_bipush (v := 8) hx hb dX5_order_143 (by decide) ?_
                          refine lv_icmp_ge (tgt := 202) hx hb dX5_order_145 (by decide) (fun c_75 => ?_) (fun c_75 => ?_)
                          · have hik : i = 8 := by have := (nI_leI (a := 8) (b := i) (by decide) (by omega)).mp c_75; omega
                            have e5 : sOrd a (nn x) (nn kd) ev rm i = sOrder a x kd am := by rw [hik, ord_hi hlt 8 hns.2, eev, erm, ehd]; rfl
                            rw [e5] at hP hD
                            refine lv_iload hx hb dX5_order_202 (lv_at hl 2 rfl) ?_
                            have hP9 := hP
                            have hD9 := hD
                            have hK9 := hK
                            exact W.iret (v := nI (min hd (nn am))) hx hb hr (fun t ht hW => ⟨⟨nI (min hd (nn am)), (), rfl, (fun _ => by rw [ehd]), (by rw [e0]; exact atW_end hP9 hD9 hK9 ht hW)⟩, hS.F ht⟩) hS.2.2 dX5_order_204
                          · have hik : i < 8 := Nat.lt_of_not_le (fun h => c_75 ((nI_leI (a := 8) (b := i) (by decide) (by omega)).mpr h))
                            refine lv_iload_n hx hb dX5_order_148 rfl (lv_at hl 6 rfl) ?_
                            refine y_topi (y := nI (nn x)) hx1.1 ?_
                            refine lv_iload hx hb dX5_order_149 (lv_at hl 0 rfl) ?_
                            refine lv_ishr hx hb dX5_order_151 ?_
                            refine lv_iconst (v := 1) hx hb dX5_order_152 (by decide) ?_
                            refine lv_iand hx hb dX5_order_153 ?_
                            refine lv_iconst (v := 1) hx hb dX5_order_154 (by decide) ?_
                            refine lv_icmp_ne (tgt := 196) hx hb dX5_order_155 (by decide) (fun c_76 => ?_) (fun c_76 => ?_)
                            · have hbit : (nn x).testBit i = false := by cases hb9 : (nn x).testBit i with | false => rfl | true => exact absurd ((bit_one (nn x) hxs i hik).mpr hb9) c_76
                              have e9 : sOrd a (nn x) (nn kd) ev rm (i + 1) = sOrd a (nn x) (nn kd) ev rm i := by rw [sOrd_step, if_neg (fun h9 => by rw [hbit] at h9; cases h9.1)]
                              have ecb : nI (cntB (nn x) (i + 1)) = nI (cntB (nn x) i) := by show nI (cntB (nn x) i + (if (nn x).testBit i = true then 1 else 0)) = _; rw [hbit]; rfl
                              refine lv_iinc (v := nI (i + 1)) (lv' := [(9, .int (nI (i + 1))), (8, .int (nI (cntB (nn x) i))), (6, .int (nI (min hd (nn am)))), (5, .int (nI hd)), (3, .int am), (2, .int kd), (1, .int x), (0, .ref h0)]) hx hb dX5_order_196 hl (k := 0) rfl (nI_1 i) (by decide) rfl (fun ls hl => ?_)
                              refine lv_goto (tgt := 141) hx hb dX5_order_199 (by decide) ?_
                              rw [← e9] at hP hD
                              rw [← ecb] at hl
                              exact ih (k9 - 1) H locs ls (by omega) ⟨i + 1, by omega, hP, hD, hS, lv_sub hl [0, 1, 2, 3, 4, 5, 6, 7] rfl⟩
                            · have hbit : (nn x).testBit i = true := (bit_one (nn x) hxs i hik).mp c_76
                              have ecb : nI (cntB (nn x) (i + 1)) = nI (cntB (nn x) i + 1) := by show nI (cntB (nn x) i + (if (nn x).testBit i = true then 1 else 0)) = _; rw [hbit]; rfl
                              refine lv_iload_n hx hb dX5_order_158 rfl (lv_at hl 4 rfl) ?_
                              refine y_topi (y := nI (nn am)) ha1.1 ?_
                              refine lv_iload hx hb dX5_order_159 (lv_at hl 3 rfl) ?_
                              refine lv_idiv hx hb dX5_order_161 (nI_ne0 (by omega) (by omega)) ?_
                              refine y_topi (y := nI ev) (by rw [eev]; exact pk_div (by omega) (by omega) (by omega)) ?_
                              refine lv_iload hx hb dX5_order_162 (lv_at hl 1 rfl) ?_
                              refine lv_iload_n hx hb dX5_order_164 rfl (lv_at hl 4 rfl) ?_
                              refine y_topi (y := nI (nn am)) ha1.1 ?_
                              refine lv_iload hx hb dX5_order_165 (lv_at hl 3 rfl) ?_
                              refine lv_irem hx hb dX5_order_167 (nI_ne0 (by omega) (by omega)) ?_
                              refine y_topi (y := nI rm) (by rw [erm]; exact pk_rem (by omega) (by omega) (by omega)) ?_
                              refine lv_icmp_ge (tgt := 175) hx hb dX5_order_168 (by decide) (fun c_77 => ?_) (fun c_77 => ?_)
                              · have hrr : ¬ cntB (nn x) i < rm := Nat.not_lt.mpr ((nI_leI (a := rm) (b := cntB (nn x) i) (by omega) (by omega)).mp c_77)
                                refine lv_iconst (v := 0) hx hb dX5_order_175 (by decide) ?_
                                refine lv_iadd hx hb dX5_order_176 ?_
                                refine y_topi (y := nI (ev)) (by first | exact nI_1 ev | exact Int32.add_zero _) ?_
                                have ept : ptN (nn x) ev rm i = ev := if_neg hrr
                                refine lv_istore (lv' := [(10, .int (nI (ev))), (9, .int (nI i)), (8, .int (nI (cntB (nn x) i))), (6, .int (nI (min hd (nn am)))), (5, .int (nI hd)), (3, .int am), (2, .int kd), (1, .int x), (0, .ref h0)]) hx hb dX5_order_177 hl (by decide) rfl (fun ls hl => ?_)
                                refine lv_iload hx hb dX5_order_179 (lv_at hl 0 rfl) ?_
                                refine lv_if_le (tgt := 193) hx hb dX5_order_181 (by decide) (fun c_78 => ?_) (fun c_78 => ?_)
                                · have hz0 : ¬ 0 < ptN (nn x) ev rm i := by rw [ept]; intro h9; exact absurd ((nI_leI (b := 0) (by omega) (by decide)).mp c_78) (by omega)
                                  have e9 : sOrd a (nn x) (nn kd) ev rm (i + 1) = sOrd a (nn x) (nn kd) ev rm i := by rw [sOrd_step, if_neg (fun h9 => hz0 h9.2)]
                                  refine lv_iinc (v := nI (cntB (nn x) i + 1)) (lv' := [(8, .int (nI (cntB (nn x) i + 1))), (10, .int (nI (ev))), (9, .int (nI i)), (6, .int (nI (min hd (nn am)))), (5, .int (nI hd)), (3, .int am), (2, .int kd), (1, .int x), (0, .ref h0)]) hx hb dX5_order_193 hl (k := 2) rfl (nI_1 _) (by decide) rfl (fun ls hl => ?_)
                                  refine lv_iinc (v := nI (i + 1)) (lv' := [(9, .int (nI (i + 1))), (8, .int (nI (cntB (nn x) i + 1))), (10, .int (nI (ev))), (6, .int (nI (min hd (nn am)))), (5, .int (nI hd)), (3, .int am), (2, .int kd), (1, .int x), (0, .ref h0)]) hx hb dX5_order_196 hl (k := 2) rfl (nI_1 i) (by decide) rfl (fun ls hl => ?_)
                                  refine lv_goto (tgt := 141) hx hb dX5_order_199 (by decide) ?_
                                  rw [← e9] at hP hD
                                  rw [← ecb] at hl
                                  exact ih (k9 - 1) H locs ls (by omega) ⟨i + 1, by omega, hP, hD, hS, lv_sub hl [0, 1, 3, 4, 5, 6, 7, 8] rfl⟩
                                · have hz0 : 0 < ptN (nn x) ev rm i := by rw [ept]; exact Nat.lt_of_not_le (fun h9 => c_78 ((nI_leI (b := 0) (by omega) (by decide)).mpr h9))
                                  have e9 : sOrd a (nn x) (nn kd) ev rm (i + 1) = sSettle (sOrd a (nn x) (nn kd) ev rm i) i (nn kd) (nI (ev)) := by rw [sOrd_step, if_pos ⟨hbit, hz0⟩, ept]
                                  have hroom2 : nn (a 0 3) + cntP (nn x) ev rm (i + 1) ≤ 100 := Nat.le_trans (Nat.add_le_add_left (cntP_up (nn x) ev rm (show i + 1 ≤ 8 by omega)) _) hcp
                                  have ecp : cntP (nn x) ev rm (i + 1) = cntP (nn x) ev rm i + 1 := by show cntP (nn x) ev rm i + _ = _; rw [if_pos ⟨hbit, hz0⟩]
                                  refine lv_aload_n hx hb dX5_order_184 rfl (lv_at hl 8 rfl) ?_
                                  refine lv_iload hx hb dX5_order_185 (lv_at hl 1 rfl) ?_
                                  refine lv_iload_n hx hb dX5_order_187 rfl (lv_at hl 6 rfl) ?_
                                  refine y_topi (y := nI (nn kd)) hkd1.1 ?_
                                  refine lv_iload hx hb dX5_order_188 (lv_at hl 0 rfl) ?_
                                  have hFc := y_free hD hS hA
                                  refine va_callv (va_runV (As := [.int (nI i), .int (nI (nn kd)), .int (nI (ev))]) (rest := []) ⟨hx, hb, hml, hown, hts⟩ (c_X5_settles l dC dI cI cF cZ h0 q H.size (sOrd a (nn x) (nn kd) ev rm i) 0 hBi i (nn kd) (ev) hik (Nat.lt_succ_of_le hkd1.2) (by omega) (by omega) (by omega)) (cwV 3 hts gX5_order_X5_settles rfl rfl rfl (by decide +kernel) ⟨Nat.le_of_ble_eq_true rfl, Nat.le_of_ble_eq_true rfl⟩) ⟨pcW_blind, va_recv hK hP (ci := 5) (q0 := 0) rfl rfl, fun U hU hW => pcW_pre hP hD hK hU hW⟩ rfl rfl hl.1 rfl (lv_room (Nat.le_of_ble_eq_true rfl)) dX5_order_190 ⟨Nat.zero_le _, Nat.zero_le _⟩) hS (fun q _ h => hFc q h) hFc (fun u t H1 locs ht hvm hw hB1 hz1 hk1 hS => ?_)
                                  obtain ⟨hP, hK1, hD1⟩ := hB1
                                  rw [ht] at hP
                                  have hD := hD1.weaken (fun kk qq _ h => hFc qq.1 h)
                                  generalize H1 = H at hP hS ⊢
                                  have hP : va_P (dC, dI) vwCl (WM cI cF cZ h0 q (sSettle (sOrd a (nn x) (nn kd) ev rm i) i (nn kd) (nI (ev))) 0) H := hP
                                  have hD : va_D A (WM cI cF cZ h0 q (sSettle (sOrd a (nn x) (nn kd) ev rm i) i (nn kd) (nI (ev))) 0) := hD
                                  refine lv_iinc (v := nI (cntB (nn x) i + 1)) (lv' := [(8, .int (nI (cntB (nn x) i + 1))), (10, .int (nI (ev))), (9, .int (nI i)), (6, .int (nI (min hd (nn am)))), (5, .int (nI hd)), (3, .int am), (2, .int kd), (1, .int x), (0, .ref h0)]) hx hb dX5_order_193 hl (k := 2) rfl (nI_1 _) (by decide) rfl (fun ls hl => ?_)
                                  refine lv_iinc (v := nI (i + 1)) (lv' := [(9, .int (nI (i + 1))), (8, .int (nI (cntB (nn x) i + 1))), (10, .int (nI (ev))), (6, .int (nI (min hd (nn am)))), (5, .int (nI hd)), (3, .int am), (2, .int kd), (1, .int x), (0, .ref h0)]) hx hb dX5_order_196 hl (k := 2) rfl (nI_1 i) (by decide) rfl (fun ls hl => ?_)
                                  refine lv_goto (tgt := 141) hx hb dX5_order_199 (by decide) ?_
                                  rw [← e9] at hP hD
                                  rw [← ecb] at hl
                                  exact ih (k9 - 1) H locs ls (by omega) ⟨i + 1, by omega, hP, hD, hS, lv_sub hl [0, 1, 3, 4, 5, 6, 7, 8] rfl⟩
                              · have hrr : cntB (nn x) i < rm := Nat.lt_of_not_le (fun h9 => c_77 ((nI_leI (a := rm) (b := cntB (nn x) i) (by omega) (by omega)).mpr h9))
                                have hev1 := hdv2 (by omega)
                                refine lv_iconst (v := 1) hx hb dX5_order_171 (by decide) ?_
                                refine lv_goto (tgt := 176) hx hb dX5_order_172 (by decide) ?_
                                refine lv_iadd hx hb dX5_order_176 ?_
                                refine y_topi (y := nI (ev + 1)) (by first | exact nI_1 ev | exact Int32.add_zero _) ?_
                                have ept : ptN (nn x) ev rm i = ev + 1 := if_pos hrr
                                refine lv_istore (lv' := [(10, .int (nI (ev + 1))), (9, .int (nI i)), (8, .int (nI (cntB (nn x) i))), (6, .int (nI (min hd (nn am)))), (5, .int (nI hd)), (3, .int am), (2, .int kd), (1, .int x), (0, .ref h0)]) hx hb dX5_order_177 hl (by decide) rfl (fun ls hl => ?_)
                                refine lv_iload hx hb dX5_order_179 (lv_at hl 0 rfl) ?_
                                refine lv_if_le (tgt := 193) hx hb dX5_order_181 (by decide) (fun c_79 => ?_) (fun c_79 => ?_)
                                · have hz0 : ¬ 0 < ptN (nn x) ev rm i := by rw [ept]; intro h9; exact absurd ((nI_leI (b := 0) (by omega) (by decide)).mp c_79) (by omega)
                                  have e9 : sOrd a (nn x) (nn kd) ev rm (i + 1) = sOrd a (nn x) (nn kd) ev rm i := by rw [sOrd_step, if_neg (fun h9 => hz0 h9.2)]
                                  refine lv_iinc (v := nI (cntB (nn x) i + 1)) (lv' := [(8, .int (nI (cntB (nn x) i + 1))), (10, .int (nI (ev + 1))), (9, .int (nI i)), (6, .int (nI (min hd (nn am)))), (5, .int (nI hd)), (3, .int am), (2, .int kd), (1, .int x), (0, .ref h0)]) hx hb dX5_order_193 hl (k := 2) rfl (nI_1 _) (by decide) rfl (fun ls hl => ?_)
                                  refine lv_iinc (v := nI (i + 1)) (lv' := [(9, .int (nI (i + 1))), (8, .int (nI (cntB (nn x) i + 1))), (10, .int (nI (ev + 1))), (6, .int (nI (min hd (nn am)))), (5, .int (nI hd)), (3, .int am), (2, .int kd), (1, .int x), (0, .ref h0)]) hx hb dX5_order_196 hl (k := 2) rfl (nI_1 i) (by decide) rfl (fun ls hl => ?_)
                                  refine lv_goto (tgt := 141) hx hb dX5_order_199 (by decide) ?_
                                  rw [← e9] at hP hD
                                  rw [← ecb] at hl
                                  exact ih (k9 - 1) H locs ls (by omega) ⟨i + 1, by omega, hP, hD, hS, lv_sub hl [0, 1, 3, 4, 5, 6, 7, 8] rfl⟩
                                · have hz0 : 0 < ptN (nn x) ev rm i := by rw [ept]; exact Nat.lt_of_not_le (fun h9 => c_79 ((nI_leI (b := 0) (by omega) (by decide)).mpr h9))
                                  have e9 : sOrd a (nn x) (nn kd) ev rm (i + 1) = sSettle (sOrd a (nn x) (nn kd) ev rm i) i (nn kd) (nI (ev + 1)) := by rw [sOrd_step, if_pos ⟨hbit, hz0⟩, ept]
                                  have hroom2 : nn (a 0 3) + cntP (nn x) ev rm (i + 1) ≤ 100 := Nat.le_trans (Nat.add_le_add_left (cntP_up (nn x) ev rm (show i + 1 ≤ 8 by omega)) _) hcp
                                  have ecp : cntP (nn x) ev rm (i + 1) = cntP (nn x) ev rm i + 1 := by show cntP (nn x) ev rm i + _ = _; rw [if_pos ⟨hbit, hz0⟩]
                                  refine lv_aload_n hx hb dX5_order_184 rfl (lv_at hl 8 rfl) ?_
                                  refine lv_iload hx hb dX5_order_185 (lv_at hl 1 rfl) ?_
                                  refine lv_iload_n hx hb dX5_order_187 rfl (lv_at hl 6 rfl) ?_
                                  refine y_topi (y := nI (nn kd)) hkd1.1 ?_
                                  refine lv_iload hx hb dX5_order_188 (lv_at hl 0 rfl) ?_
                                  have hFc := y_free hD hS hA
                                  refine va_callv (va_runV (As := [.int (nI i), .int (nI (nn kd)), .int (nI (ev + 1))]) (rest := []) ⟨hx, hb, hml, hown, hts⟩ (c_X5_settles l dC dI cI cF cZ h0 q H.size (sOrd a (nn x) (nn kd) ev rm i) 0 hBi i (nn kd) (ev + 1) hik (Nat.lt_succ_of_le hkd1.2) (by omega) (by omega) (by omega)) (cwV 3 hts gX5_order_X5_settles rfl rfl rfl (by decide +kernel) ⟨Nat.le_of_ble_eq_true rfl, Nat.le_of_ble_eq_true rfl⟩) ⟨pcW_blind, va_recv hK hP (ci := 5) (q0 := 0) rfl rfl, fun U hU hW => pcW_pre hP hD hK hU hW⟩ rfl rfl hl.1 rfl (lv_room (Nat.le_of_ble_eq_true rfl)) dX5_order_190 ⟨Nat.zero_le _, Nat.zero_le _⟩) hS (fun q _ h => hFc q h) hFc (fun u t H1 locs ht hvm hw hB1 hz1 hk1 hS => ?_)
                                  obtain ⟨hP, hK1, hD1⟩ := hB1
                                  rw [ht] at hP
                                  have hD := hD1.weaken (fun kk qq _ h => hFc qq.1 h)
                                  generalize H1 = H at hP hS ⊢
                                  have hP : va_P (dC, dI) vwCl (WM cI cF cZ h0 q (sSettle (sOrd a (nn x) (nn kd) ev rm i) i (nn kd) (nI (ev + 1))) 0) H := hP
                                  have hD : va_D A (WM cI cF cZ h0 q (sSettle (sOrd a (nn x) (nn kd) ev rm i) i (nn kd) (nI (ev + 1))) 0) := hD
                                  refine lv_iinc (v := nI (cntB (nn x) i + 1)) (lv' := [(8, .int (nI (cntB (nn x) i + 1))), (10, .int (nI (ev + 1))), (9, .int (nI i)), (6, .int (nI (min hd (nn am)))), (5, .int (nI hd)), (3, .int am), (2, .int kd), (1, .int x), (0, .ref h0)]) hx hb dX5_order_193 hl (k := 2) rfl (nI_1 _) (by decide) rfl (fun ls hl => ?_)
                                  refine lv_iinc (v := nI (i + 1)) (lv' := [(9, .int (nI (i + 1))), (8, .int (nI (cntB (nn x) i + 1))), (10, .int (nI (ev + 1))), (6, .int (nI (min hd (nn am)))), (5, .int (nI hd)), (3, .int am), (2, .int kd), (1, .int x), (0, .ref h0)]) hx hb dX5_order_196 hl (k := 2) rfl (nI_1 i) (by decide) rfl (fun ls hl => ?_)
                                  refine lv_goto (tgt := 141) hx hb dX5_order_199 (by decide) ?_
                                  rw [← e9] at hP hD
                                  rw [← ecb] at hl
                                  exact ih (k9 - 1) H locs ls (by omega) ⟨i + 1, by omega, hP, hD, hS, lv_sub hl [0, 1, 3, 4, 5, 6, 7, 8] rfl⟩
                        · exact absurd c_74 (by decide)
                    · exact absurd c_71 (by decide)
                  · have hc_70 : ¬ (bw kd 0 3) := bI_f c_70
                    have e1 : kOrd a x kd am = 1 := if_neg hc_70
                    refine lv_iconst (v := 1) hx hb dX5_order_104 (by decide) ?_
                    refine lv_goto (tgt := 127) hx hb dX5_order_105 (by decide) ?_
                    have hFc := y_free hD hS hA
                    refine va_calli (va_runV (As := [.int 1]) (rest := []) ⟨hx, hb, hml, hown, hts⟩ (c_X5_holds l dC dI cI cF cZ h0 q H.size a th hB 1) (cwV 1 hts gX5_order_X5_holds rfl rfl rfl (by decide +kernel) ⟨Nat.le_of_ble_eq_true rfl, Nat.le_of_ble_eq_true rfl⟩) ⟨pcW_blind, va_recv hK hP (ci := 5) (q0 := 0) rfl rfl, fun U hU hW => pcW_pre hP hD hK hU hW⟩ rfl rfl hl.1 rfl (lv_room (Nat.le_of_ble_eq_true rfl)) dX5_order_127 ⟨Nat.zero_le _, Nat.zero_le _⟩) hS (fun q _ h => hFc q h) hFc (fun r u t H1 locs ht hvm hw hB1 hz1 hk1 hS => ?_)
                    obtain ⟨hP, hK1, hD1⟩ := hB1
                    rw [ht] at hP
                    have hD := hD1.weaken (fun kk qq _ h => hFc qq.1 h)
                    generalize H1 = H at hP hS ⊢
                    have hP : va_P (dC, dI) vwCl (WM cI cF cZ h0 q a 1) H := hP
                    have hD : va_D A (WM cI cF cZ h0 q a 1) := hD
                    have hw80 := hw
                    refine y_topi (y := 0) (hw80.trans (if_neg (by decide))) ?_
                    refine lv_if_ne (tgt := 135) hx hb dX5_order_130 (by decide) (fun c_81 => ?_) (fun c_81 => ?_)
                    · exact absurd c_81 (by decide)
                    · refine lv_iconst (v := 0) hx hb dX5_order_133 (by decide) ?_
                      have hP9 := hP
                      have hD9 := hD
                      have hK9 := hK
                      exact W.iret (v := 0) hx hb hr (fun t ht hW => ⟨⟨0, (), rfl, (fun h9 => absurd (e1.symm.trans h9) (by decide)), (by rw [e1]; exact atW_end hP9 hD9 hK9 ht hW)⟩, hS.F ht⟩) hS.2.2 dX5_order_134
