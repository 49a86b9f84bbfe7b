/-- behind the last payout the rows of payouts are empty -/
def okZ (a : yA) : Prop := ∀ i, nn (a 0 4) ≤ i → a 20 i = 0 ∧ a 19 i = 0 ∧ a 21 i = 0
theorem okZ_ent {a : yA} (h : okZ a) (hB : okB a) (z : Nat) (cv : Int32) : okZ (sEnt a z cv) := by
  intro i hi
  rw [sEnt_04, nn_inc (hB 0 4 1024 rfl) (by omega)] at hi
  obtain ⟨h1, h2, h3⟩ := h i (by omega)
  have hne : i ≠ nn (a 0 4) := by omega
  refine ⟨?_, ?_, ?_⟩
  · show put (put (put a 20 (nn (a 0 4)) (nI z)) 19 (nn (a 0 4)) cv) 0 4 (a 0 4 + 1) 20 i = 0
    rw [put_oth _ _ _ (by decide), put_oth _ _ _ (by decide), put_ne _ _ _ hne, h1]
  · show put (put (put a 20 (nn (a 0 4)) (nI z)) 19 (nn (a 0 4)) cv) 0 4 (a 0 4 + 1) 19 i = 0
    rw [put_oth _ _ _ (by decide), put_ne _ _ _ hne, put_oth _ _ _ (by decide), h2]
  · show put (put (put a 20 (nn (a 0 4)) (nI z)) 19 (nn (a 0 4)) cv) 0 4 (a 0 4 + 1) 21 i = 0
    rw [put_oth _ _ _ (by decide), put_oth _ _ _ (by decide), put_oth _ _ _ (by decide), h3]
theorem okZ_of {a b : yA} (h : okZ a) (h0 : b 0 4 = a 0 4) (h1 : b 20 = a 20) (h2 : b 19 = a 19) (h3 : b 21 = a 21) : okZ b := by
  intro i hi
  rw [h0] at hi
  rw [h1, h2, h3]
  exact h i hi
theorem okZ_payC {a : yA} (h : okZ a) (hB : okB a) (z : Nat) (cv : Int32) : okZ (sPayC a z cv) := by
  refine okZ_of (okZ_ent h hB z cv) ?_ ?_ ?_ ?_ <;> (unfold sPayC; rw [sPost_oth _ _ _ (by decide), put_oth _ _ _ (by decide)])
theorem okZ_pay {a : yA} (h : okZ a) (hB : okB a) (z : Nat) : okZ (sPay a z) := by
  unfold sPay
  split
  · exact okZ_payC h hB _ _
  · exact h
theorem okZ_pays {a : yA} (h : okZ a) (hB : okB a) : ∀ n, n ≤ 8 → payOK a n → okZ (sPays a n) := by
  intro n
  induction n with
  | zero => exact fun _ _ => h
  | succ n ih =>
    intro hn hp
    have h1 := ih (by omega) (fun z hz => hp z (by omega))
    show okZ (if _ then _ else _)
    split
    · exact okZ_pay h1 (okB_pays hB n (by omega) (fun z hz => hp z (by omega))).1 _
    · exact h1
theorem okZ_D3 {a : yA} (h : okZ a) : okZ (sD3 a) := okZ_of h (by rw [sD3_oth a (by decide) (by decide)]) (sD3_oth a (by decide) (by decide)) (sD3_oth a (by decide) (by decide)) (sD3_oth a (by decide) (by decide))
theorem okZ_day {a : yA} (h : okZ a) (hB : okB a) (hd : payOK (sD3 a) (nn (a 0 0))) : okZ (sDay a) := by
  refine okZ_of (okZ_pays (okZ_D3 h) (okB_D3 hB) (nn (a 0 0)) (hB 0 0 8 rfl).2 hd) ?_ ?_ ?_ ?_ <;> (rw [sDay_eq]; unfold sNext sD4)
  · rw [put_ne _ _ _ (by decide)]
  · rw [put_oth _ _ _ (by decide)]
  · rw [put_oth _ _ _ (by decide)]
  · rw [put_oth _ _ _ (by decide)]
/-- what the class's rows of payouts cost on the way from a to b -/
def mcP (a b : yA) : Nat := capOf (nn (b 0 4)) - capOf (nn (a 0 4))
theorem mcP_le {a b : yA} : mcP a b ≤ 1024 := by
  unfold mcP
  have := capOf_le (nn (b 0 4))
  omega
theorem mcP_add {a b d : yA} (h : nn (a 0 4) ≤ nn (b 0 4)) (h2 : nn (b 0 4) ≤ nn (d 0 4)) : mcP a b + mcP b d = mcP a d := by
  unfold mcP
  have := capOf_mono h
  have := capOf_mono h2
  omega
set_option maxHeartbeats 4000000 in
set_option maxRecDepth 100000 in
theorem c_X4_payIfDue (l : Launch) (dC : Nat → ClassId) (dI : Nat → Nat → Nat) (cI cF : ClassId) (h0 : Nat) (q : Nat → Nat) (sz : Nat) (a : yA) (jc js jv : Nat → Int32) (k : Nat) (hC : okC a jc js jv k) (hB : okB a) (hZ : okZ a) (z : Nat) (hz : z < 8) (hpay : 0 < sDue a z → nn (a 0 4) + 1 ≤ 1024) : Met l yX4_payIfDue wsX4_payIfDue ({ frames := 5, cells := mcP a (sPay a z), slots := mcP a (sPay a z) * 6, locals := 105 } : Room) (va_Pc [.ref h0, .int (nI z)] (pcW dC dI [(cI, .int), (cF, .float)] (WC cI cF h0 q a jc js jv k (capOf (nn (a 0 4)))) sz)) (va_Qv (fun _ : Unit => True) (fun _ t => atC dC dI cI cF (va_A (WC cI cF h0 q a jc js jv k (capOf (nn (a 0 4)))) sz) h0 (sPay a z) t) (va_A (WC cI cF h0 q a jc js jv k (capOf (nn (a 0 4)))) sz)) (mcP a (sPay a z)) (mcP a (sPay a z) * 6) (va_A (WC cI cF h0 q a jc js jv k (capOf (nn (a 0 4)))) sz) := by
  refine Met.ofW (cc := cX4_payIfDue) (maxL := 3) (ret := none) (by decide) rfl ?_
  intro p e s m args below meth c s₁ B hml hv
  obtain ⟨rfl, hsz, hP, hK, hD0⟩ := hv
  have hx := B.exec
  have hb := B.bytes
  have hr := B.returns
  have hts := atoms_spec (ws := wsX4_payIfDue) B.pre
  have hown : s.vm.findClass RX4 = some m.cls := findClass_of_methodNamed B.named
  have hlocks := B.notSynchronized
  subst hsz
  have hD := hD0.self (sz := s.heap.size)
  generalize hAe : va_A [(h0, .inr (4, [.ref (q 1), .ref (q 10), .ref (q 18), .ref (q 22), .ref (q 26), .int (a 0 2), .int (a 0 1), .int (a 0 5), .int (a 0 6), .int (a 0 7), .int (a 0 8)])), (q 1, .inr (3, [.ref (q 2), .ref (q 3), .ref (q 4), .ref (q 5), .ref (q 6), .ref (q 7), .ref (q 8), .ref (q 9), .int (a 0 0)])), (q 2, .inl (cI, 8, .inl (a 1))), (q 3, .inl (cI, 8, .inl (a 2))), (q 4, .inl (cI, 8, .inl (a 3))), (q 5, .inl (cI, 8, .inl (a 4))), (q 6, .inl (cI, 8, .inl (a 5))), (q 7, .inl (cI, 8, .inl (a 6))), (q 8, .inl (cI, 8, .inl (a 7))), (q 9, .inl (cI, 8, .inl (a 8))), (q 10, .inr (2, [.ref (q 11), .ref (q 12), .ref (q 13), .ref (q 14), .ref (q 15), .ref (q 16), .ref (q 17), .int (a 0 3)])), (q 11, .inl (cI, 100, .inl (a 10))), (q 12, .inl (cF, 100, .inr (.inr (.inl (fun j => shF (a 13 j)))))), (q 13, .inl (cI, 100, .inl (a 14))), (q 14, .inl (cI, 100, .inl (fun j => a 11 j - a 12 j))), (q 15, .inl (cI, 100, .inl (fun j => a 15 j - a 16 j))), (q 16, .inl (cI, 100, .inl (a 17))), (q 17, .inl (cI, 100, .inl (a 18))), (q 18, .inr (1, [.ref (q 19), .ref (q 20), .ref (q 21), .int (a 0 4)])), (q 19, .inl (cI, capOf (nn (a 0 4)), .inl (a 20))), (q 20, .inl (cI, capOf (nn (a 0 4)), .inl (a 19))), (q 21, .inl (cI, capOf (nn (a 0 4)), .inl (a 21))), (q 22, .inr (0, [.ref (q 23), .ref (q 24), .ref (q 25), .int (nI k)])), (q 23, .inl (cI, 8, .inl (jc))), (q 24, .inl (cI, 256, .inl (js))), (q 25, .inl (cI, 256, .inl (jv))), (q 26, .inl (cF, 4, .inr (.inr (.inl (fun j => shF (a 9 j))))))] s.heap.size = A at hD ⊢
  have hA : ∀ q : Nat, s.heap.size ≤ q → A q := fun q h => by rw [← hAe]; exact Or.inr h
  have hS : va_S A s.heap s.heap [] := va_S.rf
  have hl := lv_entry ([.ref h0, .int (nI z)]) (n := 3) (Nat.le_of_ble_eq_true rfl)
  rw [lg_entry_eq]
  generalize (lg_sl ([.ref h0, .int (nI z)]) ++ List.replicate (3 - (lg_sl ([.ref h0, .int (nI z)])).length) Slot.unset).toArray = ls at hl ⊢
  have hl : lv_has ls 3 [(0, .ref h0), (1, .int (nI z))] := hl
  have hiX4 : ∀ w ∈ wsX40, w ∈ wsX4_payIfDue := fun w h => List.mem_cons_of_mem _ (List.mem_append_left _ (List.mem_append_left _ (List.mem_append_left _ (List.mem_append_right _ h))))
  have hiX3 : ∀ w ∈ wsX30, w ∈ wsX4_payIfDue := fun w h => List.mem_cons_of_mem _ (List.mem_append_left _ (List.mem_append_left _ (List.mem_append_right _ h)))
  have hiX1 : ∀ w ∈ wsX10, w ∈ wsX4_payIfDue := fun w h => List.mem_cons_of_mem _ (List.mem_append_left _ (List.mem_append_right _ h))
  have hP : va_P (dC, dI) vwCl [(h0, .inr (4, [.ref (q 1), .ref (q 10), .ref (q 18), .ref (q 22), .ref (q 26), .int (a 0 2), .int (a 0 1), .int (a 0 5), .int (a 0 6), .int (a 0 7), .int (a 0 8)])), (q 1, .inr (3, [.ref (q 2), .ref (q 3), .ref (q 4), .ref (q 5), .ref (q 6), .ref (q 7), .ref (q 8), .ref (q 9), .int (a 0 0)])), (q 2, .inl (cI, 8, .inl (a 1))), (q 3, .inl (cI, 8, .inl (a 2))), (q 4, .inl (cI, 8, .inl (a 3))), (q 5, .inl (cI, 8, .inl (a 4))), (q 6, .inl (cI, 8, .inl (a 5))), (q 7, .inl (cI, 8, .inl (a 6))), (q 8, .inl (cI, 8, .inl (a 7))), (q 9, .inl (cI, 8, .inl (a 8))), (q 10, .inr (2, [.ref (q 11), .ref (q 12), .ref (q 13), .ref (q 14), .ref (q 15), .ref (q 16), .ref (q 17), .int (a 0 3)])), (q 11, .inl (cI, 100, .inl (a 10))), (q 12, .inl (cF, 100, .inr (.inr (.inl (fun j => shF (a 13 j)))))), (q 13, .inl (cI, 100, .inl (a 14))), (q 14, .inl (cI, 100, .inl (fun j => a 11 j - a 12 j))), (q 15, .inl (cI, 100, .inl (fun j => a 15 j - a 16 j))), (q 16, .inl (cI, 100, .inl (a 17))), (q 17, .inl (cI, 100, .inl (a 18))), (q 18, .inr (1, [.ref (q 19), .ref (q 20), .ref (q 21), .int (a 0 4)])), (q 19, .inl (cI, capOf (nn (a 0 4)), .inl (a 20))), (q 20, .inl (cI, capOf (nn (a 0 4)), .inl (a 19))), (q 21, .inl (cI, capOf (nn (a 0 4)), .inl (a 21))), (q 22, .inr (0, [.ref (q 23), .ref (q 24), .ref (q 25), .int (nI k)])), (q 23, .inl (cI, 8, .inl (jc))), (q 24, .inl (cI, 256, .inl (js))), (q 25, .inl (cI, 256, .inl (jv))), (q 26, .inl (cF, 4, .inr (.inr (.inl (fun j => shF (a 9 j))))))] s.heap := hP
  refine y_enter (A := A) hP (fun H hP hS => ?_)
  refine lv_aload_n hx hb dX4_payIfDue_0 rfl (lv_at hl 0 rfl) ?_
  refine lv_iload_n hx hb dX4_payIfDue_1 rfl (lv_at hl 1 rfl) ?_
  have hFc := y_free hD hS hA
  refine va_calli (va_runV (As := [.int (nI z)]) (rest := []) ⟨hx, hb, hml, hown, hts⟩ (c_X4_dueTo l dC dI cI cF h0 q H.size a jc js jv k hC hB z hz) (cwV 1 hts gX4_payIfDue_X4_dueTo rfl rfl rfl (by decide +kernel) ⟨Nat.le_of_ble_eq_true rfl, Nat.le_of_ble_eq_true rfl⟩) ⟨pcW_blind, va_recv hK hP (ci := 4) (q0 := 0) rfl rfl, fun U hU hW => pcW_pre hP hD hK hU hW⟩ rfl rfl hl.1 rfl (lv_room (Nat.le_of_ble_eq_true rfl)) dX4_payIfDue_2 ⟨(Nat.zero_le _), (Nat.zero_le _)⟩) hS (fun q _ h => hFc q h) hFc (fun r u t H1 locs ht hvm hw hB1 hz1 hk1 hS => ?_)
  obtain ⟨q1, jc1, js1, jv1, k1, hC1, hP, hK1, hD1⟩ := hB1
  rw [ht] at hP
  have hD := hD1.weaken (fun kk qq _ h => hFc qq.1 h)
  generalize H1 = H at hP hS ⊢
  have hC1 : okC (a) jc1 js1 jv1 k1 := hC1
  have hP : va_P (dC, dI) vwCl (WC cI cF h0 q1 a jc1 js1 jv1 k1 (capOf (nn (a 0 4)))) H := hP
  have hD : va_D A (WC cI cF h0 q1 a jc1 js1 jv1 k1 (capOf (nn (a 0 4)))) := hD
  refine y_topi (y := sDue a z) hw ?_
  refine lv_istore_n (lv' := [(2, .int (sDue a z)), (0, .ref h0), (1, .int (nI z))]) hx hb dX4_payIfDue_5 rfl hl (by decide) rfl (fun ls hl => ?_)
  refine lv_iload_n hx hb dX4_payIfDue_6 rfl (lv_at hl 0 rfl) ?_
  refine lv_if_le (tgt := 42) hx hb dX4_payIfDue_7 (by decide) (fun c_2 => ?_) (fun c_2 => ?_)
  · have e9 : sPay a z = a := if_neg (Int32.not_lt.mpr c_2)
    refine W.widen (k := mcP a (sPay a z)) (n := mcP a (sPay a z) * 6) (Nat.zero_le _) (Nat.zero_le _) ?_
    rw [← e9] at hP hD hC1
    have hP9 := hP
    have hD9 := hD
    have hK9 := hK
    exact W.vret hx hb hr (fun t ht hW => ⟨⟨(), rfl, trivial, atC_in hC1 (atW_end hP9 hD9 hK9 ht hW)⟩, hS.F ht⟩) hS.2.2 dX4_payIfDue_42
  · have hdue := Int32.not_le.mp c_2
    have e9 : sPay a z = sPayC a z (sDue a z) := if_pos hdue
    have hm := hpay hdue
    have e4 := (hB 0 4 1024 rfl).1
    have e5 : nn (a 0 4) + 1 = nn (sEnt a z (sDue a z) 0 4) := by rw [sEnt_04, nn_inc (hB 0 4 1024 rfl) (by omega)]
    have e6 : mcP a (sPay a z) = capOf (nn (a 0 4) + 1) - capOf (nn (a 0 4)) := by rw [e9]; unfold mcP; rw [sPayC_04, nn_inc (hB 0 4 1024 rfl) (by omega)]
    refine lv_aload_n hx hb dX4_payIfDue_10 rfl (lv_at hl 1 rfl) ?_
    refine va_get (D := (dC, dI)) (ci := 4) (v := .ref (q1 18)) (C := RX4) (T := TX4) (N := 11) hx hb hts hiX4 hown hK hP 0 rfl rfl 2 (by decide) (hts (.fieldLink RX4 26 "Payoutnet" "paidOut" "LPayoutnet$Payouts;") (List.mem_of_getElem? (i := 1) rfl)) (fun _ h9 => h9) rfl dX4_payIfDue_11 ?_
    refine lv_iload_n hx hb dX4_payIfDue_14 rfl (lv_at hl 2 rfl) ?_
    refine lv_iload_n hx hb dX4_payIfDue_15 rfl (lv_at hl 0 rfl) ?_
    have hPc := hP.sub (ws' := [(q1 18, .inr (1, [.ref (q1 19), .ref (q1 20), .ref (q1 21), .int (a 0 4)])), (q1 19, .inl (cI, capOf (nn (a 0 4)), .inl (a 20))), (q1 20, .inl (cI, capOf (nn (a 0 4)), .inl (a 19))), (q1 21, .inl (cI, capOf (nn (a 0 4)), .inl (a 21)))]) [18, 19, 20, 21] rfl
    have hDc := hD.sub (ws' := [(q1 18, .inr (1, [.ref (q1 19), .ref (q1 20), .ref (q1 21), .int (a 0 4)])), (q1 19, .inl (cI, capOf (nn (a 0 4)), .inl (a 20))), (q1 20, .inl (cI, capOf (nn (a 0 4)), .inl (a 19))), (q1 21, .inl (cI, capOf (nn (a 0 4)), .inl (a 21)))]) [18, 19, 20, 21] (by decide) rfl
    have hFc := va_free (wc := [(q1 18, .inr (1, [.ref (q1 19), .ref (q1 20), .ref (q1 21), .int (a 0 4)])), (q1 19, .inl (cI, capOf (nn (a 0 4)), .inl (a 20))), (q1 20, .inl (cI, capOf (nn (a 0 4)), .inl (a 19))), (q1 21, .inl (cI, capOf (nn (a 0 4)), .inl (a 21)))]) hD hS hA [18, 19, 20, 21] rfl
    have hKc := hK.sub (tys' := [(cI, .int)]) [0] rfl
    refine va_calli (va_runV (As := [.int (nI z), .int (sDue a z)]) (rest := []) ⟨hx, hb, hml, hown, hts⟩ (c_X1_enter l dC dI cI (q1 18) (q1 19) (q1 20) (q1 21) H.size (a 20) (a 19) (a 21) (nn (a 0 4)) (capOf (nn (a 0 4))) z (sDue a z) (a 0 4) e4 hm rfl hZ) (cwV 2 hts gX4_payIfDue_X1_enter rfl rfl rfl (by decide +kernel) ⟨Nat.le_of_ble_eq_true rfl, Nat.le_of_ble_eq_true rfl⟩) ⟨pcW_blind, va_recv hKc hPc (ci := 1) (q0 := 0) rfl rfl, fun U hU hW => pcW_pre hPc hDc hKc hU hW⟩ rfl rfl hl.1 rfl (lv_room (Nat.le_of_ble_eq_true rfl)) dX4_payIfDue_16 ⟨(by show 0 + 0 + _ ≤ mcP a (sPay a z); omega), (by show 0 + 0 + _ ≤ mcP a (sPay a z) * 6; omega)⟩) hS (fun q _ h => hFc q h) hFc (fun r u t H1 locs ht hvm hw hB hz1 hk1 hS => ?_)
    obtain ⟨r1, r2, r3⟩ := u
    obtain ⟨hP1, hK1, hD1⟩ := hB
    rw [ht] at hP1
    obtain ⟨hP, hD⟩ := va_join (wr := [(h0, .inr (4, [.ref (q1 1), .ref (q1 10), .ref (q1 18), .ref (q1 22), .ref (q1 26), .int (a 0 2), .int (a 0 1), .int (a 0 5), .int (a 0 6), .int (a 0 7), .int (a 0 8)])), (q1 1, .inr (3, [.ref (q1 2), .ref (q1 3), .ref (q1 4), .ref (q1 5), .ref (q1 6), .ref (q1 7), .ref (q1 8), .ref (q1 9), .int (a 0 0)])), (q1 2, .inl (cI, 8, .inl (a 1))), (q1 3, .inl (cI, 8, .inl (a 2))), (q1 4, .inl (cI, 8, .inl (a 3))), (q1 5, .inl (cI, 8, .inl (a 4))), (q1 6, .inl (cI, 8, .inl (a 5))), (q1 7, .inl (cI, 8, .inl (a 6))), (q1 8, .inl (cI, 8, .inl (a 7))), (q1 9, .inl (cI, 8, .inl (a 8))), (q1 10, .inr (2, [.ref (q1 11), .ref (q1 12), .ref (q1 13), .ref (q1 14), .ref (q1 15), .ref (q1 16), .ref (q1 17), .int (a 0 3)])), (q1 11, .inl (cI, 100, .inl (a 10))), (q1 12, .inl (cF, 100, .inr (.inr (.inl (fun j => shF (a 13 j)))))), (q1 13, .inl (cI, 100, .inl (a 14))), (q1 14, .inl (cI, 100, .inl (fun j => a 11 j - a 12 j))), (q1 15, .inl (cI, 100, .inl (fun j => a 15 j - a 16 j))), (q1 16, .inl (cI, 100, .inl (a 17))), (q1 17, .inl (cI, 100, .inl (a 18))), (q1 22, .inr (0, [.ref (q1 23), .ref (q1 24), .ref (q1 25), .int (nI k1)])), (q1 23, .inl (cI, 8, .inl (jc1))), (q1 24, .inl (cI, 256, .inl (js1))), (q1 25, .inl (cI, 256, .inl (jv1))), (q1 26, .inl (cF, 4, .inr (.inr (.inl (fun j => shF (a 9 j))))))]) (w1 := [(q1 18, .inr (1, [.ref r1, .ref r2, .ref r3, .int (a 0 4 + 1)])), (r1, .inl (cI, (capOf (nn (a 0 4) + 1)), .inl (upd (a 20) (nn (a 0 4)) (nI z)))), (r2, .inl (cI, (capOf (nn (a 0 4) + 1)), .inl (upd (a 19) (nn (a 0 4)) (sDue a z)))), (r3, .inl (cI, (capOf (nn (a 0 4) + 1)), .inl (a 21)))]) hP hD [18, 19, 20, 21] [0, 1, 2, 3, 4, 5, 6, 7, 8, 9, 10, 11, 12, 13, 14, 15, 16, 17, 22, 23, 24, 25, 26] rfl rfl (by decide) (by decide) hk1 hFc hP1 hD1
    generalize H1 = H at hP hS ⊢
    have hP := hP.sub (ws' := [(h0, .inr (4, [.ref (q1 1), .ref (q1 10), .ref (q1 18), .ref (q1 22), .ref (q1 26), .int (a 0 2), .int (a 0 1), .int (a 0 5), .int (a 0 6), .int (a 0 7), .int (a 0 8)])), (q1 1, .inr (3, [.ref (q1 2), .ref (q1 3), .ref (q1 4), .ref (q1 5), .ref (q1 6), .ref (q1 7), .ref (q1 8), .ref (q1 9), .int (a 0 0)])), (q1 2, .inl (cI, 8, .inl (a 1))), (q1 3, .inl (cI, 8, .inl (a 2))), (q1 4, .inl (cI, 8, .inl (a 3))), (q1 5, .inl (cI, 8, .inl (a 4))), (q1 6, .inl (cI, 8, .inl (a 5))), (q1 7, .inl (cI, 8, .inl (a 6))), (q1 8, .inl (cI, 8, .inl (a 7))), (q1 9, .inl (cI, 8, .inl (a 8))), (q1 10, .inr (2, [.ref (q1 11), .ref (q1 12), .ref (q1 13), .ref (q1 14), .ref (q1 15), .ref (q1 16), .ref (q1 17), .int (a 0 3)])), (q1 11, .inl (cI, 100, .inl (a 10))), (q1 12, .inl (cF, 100, .inr (.inr (.inl (fun j => shF (a 13 j)))))), (q1 13, .inl (cI, 100, .inl (a 14))), (q1 14, .inl (cI, 100, .inl (fun j => a 11 j - a 12 j))), (q1 15, .inl (cI, 100, .inl (fun j => a 15 j - a 16 j))), (q1 16, .inl (cI, 100, .inl (a 17))), (q1 17, .inl (cI, 100, .inl (a 18))), (q1 18, .inr (1, [.ref r1, .ref r2, .ref r3, .int (a 0 4 + 1)])), (r1, .inl (cI, (capOf (nn (a 0 4) + 1)), .inl (upd (a 20) (nn (a 0 4)) (nI z)))), (r2, .inl (cI, (capOf (nn (a 0 4) + 1)), .inl (upd (a 19) (nn (a 0 4)) (sDue a z)))), (r3, .inl (cI, (capOf (nn (a 0 4) + 1)), .inl (a 21))), (q1 22, .inr (0, [.ref (q1 23), .ref (q1 24), .ref (q1 25), .int (nI k1)])), (q1 23, .inl (cI, 8, .inl (jc1))), (q1 24, .inl (cI, 256, .inl (js1))), (q1 25, .inl (cI, 256, .inl (jv1))), (q1 26, .inl (cF, 4, .inr (.inr (.inl (fun j => shF (a 9 j))))))]) [0, 1, 2, 3, 4, 5, 6, 7, 8, 9, 10, 11, 12, 13, 14, 15, 16, 17, 23, 24, 25, 26, 18, 19, 20, 21, 22] rfl
    have hD := hD.sub (ws' := [(h0, .inr (4, [.ref (q1 1), .ref (q1 10), .ref (q1 18), .ref (q1 22), .ref (q1 26), .int (a 0 2), .int (a 0 1), .int (a 0 5), .int (a 0 6), .int (a 0 7), .int (a 0 8)])), (q1 1, .inr (3, [.ref (q1 2), .ref (q1 3), .ref (q1 4), .ref (q1 5), .ref (q1 6), .ref (q1 7), .ref (q1 8), .ref (q1 9), .int (a 0 0)])), (q1 2, .inl (cI, 8, .inl (a 1))), (q1 3, .inl (cI, 8, .inl (a 2))), (q1 4, .inl (cI, 8, .inl (a 3))), (q1 5, .inl (cI, 8, .inl (a 4))), (q1 6, .inl (cI, 8, .inl (a 5))), (q1 7, .inl (cI, 8, .inl (a 6))), (q1 8, .inl (cI, 8, .inl (a 7))), (q1 9, .inl (cI, 8, .inl (a 8))), (q1 10, .inr (2, [.ref (q1 11), .ref (q1 12), .ref (q1 13), .ref (q1 14), .ref (q1 15), .ref (q1 16), .ref (q1 17), .int (a 0 3)])), (q1 11, .inl (cI, 100, .inl (a 10))), (q1 12, .inl (cF, 100, .inr (.inr (.inl (fun j => shF (a 13 j)))))), (q1 13, .inl (cI, 100, .inl (a 14))), (q1 14, .inl (cI, 100, .inl (fun j => a 11 j - a 12 j))), (q1 15, .inl (cI, 100, .inl (fun j => a 15 j - a 16 j))), (q1 16, .inl (cI, 100, .inl (a 17))), (q1 17, .inl (cI, 100, .inl (a 18))), (q1 18, .inr (1, [.ref r1, .ref r2, .ref r3, .int (a 0 4 + 1)])), (r1, .inl (cI, (capOf (nn (a 0 4) + 1)), .inl (upd (a 20) (nn (a 0 4)) (nI z)))), (r2, .inl (cI, (capOf (nn (a 0 4) + 1)), .inl (upd (a 19) (nn (a 0 4)) (sDue a z)))), (r3, .inl (cI, (capOf (nn (a 0 4) + 1)), .inl (a 21))), (q1 22, .inr (0, [.ref (q1 23), .ref (q1 24), .ref (q1 25), .int (nI k1)])), (q1 23, .inl (cI, 8, .inl (jc1))), (q1 24, .inl (cI, 256, .inl (js1))), (q1 25, .inl (cI, 256, .inl (jv1))), (q1 26, .inl (cF, 4, .inr (.inr (.inl (fun j => shF (a 9 j))))))]) [0, 1, 2, 3, 4, 5, 6, 7, 8, 9, 10, 11, 12, 13, 14, 15, 16, 17, 23, 24, 25, 26, 18, 19, 20, 21, 22] (by decide) rfl
    obtain ⟨q9, hP, hD⟩ : ∃ q9 : Nat → Nat, va_P (dC, dI) vwCl (WC cI cF h0 q9 (sEnt a z (sDue a z)) jc1 js1 jv1 k1 (capOf (nn (a 0 4) + 1))) H ∧ va_D A (WC cI cF h0 q9 (sEnt a z (sDue a z)) jc1 js1 jv1 k1 (capOf (nn (a 0 4) + 1))) := ⟨fun i => if i = 19 then r1 else if i = 20 then r2 else if i = 21 then r3 else q1 i, hP, hD⟩
    rw [e5] at hP hD
    refine y_topi (y := 1) hw ?_
    refine lv_if_eq (tgt := 42) hx hb dX4_payIfDue_19 (by decide) (fun c_3 => ?_) (fun c_3 => ?_)
    · exact absurd c_3 (by decide)
    · refine lv_aload_n hx hb dX4_payIfDue_22 rfl (lv_at hl 1 rfl) ?_
      refine va_get (D := (dC, dI)) (ci := 4) (v := .ref (q9 1)) (C := RX4) (T := TX4) (N := 11) hx hb hts hiX4 hown hK hP 0 rfl rfl 0 (by decide) (hts (.fieldLink RX4 10 "Payoutnet" "shops" "LPayoutnet$Shops;") (List.mem_of_getElem? (i := 2) rfl)) (fun _ h9 => h9) rfl dX4_payIfDue_23 ?_
      refine va_get (D := (dC, dI)) (ci := 3) (v := .ref (q9 9)) (C := RX3) (T := TX3) (N := 9) hx hb hts hiX3 hown hK hP 1 rfl rfl 7 (by decide) (hts (.fieldLink RX4 192 "Payoutnet$Shops" "paid" "[I") (List.mem_of_getElem? (i := 3) rfl)) (fun _ h9 => h9) rfl dX4_payIfDue_26 ?_
      refine lv_iload_n hx hb dX4_payIfDue_29 rfl (lv_at hl 2 rfl) ?_
      refine lv_dup2_11 hx hb dX4_payIfDue_30 rfl rfl ?_
      refine y_ild hx hb hK hP 9 0 rfl rfl (t := z) (by omega) (Nat.le_of_ble_eq_true rfl) dX4_payIfDue_31 ?_
      refine lv_iload_n hx hb dX4_payIfDue_32 rfl (lv_at hl 0 rfl) ?_
      refine lv_iadd hx hb dX4_payIfDue_33 ?_
      refine y_ist hx hb hK hP hD hS 9 0 rfl rfl (t := z) (by omega) (Nat.le_of_ble_eq_true rfl) dX4_payIfDue_34 (fun H locs hP hD hS => ?_)
      have hP : va_P (dC, dI) vwCl [(h0, .inr (4, [.ref (q9 1), .ref (q9 10), .ref (q9 18), .ref (q9 22), .ref (q9 26), .int ((sEnt a z (sDue a z)) 0 2), .int ((sEnt a z (sDue a z)) 0 1), .int ((sEnt a z (sDue a z)) 0 5), .int ((sEnt a z (sDue a z)) 0 6), .int ((sEnt a z (sDue a z)) 0 7), .int ((sEnt a z (sDue a z)) 0 8)])), (q9 1, .inr (3, [.ref (q9 2), .ref (q9 3), .ref (q9 4), .ref (q9 5), .ref (q9 6), .ref (q9 7), .ref (q9 8), .ref (q9 9), .int ((sEnt a z (sDue a z)) 0 0)])), (q9 2, .inl (cI, 8, .inl ((sEnt a z (sDue a z)) 1))), (q9 3, .inl (cI, 8, .inl ((sEnt a z (sDue a z)) 2))), (q9 4, .inl (cI, 8, .inl ((sEnt a z (sDue a z)) 3))), (q9 5, .inl (cI, 8, .inl ((sEnt a z (sDue a z)) 4))), (q9 6, .inl (cI, 8, .inl ((sEnt a z (sDue a z)) 5))), (q9 7, .inl (cI, 8, .inl ((sEnt a z (sDue a z)) 6))), (q9 8, .inl (cI, 8, .inl ((sEnt a z (sDue a z)) 7))), (q9 9, .inl (cI, 8, .inl (upd ((sEnt a z (sDue a z)) 8) z ((((sEnt a z (sDue a z)) 8) z) + (sDue a z))))), (q9 10, .inr (2, [.ref (q9 11), .ref (q9 12), .ref (q9 13), .ref (q9 14), .ref (q9 15), .ref (q9 16), .ref (q9 17), .int ((sEnt a z (sDue a z)) 0 3)])), (q9 11, .inl (cI, 100, .inl ((sEnt a z (sDue a z)) 10))), (q9 12, .inl (cF, 100, .inr (.inr (.inl (fun j => shF ((sEnt a z (sDue a z)) 13 j)))))), (q9 13, .inl (cI, 100, .inl ((sEnt a z (sDue a z)) 14))), (q9 14, .inl (cI, 100, .inl (fun j => (sEnt a z (sDue a z)) 11 j - (sEnt a z (sDue a z)) 12 j))), (q9 15, .inl (cI, 100, .inl (fun j => (sEnt a z (sDue a z)) 15 j - (sEnt a z (sDue a z)) 16 j))), (q9 16, .inl (cI, 100, .inl ((sEnt a z (sDue a z)) 17))), (q9 17, .inl (cI, 100, .inl ((sEnt a z (sDue a z)) 18))), (q9 18, .inr (1, [.ref (q9 19), .ref (q9 20), .ref (q9 21), .int ((sEnt a z (sDue a z)) 0 4)])), (q9 19, .inl (cI, capOf (nn ((sEnt a z (sDue a z)) 0 4)), .inl ((sEnt a z (sDue a z)) 20))), (q9 20, .inl (cI, capOf (nn ((sEnt a z (sDue a z)) 0 4)), .inl ((sEnt a z (sDue a z)) 19))), (q9 21, .inl (cI, capOf (nn ((sEnt a z (sDue a z)) 0 4)), .inl ((sEnt a z (sDue a z)) 21))), (q9 22, .inr (0, [.ref (q9 23), .ref (q9 24), .ref (q9 25), .int (nI k1)])), (q9 23, .inl (cI, 8, .inl (jc1))), (q9 24, .inl (cI, 256, .inl (js1))), (q9 25, .inl (cI, 256, .inl (jv1))), (q9 26, .inl (cF, 4, .inr (.inr (.inl (fun j => shF ((sEnt a z (sDue a z)) 9 j))))))] H := hP
      have hD : va_D A [(h0, .inr (4, [.ref (q9 1), .ref (q9 10), .ref (q9 18), .ref (q9 22), .ref (q9 26), .int ((sEnt a z (sDue a z)) 0 2), .int ((sEnt a z (sDue a z)) 0 1), .int ((sEnt a z (sDue a z)) 0 5), .int ((sEnt a z (sDue a z)) 0 6), .int ((sEnt a z (sDue a z)) 0 7), .int ((sEnt a z (sDue a z)) 0 8)])), (q9 1, .inr (3, [.ref (q9 2), .ref (q9 3), .ref (q9 4), .ref (q9 5), .ref (q9 6), .ref (q9 7), .ref (q9 8), .ref (q9 9), .int ((sEnt a z (sDue a z)) 0 0)])), (q9 2, .inl (cI, 8, .inl ((sEnt a z (sDue a z)) 1))), (q9 3, .inl (cI, 8, .inl ((sEnt a z (sDue a z)) 2))), (q9 4, .inl (cI, 8, .inl ((sEnt a z (sDue a z)) 3))), (q9 5, .inl (cI, 8, .inl ((sEnt a z (sDue a z)) 4))), (q9 6, .inl (cI, 8, .inl ((sEnt a z (sDue a z)) 5))), (q9 7, .inl (cI, 8, .inl ((sEnt a z (sDue a z)) 6))), (q9 8, .inl (cI, 8, .inl ((sEnt a z (sDue a z)) 7))), (q9 9, .inl (cI, 8, .inl (upd ((sEnt a z (sDue a z)) 8) z ((((sEnt a z (sDue a z)) 8) z) + (sDue a z))))), (q9 10, .inr (2, [.ref (q9 11), .ref (q9 12), .ref (q9 13), .ref (q9 14), .ref (q9 15), .ref (q9 16), .ref (q9 17), .int ((sEnt a z (sDue a z)) 0 3)])), (q9 11, .inl (cI, 100, .inl ((sEnt a z (sDue a z)) 10))), (q9 12, .inl (cF, 100, .inr (.inr (.inl (fun j => shF ((sEnt a z (sDue a z)) 13 j)))))), (q9 13, .inl (cI, 100, .inl ((sEnt a z (sDue a z)) 14))), (q9 14, .inl (cI, 100, .inl (fun j => (sEnt a z (sDue a z)) 11 j - (sEnt a z (sDue a z)) 12 j))), (q9 15, .inl (cI, 100, .inl (fun j => (sEnt a z (sDue a z)) 15 j - (sEnt a z (sDue a z)) 16 j))), (q9 16, .inl (cI, 100, .inl ((sEnt a z (sDue a z)) 17))), (q9 17, .inl (cI, 100, .inl ((sEnt a z (sDue a z)) 18))), (q9 18, .inr (1, [.ref (q9 19), .ref (q9 20), .ref (q9 21), .int ((sEnt a z (sDue a z)) 0 4)])), (q9 19, .inl (cI, capOf (nn ((sEnt a z (sDue a z)) 0 4)), .inl ((sEnt a z (sDue a z)) 20))), (q9 20, .inl (cI, capOf (nn ((sEnt a z (sDue a z)) 0 4)), .inl ((sEnt a z (sDue a z)) 19))), (q9 21, .inl (cI, capOf (nn ((sEnt a z (sDue a z)) 0 4)), .inl ((sEnt a z (sDue a z)) 21))), (q9 22, .inr (0, [.ref (q9 23), .ref (q9 24), .ref (q9 25), .int (nI k1)])), (q9 23, .inl (cI, 8, .inl (jc1))), (q9 24, .inl (cI, 256, .inl (js1))), (q9 25, .inl (cI, 256, .inl (jv1))), (q9 26, .inl (cF, 4, .inr (.inr (.inl (fun j => shF ((sEnt a z (sDue a z)) 9 j))))))] := hD
      have hP : va_P (dC, dI) vwCl (WC cI cF h0 q9 (put (sEnt a z (sDue a z)) 8 z (a 8 z + sDue a z)) jc1 js1 jv1 k1 (capOf (nn ((put (sEnt a z (sDue a z)) 8 z (a 8 z + sDue a z)) 0 4)))) H := hP
      have hD : va_D A (WC cI cF h0 q9 (put (sEnt a z (sDue a z)) 8 z (a 8 z + sDue a z)) jc1 js1 jv1 k1 (capOf (nn ((put (sEnt a z (sDue a z)) 8 z (a 8 z + sDue a z)) 0 4)))) := hD
      have hB8 : okB (put (sEnt a z (sDue a z)) 8 z (a 8 z + sDue a z)) := okB_free (okB_ent hB hz _ hm) rfl
      have hC8 : okC (put (sEnt a z (sDue a z)) 8 z (a 8 z + sDue a z)) jc1 js1 jv1 k1 := hC1
      refine lv_aload_n hx hb dX4_payIfDue_35 rfl (lv_at hl 1 rfl) ?_
      refine lv_iload_n hx hb dX4_payIfDue_36 rfl (lv_at hl 2 rfl) ?_
      refine lv_iload_n hx hb dX4_payIfDue_37 rfl (lv_at hl 0 rfl) ?_
      refine lv_ineg hx hb dX4_payIfDue_38 ?_
      have hFc := y_free hD hS hA
      refine va_callv (va_runV (As := [.int (nI z), .int (-(sDue a z))]) (rest := []) ⟨hx, hb, hml, hown, hts⟩ (c_X4_post l dC dI cI cF h0 q9 H.size (put (sEnt a z (sDue a z)) 8 z (a 8 z + sDue a z)) jc1 js1 jv1 k1 hC8 hB8 z hz (-(sDue a z))) (cwV 2 hts gX4_payIfDue_X4_post rfl rfl rfl (by decide +kernel) ⟨Nat.le_of_ble_eq_true rfl, Nat.le_of_ble_eq_true rfl⟩) ⟨pcW_blind, va_recv hK hP (ci := 4) (q0 := 0) rfl rfl, fun U hU hW => pcW_pre hP hD hK hU hW⟩ rfl rfl hl.1 rfl (lv_room (Nat.le_of_ble_eq_true rfl)) dX4_payIfDue_39 ⟨(by show _ + 0 ≤ mcP a (sPay a z); omega), (by show _ + 0 ≤ mcP a (sPay a z) * 6; omega)⟩) hS (fun q _ h => hFc q h) hFc (fun u t H1 locs ht hvm hw hB1 hz1 hk1 hS => ?_)
      obtain ⟨q4, jc4, js4, jv4, k4, hC4, hP, hK1, hD1⟩ := hB1
      rw [ht] at hP
      have hD := hD1.weaken (fun kk qq _ h => hFc qq.1 h)
      generalize H1 = H at hP hS ⊢
      have hC4 : okC (sPayC a z (sDue a z)) jc4 js4 jv4 k4 := hC4
      have hP : va_P (dC, dI) vwCl (WC cI cF h0 q4 (sPayC a z (sDue a z)) jc4 js4 jv4 k4 (capOf (nn ((sPayC a z (sDue a z)) 0 4)))) H := hP
      have hD : va_D A (WC cI cF h0 q4 (sPayC a z (sDue a z)) jc4 js4 jv4 k4 (capOf (nn ((sPayC a z (sDue a z)) 0 4)))) := hD
      rw [← e9] at hP hD hC4
      refine W.widen (k := mcP a (sPay a z)) (n := mcP a (sPay a z) * 6) (by omega) (by omega) ?_
      have hP9 := hP
      have hD9 := hD
      have hK9 := hK
      exact W.vret hx hb hr (fun t ht hW => ⟨⟨(), rfl, trivial, atC_in hC4 (atW_end hP9 hD9 hK9 ht hW)⟩, hS.F ht⟩) hS.2.2 dX4_payIfDue_42
