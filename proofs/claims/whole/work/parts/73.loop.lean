set_option maxHeartbeats 4000000 in
set_option maxRecDepth 100000 in
theorem law_loop {p : Program} {l : Launch} {e : Env} {s : State} {m : MethodId} {below : List Frame} {meth : Method} {c : Code} {Q : State → Prop} {b L : Nat} {xs : Nat → Int32} {dC : Nat → ClassId} {dI : Nat → Nat → Nat} {cI cF cL cZ : ClassId} {A : Nat → Prop} {h0 h1 qo : Nat} {q2 : Nat → Nat} (hst : l.stackTraces = false) (hx : p.tables.exec = Jvm.exec) (hb : c.code = cL_law) (hml : c.maxLocals = 7) (hown : s.vm.findClass RL = some m.cls) (hts : ∀ w ∈ wsL_law, w.before #[Value.ref b] s = true) (hX : va_X b L xs s s.heap) (hbl : b < s.heap.size) (hbA : ¬ A b) (hA : ∀ q : Nat, s.heap.size ≤ q → A q) (hK : va_K (dC, dI) vwCl [(cI, .int), (cF, .float), (cL, .long), (cZ, .boolean)] s) (hV : okV A s) (hN : okN3 s) (hL : L ≤ 2048) (hend : ∀ (H : Heap) (locs : List Loc) (cells slots : Nat) (ls : Array Slot), va_S A s.heap H locs → cells ≤ 601024 → slots ≤ 7293034 → W p l e room_1 s m #[Value.ref b] below meth c H locs cells slots Q (F0 m 1300 ls [])) : ∀ (r9 n : Nat), r9 + n = 513 → n ≤ 512 → 4 * n ≤ L + 3 → ∀ {a : yA} (hI : okA a n) {q : Nat → Nat} {jc js jv : Nat → Int32} {k : Nat} {th : Int32} {fo : Nat → Int64} {H : Heap} {locs : List Loc} {cells slots : Nat} {ls : Array Slot} (hC : okC a jc js jv k) (hP : va_P (dC, dI) vwCl (WA cI cF cL cZ h0 q a jc js jv k (capOf (nn (a 0 4))) h1 q2 a th qo fo) H) (hD : va_D A (WA cI cF cL cZ h0 q a jc js jv k (capOf (nn (a 0 4))) h1 q2 a th qo fo)) (hS : va_S A s.heap H locs) (hl : lv_has ls 7 [(4, .int (nI (4 * n))), (3, .ref qo), (2, .ref h1), (1, .ref h0), (0, .ref b)]) (hc : cells ≤ 100 + 1026 * n) (hs : slots ≤ 9000 + 6156 * n), W p l e room_1 s m #[Value.ref b] below meth c H locs cells slots Q (F0 m 23 ls []) := by
  intro r9
  induction r9 with
  | zero => intro n h1 h2; omega
  | succ r9 ih =>
    intro n hr hn h4 a hI q jc js jv k th fo H locs cells slots ls hC hP hD hS hl hc hs
    refine lv_iload hx hb dL_law_23 (lv_at hl 0 rfl) ?_
    refine lv_aload_n hx hb dL_law_25 rfl (lv_at hl 4 rfl) ?_
    refine va_slen hx hb hX hbl hbA hS dL_law_26 ?_
    refine lv_iconst (v := 4) hx hb dL_law_27 (by decide) ?_
    refine lv_isub hx hb dL_law_28 ?_
    have eL : (Int32.ofNat L - 4).toInt = (L : Int) - 4 := by
      show (nI L - nI 4).toInt = _
      rw [pk_sub_toInt (by omega) (by decide)]; rfl
    have ei : (nI (4 * n)).toInt = ((4 * n : Nat) : Int) := nI_toInt (by omega)
    refine lv_icmp_gt (tgt := 1300) hx hb dL_law_29 (by decide) (fun c1 => ?_) (fun c1 => ?_)
    · exact hend H locs cells slots ls hS (by omega) (by omega)
    · have hle : 4 * n + 4 ≤ L := by
        have h9 := c1
        rw [Int32.lt_iff_toInt_lt, eL, ei] at h9
        omega
      have hn2 : n < 512 := by omega
      refine lv_aload_n hx hb dL_law_32 rfl (lv_at hl 4 rfl) ?_
      refine lv_iload hx hb dL_law_33 (lv_at hl 0 rfl) ?_
      refine va_sld hx hb hX hbl hbA hS (vp_in_nI (by omega) (by omega)) dL_law_35 ?_
      refine lv_bipush (v := 31) hx hb dL_law_36 (by decide) ?_
      refine lv_iand hx hb dL_law_38 ?_
      obtain ⟨j, hj, ej⟩ := and31 (xs (nI (4 * n)).toNatClampNeg)
      rw [ej]
      have next : ∀ (a1 : yA) (q1 : Nat → Nat) (jc1 js1 jv1 : Nat → Int32) (k1 : Nat) (th1 : Int32) (fo1 : Nat → Int64) (H1 : Heap) (locs1 : List Loc) (ls1 : Array Slot), okA a1 (n + 1) → okC a1 jc1 js1 jv1 k1 → va_P (dC, dI) vwCl (WA cI cF cL cZ h0 q1 a1 jc1 js1 jv1 k1 (capOf (nn (a1 0 4))) h1 q2 a1 th1 qo fo1) H1 → va_D A (WA cI cF cL cZ h0 q1 a1 jc1 js1 jv1 k1 (capOf (nn (a1 0 4))) h1 q2 a1 th1 qo fo1) → va_S A s.heap H1 locs1 → lv_has ls1 7 [(4, .int (nI (4 * n))), (3, .ref qo), (2, .ref h1), (1, .ref h0), (0, .ref b)] → W p l e room_1 s m #[Value.ref b] below meth c H1 locs1 (cells + 1026) (slots + 6156) Q (F0 m 1294 ls1 []) := by
        intro a1 q1 jc1 js1 jv1 k1 th1 fo1 H1 locs1 ls1 g1 g2 g3 g4 g5 g6
        refine lv_iinc (v := nI (4 * (n + 1))) (lv' := [(4, .int (nI (4 * (n + 1)))), (3, .ref qo), (2, .ref h1), (1, .ref h0), (0, .ref b)]) hx hb dL_law_1294 g6 (k := 0) rfl (by show nI (4 * n) + nI 4 = _; rw [nI_add]; rfl) (by decide) rfl (fun ls2 g7 => ?_)
        refine lv_goto (tgt := 23) hx hb dL_law_1297 (by decide) ?_
        exact ih (n + 1) (by omega) (by omega) (by omega) g1 g2 g3 g4 g5 g7 (by omega) (by omega)
      have hout : W p l e room_1 s m #[Value.ref b] below meth c H locs cells slots Q (F0 m 1294 ls []) := by
        refine W.widen (k := cells + 1026) (n := slots + 6156) (by omega) (by omega) ?_
        exact next a q jc js jv k th fo H locs ls (okA_up hI hn2) hC hP hD hS hl
      have hjt : (nI j).toInt = (j : Int) := nI_toInt (by omega)
      by_cases hj2 : 22 < j
      · exact lv_tableOut (tgt := 1294) hx hb dL_law_39 (Or.inr (by rw [hjt]; omega)) (by decide) hout
      · have hcases : j = 0 ∨ j = 1 ∨ j = 2 ∨ j = 3 ∨ j = 4 ∨ j = 5 ∨ j = 6 ∨ j = 7 ∨ j = 8 ∨ j = 9 ∨ j = 10 ∨ j = 11 ∨ j = 12 ∨ j = 13 ∨ j = 14 ∨ j = 15 ∨ j = 16 ∨ j = 17 ∨ j = 18 ∨ j = 19 ∨ j = 20 ∨ j = 21 ∨ j = 22 := by omega
        rcases hcases with rfl | rfl | rfl | rfl | rfl | rfl | rfl | rfl | rfl | rfl | rfl | rfl | rfl | rfl | rfl | rfl | rfl | rfl | rfl | rfl | rfl | rfl | rfl
        · exact lv_tableIn (off := 105) (tgt := 144) hx hb dL_law_39 (by decide) (by decide) (by decide) (by decide) (lc_addSeller hst hx hb hml hown hts hX hbl hbA hA hK hV hN hI hn2 (by omega) hL hC hP hD hS hl hc hs next)
        · exact lv_tableIn (off := 161) (tgt := 200) hx hb dL_law_39 (by decide) (by decide) (by decide) (by decide) (lc_verify hst hx hb hml hown hts hX hbl hbA hA hK hV hN hI hn2 (by omega) hL hC hP hD hS hl hc hs next)
        · exact lv_tableIn (off := 229) (tgt := 268) hx hb dL_law_39 (by decide) (by decide) (by decide) (by decide) (lc_setPayouts hst hx hb hml hown hts hX hbl hbA hA hK hV hN hI hn2 (by omega) hL hC hP hD hS hl hc hs next)
        · exact lv_tableIn (off := 289) (tgt := 328) hx hb dL_law_39 (by decide) (by decide) (by decide) (by decide) (lc_setReserve hst hx hb hml hown hts hX hbl hbA hA hK hV hN hI hn2 (by omega) hL hC hP hD hS hl hc hs next)
        · exact lv_tableIn (off := 349) (tgt := 388) hx hb dL_law_39 (by decide) (by decide) (by decide) (by decide) (lc_setShare hst hx hb hml hown hts hX hbl hbA hA hK hV hN hI hn2 (by omega) hL hC hP hD hS hl hc hs next)
        · exact lv_tableIn (off := 417) (tgt := 456) hx hb dL_law_39 (by decide) (by decide) (by decide) (by decide) (lc_setTax hst hx hb hml hown hts hX hbl hbA hA hK hV hN hI hn2 (by omega) hL hC hP hD hS hl hc hs next)
        · exact lv_tableIn (off := 473) (tgt := 512) hx hb dL_law_39 (by decide) (by decide) (by decide) (by decide) (lc_sell hst hx hb hml hown hts hX hbl hbA hA hK hV hN hI hn2 (by omega) hL hC hP hD hS hl hc hs next)
        · exact lv_tableIn (off := 553) (tgt := 592) hx hb dL_law_39 (by decide) (by decide) (by decide) (by decide) (lc_order hst hx hb hml hown hts hX hbl hbA hA hK hV hN hI hn2 (by omega) hL hC hP hD hS hl hc hs next)
        · exact lv_tableIn (off := 633) (tgt := 672) hx hb dL_law_39 (by decide) (by decide) (by decide) (by decide) (lc_refund hst hx hb hml hown hts hX hbl hbA hA hK hV hN hI hn2 (by omega) hL hC hP hD hS hl hc hs next)
        · exact lv_tableIn (off := 729) (tgt := 768) hx hb dL_law_39 (by decide) (by decide) (by decide) (by decide) (lc_pass hst hx hb hml hown hts hX hbl hbA hA hK hV hN hI hn2 (by omega) hL hC hP hD hS hl hc hs next)
        · exact lv_tableIn (off := 785) (tgt := 824) hx hb dL_law_39 (by decide) (by decide) (by decide) (by decide) (lc_fail hst hx hb hml hown hts hX hbl hbA hA hK hV hN hI hn2 (by omega) hL hC hP hD hS hl hc hs next)
        · exact lv_tableIn (off := 841) (tgt := 880) hx hb dL_law_39 (by decide) (by decide) (by decide) (by decide) (lc_today hst hx hb hml hown hts hX hbl hbA hA hK hV hN hI hn2 (by omega) hL hC hP hD hS hl hc hs next)
        · exact lv_tableIn (off := 854) (tgt := 893) hx hb dL_law_39 (by decide) (by decide) (by decide) (by decide) (lc_payouts hst hx hb hml hown hts hX hbl hbA hA hK hV hN hI hn2 (by omega) hL hC hP hD hS hl hc hs next)
        · exact lv_tableIn (off := 867) (tgt := 906) hx hb dL_law_39 (by decide) (by decide) (by decide) (by decide) (lc_payout hst hx hb hml hown hts hX hbl hbA hA hK hV hN hI hn2 (by omega) hL hC hP hD hS hl hc hs next)
        · exact lv_tableIn (off := 923) (tgt := 962) hx hb dL_law_39 (by decide) (by decide) (by decide) (by decide) (lc_sellerOf hst hx hb hml hown hts hX hbl hbA hA hK hV hN hI hn2 (by omega) hL hC hP hD hS hl hc hs next)
        · exact lv_tableIn (off := 979) (tgt := 1018) hx hb dL_law_39 (by decide) (by decide) (by decide) (by decide) (lc_balance hst hx hb hml hown hts hX hbl hbA hA hK hV hN hI hn2 (by omega) hL hC hP hD hS hl hc hs next)
        · exact lv_tableIn (off := 1035) (tgt := 1074) hx hb dL_law_39 (by decide) (by decide) (by decide) (by decide) (lc_balanceByEntries hst hx hb hml hown hts hX hbl hbA hA hK hV hN hI hn2 (by omega) hL hC hP hD hS hl hc hs next)
        · exact lv_tableIn (off := 1091) (tgt := 1130) hx hb dL_law_39 (by decide) (by decide) (by decide) (by decide) (lc_reserve hst hx hb hml hown hts hX hbl hbA hA hK hV hN hI hn2 (by omega) hL hC hP hD hS hl hc hs next)
        · exact lv_tableIn (off := 1147) (tgt := 1186) hx hb dL_law_39 (by decide) (by decide) (by decide) (by decide) (lc_paidTo hst hx hb hml hown hts hX hbl hbA hA hK hV hN hI hn2 (by omega) hL hC hP hD hS hl hc hs next)
        · exact lv_tableIn (off := 1203) (tgt := 1242) hx hb dL_law_39 (by decide) (by decide) (by decide) (by decide) (lc_received hst hx hb hml hown hts hX hbl hbA hA hK hV hN hI hn2 (by omega) hL hC hP hD hS hl hc hs next)
        · exact lv_tableIn (off := 1216) (tgt := 1255) hx hb dL_law_39 (by decide) (by decide) (by decide) (by decide) (lc_refunded hst hx hb hml hown hts hX hbl hbA hA hK hV hN hI hn2 (by omega) hL hC hP hD hS hl hc hs next)
        · exact lv_tableIn (off := 1229) (tgt := 1268) hx hb dL_law_39 (by decide) (by decide) (by decide) (by decide) (lc_fees hst hx hb hml hown hts hX hbl hbA hA hK hV hN hI hn2 (by omega) hL hC hP hD hS hl hc hs next)
        · exact lv_tableIn (off := 1242) (tgt := 1281) hx hb dL_law_39 (by decide) (by decide) (by decide) (by decide) (lc_taxes hst hx hb hml hown hts hX hbl hbA hA hK hV hN hI hn2 (by omega) hL hC hP hD hS hl hc hs next)
