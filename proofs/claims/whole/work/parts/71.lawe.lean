set_option maxHeartbeats 4000000 in
set_option maxRecDepth 100000 in
theorem lc_payout {p : Program} {l : Launch} {e : Env} {s : State} {m : MethodId} {below : List Frame} {meth : Method} {c : Code} {Q : State → Prop} {b L i n : Nat} {xs : Nat → Int32} {dC : Nat → ClassId} {dI : Nat → Nat → Nat} {cI cF cL cZ : ClassId} {A : Nat → Prop} (hst : l.stackTraces = false) (hx : p.tables.exec = Jvm.exec) (hb : c.code = cL_law) (hml : c.maxLocals = 7) (hown : s.vm.findClass RL = some m.cls) (hts : ∀ w ∈ wsL_law, w.before #[Value.ref b] s = true) (hX : va_X b L xs s s.heap) (hbl : b < s.heap.size) (hbA : ¬ A b) (hA : ∀ q : Nat, s.heap.size ≤ q → A q) (hK : va_K (dC, dI) vwCl [(cI, .int), (cF, .float), (cL, .long), (cZ, .boolean)] s) (hV : okV A s) (hN : okN3 s) {a : yA} (hI : okA a n) (hn : n < 512) (hi : i + 3 < L) (hL : L ≤ 2048) {h0 h1 qo : Nat} {q q2 : Nat → Nat} {jc js jv : Nat → Int32} {k : Nat} {th : Int32} {fo : Nat → Int64} {H : Heap} {locs : List Loc} {cells slots : Nat} {ls : Array Slot} (hC : okC a jc js jv k) (hP : va_P (dC, dI) vwCl (WA cI cF cL cZ h0 q a jc js jv k (capOf (nn (a 0 4))) h1 q2 a th qo fo) H) (hD : va_D A (WA cI cF cL cZ h0 q a jc js jv k (capOf (nn (a 0 4))) h1 q2 a th qo fo)) (hS : va_S A s.heap H locs) (hl : lv_has ls 7 [(4, .int (nI i)), (3, .ref qo), (2, .ref h1), (1, .ref h0), (0, .ref b)]) (hc : cells ≤ 100 + 1026 * n) (hs : slots ≤ 9000 + 6156 * n) (K : ∀ (a1 : yA) (q1 : Nat → Nat) (jc1 js1 jv1 : Nat → Int32) (k1 : Nat) (th1 : Int32) (fo1 : Nat → Int64) (H1 : Heap) (locs1 : List Loc) (ls1 : Array Slot), okA a1 (n + 1) → okC a1 jc1 js1 jv1 k1 → va_P (dC, dI) vwCl (WA cI cF cL cZ h0 q1 a1 jc1 js1 jv1 k1 (capOf (nn (a1 0 4))) h1 q2 a1 th1 qo fo1) H1 → va_D A (WA cI cF cL cZ h0 q1 a1 jc1 js1 jv1 k1 (capOf (nn (a1 0 4))) h1 q2 a1 th1 qo fo1) → va_S A s.heap H1 locs1 → lv_has ls1 7 [(4, .int (nI i)), (3, .ref qo), (2, .ref h1), (1, .ref h0), (0, .ref b)] → W p l e room_1 s m #[Value.ref b] below meth c H1 locs1 (cells + 1026) (slots + 6156) Q (F0 m 1294 ls1 [])) : W p l e room_1 s m #[Value.ref b] below meth c H locs cells slots Q (F0 m 906 ls []) := by
  have hB := okA_B hI
  refine lv_aload_n hx hb dL_law_906 rfl (lv_at hl 3 rfl) ?_
  refine lv_aload_n hx hb dL_law_907 rfl (lv_at hl 4 rfl) ?_
  refine lv_iload hx hb dL_law_908 (lv_at hl 0 rfl) ?_
  refine lv_iconst (v := 1) hx hb dL_law_910 (by decide) ?_
  refine lv_iadd hx hb dL_law_911 ?_
  refine y_topi (y := nI (i + 1)) (by first | exact nI_1 i | exact nI_add i 1) ?_
  refine va_sld hx hb hX hbl hbA hS (vp_in_nI (by omega) (by omega)) dL_law_912 ?_
  refine y_topi (y := xs (i + 1)) (by rw [nI_clamp (by omega)]) ?_
  refine lv_aload_n hx hb dL_law_913 rfl (lv_at hl 1 rfl) ?_
  have hPc := hP.sub (ws' := WL cI cF cL h0 q a jc js jv k (capOf (nn (a 0 4))) qo fo) [0, 1, 2, 3, 4, 5, 6, 7, 8, 9, 10, 11, 12, 13, 14, 15, 16, 17, 18, 19, 20, 21, 22, 23, 24, 25, 26, 49] rfl
  have hDc := hD.sub (ws' := WL cI cF cL h0 q a jc js jv k (capOf (nn (a 0 4))) qo fo) [0, 1, 2, 3, 4, 5, 6, 7, 8, 9, 10, 11, 12, 13, 14, 15, 16, 17, 18, 19, 20, 21, 22, 23, 24, 25, 26, 49] (by decide) rfl
  have hFc := va_free (wc := WL cI cF cL h0 q a jc js jv k (capOf (nn (a 0 4))) qo fo) hD hS hA [0, 1, 2, 3, 4, 5, 6, 7, 8, 9, 10, 11, 12, 13, 14, 15, 16, 17, 18, 19, 20, 21, 22, 23, 24, 25, 26, 49] rfl
  have hKc := hK.sub (tys' := [(cI, .int), (cF, .float), (cL, .long)]) [0, 1, 2] rfl
  refine va_calli (vx_runSW (As := [.ref h0, .int (xs (i + 1)), .ref qo]) (rest := []) ⟨hx, hb, hml, hown, hts⟩ (c_L_payout l dC dI cI cF cL h0 qo q H.size a jc js jv k fo hst hC hB (xs (i + 1))) (vx_cwSW 3 hts gL_law_L_payout rfl rfl rfl (by decide +kernel) ⟨Nat.le_of_ble_eq_true rfl, Nat.le_of_ble_eq_true rfl⟩) ⟨pcH_blind, fun U hU hW => pcH_pre hPc hDc hKc hV hN hS hFc hU hW⟩ rfl rfl hl.1 rfl (lv_room (Nat.le_of_ble_eq_true rfl)) dL_law_914 ⟨(by show cells + (1) ≤ 601024; omega), (by show slots + (6) ≤ 7293034; omega)⟩) hS (fun q _ h => hFc q h) hFc (fun r fu t H1 locs ht hvm hw hB1 hz1 hk1 hS => ?_)
  obtain ⟨qy, jcy, jsy, jvy, ky, hCy, hPy, hKy, hDy⟩ := hB1
  rw [ht] at hPy
  have hwL := hw
  obtain ⟨hP, hD⟩ := va_join (wr := (WM cI cF cZ h1 q2 a th)) (w1 := WL cI cF cL h0 qy (if kPay a (xs (i + 1)) = 0 then a else a) jcy jsy jvy ky (capOf (nn ((if kPay a (xs (i + 1)) = 0 then a else a) 0 4))) qo fu) hP hD [0, 1, 2, 3, 4, 5, 6, 7, 8, 9, 10, 11, 12, 13, 14, 15, 16, 17, 18, 19, 20, 21, 22, 23, 24, 25, 26, 49] [27, 28, 29, 30, 31, 32, 33, 34, 35, 36, 37, 38, 39, 40, 41, 42, 43, 44, 45, 46, 47, 48] rfl rfl (by decide) (by decide) hk1 hFc hPy hDy
  have hP := hP.sub (ws' := WA cI cF cL cZ h0 qy (if kPay a (xs (i + 1)) = 0 then a else a) jcy jsy jvy ky (capOf (nn ((if kPay a (xs (i + 1)) = 0 then a else a) 0 4))) h1 q2 a th qo fu) [22, 23, 24, 25, 26, 27, 28, 29, 30, 31, 32, 33, 34, 35, 36, 37, 38, 39, 40, 41, 42, 43, 44, 45, 46, 47, 48, 0, 1, 2, 3, 4, 5, 6, 7, 8, 9, 10, 11, 12, 13, 14, 15, 16, 17, 18, 19, 20, 21, 49] rfl
  have hD := hD.sub (ws' := WA cI cF cL cZ h0 qy (if kPay a (xs (i + 1)) = 0 then a else a) jcy jsy jvy ky (capOf (nn ((if kPay a (xs (i + 1)) = 0 then a else a) 0 4))) h1 q2 a th qo fu) [22, 23, 24, 25, 26, 27, 28, 29, 30, 31, 32, 33, 34, 35, 36, 37, 38, 39, 40, 41, 42, 43, 44, 45, 46, 47, 48, 0, 1, 2, 3, 4, 5, 6, 7, 8, 9, 10, 11, 12, 13, 14, 15, 16, 17, 18, 19, 20, 21, 49] (by decide) rfl
  generalize H1 = H at hP hS ⊢
  refine y_topi (y := nI (kPay a (xs (i + 1)))) hwL.1 ?_
  have hI1 : okA (if kPay a (xs (i + 1)) = 0 then a else a) (n + 1) := by
    split
    · next h9 => exact okA_up hI hn
    · exact okA_up hI hn
  have hB1 := okA_B hI1
  refine lv_istore (lv' := [(5, .int (nI (kPay a (xs (i + 1))))), (4, .int (nI i)), (3, .ref qo), (2, .ref h1), (1, .ref h0), (0, .ref b)]) hx hb dL_law_917 hl (by decide) rfl (fun ls hl => ?_)
  refine lv_aload_n hx hb dL_law_919 rfl (lv_at hl 3 rfl) ?_
  refine lv_aload_n hx hb dL_law_920 rfl (lv_at hl 5 rfl) ?_
  refine lv_iload hx hb dL_law_921 (lv_at hl 1 rfl) ?_
  refine lv_iconst (v := 1) hx hb dL_law_923 (by decide) ?_
  refine lv_iadd hx hb dL_law_924 ?_
  refine y_topi (y := nI (i + 1)) (by first | exact nI_1 i | exact nI_add i 1) ?_
  refine va_sld hx hb hX hbl hbA hS (vp_in_nI (by omega) (by omega)) dL_law_925 ?_
  refine y_topi (y := xs (i + 1)) (by rw [nI_clamp (by omega)]) ?_
  have hPc := hP.sub (ws' := WM cI cF cZ h1 q2 a th) [27, 28, 29, 30, 31, 32, 33, 34, 35, 36, 37, 38, 39, 40, 41, 42, 43, 44, 45, 46, 47, 48] rfl
  have hDc := hD.sub (ws' := WM cI cF cZ h1 q2 a th) [27, 28, 29, 30, 31, 32, 33, 34, 35, 36, 37, 38, 39, 40, 41, 42, 43, 44, 45, 46, 47, 48] (by decide) rfl
  have hFc := va_free (wc := WM cI cF cZ h1 q2 a th) hD hS hA [27, 28, 29, 30, 31, 32, 33, 34, 35, 36, 37, 38, 39, 40, 41, 42, 43, 44, 45, 46, 47, 48] rfl
  have hKc := hK.sub (tys' := [(cI, .int), (cF, .float), (cZ, .boolean)]) [0, 1, 3] rfl
  refine va_calli (va_runV (As := [.int (xs (i + 1))]) (rest := []) ⟨hx, hb, hml, hown, hts⟩ (c_X5_payout l dC dI cI cF cZ h1 q2 H.size a th hB (xs (i + 1))) (cwV 1 hts gL_law_X5_payout rfl rfl rfl (by decide +kernel) ⟨Nat.le_of_ble_eq_true rfl, Nat.le_of_ble_eq_true rfl⟩) ⟨pcW_blind, va_recv hKc hPc (ci := 5) (q0 := 0) rfl rfl, fun U hU hW => pcW_pre hPc hDc hKc hU hW⟩ rfl rfl hl.1 rfl (lv_room (Nat.le_of_ble_eq_true rfl)) dL_law_926 ⟨(by show _ + 0 ≤ 601024; omega), (by show _ + 0 ≤ 7293034; omega)⟩) hS (fun q _ h => hFc q h) hFc (fun r u t H1 locs ht hvm hw hB1 hz1 hk1 hS => ?_)
  obtain ⟨hPy, hKy, hDy⟩ := hB1
  rw [ht] at hPy
  obtain ⟨hP, hD⟩ := va_join (wr := WL cI cF cL h0 qy (if kPay a (xs (i + 1)) = 0 then a else a) jcy jsy jvy ky (capOf (nn ((if kPay a (xs (i + 1)) = 0 then a else a) 0 4))) qo fu) (w1 := WM cI cF cZ h1 q2 a (nI (kPay a (xs (i + 1))))) hP hD [27, 28, 29, 30, 31, 32, 33, 34, 35, 36, 37, 38, 39, 40, 41, 42, 43, 44, 45, 46, 47, 48] [0, 1, 2, 3, 4, 5, 6, 7, 8, 9, 10, 11, 12, 13, 14, 15, 16, 17, 18, 19, 20, 21, 22, 23, 24, 25, 26, 49] rfl rfl (by decide) (by decide) hk1 hFc hPy hDy
  have hP := hP.sub (ws' := WA cI cF cL cZ h0 qy (if kPay a (xs (i + 1)) = 0 then a else a) jcy jsy jvy ky (capOf (nn ((if kPay a (xs (i + 1)) = 0 then a else a) 0 4))) h1 q2 a (nI (kPay a (xs (i + 1)))) qo fu) [0, 1, 2, 3, 4, 5, 6, 7, 8, 9, 10, 11, 12, 13, 14, 15, 16, 17, 18, 19, 20, 21, 22, 23, 24, 25, 26, 28, 29, 30, 31, 32, 33, 34, 35, 36, 37, 38, 39, 40, 41, 42, 43, 44, 45, 46, 47, 48, 49, 27] rfl
  have hD := hD.sub (ws' := WA cI cF cL cZ h0 qy (if kPay a (xs (i + 1)) = 0 then a else a) jcy jsy jvy ky (capOf (nn ((if kPay a (xs (i + 1)) = 0 then a else a) 0 4))) h1 q2 a (nI (kPay a (xs (i + 1)))) qo fu) [0, 1, 2, 3, 4, 5, 6, 7, 8, 9, 10, 11, 12, 13, 14, 15, 16, 17, 18, 19, 20, 21, 22, 23, 24, 25, 26, 28, 29, 30, 31, 32, 33, 34, 35, 36, 37, 38, 39, 40, 41, 42, 43, 44, 45, 46, 47, 48, 49, 27] (by decide) rfl
  generalize H1 = H at hP hS ⊢
  have hwR := hw
  have e9 : (if kPay a (xs (i + 1)) = 0 then a else a) = a := by split <;> rfl
  rw [e9] at hP hD hCy hI1 hB1
  obtain ⟨rv, erv⟩ : ∃ z, z = r := ⟨_, rfl⟩
  rw [← erv] at hwR ⊢
  refine lv_istore (lv' := [(6, .int rv), (5, .int (nI (kPay a (xs (i + 1))))), (4, .int (nI i)), (3, .ref qo), (2, .ref h1), (1, .ref h0), (0, .ref b)]) hx hb dL_law_929 hl (by decide) rfl (fun ls hl => ?_)
  refine lv_aload_n hx hb dL_law_931 rfl (lv_at hl 4 rfl) ?_
  have hPc := hP.sub (ws' := WM cI cF cZ h1 q2 a (nI (kPay a (xs (i + 1))))) [27, 28, 29, 30, 31, 32, 33, 34, 35, 36, 37, 38, 39, 40, 41, 42, 43, 44, 45, 46, 47, 48] rfl
  have hDc := hD.sub (ws' := WM cI cF cZ h1 q2 a (nI (kPay a (xs (i + 1))))) [27, 28, 29, 30, 31, 32, 33, 34, 35, 36, 37, 38, 39, 40, 41, 42, 43, 44, 45, 46, 47, 48] (by decide) rfl
  have hFc := va_free (wc := WM cI cF cZ h1 q2 a (nI (kPay a (xs (i + 1))))) hD hS hA [27, 28, 29, 30, 31, 32, 33, 34, 35, 36, 37, 38, 39, 40, 41, 42, 43, 44, 45, 46, 47, 48] rfl
  have hKc := hK.sub (tys' := [(cI, .int), (cF, .float), (cZ, .boolean)]) [0, 1, 3] rfl
  refine va_calli (va_runV (As := []) (rest := []) ⟨hx, hb, hml, hown, hts⟩ (c_X5_thrown l dC dI cI cF cZ h1 q2 H.size a (nI (kPay a (xs (i + 1)))) hB1) (cwV 0 hts gL_law_X5_thrown rfl rfl rfl (by decide +kernel) ⟨Nat.le_of_ble_eq_true rfl, Nat.le_of_ble_eq_true rfl⟩) ⟨pcW_blind, va_recv hKc hPc (ci := 5) (q0 := 0) rfl rfl, fun U hU hW => pcW_pre hPc hDc hKc hU hW⟩ rfl rfl hl.1 rfl (lv_room (Nat.le_of_ble_eq_true rfl)) dL_law_932 ⟨(by show _ + 0 ≤ 601024; omega), (by show _ + 0 ≤ 7293034; omega)⟩) hS (fun q _ h => hFc q h) hFc (fun r u t H1 locs ht hvm hw hB1 hz1 hk1 hS => ?_)
  obtain ⟨hPy, hKy, hDy⟩ := hB1
  rw [ht] at hPy
  obtain ⟨hP, hD⟩ := va_join (wr := WL cI cF cL h0 qy a jcy jsy jvy ky (capOf (nn (a 0 4))) qo fu) (w1 := WM cI cF cZ h1 q2 a (nI (kPay a (xs (i + 1))))) hP hD [27, 28, 29, 30, 31, 32, 33, 34, 35, 36, 37, 38, 39, 40, 41, 42, 43, 44, 45, 46, 47, 48] [0, 1, 2, 3, 4, 5, 6, 7, 8, 9, 10, 11, 12, 13, 14, 15, 16, 17, 18, 19, 20, 21, 22, 23, 24, 25, 26, 49] rfl rfl (by decide) (by decide) hk1 hFc hPy hDy
  have hP := hP.sub (ws' := WA cI cF cL cZ h0 qy a jcy jsy jvy ky (capOf (nn (a 0 4))) h1 q2 a (nI (kPay a (xs (i + 1)))) qo fu) [0, 1, 2, 3, 4, 5, 6, 7, 8, 9, 10, 11, 12, 13, 14, 15, 16, 17, 18, 19, 20, 21, 22, 23, 24, 25, 26, 28, 29, 30, 31, 32, 33, 34, 35, 36, 37, 38, 39, 40, 41, 42, 43, 44, 45, 46, 47, 48, 49, 27] rfl
  have hD := hD.sub (ws' := WA cI cF cL cZ h0 qy a jcy jsy jvy ky (capOf (nn (a 0 4))) h1 q2 a (nI (kPay a (xs (i + 1)))) qo fu) [0, 1, 2, 3, 4, 5, 6, 7, 8, 9, 10, 11, 12, 13, 14, 15, 16, 17, 18, 19, 20, 21, 22, 23, 24, 25, 26, 28, 29, 30, 31, 32, 33, 34, 35, 36, 37, 38, 39, 40, 41, 42, 43, 44, 45, 46, 47, 48, 49, 27] (by decide) rfl
  generalize H1 = H at hP hS ⊢
  refine y_topi (y := nI (kPay a (xs (i + 1)))) hw ?_
  refine lv_iload hx hb dL_law_935 (lv_at hl 1 rfl) ?_
  refine lv_icmp_eq (tgt := 942) hx hb dL_law_937 (by decide) (fun c_1 => ?_) (fun c_1 => ?_)
  · refine lv_iload hx hb dL_law_942 (lv_at hl 1 rfl) ?_
    refine lv_if_ne (tgt := 959) hx hb dL_law_944 (by decide) (fun c_2 => ?_) (fun c_2 => ?_)
    · refine lv_goto (tgt := 1294) hx hb dL_law_959 (by decide) ?_
      refine W.widen (k := cells + 1026) (n := slots + 6156) (by omega) (by omega) ?_
      exact K _ qy jcy jsy jvy ky _ _ _ _ _ hI1 hCy hP hD hS (lv_sub hl [2, 3, 4, 5, 6] rfl)
    · have hK0 : kPay a (xs (i + 1)) = 0 := by
        rcases kPay_r a (xs (i + 1)) with h9 | h9 <;> first | exact h9 | (rw [h9] at c_2; exact absurd c_2 (by decide))
      refine lv_aload_n hx hb dL_law_947 rfl (lv_at hl 3 rfl) ?_
      refine lv_iconst (v := 0) hx hb dL_law_948 (by decide) ?_
      refine y_lld hx hb hK hP 49 2 rfl rfl dL_law_949 ?_
      refine lv_iload hx hb dL_law_950 (lv_at hl 0 rfl) ?_
      refine lv_i2l (v := (rv).toInt64) hx hb dL_law_952 rfl ?_
      refine y_lcmp hx hb (by rw [hwL.2 hK0, hwR hK0]) dL_law_953 ?_
      refine lv_if_eq (tgt := 959) hx hb dL_law_954 (by decide) (fun c_3 => ?_) (fun c_3 => ?_)
      · refine lv_goto (tgt := 1294) hx hb dL_law_959 (by decide) ?_
        refine W.widen (k := cells + 1026) (n := slots + 6156) (by omega) (by omega) ?_
        exact K _ qy jcy jsy jvy ky _ _ _ _ _ hI1 hCy hP hD hS (lv_sub hl [2, 3, 4, 5, 6] rfl)
      · exact absurd rfl c_3
  · exact absurd rfl c_1
set_option maxHeartbeats 4000000 in
set_option maxRecDepth 100000 in
theorem lc_sellerOf {p : Program} {l : Launch} {e : Env} {s : State} {m : MethodId} {below : List Frame} {meth : Method} {c : Code} {Q : State → Prop} {b L i n : Nat} {xs : Nat → Int32} {dC : Nat → ClassId} {dI : Nat → Nat → Nat} {cI cF cL cZ : ClassId} {A : Nat → Prop} (hst : l.stackTraces = false) (hx : p.tables.exec = Jvm.exec) (hb : c.code = cL_law) (hml : c.maxLocals = 7) (hown : s.vm.findClass RL = some m.cls) (hts : ∀ w ∈ wsL_law, w.before #[Value.ref b] s = true) (hX : va_X b L xs s s.heap) (hbl : b < s.heap.size) (hbA : ¬ A b) (hA : ∀ q : Nat, s.heap.size ≤ q → A q) (hK : va_K (dC, dI) vwCl [(cI, .int), (cF, .float), (cL, .long), (cZ, .boolean)] s) (hV : okV A s) (hN : okN3 s) {a : yA} (hI : okA a n) (hn : n < 512) (hi : i + 3 < L) (hL : L ≤ 2048) {h0 h1 qo : Nat} {q q2 : Nat → Nat} {jc js jv : Nat → Int32} {k : Nat} {th : Int32} {fo : Nat → Int64} {H : Heap} {locs : List Loc} {cells slots : Nat} {ls : Array Slot} (hC : okC a jc js jv k) (hP : va_P (dC, dI) vwCl (WA cI cF cL cZ h0 q a jc js jv k (capOf (nn (a 0 4))) h1 q2 a th qo fo) H) (hD : va_D A (WA cI cF cL cZ h0 q a jc js jv k (capOf (nn (a 0 4))) h1 q2 a th qo fo)) (hS : va_S A s.heap H locs) (hl : lv_has ls 7 [(4, .int (nI i)), (3, .ref qo), (2, .ref h1), (1, .ref h0), (0, .ref b)]) (hc : cells ≤ 100 + 1026 * n) (hs : slots ≤ 9000 + 6156 * n) (K : ∀ (a1 : yA) (q1 : Nat → Nat) (jc1 js1 jv1 : Nat → Int32) (k1 : Nat) (th1 : Int32) (fo1 : Nat → Int64) (H1 : Heap) (locs1 : List Loc) (ls1 : Array Slot), okA a1 (n + 1) → okC a1 jc1 js1 jv1 k1 → va_P (dC, dI) vwCl (WA cI cF cL cZ h0 q1 a1 jc1 js1 jv1 k1 (capOf (nn (a1 0 4))) h1 q2 a1 th1 qo fo1) H1 → va_D A (WA cI cF cL cZ h0 q1 a1 jc1 js1 jv1 k1 (capOf (nn (a1 0 4))) h1 q2 a1 th1 qo fo1) → va_S A s.heap H1 locs1 → lv_has ls1 7 [(4, .int (nI i)), (3, .ref qo), (2, .ref h1), (1, .ref h0), (0, .ref b)] → W p l e room_1 s m #[Value.ref b] below meth c H1 locs1 (cells + 1026) (slots + 6156) Q (F0 m 1294 ls1 [])) : W p l e room_1 s m #[Value.ref b] below meth c H locs cells slots Q (F0 m 962 ls []) := by
  have hB := okA_B hI
  refine lv_aload_n hx hb dL_law_962 rfl (lv_at hl 3 rfl) ?_
  refine lv_aload_n hx hb dL_law_963 rfl (lv_at hl 4 rfl) ?_
  refine lv_iload hx hb dL_law_964 (lv_at hl 0 rfl) ?_
  refine lv_iconst (v := 1) hx hb dL_law_966 (by decide) ?_
  refine lv_iadd hx hb dL_law_967 ?_
  refine y_topi (y := nI (i + 1)) (by first | exact nI_1 i | exact nI_add i 1) ?_
  refine va_sld hx hb hX hbl hbA hS (vp_in_nI (by omega) (by omega)) dL_law_968 ?_
  refine y_topi (y := xs (i + 1)) (by rw [nI_clamp (by omega)]) ?_
  refine lv_aload_n hx hb dL_law_969 rfl (lv_at hl 1 rfl) ?_
  have hPc := hP.sub (ws' := WL cI cF cL h0 q a jc js jv k (capOf (nn (a 0 4))) qo fo) [0, 1, 2, 3, 4, 5, 6, 7, 8, 9, 10, 11, 12, 13, 14, 15, 16, 17, 18, 19, 20, 21, 22, 23, 24, 25, 26, 49] rfl
  have hDc := hD.sub (ws' := WL cI cF cL h0 q a jc js jv k (capOf (nn (a 0 4))) qo fo) [0, 1, 2, 3, 4, 5, 6, 7, 8, 9, 10, 11, 12, 13, 14, 15, 16, 17, 18, 19, 20, 21, 22, 23, 24, 25, 26, 49] (by decide) rfl
  have hFc := va_free (wc := WL cI cF cL h0 q a jc js jv k (capOf (nn (a 0 4))) qo fo) hD hS hA [0, 1, 2, 3, 4, 5, 6, 7, 8, 9, 10, 11, 12, 13, 14, 15, 16, 17, 18, 19, 20, 21, 22, 23, 24, 25, 26, 49] rfl
  have hKc := hK.sub (tys' := [(cI, .int), (cF, .float), (cL, .long)]) [0, 1, 2] rfl
  refine va_calli (vx_runSW (As := [.ref h0, .int (xs (i + 1)), .ref qo]) (rest := []) ⟨hx, hb, hml, hown, hts⟩ (c_L_sellerOf l dC dI cI cF cL h0 qo q H.size a jc js jv k fo hst hC hB (xs (i + 1))) (vx_cwSW 3 hts gL_law_L_sellerOf rfl rfl rfl (by decide +kernel) ⟨Nat.le_of_ble_eq_true rfl, Nat.le_of_ble_eq_true rfl⟩) ⟨pcH_blind, fun U hU hW => pcH_pre hPc hDc hKc hV hN hS hFc hU hW⟩ rfl rfl hl.1 rfl (lv_room (Nat.le_of_ble_eq_true rfl)) dL_law_970 ⟨(by show cells + (1) ≤ 601024; omega), (by show slots + (6) ≤ 7293034; omega)⟩) hS (fun q _ h => hFc q h) hFc (fun r fu t H1 locs ht hvm hw hB1 hz1 hk1 hS => ?_)
  obtain ⟨qy, jcy, jsy, jvy, ky, hCy, hPy, hKy, hDy⟩ := hB1
  rw [ht] at hPy
  have hwL := hw
  obtain ⟨hP, hD⟩ := va_join (wr := (WM cI cF cZ h1 q2 a th)) (w1 := WL cI cF cL h0 qy (if kPay a (xs (i + 1)) = 0 then a else a) jcy jsy jvy ky (capOf (nn ((if kPay a (xs (i + 1)) = 0 then a else a) 0 4))) qo fu) hP hD [0, 1, 2, 3, 4, 5, 6, 7, 8, 9, 10, 11, 12, 13, 14, 15, 16, 17, 18, 19, 20, 21, 22, 23, 24, 25, 26, 49] [27, 28, 29, 30, 31, 32, 33, 34, 35, 36, 37, 38, 39, 40, 41, 42, 43, 44, 45, 46, 47, 48] rfl rfl (by decide) (by decide) hk1 hFc hPy hDy
  have hP := hP.sub (ws' := WA cI cF cL cZ h0 qy (if kPay a (xs (i + 1)) = 0 then a else a) jcy jsy jvy ky (capOf (nn ((if kPay a (xs (i + 1)) = 0 then a else a) 0 4))) h1 q2 a th qo fu) [22, 23, 24, 25, 26, 27, 28, 29, 30, 31, 32, 33, 34, 35, 36, 37, 38, 39, 40, 41, 42, 43, 44, 45, 46, 47, 48, 0, 1, 2, 3, 4, 5, 6, 7, 8, 9, 10, 11, 12, 13, 14, 15, 16, 17, 18, 19, 20, 21, 49] rfl
  have hD := hD.sub (ws' := WA cI cF cL cZ h0 qy (if kPay a (xs (i + 1)) = 0 then a else a) jcy jsy jvy ky (capOf (nn ((if kPay a (xs (i + 1)) = 0 then a else a) 0 4))) h1 q2 a th qo fu) [22, 23, 24, 25, 26, 27, 28, 29, 30, 31, 32, 33, 34, 35, 36, 37, 38, 39, 40, 41, 42, 43, 44, 45, 46, 47, 48, 0, 1, 2, 3, 4, 5, 6, 7, 8, 9, 10, 11, 12, 13, 14, 15, 16, 17, 18, 19, 20, 21, 49] (by decide) rfl
  generalize H1 = H at hP hS ⊢
  refine y_topi (y := nI (kPay a (xs (i + 1)))) hwL.1 ?_
  have hI1 : okA (if kPay a (xs (i + 1)) = 0 then a else a) (n + 1) := by
    split
    · next h9 => exact okA_up hI hn
    · exact okA_up hI hn
  have hB1 := okA_B hI1
  refine lv_istore (lv' := [(5, .int (nI (kPay a (xs (i + 1))))), (4, .int (nI i)), (3, .ref qo), (2, .ref h1), (1, .ref h0), (0, .ref b)]) hx hb dL_law_973 hl (by decide) rfl (fun ls hl => ?_)
  refine lv_aload_n hx hb dL_law_975 rfl (lv_at hl 3 rfl) ?_
  refine lv_aload_n hx hb dL_law_976 rfl (lv_at hl 5 rfl) ?_
  refine lv_iload hx hb dL_law_977 (lv_at hl 1 rfl) ?_
  refine lv_iconst (v := 1) hx hb dL_law_979 (by decide) ?_
  refine lv_iadd hx hb dL_law_980 ?_
  refine y_topi (y := nI (i + 1)) (by first | exact nI_1 i | exact nI_add i 1) ?_
  refine va_sld hx hb hX hbl hbA hS (vp_in_nI (by omega) (by omega)) dL_law_981 ?_
  refine y_topi (y := xs (i + 1)) (by rw [nI_clamp (by omega)]) ?_
  have hPc := hP.sub (ws' := WM cI cF cZ h1 q2 a th) [27, 28, 29, 30, 31, 32, 33, 34, 35, 36, 37, 38, 39, 40, 41, 42, 43, 44, 45, 46, 47, 48] rfl
  have hDc := hD.sub (ws' := WM cI cF cZ h1 q2 a th) [27, 28, 29, 30, 31, 32, 33, 34, 35, 36, 37, 38, 39, 40, 41, 42, 43, 44, 45, 46, 47, 48] (by decide) rfl
  have hFc := va_free (wc := WM cI cF cZ h1 q2 a th) hD hS hA [27, 28, 29, 30, 31, 32, 33, 34, 35, 36, 37, 38, 39, 40, 41, 42, 43, 44, 45, 46, 47, 48] rfl
  have hKc := hK.sub (tys' := [(cI, .int), (cF, .float), (cZ, .boolean)]) [0, 1, 3] rfl
  refine va_calli (va_runV (As := [.int (xs (i + 1))]) (rest := []) ⟨hx, hb, hml, hown, hts⟩ (c_X5_sellerOf l dC dI cI cF cZ h1 q2 H.size a th hB (xs (i + 1))) (cwV 1 hts gL_law_X5_sellerOf rfl rfl rfl (by decide +kernel) ⟨Nat.le_of_ble_eq_true rfl, Nat.le_of_ble_eq_true rfl⟩) ⟨pcW_blind, va_recv hKc hPc (ci := 5) (q0 := 0) rfl rfl, fun U hU hW => pcW_pre hPc hDc hKc hU hW⟩ rfl rfl hl.1 rfl (lv_room (Nat.le_of_ble_eq_true rfl)) dL_law_982 ⟨(by show _ + 0 ≤ 601024; omega), (by show _ + 0 ≤ 7293034; omega)⟩) hS (fun q _ h => hFc q h) hFc (fun r u t H1 locs ht hvm hw hB1 hz1 hk1 hS => ?_)
  obtain ⟨hPy, hKy, hDy⟩ := hB1
  rw [ht] at hPy
  obtain ⟨hP, hD⟩ := va_join (wr := WL cI cF cL h0 qy (if kPay a (xs (i + 1)) = 0 then a else a) jcy jsy jvy ky (capOf (nn ((if kPay a (xs (i + 1)) = 0 then a else a) 0 4))) qo fu) (w1 := WM cI cF cZ h1 q2 a (nI (kPay a (xs (i + 1))))) hP hD [27, 28, 29, 30, 31, 32, 33, 34, 35, 36, 37, 38, 39, 40, 41, 42, 43, 44, 45, 46, 47, 48] [0, 1, 2, 3, 4, 5, 6, 7, 8, 9, 10, 11, 12, 13, 14, 15, 16, 17, 18, 19, 20, 21, 22, 23, 24, 25, 26, 49] rfl rfl (by decide) (by decide) hk1 hFc hPy hDy
  have hP := hP.sub (ws' := WA cI cF cL cZ h0 qy (if kPay a (xs (i + 1)) = 0 then a else a) jcy jsy jvy ky (capOf (nn ((if kPay a (xs (i + 1)) = 0 then a else a) 0 4))) h1 q2 a (nI (kPay a (xs (i + 1)))) qo fu) [0, 1, 2, 3, 4, 5, 6, 7, 8, 9, 10, 11, 12, 13, 14, 15, 16, 17, 18, 19, 20, 21, 22, 23, 24, 25, 26, 28, 29, 30, 31, 32, 33, 34, 35, 36, 37, 38, 39, 40, 41, 42, 43, 44, 45, 46, 47, 48, 49, 27] rfl
  have hD := hD.sub (ws' := WA cI cF cL cZ h0 qy (if kPay a (xs (i + 1)) = 0 then a else a) jcy jsy jvy ky (capOf (nn ((if kPay a (xs (i + 1)) = 0 then a else a) 0 4))) h1 q2 a (nI (kPay a (xs (i + 1)))) qo fu) [0, 1, 2, 3, 4, 5, 6, 7, 8, 9, 10, 11, 12, 13, 14, 15, 16, 17, 18, 19, 20, 21, 22, 23, 24, 25, 26, 28, 29, 30, 31, 32, 33, 34, 35, 36, 37, 38, 39, 40, 41, 42, 43, 44, 45, 46, 47, 48, 49, 27] (by decide) rfl
  generalize H1 = H at hP hS ⊢
  have hwR := hw
  have e9 : (if kPay a (xs (i + 1)) = 0 then a else a) = a := by split <;> rfl
  rw [e9] at hP hD hCy hI1 hB1
  obtain ⟨rv, erv⟩ : ∃ z, z = r := ⟨_, rfl⟩
  rw [← erv] at hwR ⊢
  refine lv_istore (lv' := [(6, .int rv), (5, .int (nI (kPay a (xs (i + 1))))), (4, .int (nI i)), (3, .ref qo), (2, .ref h1), (1, .ref h0), (0, .ref b)]) hx hb dL_law_985 hl (by decide) rfl (fun ls hl => ?_)
  refine lv_aload_n hx hb dL_law_987 rfl (lv_at hl 4 rfl) ?_
  have hPc := hP.sub (ws' := WM cI cF cZ h1 q2 a (nI (kPay a (xs (i + 1))))) [27, 28, 29, 30, 31, 32, 33, 34, 35, 36, 37, 38, 39, 40, 41, 42, 43, 44, 45, 46, 47, 48] rfl
  have hDc := hD.sub (ws' := WM cI cF cZ h1 q2 a (nI (kPay a (xs (i + 1))))) [27, 28, 29, 30, 31, 32, 33, 34, 35, 36, 37, 38, 39, 40, 41, 42, 43, 44, 45, 46, 47, 48] (by decide) rfl
  have hFc := va_free (wc := WM cI cF cZ h1 q2 a (nI (kPay a (xs (i + 1))))) hD hS hA [27, 28, 29, 30, 31, 32, 33, 34, 35, 36, 37, 38, 39, 40, 41, 42, 43, 44, 45, 46, 47, 48] rfl
  have hKc := hK.sub (tys' := [(cI, .int), (cF, .float), (cZ, .boolean)]) [0, 1, 3] rfl
  refine va_calli (va_runV (As := []) (rest := []) ⟨hx, hb, hml, hown, hts⟩ (c_X5_thrown l dC dI cI cF cZ h1 q2 H.size a (nI (kPay a (xs (i + 1)))) hB1) (cwV 0 hts gL_law_X5_thrown rfl rfl rfl (by decide +kernel) ⟨Nat.le_of_ble_eq_true rfl, Nat.le_of_ble_eq_true rfl⟩) ⟨pcW_blind, va_recv hKc hPc (ci := 5) (q0 := 0) rfl rfl, fun U hU hW => pcW_pre hPc hDc hKc hU hW⟩ rfl rfl hl.1 rfl (lv_room (Nat.le_of_ble_eq_true rfl)) dL_law_988 ⟨(by show _ + 0 ≤ 601024; omega), (by show _ + 0 ≤ 7293034; omega)⟩) hS (fun q _ h => hFc q h) hFc (fun r u t H1 locs ht hvm hw hB1 hz1 hk1 hS => ?_)
  obtain ⟨hPy, hKy, hDy⟩ := hB1
  rw [ht] at hPy
  obtain ⟨hP, hD⟩ := va_join (wr := WL cI cF cL h0 qy a jcy jsy jvy ky (capOf (nn (a 0 4))) qo fu) (w1 := WM cI cF cZ h1 q2 a (nI (kPay a (xs (i + 1))))) hP hD [27, 28, 29, 30, 31, 32, 33, 34, 35, 36, 37, 38, 39, 40, 41, 42, 43, 44, 45, 46, 47, 48] [0, 1, 2, 3, 4, 5, 6, 7, 8, 9, 10, 11, 12, 13, 14, 15, 16, 17, 18, 19, 20, 21, 22, 23, 24, 25, 26, 49] rfl rfl (by decide) (by decide) hk1 hFc hPy hDy
  have hP := hP.sub (ws' := WA cI cF cL cZ h0 qy a jcy jsy jvy ky (capOf (nn (a 0 4))) h1 q2 a (nI (kPay a (xs (i + 1)))) qo fu) [0, 1, 2, 3, 4, 5, 6, 7, 8, 9, 10, 11, 12, 13, 14, 15, 16, 17, 18, 19, 20, 21, 22, 23, 24, 25, 26, 28, 29, 30, 31, 32, 33, 34, 35, 36, 37, 38, 39, 40, 41, 42, 43, 44, 45, 46, 47, 48, 49, 27] rfl
  have hD := hD.sub (ws' := WA cI cF cL cZ h0 qy a jcy jsy jvy ky (capOf (nn (a 0 4))) h1 q2 a (nI (kPay a (xs (i + 1)))) qo fu) [0, 1, 2, 3, 4, 5, 6, 7, 8, 9, 10, 11, 12, 13, 14, 15, 16, 17, 18, 19, 20, 21, 22, 23, 24, 25, 26, 28, 29, 30, 31, 32, 33, 34, 35, 36, 37, 38, 39, 40, 41, 42, 43, 44, 45, 46, 47, 48, 49, 27] (by decide) rfl
  generalize H1 = H at hP hS ⊢
  refine y_topi (y := nI (kPay a (xs (i + 1)))) hw ?_
  refine lv_iload hx hb dL_law_991 (lv_at hl 1 rfl) ?_
  refine lv_icmp_eq (tgt := 998) hx hb dL_law_993 (by decide) (fun c_1 => ?_) (fun c_1 => ?_)
  · refine lv_iload hx hb dL_law_998 (lv_at hl 1 rfl) ?_
    refine lv_if_ne (tgt := 1015) hx hb dL_law_1000 (by decide) (fun c_2 => ?_) (fun c_2 => ?_)
    · refine lv_goto (tgt := 1294) hx hb dL_law_1015 (by decide) ?_
      refine W.widen (k := cells + 1026) (n := slots + 6156) (by omega) (by omega) ?_
      exact K _ qy jcy jsy jvy ky _ _ _ _ _ hI1 hCy hP hD hS (lv_sub hl [2, 3, 4, 5, 6] rfl)
    · have hK0 : kPay a (xs (i + 1)) = 0 := by
        rcases kPay_r a (xs (i + 1)) with h9 | h9 <;> first | exact h9 | (rw [h9] at c_2; exact absurd c_2 (by decide))
      refine lv_aload_n hx hb dL_law_1003 rfl (lv_at hl 3 rfl) ?_
      refine lv_iconst (v := 0) hx hb dL_law_1004 (by decide) ?_
      refine y_lld hx hb hK hP 49 2 rfl rfl dL_law_1005 ?_
      refine lv_iload hx hb dL_law_1006 (lv_at hl 0 rfl) ?_
      refine lv_i2l (v := (rv).toInt64) hx hb dL_law_1008 rfl ?_
      refine y_lcmp hx hb (by rw [hwL.2 hK0, hwR hK0]) dL_law_1009 ?_
      refine lv_if_eq (tgt := 1015) hx hb dL_law_1010 (by decide) (fun c_3 => ?_) (fun c_3 => ?_)
      · refine lv_goto (tgt := 1294) hx hb dL_law_1015 (by decide) ?_
        refine W.widen (k := cells + 1026) (n := slots + 6156) (by omega) (by omega) ?_
        exact K _ qy jcy jsy jvy ky _ _ _ _ _ hI1 hCy hP hD hS (lv_sub hl [2, 3, 4, 5, 6] rfl)
      · exact absurd rfl c_3
  · exact absurd rfl c_1
set_option maxHeartbeats 4000000 in
set_option maxRecDepth 100000 in
theorem lc_balance {p : Program} {l : Launch} {e : Env} {s : State} {m : MethodId} {below : List Frame} {meth : Method} {c : Code} {Q : State → Prop} {b L i n : Nat} {xs : Nat → Int32} {dC : Nat → ClassId} {dI : Nat → Nat → Nat} {cI cF cL cZ : ClassId} {A : Nat → Prop} (hst : l.stackTraces = false) (hx : p.tables.exec = Jvm.exec) (hb : c.code = cL_law) (hml : c.maxLocals = 7) (hown : s.vm.findClass RL = some m.cls) (hts : ∀ w ∈ wsL_law, w.before #[Value.ref b] s = true) (hX : va_X b L xs s s.heap) (hbl : b < s.heap.size) (hbA : ¬ A b) (hA : ∀ q : Nat, s.heap.size ≤ q → A q) (hK : va_K (dC, dI) vwCl [(cI, .int), (cF, .float), (cL, .long), (cZ, .boolean)] s) (hV : okV A s) (hN : okN3 s) {a : yA} (hI : okA a n) (hn : n < 512) (hi : i + 3 < L) (hL : L ≤ 2048) {h0 h1 qo : Nat} {q q2 : Nat → Nat} {jc js jv : Nat → Int32} {k : Nat} {th : Int32} {fo : Nat → Int64} {H : Heap} {locs : List Loc} {cells slots : Nat} {ls : Array Slot} (hC : okC a jc js jv k) (hP : va_P (dC, dI) vwCl (WA cI cF cL cZ h0 q a jc js jv k (capOf (nn (a 0 4))) h1 q2 a th qo fo) H) (hD : va_D A (WA cI cF cL cZ h0 q a jc js jv k (capOf (nn (a 0 4))) h1 q2 a th qo fo)) (hS : va_S A s.heap H locs) (hl : lv_has ls 7 [(4, .int (nI i)), (3, .ref qo), (2, .ref h1), (1, .ref h0), (0, .ref b)]) (hc : cells ≤ 100 + 1026 * n) (hs : slots ≤ 9000 + 6156 * n) (K : ∀ (a1 : yA) (q1 : Nat → Nat) (jc1 js1 jv1 : Nat → Int32) (k1 : Nat) (th1 : Int32) (fo1 : Nat → Int64) (H1 : Heap) (locs1 : List Loc) (ls1 : Array Slot), okA a1 (n + 1) → okC a1 jc1 js1 jv1 k1 → va_P (dC, dI) vwCl (WA cI cF cL cZ h0 q1 a1 jc1 js1 jv1 k1 (capOf (nn (a1 0 4))) h1 q2 a1 th1 qo fo1) H1 → va_D A (WA cI cF cL cZ h0 q1 a1 jc1 js1 jv1 k1 (capOf (nn (a1 0 4))) h1 q2 a1 th1 qo fo1) → va_S A s.heap H1 locs1 → lv_has ls1 7 [(4, .int (nI i)), (3, .ref qo), (2, .ref h1), (1, .ref h0), (0, .ref b)] → W p l e room_1 s m #[Value.ref b] below meth c H1 locs1 (cells + 1026) (slots + 6156) Q (F0 m 1294 ls1 [])) : W p l e room_1 s m #[Value.ref b] below meth c H locs cells slots Q (F0 m 1018 ls []) := by
  have hB := okA_B hI
  refine lv_aload_n hx hb dL_law_1018 rfl (lv_at hl 3 rfl) ?_
  refine lv_aload_n hx hb dL_law_1019 rfl (lv_at hl 4 rfl) ?_
  refine lv_iload hx hb dL_law_1020 (lv_at hl 0 rfl) ?_
  refine lv_iconst (v := 1) hx hb dL_law_1022 (by decide) ?_
  refine lv_iadd hx hb dL_law_1023 ?_
  refine y_topi (y := nI (i + 1)) (by first | exact nI_1 i | exact nI_add i 1) ?_
  refine va_sld hx hb hX hbl hbA hS (vp_in_nI (by omega) (by omega)) dL_law_1024 ?_
  refine y_topi (y := xs (i + 1)) (by rw [nI_clamp (by omega)]) ?_
  refine lv_aload_n hx hb dL_law_1025 rfl (lv_at hl 1 rfl) ?_
  have hPc := hP.sub (ws' := WL cI cF cL h0 q a jc js jv k (capOf (nn (a 0 4))) qo fo) [0, 1, 2, 3, 4, 5, 6, 7, 8, 9, 10, 11, 12, 13, 14, 15, 16, 17, 18, 19, 20, 21, 22, 23, 24, 25, 26, 49] rfl
  have hDc := hD.sub (ws' := WL cI cF cL h0 q a jc js jv k (capOf (nn (a 0 4))) qo fo) [0, 1, 2, 3, 4, 5, 6, 7, 8, 9, 10, 11, 12, 13, 14, 15, 16, 17, 18, 19, 20, 21, 22, 23, 24, 25, 26, 49] (by decide) rfl
  have hFc := va_free (wc := WL cI cF cL h0 q a jc js jv k (capOf (nn (a 0 4))) qo fo) hD hS hA [0, 1, 2, 3, 4, 5, 6, 7, 8, 9, 10, 11, 12, 13, 14, 15, 16, 17, 18, 19, 20, 21, 22, 23, 24, 25, 26, 49] rfl
  have hKc := hK.sub (tys' := [(cI, .int), (cF, .float), (cL, .long)]) [0, 1, 2] rfl
  refine va_calli (vx_runSW (As := [.ref h0, .int (xs (i + 1)), .ref qo]) (rest := []) ⟨hx, hb, hml, hown, hts⟩ (c_L_balance l dC dI cI cF cL h0 qo q H.size a jc js jv k fo hst hC hB (xs (i + 1))) (vx_cwSW 3 hts gL_law_L_balance rfl rfl rfl (by decide +kernel) ⟨Nat.le_of_ble_eq_true rfl, Nat.le_of_ble_eq_true rfl⟩) ⟨pcH_blind, fun U hU hW => pcH_pre hPc hDc hKc hV hN hS hFc hU hW⟩ rfl rfl hl.1 rfl (lv_room (Nat.le_of_ble_eq_true rfl)) dL_law_1026 ⟨(by show cells + (1) ≤ 601024; omega), (by show slots + (6) ≤ 7293034; omega)⟩) hS (fun q _ h => hFc q h) hFc (fun r fu t H1 locs ht hvm hw hB1 hz1 hk1 hS => ?_)
  obtain ⟨qy, jcy, jsy, jvy, ky, hCy, hPy, hKy, hDy⟩ := hB1
  rw [ht] at hPy
  have hwL := hw
  obtain ⟨hP, hD⟩ := va_join (wr := (WM cI cF cZ h1 q2 a th)) (w1 := WL cI cF cL h0 qy (if kSel a (xs (i + 1)) = 0 then a else a) jcy jsy jvy ky (capOf (nn ((if kSel a (xs (i + 1)) = 0 then a else a) 0 4))) qo fu) hP hD [0, 1, 2, 3, 4, 5, 6, 7, 8, 9, 10, 11, 12, 13, 14, 15, 16, 17, 18, 19, 20, 21, 22, 23, 24, 25, 26, 49] [27, 28, 29, 30, 31, 32, 33, 34, 35, 36, 37, 38, 39, 40, 41, 42, 43, 44, 45, 46, 47, 48] rfl rfl (by decide) (by decide) hk1 hFc hPy hDy
  have hP := hP.sub (ws' := WA cI cF cL cZ h0 qy (if kSel a (xs (i + 1)) = 0 then a else a) jcy jsy jvy ky (capOf (nn ((if kSel a (xs (i + 1)) = 0 then a else a) 0 4))) h1 q2 a th qo fu) [22, 23, 24, 25, 26, 27, 28, 29, 30, 31, 32, 33, 34, 35, 36, 37, 38, 39, 40, 41, 42, 43, 44, 45, 46, 47, 48, 0, 1, 2, 3, 4, 5, 6, 7, 8, 9, 10, 11, 12, 13, 14, 15, 16, 17, 18, 19, 20, 21, 49] rfl
  have hD := hD.sub (ws' := WA cI cF cL cZ h0 qy (if kSel a (xs (i + 1)) = 0 then a else a) jcy jsy jvy ky (capOf (nn ((if kSel a (xs (i + 1)) = 0 then a else a) 0 4))) h1 q2 a th qo fu) [22, 23, 24, 25, 26, 27, 28, 29, 30, 31, 32, 33, 34, 35, 36, 37, 38, 39, 40, 41, 42, 43, 44, 45, 46, 47, 48, 0, 1, 2, 3, 4, 5, 6, 7, 8, 9, 10, 11, 12, 13, 14, 15, 16, 17, 18, 19, 20, 21, 49] (by decide) rfl
  generalize H1 = H at hP hS ⊢
  refine y_topi (y := nI (kSel a (xs (i + 1)))) hwL.1 ?_
  have hI1 : okA (if kSel a (xs (i + 1)) = 0 then a else a) (n + 1) := by
    split
    · next h9 => exact okA_up hI hn
    · exact okA_up hI hn
  have hB1 := okA_B hI1
  refine lv_istore (lv' := [(5, .int (nI (kSel a (xs (i + 1))))), (4, .int (nI i)), (3, .ref qo), (2, .ref h1), (1, .ref h0), (0, .ref b)]) hx hb dL_law_1029 hl (by decide) rfl (fun ls hl => ?_)
  refine lv_aload_n hx hb dL_law_1031 rfl (lv_at hl 3 rfl) ?_
  refine lv_aload_n hx hb dL_law_1032 rfl (lv_at hl 5 rfl) ?_
  refine lv_iload hx hb dL_law_1033 (lv_at hl 1 rfl) ?_
  refine lv_iconst (v := 1) hx hb dL_law_1035 (by decide) ?_
  refine lv_iadd hx hb dL_law_1036 ?_
  refine y_topi (y := nI (i + 1)) (by first | exact nI_1 i | exact nI_add i 1) ?_
  refine va_sld hx hb hX hbl hbA hS (vp_in_nI (by omega) (by omega)) dL_law_1037 ?_
  refine y_topi (y := xs (i + 1)) (by rw [nI_clamp (by omega)]) ?_
  have hPc := hP.sub (ws' := WM cI cF cZ h1 q2 a th) [27, 28, 29, 30, 31, 32, 33, 34, 35, 36, 37, 38, 39, 40, 41, 42, 43, 44, 45, 46, 47, 48] rfl
  have hDc := hD.sub (ws' := WM cI cF cZ h1 q2 a th) [27, 28, 29, 30, 31, 32, 33, 34, 35, 36, 37, 38, 39, 40, 41, 42, 43, 44, 45, 46, 47, 48] (by decide) rfl
  have hFc := va_free (wc := WM cI cF cZ h1 q2 a th) hD hS hA [27, 28, 29, 30, 31, 32, 33, 34, 35, 36, 37, 38, 39, 40, 41, 42, 43, 44, 45, 46, 47, 48] rfl
  have hKc := hK.sub (tys' := [(cI, .int), (cF, .float), (cZ, .boolean)]) [0, 1, 3] rfl
  refine va_calli (va_runV (As := [.int (xs (i + 1))]) (rest := []) ⟨hx, hb, hml, hown, hts⟩ (c_X5_balance l dC dI cI cF cZ h1 q2 H.size a th hB (xs (i + 1))) (cwV 1 hts gL_law_X5_balance rfl rfl rfl (by decide +kernel) ⟨Nat.le_of_ble_eq_true rfl, Nat.le_of_ble_eq_true rfl⟩) ⟨pcW_blind, va_recv hKc hPc (ci := 5) (q0 := 0) rfl rfl, fun U hU hW => pcW_pre hPc hDc hKc hU hW⟩ rfl rfl hl.1 rfl (lv_room (Nat.le_of_ble_eq_true rfl)) dL_law_1038 ⟨(by show _ + 0 ≤ 601024; omega), (by show _ + 0 ≤ 7293034; omega)⟩) hS (fun q _ h => hFc q h) hFc (fun r u t H1 locs ht hvm hw hB1 hz1 hk1 hS => ?_)
  obtain ⟨hPy, hKy, hDy⟩ := hB1
  rw [ht] at hPy
  obtain ⟨hP, hD⟩ := va_join (wr := WL cI cF cL h0 qy (if kSel a (xs (i + 1)) = 0 then a else a) jcy jsy jvy ky (capOf (nn ((if kSel a (xs (i + 1)) = 0 then a else a) 0 4))) qo fu) (w1 := WM cI cF cZ h1 q2 a (nI (kSel a (xs (i + 1))))) hP hD [27, 28, 29, 30, 31, 32, 33, 34, 35, 36, 37, 38, 39, 40, 41, 42, 43, 44, 45, 46, 47, 48] [0, 1, 2, 3, 4, 5, 6, 7, 8, 9, 10, 11, 12, 13, 14, 15, 16, 17, 18, 19, 20, 21, 22, 23, 24, 25, 26, 49] rfl rfl (by decide) (by decide) hk1 hFc hPy hDy
  have hP := hP.sub (ws' := WA cI cF cL cZ h0 qy (if kSel a (xs (i + 1)) = 0 then a else a) jcy jsy jvy ky (capOf (nn ((if kSel a (xs (i + 1)) = 0 then a else a) 0 4))) h1 q2 a (nI (kSel a (xs (i + 1)))) qo fu) [0, 1, 2, 3, 4, 5, 6, 7, 8, 9, 10, 11, 12, 13, 14, 15, 16, 17, 18, 19, 20, 21, 22, 23, 24, 25, 26, 28, 29, 30, 31, 32, 33, 34, 35, 36, 37, 38, 39, 40, 41, 42, 43, 44, 45, 46, 47, 48, 49, 27] rfl
  have hD := hD.sub (ws' := WA cI cF cL cZ h0 qy (if kSel a (xs (i + 1)) = 0 then a else a) jcy jsy jvy ky (capOf (nn ((if kSel a (xs (i + 1)) = 0 then a else a) 0 4))) h1 q2 a (nI (kSel a (xs (i + 1)))) qo fu) [0, 1, 2, 3, 4, 5, 6, 7, 8, 9, 10, 11, 12, 13, 14, 15, 16, 17, 18, 19, 20, 21, 22, 23, 24, 25, 26, 28, 29, 30, 31, 32, 33, 34, 35, 36, 37, 38, 39, 40, 41, 42, 43, 44, 45, 46, 47, 48, 49, 27] (by decide) rfl
  generalize H1 = H at hP hS ⊢
  have hwR := hw
  have e9 : (if kSel a (xs (i + 1)) = 0 then a else a) = a := by split <;> rfl
  rw [e9] at hP hD hCy hI1 hB1
  obtain ⟨rv, erv⟩ : ∃ z, z = r := ⟨_, rfl⟩
  rw [← erv] at hwR ⊢
  refine lv_istore (lv' := [(6, .int rv), (5, .int (nI (kSel a (xs (i + 1))))), (4, .int (nI i)), (3, .ref qo), (2, .ref h1), (1, .ref h0), (0, .ref b)]) hx hb dL_law_1041 hl (by decide) rfl (fun ls hl => ?_)
  refine lv_aload_n hx hb dL_law_1043 rfl (lv_at hl 4 rfl) ?_
  have hPc := hP.sub (ws' := WM cI cF cZ h1 q2 a (nI (kSel a (xs (i + 1))))) [27, 28, 29, 30, 31, 32, 33, 34, 35, 36, 37, 38, 39, 40, 41, 42, 43, 44, 45, 46, 47, 48] rfl
  have hDc := hD.sub (ws' := WM cI cF cZ h1 q2 a (nI (kSel a (xs (i + 1))))) [27, 28, 29, 30, 31, 32, 33, 34, 35, 36, 37, 38, 39, 40, 41, 42, 43, 44, 45, 46, 47, 48] (by decide) rfl
  have hFc := va_free (wc := WM cI cF cZ h1 q2 a (nI (kSel a (xs (i + 1))))) hD hS hA [27, 28, 29, 30, 31, 32, 33, 34, 35, 36, 37, 38, 39, 40, 41, 42, 43, 44, 45, 46, 47, 48] rfl
  have hKc := hK.sub (tys' := [(cI, .int), (cF, .float), (cZ, .boolean)]) [0, 1, 3] rfl
  refine va_calli (va_runV (As := []) (rest := []) ⟨hx, hb, hml, hown, hts⟩ (c_X5_thrown l dC dI cI cF cZ h1 q2 H.size a (nI (kSel a (xs (i + 1)))) hB1) (cwV 0 hts gL_law_X5_thrown rfl rfl rfl (by decide +kernel) ⟨Nat.le_of_ble_eq_true rfl, Nat.le_of_ble_eq_true rfl⟩) ⟨pcW_blind, va_recv hKc hPc (ci := 5) (q0 := 0) rfl rfl, fun U hU hW => pcW_pre hPc hDc hKc hU hW⟩ rfl rfl hl.1 rfl (lv_room (Nat.le_of_ble_eq_true rfl)) dL_law_1044 ⟨(by show _ + 0 ≤ 601024; omega), (by show _ + 0 ≤ 7293034; omega)⟩) hS (fun q _ h => hFc q h) hFc (fun r u t H1 locs ht hvm hw hB1 hz1 hk1 hS => ?_)
  obtain ⟨hPy, hKy, hDy⟩ := hB1
  rw [ht] at hPy
  obtain ⟨hP, hD⟩ := va_join (wr := WL cI cF cL h0 qy a jcy jsy jvy ky (capOf (nn (a 0 4))) qo fu) (w1 := WM cI cF cZ h1 q2 a (nI (kSel a (xs (i + 1))))) hP hD [27, 28, 29, 30, 31, 32, 33, 34, 35, 36, 37, 38, 39, 40, 41, 42, 43, 44, 45, 46, 47, 48] [0, 1, 2, 3, 4, 5, 6, 7, 8, 9, 10, 11, 12, 13, 14, 15, 16, 17, 18, 19, 20, 21, 22, 23, 24, 25, 26, 49] rfl rfl (by decide) (by decide) hk1 hFc hPy hDy
  have hP := hP.sub (ws' := WA cI cF cL cZ h0 qy a jcy jsy jvy ky (capOf (nn (a 0 4))) h1 q2 a (nI (kSel a (xs (i + 1)))) qo fu) [0, 1, 2, 3, 4, 5, 6, 7, 8, 9, 10, 11, 12, 13, 14, 15, 16, 17, 18, 19, 20, 21, 22, 23, 24, 25, 26, 28, 29, 30, 31, 32, 33, 34, 35, 36, 37, 38, 39, 40, 41, 42, 43, 44, 45, 46, 47, 48, 49, 27] rfl
  have hD := hD.sub (ws' := WA cI cF cL cZ h0 qy a jcy jsy jvy ky (capOf (nn (a 0 4))) h1 q2 a (nI (kSel a (xs (i + 1)))) qo fu) [0, 1, 2, 3, 4, 5, 6, 7, 8, 9, 10, 11, 12, 13, 14, 15, 16, 17, 18, 19, 20, 21, 22, 23, 24, 25, 26, 28, 29, 30, 31, 32, 33, 34, 35, 36, 37, 38, 39, 40, 41, 42, 43, 44, 45, 46, 47, 48, 49, 27] (by decide) rfl
  generalize H1 = H at hP hS ⊢
  refine y_topi (y := nI (kSel a (xs (i + 1)))) hw ?_
  refine lv_iload hx hb dL_law_1047 (lv_at hl 1 rfl) ?_
  refine lv_icmp_eq (tgt := 1054) hx hb dL_law_1049 (by decide) (fun c_1 => ?_) (fun c_1 => ?_)
  · refine lv_iload hx hb dL_law_1054 (lv_at hl 1 rfl) ?_
    refine lv_if_ne (tgt := 1071) hx hb dL_law_1056 (by decide) (fun c_2 => ?_) (fun c_2 => ?_)
    · refine lv_goto (tgt := 1294) hx hb dL_law_1071 (by decide) ?_
      refine W.widen (k := cells + 1026) (n := slots + 6156) (by omega) (by omega) ?_
      exact K _ qy jcy jsy jvy ky _ _ _ _ _ hI1 hCy hP hD hS (lv_sub hl [2, 3, 4, 5, 6] rfl)
    · have hK0 : kSel a (xs (i + 1)) = 0 := by
        rcases kSel_r a (xs (i + 1)) with h9 | h9 <;> first | exact h9 | (rw [h9] at c_2; exact absurd c_2 (by decide))
      refine lv_aload_n hx hb dL_law_1059 rfl (lv_at hl 3 rfl) ?_
      refine lv_iconst (v := 0) hx hb dL_law_1060 (by decide) ?_
      refine y_lld hx hb hK hP 49 2 rfl rfl dL_law_1061 ?_
      refine lv_iload hx hb dL_law_1062 (lv_at hl 0 rfl) ?_
      refine lv_i2l (v := (rv).toInt64) hx hb dL_law_1064 rfl ?_
      refine y_lcmp hx hb (by rw [hwL.2 hK0, hwR hK0]) dL_law_1065 ?_
      refine lv_if_eq (tgt := 1071) hx hb dL_law_1066 (by decide) (fun c_3 => ?_) (fun c_3 => ?_)
      · refine lv_goto (tgt := 1294) hx hb dL_law_1071 (by decide) ?_
        refine W.widen (k := cells + 1026) (n := slots + 6156) (by omega) (by omega) ?_
        exact K _ qy jcy jsy jvy ky _ _ _ _ _ hI1 hCy hP hD hS (lv_sub hl [2, 3, 4, 5, 6] rfl)
      · exact absurd rfl c_3
  · exact absurd rfl c_1
