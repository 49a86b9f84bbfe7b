set_option maxHeartbeats 4000000 in
set_option maxRecDepth 100000 in
theorem law_b {p : Program} {l : Launch} {e : Env} {s : State} {m : MethodId} {below : List Frame} {meth : Method} {c : Code} {Q : State → Prop} {b L : Nat} {xs : Nat → Int32} {dC : Nat → ClassId} {dI : Nat → Nat → Nat} {cI cF : ClassId} {A : Nat → Prop} {h0 h1 : Nat} (hst : l.stackTraces = false) (hx : p.tables.exec = Jvm.exec) (hb : c.code = cL_law) (hml : c.maxLocals = 7) (hown : s.vm.findClass RL = some m.cls) (hts : ∀ w ∈ wsL_law, w.before #[Value.ref b] s = true) (hX : va_X b L xs s s.heap) (hbl : b < s.heap.size) (hbA : ¬ A b) (hA : ∀ q : Nat, s.heap.size ≤ q → A q) (hK : va_K (dC, dI) vwCl [(cI, .int), (cF, .float)] s) (hV : okV A s) (hN : okN3 s) (hL : L ≤ 260) (hend : ∀ (H : Heap) (locs : List Loc) (cells slots : Nat) (ls : Array Slot), va_S A s.heap H locs → cells ≤ 609056 → slots ≤ 7274300 → W p l e room_1 s m #[Value.ref b] below meth c H locs cells slots Q (F0 m 286 ls [.int 1])) {a : yA} (hI : okX a 3 0 0) {q : Nat → Nat} {jc js jv : Nat → Int32} {k : Nat} {q2 : Nat → Nat} {jc2 js2 jv2 : Nat → Int32} {k2 : Nat} {H : Heap} {locs : List Loc} {cells slots : Nat} {ls : Array Slot} (hC : okC a jc js jv k) (hC2 : okC a jc2 js2 jv2 k2) (hP : va_P (dC, dI) vwCl (WB cI cF h0 q a jc js jv k (capOf (nn (a 0 4))) h1 q2 a jc2 js2 jv2 k2 (capOf (nn (a 0 4)))) H) (hD : va_D A (WB cI cF h0 q a jc js jv k (capOf (nn (a 0 4))) h1 q2 a jc2 js2 jv2 k2 (capOf (nn (a 0 4))))) (hS : va_S A s.heap H locs) (hl : lv_has ls 7 [(4, .int (nI 3)), (3, .int 1), (2, .ref h1), (1, .ref h0), (0, .ref b)]) (hc : cells ≤ 10000) (hs : slots ≤ 60000) : W p l e room_1 s m #[Value.ref b] below meth c H locs cells slots Q (F0 m 86 ls []) := by
  have hP : va_P (dC, dI) vwCl (WB cI cF h0 q a jc js jv k (capOf (nn (a 0 4))) h1 q2 a jc2 js2 jv2 k2 (capOf (nn (a 0 4)))) H := hP
  have hD : va_D A (WB cI cF h0 q a jc js jv k (capOf (nn (a 0 4))) h1 q2 a jc2 js2 jv2 k2 (capOf (nn (a 0 4)))) := hD
  refine y_loopC (fun k9 H locs ls cells slots => ∃ (i : Nat) (a : yA) (n : Nat) (t9 : Int) (q : Nat → Nat) (jc js jv : Nat → Int32) (k : Nat) (q2 : Nat → Nat) (jc2 js2 jv2 : Nat → Int32) (k2 : Nat), k9 + i = 90 ∧ 3 ≤ i ∧ okX a n ((i : Int) - 3) t9 ∧ n ≤ i + (i + 1) / 7 + 3 * ((i + 1) / 13) ∧ t9 ≤ (((i + 1) / 13 : Nat) : Int) ∧ 0 ≤ t9 ∧ cells ≤ 10000 + 3752 * (i - 3) + 0 + 60 * ((i + 2) / 6) + 2100 * ((i + 1) / 7) + 2100 * ((i + 1) / 13) ∧ slots ≤ 60000 + 22512 * (i - 3) + 0 + 360 * ((i + 2) / 6) + 12600 * ((i + 1) / 7) + 12600 * ((i + 1) / 13) ∧ okC a jc js jv k ∧ okC a jc2 js2 jv2 k2 ∧ va_P (dC, dI) vwCl (WB cI cF h0 q a jc js jv k (capOf (nn (a 0 4))) h1 q2 a jc2 js2 jv2 k2 (capOf (nn (a 0 4)))) H ∧ va_D A (WB cI cF h0 q a jc js jv k (capOf (nn (a 0 4))) h1 q2 a jc2 js2 jv2 k2 (capOf (nn (a 0 4)))) ∧ va_S A s.heap H locs ∧ lv_has ls 7 [(4, .int (nI i)), (3, .int 1), (2, .ref h1), (1, .ref h0), (0, .ref b)]) (87) ⟨3, a, 3, 0, q, jc, js, jv, k, q2, jc2, js2, jv2, k2, rfl, Nat.le_refl _, (okX_mono hI (by omega) (Int.le_refl _)), (by omega), (by omega), (by omega), (by omega), (by omega), hC, hC2, hP, hD, hS, lv_sub hl [0, 1, 2, 3, 4] rfl⟩ (fun k9 H locs ls cells slots hI9 ih => ?_)
  obtain ⟨i, a, n, t9, q, jc, js, jv, k, q2, jc2, js2, jv2, k2, hf0, hf1, hf2, hf3, hf4, hf5, hf6, hf7, hCq, hCq2, hP, hD, hS, hl⟩ := hI9
  have hI := hf2
  have hB := okA_B hI.1
  refine lv_iload hx hb dL_law_86 (lv_at hl 0 rfl) ?_
  refine lv_bipush (v := 90) hx hb dL_law_88 (by decide) ?_
  refine lv_icmp_ge (tgt := 262) hx hb dL_law_90 (by decide) (fun c_1 => ?_) (fun c_1 => ?_)
  · have ei : i = 90 := by
      have h9 := (nI_leI (a := 90) (by decide) (by omega)).mp c_1
      omega
    subst ei
    refine lv_iload_n hx hb dL_law_262 rfl (lv_at hl 1 rfl) ?_
    refine lv_if_eq (tgt := 285) hx hb dL_law_263 (by decide) (fun c_2 => ?_) (fun c_2 => ?_)
    · exact absurd c_2 (by decide)
    · refine lv_aload_n hx hb dL_law_266 rfl (lv_at hl 3 rfl) ?_
      refine lv_aload_n hx hb dL_law_267 rfl (lv_at hl 2 rfl) ?_
      have hP : va_P (dC, dI) vwCl (WB cI cF h0 q a jc js jv k (capOf (nn (a 0 4))) h1 q2 a jc2 js2 jv2 k2 (capOf (nn (a 0 4)))) H := hP
      have hD : va_D A (WB cI cF h0 q a jc js jv k (capOf (nn (a 0 4))) h1 q2 a jc2 js2 jv2 k2 (capOf (nn (a 0 4)))) := hD
      have hFc := y_free hD hS hA
      refine va_calli (va_runS (As := [.ref h0, .ref h1]) (rest := []) ⟨hx, hb, hml, hown, hts⟩ (c_L_areAlike l dC dI cI cF h0 h1 q q2 H.size a jc js jv k jc2 js2 jv2 k2 hst hCq hCq2 hI) (va_cwS 2 hts gL_law_L_areAlike rfl rfl rfl (by decide +kernel) ⟨Nat.le_of_ble_eq_true rfl, Nat.le_of_ble_eq_true rfl⟩) ⟨pcH_blind, fun U hU hW => pcH_pre hP hD hK hV hN hS hFc hU hW⟩ rfl rfl hl.1 rfl (lv_room (Nat.le_of_ble_eq_true rfl)) dL_law_268 ⟨(by show cells + 60 ≤ 609056; omega), (by show slots + 360 ≤ 7274300; omega)⟩) hS (fun q _ h => hFc q h) hFc (fun r u t H1 locs ht hvm hw hB1 hz1 hk1 hS => ?_)
      obtain ⟨qn3, jcn3, jsn3, jvn3, kn3, qpn3, jcpn3, jspn3, jvpn3, kpn3, hCn3, hCpn3, hPy, hKy, hDy⟩ := hB1
      rw [ht] at hPy
      have hP : va_P (dC, dI) vwCl (WB cI cF h0 qn3 a jcn3 jsn3 jvn3 kn3 (capOf (nn (a 0 4))) h1 qpn3 a jcpn3 jspn3 jvpn3 kpn3 (capOf (nn (a 0 4)))) _ := hPy
      have hD : va_D A (WB cI cF h0 qn3 a jcn3 jsn3 jvn3 kn3 (capOf (nn (a 0 4))) h1 qpn3 a jcpn3 jspn3 jvpn3 kpn3 (capOf (nn (a 0 4)))) := hDy.weaken (fun kk qq _ h => hFc qq.1 h)
      generalize H1 = H at hP hS ⊢
      refine y_topi (y := 1) hw ?_
      refine lv_if_eq (tgt := 285) hx hb dL_law_271 (by decide) (fun c_4 => ?_) (fun c_4 => ?_)
      · exact absurd c_4 (by decide)
      · refine lv_aload_n hx hb dL_law_274 rfl (lv_at hl 2 rfl) ?_
        have hP : va_P (dC, dI) vwCl (WB cI cF h0 qn3 a jcn3 jsn3 jvn3 kn3 (capOf (nn (a 0 4))) h1 qpn3 a jcpn3 jspn3 jvpn3 kpn3 (capOf (nn (a 0 4)))) H := hP
        have hD : va_D A (WB cI cF h0 qn3 a jcn3 jsn3 jvn3 kn3 (capOf (nn (a 0 4))) h1 qpn3 a jcpn3 jspn3 jvpn3 kpn3 (capOf (nn (a 0 4)))) := hD
        have hPc := hP.sub (ws' := WC cI cF h1 qpn3 a jcpn3 jspn3 jvpn3 kpn3 (capOf (nn (a 0 4)))) [27, 28, 29, 30, 31, 32, 33, 34, 35, 36, 37, 38, 39, 40, 41, 42, 43, 44, 45, 46, 47, 48, 49, 50, 51, 52, 53] rfl
        have hDc := hD.sub (ws' := WC cI cF h1 qpn3 a jcpn3 jspn3 jvpn3 kpn3 (capOf (nn (a 0 4)))) [27, 28, 29, 30, 31, 32, 33, 34, 35, 36, 37, 38, 39, 40, 41, 42, 43, 44, 45, 46, 47, 48, 49, 50, 51, 52, 53] (by decide) rfl
        have hFc := va_free (wc := WC cI cF h1 qpn3 a jcpn3 jspn3 jvpn3 kpn3 (capOf (nn (a 0 4)))) hD hS hA [27, 28, 29, 30, 31, 32, 33, 34, 35, 36, 37, 38, 39, 40, 41, 42, 43, 44, 45, 46, 47, 48, 49, 50, 51, 52, 53] rfl
        refine va_calli (va_runS (As := [.ref h1]) (rest := []) ⟨hx, hb, hml, hown, hts⟩ (c_L_isKept l dC dI cI cF h1 qpn3 H.size a jcpn3 jspn3 jvpn3 kpn3 hst hCpn3 hI (by omega) (by omega) (by omega) hf5) (va_cwS 1 hts gL_law_L_isKept rfl rfl rfl (by decide +kernel) ⟨Nat.le_of_ble_eq_true rfl, Nat.le_of_ble_eq_true rfl⟩) ⟨pcH_blind, fun U hU hW => pcH_pre hPc hDc hK hV hN hS hFc hU hW⟩ rfl rfl hl.1 rfl (lv_room (Nat.le_of_ble_eq_true rfl)) dL_law_275 ⟨(by show cells + 60 + 1700 ≤ 609056; omega), (by show slots + 360 + 10200 ≤ 7274300; omega)⟩) hS (fun q _ h => hFc q h) hFc (fun r u t H1 locs ht hvm hw hB1 hz1 hk1 hS => ?_)
        obtain ⟨qn5, jcn5, jsn5, jvn5, kn5, hCn5, hPy, hKy, hDy⟩ := hB1
        rw [ht] at hPy
        obtain ⟨hP, hD⟩ := va_join (wr := WC cI cF h0 qn3 a jcn3 jsn3 jvn3 kn3 (capOf (nn (a 0 4)))) (w1 := WC cI cF h1 qn5 a jcn5 jsn5 jvn5 kn5 (capOf (nn (a 0 4)))) hP hD [27, 28, 29, 30, 31, 32, 33, 34, 35, 36, 37, 38, 39, 40, 41, 42, 43, 44, 45, 46, 47, 48, 49, 50, 51, 52, 53] [0, 1, 2, 3, 4, 5, 6, 7, 8, 9, 10, 11, 12, 13, 14, 15, 16, 17, 18, 19, 20, 21, 22, 23, 24, 25, 26] rfl rfl (by decide) (by decide) hk1 hFc hPy hDy
        have hP := hP.sub (ws' := WB cI cF h0 qn3 a jcn3 jsn3 jvn3 kn3 (capOf (nn (a 0 4))) h1 qn5 a jcn5 jsn5 jvn5 kn5 (capOf (nn (a 0 4)))) [0, 1, 2, 3, 4, 5, 6, 7, 8, 9, 10, 11, 12, 13, 14, 15, 16, 17, 18, 19, 20, 21, 22, 23, 24, 25, 26, 27, 28, 29, 30, 31, 32, 33, 34, 35, 36, 37, 38, 39, 40, 41, 42, 43, 44, 45, 46, 47, 48, 49, 50, 51, 52, 53] rfl
        have hD := hD.sub (ws' := WB cI cF h0 qn3 a jcn3 jsn3 jvn3 kn3 (capOf (nn (a 0 4))) h1 qn5 a jcn5 jsn5 jvn5 kn5 (capOf (nn (a 0 4)))) [0, 1, 2, 3, 4, 5, 6, 7, 8, 9, 10, 11, 12, 13, 14, 15, 16, 17, 18, 19, 20, 21, 22, 23, 24, 25, 26, 27, 28, 29, 30, 31, 32, 33, 34, 35, 36, 37, 38, 39, 40, 41, 42, 43, 44, 45, 46, 47, 48, 49, 50, 51, 52, 53] (by decide) rfl
        generalize H1 = H at hP hS ⊢
        have hCn5 : okC a jcn5 jsn5 jvn5 kn5 := hCn5
        refine y_topi (y := 1) hw ?_
        refine lv_if_eq (tgt := 285) hx hb dL_law_278 (by decide) (fun c_6 => ?_) (fun c_6 => ?_)
        · exact absurd c_6 (by decide)
        · refine lv_iconst (v := 1) hx hb dL_law_281 (by decide) ?_
          refine lv_goto (tgt := 286) hx hb dL_law_282 (by decide) ?_
          exact hend _ _ _ _ _ hS (by show cells + 60 + 1700 ≤ 609056; omega) (by show slots + 360 + 10200 ≤ 7274300; omega)
  · have hi90 : i < 90 := by
      by_cases q : i < 90
      · exact q
      · exact absurd ((nI_leI (a := 90) (by decide) (by omega)).mpr (by omega)) c_1
    refine lv_iload_n hx hb dL_law_93 rfl (lv_at hl 1 rfl) ?_
    refine lv_if_eq (tgt := 262) hx hb dL_law_94 (by decide) (fun c_7 => ?_) (fun c_7 => ?_)
    · exact absurd c_7 (by decide)
    · refine lv_aload_n hx hb dL_law_97 rfl (lv_at hl 4 rfl) ?_
      refine lv_iload hx hb dL_law_98 (lv_at hl 0 rfl) ?_
      refine lv_bipush (v := 61) hx hb dL_law_100 (by decide) ?_
      refine lv_irem hx hb dL_law_102 (by decide) ?_
      refine y_topi (y := nI (i % 61)) (pk_rem (a := i) (d := 61) (by omega) (by decide) (by decide)) ?_
      refine va_calli (va_runS (As := [.ref b, .int (nI (i % 61))]) (rest := []) ⟨hx, hb, hml, hown, hts⟩ (c_L_cell l b L xs hL (i % 61) (by omega)) (va_cwS 2 hts gL_law_L_cell rfl rfl rfl (by decide +kernel) ⟨Nat.le_of_ble_eq_true rfl, Nat.le_of_ble_eq_true rfl⟩) ⟨pcX_blind, fun U hU hW => pcX_pre hX hbl hbA hS hU hW⟩ rfl rfl hl.1 rfl (lv_room (Nat.le_of_ble_eq_true rfl)) dL_law_103 ⟨(by show cells + 0 ≤ 609056; omega), (by show slots + 0 ≤ 7274300; omega)⟩) hS (fun q _ h => h.elim) (fun q h => h.elim) (fun r u t H1 locs ht hvm hw hB1 hz1 hk1 hS => ?_)
      have hP := y_keptP hP hk1
      generalize H1 = H at hP hS ⊢
      refine y_topi (y := celI xs L (nI (i % 61))) hw ?_
      refine lv_sipush (v := 1049) hx hb dL_law_106 (by decide) ?_
      refine lv_iload hx hb dL_law_109 (lv_at hl 0 rfl) ?_
      refine lv_bipush (v := 61) hx hb dL_law_111 (by decide) ?_
      refine lv_idiv hx hb dL_law_113 (by decide) ?_
      refine lv_imul hx hb dL_law_114 ?_
      refine lv_iadd hx hb dL_law_115 ?_
      obtain ⟨v, ev⟩ : ∃ v, v = (celI xs L (nI (i % 61))) + (1049 * ((nI i) / 61)) := ⟨_, rfl⟩
      refine y_topi (y := v) ev.symm ?_
      refine lv_istore (lv' := [(5, .int v), (4, .int (nI i)), (3, .int 1), (2, .ref h1), (1, .ref h0), (0, .ref b)]) hx hb dL_law_116 hl (by decide) rfl (fun ls hl => ?_)
      refine lv_aload_n hx hb dL_law_118 rfl (lv_at hl 4 rfl) ?_
      refine lv_iload hx hb dL_law_119 (lv_at hl 0 rfl) ?_
      have hP : va_P (dC, dI) vwCl (WB cI cF h0 q a jc js jv k (capOf (nn (a 0 4))) h1 q2 a jc2 js2 jv2 k2 (capOf (nn (a 0 4)))) H := hP
      have hD : va_D A (WB cI cF h0 q a jc js jv k (capOf (nn (a 0 4))) h1 q2 a jc2 js2 jv2 k2 (capOf (nn (a 0 4)))) := hD
      have hPc := hP.sub (ws' := WC cI cF h0 q a jc js jv k (capOf (nn (a 0 4)))) [0, 1, 2, 3, 4, 5, 6, 7, 8, 9, 10, 11, 12, 13, 14, 15, 16, 17, 18, 19, 20, 21, 22, 23, 24, 25, 26] rfl
      have hDc := hD.sub (ws' := WC cI cF h0 q a jc js jv k (capOf (nn (a 0 4)))) [0, 1, 2, 3, 4, 5, 6, 7, 8, 9, 10, 11, 12, 13, 14, 15, 16, 17, 18, 19, 20, 21, 22, 23, 24, 25, 26] (by decide) rfl
      have hFc := va_free (wc := WC cI cF h0 q a jc js jv k (capOf (nn (a 0 4)))) hD hS hA [0, 1, 2, 3, 4, 5, 6, 7, 8, 9, 10, 11, 12, 13, 14, 15, 16, 17, 18, 19, 20, 21, 22, 23, 24, 25, 26] rfl
      refine va_calli (va_runS (As := [.ref h0, .int v]) (rest := []) ⟨hx, hb, hml, hown, hts⟩ (c_L_act l dC dI cI cF h0 q H.size a jc js jv k hst hCq hI.1 (by omega) v) (va_cwS 2 hts gL_law_L_act rfl rfl rfl (by decide +kernel) ⟨Nat.le_of_ble_eq_true rfl, Nat.le_of_ble_eq_true rfl⟩) ⟨pcH_blind, fun U hU hW => pcH_pre hPc hDc hK hV hN hS hFc hU hW⟩ rfl rfl hl.1 rfl (lv_room (Nat.le_of_ble_eq_true rfl)) dL_law_121 ⟨(by show cells + 0 + 1026 ≤ 609056; omega), (by show slots + 0 + 6156 ≤ 7274300; omega)⟩) hS (fun q _ h => hFc q h) hFc (fun r u t H1 locs ht hvm hw hB1 hz1 hk1 hS => ?_)
      obtain ⟨qn8, jcn8, jsn8, jvn8, kn8, hCn8, hPy, hKy, hDy⟩ := hB1
      rw [ht] at hPy
      obtain ⟨hP, hD⟩ := va_join (wr := WC cI cF h1 q2 a jc2 js2 jv2 k2 (capOf (nn (a 0 4)))) (w1 := WC cI cF h0 qn8 (actT a v) jcn8 jsn8 jvn8 kn8 (capOf (nn ((actT a v) 0 4)))) hP hD [0, 1, 2, 3, 4, 5, 6, 7, 8, 9, 10, 11, 12, 13, 14, 15, 16, 17, 18, 19, 20, 21, 22, 23, 24, 25, 26] [27, 28, 29, 30, 31, 32, 33, 34, 35, 36, 37, 38, 39, 40, 41, 42, 43, 44, 45, 46, 47, 48, 49, 50, 51, 52, 53] rfl rfl (by decide) (by decide) hk1 hFc hPy hDy
      have hP := hP.sub (ws' := WB cI cF h0 qn8 (actT a v) jcn8 jsn8 jvn8 kn8 (capOf (nn ((actT a v) 0 4))) h1 q2 a jc2 js2 jv2 k2 (capOf (nn (a 0 4)))) [27, 28, 29, 30, 31, 32, 33, 34, 35, 36, 37, 38, 39, 40, 41, 42, 43, 44, 45, 46, 47, 48, 49, 50, 51, 52, 53, 0, 1, 2, 3, 4, 5, 6, 7, 8, 9, 10, 11, 12, 13, 14, 15, 16, 17, 18, 19, 20, 21, 22, 23, 24, 25, 26] rfl
      have hD := hD.sub (ws' := WB cI cF h0 qn8 (actT a v) jcn8 jsn8 jvn8 kn8 (capOf (nn ((actT a v) 0 4))) h1 q2 a jc2 js2 jv2 k2 (capOf (nn (a 0 4)))) [27, 28, 29, 30, 31, 32, 33, 34, 35, 36, 37, 38, 39, 40, 41, 42, 43, 44, 45, 46, 47, 48, 49, 50, 51, 52, 53, 0, 1, 2, 3, 4, 5, 6, 7, 8, 9, 10, 11, 12, 13, 14, 15, 16, 17, 18, 19, 20, 21, 22, 23, 24, 25, 26] (by decide) rfl
      generalize H1 = H at hP hS ⊢
      have hCn8 : okC (actT a v) jcn8 jsn8 jvn8 kn8 := hCn8
      refine y_topi (y := actA a v) hw ?_
      have hXa := okX_act hI (by omega) v
      refine lv_istore (lv' := [(6, .int (actA a v)), (5, .int v), (4, .int (nI i)), (3, .int 1), (2, .ref h1), (1, .ref h0), (0, .ref b)]) hx hb dL_law_124 hl (by decide) rfl (fun ls hl => ?_)
      refine lv_iload hx hb dL_law_126 (lv_at hl 0 rfl) ?_
      refine lv_ldc hx hb hown (hts (.constant RL 45 (-2000000001)) (List.mem_of_getElem? (i := 3) rfl)) dL_law_128 ?_
      have hP : va_P (dC, dI) vwCl (WB cI cF h0 qn8 (actT a v) jcn8 jsn8 jvn8 kn8 (capOf (nn ((actT a v) 0 4))) h1 q2 a jc2 js2 jv2 k2 (capOf (nn (a 0 4)))) H := hP
      have hD : va_D A (WB cI cF h0 qn8 (actT a v) jcn8 jsn8 jvn8 kn8 (capOf (nn ((actT a v) 0 4))) h1 q2 a jc2 js2 jv2 k2 (capOf (nn (a 0 4)))) := hD
      refine y_cutG 144 (fun H locs ls cells slots => ∃ (q : Nat → Nat) (jc js jv : Nat → Int32) (k : Nat) (q2 : Nat → Nat) (jc2 js2 jv2 : Nat → Int32) (k2 : Nat), cells ≤ 10000 + 3752 * (i - 3) + 2052 + 60 * ((i + 2) / 6) + 2100 * ((i + 1) / 7) + 2100 * ((i + 1) / 13) ∧ slots ≤ 60000 + 22512 * (i - 3) + 12312 + 360 * ((i + 2) / 6) + 12600 * ((i + 1) / 7) + 12600 * ((i + 1) / 13) ∧ okC (actT a v) jc js jv k ∧ okC (actT a v) jc2 js2 jv2 k2 ∧ va_P (dC, dI) vwCl (WB cI cF h0 q (actT a v) jc js jv k (capOf (nn ((actT a v) 0 4))) h1 q2 (actT a v) jc2 js2 jv2 k2 (capOf (nn ((actT a v) 0 4)))) H ∧ va_D A (WB cI cF h0 q (actT a v) jc js jv k (capOf (nn ((actT a v) 0 4))) h1 q2 (actT a v) jc2 js2 jv2 k2 (capOf (nn ((actT a v) 0 4)))) ∧ va_S A s.heap H locs ∧ lv_has ls 7 [(5, .int v), (4, .int (nI i)), (3, .int 1), (2, .ref h1), (1, .ref h0), (0, .ref b)]) (fun H locs ls cells slots hI9 => ?_) (fun K144 => ?_)
      · obtain ⟨q, jc, js, jv, k, q2, jc2, js2, jv2, k2, hf0, hf1, hCq, hCq2, hP, hD, hS, hl⟩ := hI9
        refine lv_aload_n hx hb dL_law_144 rfl (lv_at hl 4 rfl) ?_
        have hP : va_P (dC, dI) vwCl (WB cI cF h0 q (actT a v) jc js jv k (capOf (nn ((actT a v) 0 4))) h1 q2 (actT a v) jc2 js2 jv2 k2 (capOf (nn ((actT a v) 0 4)))) H := hP
        have hD : va_D A (WB cI cF h0 q (actT a v) jc js jv k (capOf (nn ((actT a v) 0 4))) h1 q2 (actT a v) jc2 js2 jv2 k2 (capOf (nn ((actT a v) 0 4)))) := hD
        have hPc := hP.sub (ws' := WC cI cF h0 q (actT a v) jc js jv k (capOf (nn ((actT a v) 0 4)))) [0, 1, 2, 3, 4, 5, 6, 7, 8, 9, 10, 11, 12, 13, 14, 15, 16, 17, 18, 19, 20, 21, 22, 23, 24, 25, 26] rfl
        have hDc := hD.sub (ws' := WC cI cF h0 q (actT a v) jc js jv k (capOf (nn ((actT a v) 0 4)))) [0, 1, 2, 3, 4, 5, 6, 7, 8, 9, 10, 11, 12, 13, 14, 15, 16, 17, 18, 19, 20, 21, 22, 23, 24, 25, 26] (by decide) rfl
        have hFc := va_free (wc := WC cI cF h0 q (actT a v) jc js jv k (capOf (nn ((actT a v) 0 4)))) hD hS hA [0, 1, 2, 3, 4, 5, 6, 7, 8, 9, 10, 11, 12, 13, 14, 15, 16, 17, 18, 19, 20, 21, 22, 23, 24, 25, 26] rfl
        refine va_calli (va_runS (As := [.ref h0]) (rest := []) ⟨hx, hb, hml, hown, hts⟩ (c_L_isKept l dC dI cI cF h0 q H.size (actT a v) jc js jv k hst hCq hXa (by omega) (by omega) (by omega) hf5) (va_cwS 1 hts gL_law_L_isKept rfl rfl rfl (by decide +kernel) ⟨Nat.le_of_ble_eq_true rfl, Nat.le_of_ble_eq_true rfl⟩) ⟨pcH_blind, fun U hU hW => pcH_pre hPc hDc hK hV hN hS hFc hU hW⟩ rfl rfl hl.1 rfl (lv_room (Nat.le_of_ble_eq_true rfl)) dL_law_145 ⟨(by show cells + 1700 ≤ 609056; omega), (by show slots + 10200 ≤ 7274300; omega)⟩) hS (fun q _ h => hFc q h) hFc (fun r u t H1 locs ht hvm hw hB1 hz1 hk1 hS => ?_)
        obtain ⟨qn9, jcn9, jsn9, jvn9, kn9, hCn9, hPy, hKy, hDy⟩ := hB1
        rw [ht] at hPy
        obtain ⟨hP, hD⟩ := va_join (wr := WC cI cF h1 q2 (actT a v) jc2 js2 jv2 k2 (capOf (nn ((actT a v) 0 4)))) (w1 := WC cI cF h0 qn9 (actT a v) jcn9 jsn9 jvn9 kn9 (capOf (nn ((actT a v) 0 4)))) hP hD [0, 1, 2, 3, 4, 5, 6, 7, 8, 9, 10, 11, 12, 13, 14, 15, 16, 17, 18, 19, 20, 21, 22, 23, 24, 25, 26] [27, 28, 29, 30, 31, 32, 33, 34, 35, 36, 37, 38, 39, 40, 41, 42, 43, 44, 45, 46, 47, 48, 49, 50, 51, 52, 53] rfl rfl (by decide) (by decide) hk1 hFc hPy hDy
        have hP := hP.sub (ws' := WB cI cF h0 qn9 (actT a v) jcn9 jsn9 jvn9 kn9 (capOf (nn ((actT a v) 0 4))) h1 q2 (actT a v) jc2 js2 jv2 k2 (capOf (nn ((actT a v) 0 4)))) [27, 28, 29, 30, 31, 32, 33, 34, 35, 36, 37, 38, 39, 40, 41, 42, 43, 44, 45, 46, 47, 48, 49, 50, 51, 52, 53, 0, 1, 2, 3, 4, 5, 6, 7, 8, 9, 10, 11, 12, 13, 14, 15, 16, 17, 18, 19, 20, 21, 22, 23, 24, 25, 26] rfl
        have hD := hD.sub (ws' := WB cI cF h0 qn9 (actT a v) jcn9 jsn9 jvn9 kn9 (capOf (nn ((actT a v) 0 4))) h1 q2 (actT a v) jc2 js2 jv2 k2 (capOf (nn ((actT a v) 0 4)))) [27, 28, 29, 30, 31, 32, 33, 34, 35, 36, 37, 38, 39, 40, 41, 42, 43, 44, 45, 46, 47, 48, 49, 50, 51, 52, 53, 0, 1, 2, 3, 4, 5, 6, 7, 8, 9, 10, 11, 12, 13, 14, 15, 16, 17, 18, 19, 20, 21, 22, 23, 24, 25, 26] (by decide) rfl
        generalize H1 = H at hP hS ⊢
        have hCn9 : okC (actT a v) jcn9 jsn9 jvn9 kn9 := hCn9
        refine y_topi (y := 1) hw ?_
        refine lv_if_eq (tgt := 172) hx hb dL_law_148 (by decide) (fun c_10 => ?_) (fun c_10 => ?_)
        · exact absurd c_10 (by decide)
        · refine lv_iload hx hb dL_law_151 (lv_at hl 1 rfl) ?_
          refine lv_bipush (v := 6) hx hb dL_law_153 (by decide) ?_
          refine lv_irem hx hb dL_law_155 (by decide) ?_
          refine y_topi (y := nI (i % 6)) (pk_rem (a := i) (d := 6) (by omega) (by decide) (by decide)) ?_
          refine lv_iconst (v := 3) hx hb dL_law_156 (by decide) ?_
          have hP : va_P (dC, dI) vwCl (WB cI cF h0 qn9 (actT a v) jcn9 jsn9 jvn9 kn9 (capOf (nn ((actT a v) 0 4))) h1 q2 (actT a v) jc2 js2 jv2 k2 (capOf (nn ((actT a v) 0 4)))) H := hP
          have hD : va_D A (WB cI cF h0 qn9 (actT a v) jcn9 jsn9 jvn9 kn9 (capOf (nn ((actT a v) 0 4))) h1 q2 (actT a v) jc2 js2 jv2 k2 (capOf (nn ((actT a v) 0 4)))) := hD
          refine y_cutG 168 (fun H locs ls cells slots => ∃ (q : Nat → Nat) (jc js jv : Nat → Int32) (k : Nat) (q2 : Nat → Nat) (jc2 js2 jv2 : Nat → Int32) (k2 : Nat), cells ≤ 10000 + 3752 * (i - 3) + 3752 + 60 * ((i + 3) / 6) + 2100 * ((i + 1) / 7) + 2100 * ((i + 1) / 13) ∧ slots ≤ 60000 + 22512 * (i - 3) + 22512 + 360 * ((i + 3) / 6) + 12600 * ((i + 1) / 7) + 12600 * ((i + 1) / 13) ∧ okC (actT a v) jc js jv k ∧ okC (actT a v) jc2 js2 jv2 k2 ∧ va_P (dC, dI) vwCl (WB cI cF h0 q (actT a v) jc js jv k (capOf (nn ((actT a v) 0 4))) h1 q2 (actT a v) jc2 js2 jv2 k2 (capOf (nn ((actT a v) 0 4)))) H ∧ va_D A (WB cI cF h0 q (actT a v) jc js jv k (capOf (nn ((actT a v) 0 4))) h1 q2 (actT a v) jc2 js2 jv2 k2 (capOf (nn ((actT a v) 0 4)))) ∧ va_S A s.heap H locs ∧ lv_has ls 7 [(5, .int v), (4, .int (nI i)), (3, .int 1), (2, .ref h1), (1, .ref h0), (0, .ref b)]) (fun H locs ls cells slots hI9 => ?_) (fun K168 => ?_)
          · obtain ⟨q, jc, js, jv, k, q2, jc2, js2, jv2, k2, hf0, hf1, hCq, hCq2, hP, hD, hS, hl⟩ := hI9
            refine lv_iconst (v := 1) hx hb dL_law_168 (by decide) ?_
            refine lv_goto (tgt := 173) hx hb dL_law_169 (by decide) ?_
            refine lv_istore_n (lv' := [(3, .int 1), (5, .int v), (4, .int (nI i)), (2, .ref h1), (1, .ref h0), (0, .ref b)]) hx hb dL_law_173 rfl hl (by decide) rfl (fun ls hl => ?_)
            refine lv_iload hx hb dL_law_174 (lv_at hl 2 rfl) ?_
            refine lv_bipush (v := 7) hx hb dL_law_176 (by decide) ?_
            refine lv_irem hx hb dL_law_178 (by decide) ?_
            refine y_topi (y := nI (i % 7)) (pk_rem (a := i) (d := 7) (by omega) (by decide) (by decide)) ?_
            refine lv_iconst (v := 5) hx hb dL_law_179 (by decide) ?_
            have hP : va_P (dC, dI) vwCl (WB cI cF h0 q (actT a v) jc js jv k (capOf (nn ((actT a v) 0 4))) h1 q2 (actT a v) jc2 js2 jv2 k2 (capOf (nn ((actT a v) 0 4)))) H := hP
            have hD : va_D A (WB cI cF h0 q (actT a v) jc js jv k (capOf (nn ((actT a v) 0 4))) h1 q2 (actT a v) jc2 js2 jv2 k2 (capOf (nn ((actT a v) 0 4)))) := hD
            refine y_cutG 201 (fun H locs ls cells slots => ∃ (a2 : yA) (n2 : Nat) (q : Nat → Nat) (jc js jv : Nat → Int32) (k : Nat) (q2 : Nat → Nat) (jc2 js2 jv2 : Nat → Int32) (k2 : Nat), okX a2 n2 ((i : Int) - 2) t9 ∧ n2 ≤ i + 1 + (i + 2) / 7 + 3 * ((i + 1) / 13) ∧ cells ≤ 10000 + 3752 * (i - 3) + 3752 + 60 * ((i + 3) / 6) + 2100 * ((i + 2) / 7) + 2100 * ((i + 1) / 13) ∧ slots ≤ 60000 + 22512 * (i - 3) + 22512 + 360 * ((i + 3) / 6) + 12600 * ((i + 2) / 7) + 12600 * ((i + 1) / 13) ∧ okC a2 jc js jv k ∧ okC a2 jc2 js2 jv2 k2 ∧ va_P (dC, dI) vwCl (WB cI cF h0 q a2 jc js jv k (capOf (nn (a2 0 4))) h1 q2 a2 jc2 js2 jv2 k2 (capOf (nn (a2 0 4)))) H ∧ va_D A (WB cI cF h0 q a2 jc js jv k (capOf (nn (a2 0 4))) h1 q2 a2 jc2 js2 jv2 k2 (capOf (nn (a2 0 4)))) ∧ va_S A s.heap H locs ∧ lv_has ls 7 [(5, .int v), (4, .int (nI i)), (3, .int 1), (2, .ref h1), (1, .ref h0), (0, .ref b)]) (fun H locs ls cells slots hI9 => ?_) (fun K201 => ?_)
            · obtain ⟨a2, n2, q, jc, js, jv, k, q2, jc2, js2, jv2, k2, hf0, hf1, hf2, hf3, hCq, hCq2, hP, hD, hS, hl⟩ := hI9
              have hXb := hf0
              refine lv_iload hx hb dL_law_201 (lv_at hl 1 rfl) ?_
              refine lv_bipush (v := 13) hx hb dL_law_203 (by decide) ?_
              refine lv_irem hx hb dL_law_205 (by decide) ?_
              refine y_topi (y := nI (i % 13)) (pk_rem (a := i) (d := 13) (by omega) (by decide) (by decide)) ?_
              refine lv_bipush (v := 11) hx hb dL_law_206 (by decide) ?_
              refine lv_icmp_ne (tgt := 256) hx hb dL_law_208 (by decide) (fun c_11 => ?_) (fun c_11 => ?_)
              · have h13 : ¬ i % 13 = 11 := fun q => c_11 (by rw [q]; rfl)
                refine lv_iinc (v := nI (i + 1)) (lv' := [(4, .int (nI (i + 1))), (5, .int v), (3, .int 1), (2, .ref h1), (1, .ref h0), (0, .ref b)]) hx hb dL_law_256 hl (k := 1) rfl (nI_1 i) (by decide) rfl (fun ls hl => ?_)
                refine lv_goto (tgt := 86) hx hb dL_law_259 (by decide) ?_
                have hP : va_P (dC, dI) vwCl (WB cI cF h0 q a2 jc js jv k (capOf (nn (a2 0 4))) h1 q2 a2 jc2 js2 jv2 k2 (capOf (nn (a2 0 4)))) H := hP
                have hD : va_D A (WB cI cF h0 q a2 jc js jv k (capOf (nn (a2 0 4))) h1 q2 a2 jc2 js2 jv2 k2 (capOf (nn (a2 0 4)))) := hD
                exact ih (k9 - 1) H locs ls _ _ (by omega) ⟨i + 1, a2, n2, t9, q, jc, js, jv, k, q2, jc2, js2, jv2, k2, by omega, by omega, okX_mono hXb (by omega) (Int.le_refl _), by omega, by omega, by omega, by omega, by omega, hCq, hCq2, hP, hD, hS, lv_sub hl [0, 2, 3, 4, 5] rfl⟩
              · have h13 : i % 13 = 11 := (nI_eq (by omega) (by decide)).mp (c_11.trans (show (11 : Int32) = nI 11 from rfl))
                refine lv_iload_n hx hb dL_law_211 rfl (lv_at hl 2 rfl) ?_
                refine lv_if_eq (tgt := 254) hx hb dL_law_212 (by decide) (fun c_12 => ?_) (fun c_12 => ?_)
                · exact absurd c_12 (by decide)
                · refine lv_aload_n hx hb dL_law_215 rfl (lv_at hl 4 rfl) ?_
                  refine lv_aload_n hx hb dL_law_216 rfl (lv_at hl 3 rfl) ?_
                  refine lv_iload hx hb dL_law_217 (lv_at hl 0 rfl) ?_
                  refine lv_iconst (v := 5) hx hb dL_law_219 (by decide) ?_
                  refine lv_ishr hx hb dL_law_220 ?_
                  refine lv_iconst (v := 4) hx hb dL_law_221 (by decide) ?_
                  refine va_calli (va_runS (As := [.int (v >>> (5 &&& 31)), .int 4]) (rest := [.ref h1, .ref h0]) ⟨hx, hb, hml, hown, hts⟩ (c_L_low l (v >>> (5 &&& 31)) 4 (by decide)) (va_cwS 2 hts gL_law_L_low rfl rfl rfl (by decide +kernel) ⟨Nat.le_of_ble_eq_true rfl, Nat.le_of_ble_eq_true rfl⟩) ⟨pcT_blind, fun U hU hW => pcT_pre⟩ rfl rfl hl.1 rfl (lv_room (Nat.le_of_ble_eq_true rfl)) dL_law_222 ⟨(by show cells + 0 ≤ 609056; omega), (by show slots + 0 ≤ 7274300; omega)⟩) hS (fun q _ h => h.elim) (fun q h => h.elim) (fun r u t H1 locs ht hvm hw hB1 hz1 hk1 hS => ?_)
                  have hP := y_keptP hP hk1
                  generalize H1 = H at hP hS ⊢
                  refine y_topi (y := lowI (v >>> (5 &&& 31)) 4) hw ?_
                  refine lv_iload hx hb dL_law_225 (lv_at hl 0 rfl) ?_
                  refine lv_bipush (v := 8) hx hb dL_law_227 (by decide) ?_
                  refine lv_ishr hx hb dL_law_229 ?_
                  refine lv_iconst (v := 3) hx hb dL_law_230 (by decide) ?_
                  refine lv_iand hx hb dL_law_231 ?_
                  refine lv_iconst (v := 1) hx hb dL_law_232 (by decide) ?_
                  refine lv_iload hx hb dL_law_233 (lv_at hl 0 rfl) ?_
                  refine lv_bipush (v := 7) hx hb dL_law_235 (by decide) ?_
                  refine lv_ishr hx hb dL_law_237 ?_
                  refine lv_ldc hx hb hown (hts (.constant RL 133 (100000)) (List.mem_of_getElem? (i := 4) rfl)) dL_law_238 ?_
                  refine va_calli (va_runS (As := [.int (v >>> (7 &&& 31)), .int 100000]) (rest := [.int 1, .int ((v >>> (8 &&& 31)) &&& 3), .int (lowI (v >>> (5 &&& 31)) 4), .ref h1, .ref h0]) ⟨hx, hb, hml, hown, hts⟩ (c_L_low l (v >>> (7 &&& 31)) 100000 (by decide)) (va_cwS 2 hts gL_law_L_low rfl rfl rfl (by decide +kernel) ⟨Nat.le_of_ble_eq_true rfl, Nat.le_of_ble_eq_true rfl⟩) ⟨pcT_blind, fun U hU hW => pcT_pre⟩ rfl rfl hl.1 rfl (lv_room (Nat.le_of_ble_eq_true rfl)) dL_law_240 ⟨(by show cells + 0 + 0 ≤ 609056; omega), (by show slots + 0 + 0 ≤ 7274300; omega)⟩) hS (fun q _ h => h.elim) (fun q h => h.elim) (fun r u t H1 locs ht hvm hw hB1 hz1 hk1 hS => ?_)
                  have hP := y_keptP hP hk1
                  generalize H1 = H at hP hS ⊢
                  refine y_topi (y := lowI (v >>> (7 &&& 31)) 100000) hw ?_
                  refine lv_iadd hx hb dL_law_243 ?_
                  obtain ⟨am, eam⟩ : ∃ z, z = (1 : Int32) + lowI (v >>> (7 &&& 31)) 100000 := ⟨_, rfl⟩
                  have ham : nn am ≤ 100000 := by rw [eam]; exact low_am _
                  refine y_topi (y := am) eam.symm ?_
                  have hP : va_P (dC, dI) vwCl (WB cI cF h0 q a2 jc js jv k (capOf (nn (a2 0 4))) h1 q2 a2 jc2 js2 jv2 k2 (capOf (nn (a2 0 4)))) H := hP
                  have hD : va_D A (WB cI cF h0 q a2 jc js jv k (capOf (nn (a2 0 4))) h1 q2 a2 jc2 js2 jv2 k2 (capOf (nn (a2 0 4)))) := hD
                  have hFc := y_free hD hS hA
                  refine va_calli (va_runS (As := [.ref h0, .ref h1, .int (lowI (v >>> (5 &&& 31)) 4), .int ((v >>> (8 &&& 31)) &&& 3), .int am]) (rest := []) ⟨hx, hb, hml, hown, hts⟩ (c_L_isRefundedSo l dC dI cI cF h0 h1 q q2 H.size a2 jc js jv k jc2 js2 jv2 k2 hst hCq hCq2 hXb (by omega) (lowI (v >>> (5 &&& 31)) 4) ((v >>> (8 &&& 31)) &&& 3) am ham) (va_cwS 5 hts gL_law_L_isRefundedSo rfl rfl rfl (by decide +kernel) ⟨Nat.le_of_ble_eq_true rfl, Nat.le_of_ble_eq_true rfl⟩) ⟨pcH_blind, fun U hU hW => pcH_pre hP hD hK hV hN hS hFc hU hW⟩ rfl rfl hl.1 rfl (lv_room (Nat.le_of_ble_eq_true rfl)) dL_law_244 ⟨(by show cells + 0 + 0 + 2100 ≤ 609056; omega), (by show slots + 0 + 0 + 12600 ≤ 7274300; omega)⟩) hS (fun q _ h => hFc q h) hFc (fun r u t H1 locs ht hvm hw hB1 hz1 hk1 hS => ?_)
                  obtain ⟨qn13, jcn13, jsn13, jvn13, kn13, qpn13, jcpn13, jspn13, jvpn13, kpn13, hCn13, hCpn13, hPy, hKy, hDy⟩ := hB1
                  rw [ht] at hPy
                  have hP : va_P (dC, dI) vwCl (WB cI cF h0 qn13 (zT a2 (lowI (v >>> (5 &&& 31)) 4) ((v >>> (8 &&& 31)) &&& 3) am) jcn13 jsn13 jvn13 kn13 (capOf (nn ((zT a2 (lowI (v >>> (5 &&& 31)) 4) ((v >>> (8 &&& 31)) &&& 3) am) 0 4))) h1 qpn13 (zT a2 (lowI (v >>> (5 &&& 31)) 4) ((v >>> (8 &&& 31)) &&& 3) am) jcpn13 jspn13 jvpn13 kpn13 (capOf (nn ((zT a2 (lowI (v >>> (5 &&& 31)) 4) ((v >>> (8 &&& 31)) &&& 3) am) 0 4)))) _ := hPy
                  have hD : va_D A (WB cI cF h0 qn13 (zT a2 (lowI (v >>> (5 &&& 31)) 4) ((v >>> (8 &&& 31)) &&& 3) am) jcn13 jsn13 jvn13 kn13 (capOf (nn ((zT a2 (lowI (v >>> (5 &&& 31)) 4) ((v >>> (8 &&& 31)) &&& 3) am) 0 4))) h1 qpn13 (zT a2 (lowI (v >>> (5 &&& 31)) 4) ((v >>> (8 &&& 31)) &&& 3) am) jcpn13 jspn13 jvpn13 kpn13 (capOf (nn ((zT a2 (lowI (v >>> (5 &&& 31)) 4) ((v >>> (8 &&& 31)) &&& 3) am) 0 4)))) := hDy.weaken (fun kk qq _ h => hFc qq.1 h)
                  generalize H1 = H at hP hS ⊢
                  refine y_topi (y := 1) hw ?_
                  have hXz := okX_zT hXb (by omega) (x := lowI (v >>> (5 &&& 31)) 4) (kd := (v >>> (8 &&& 31)) &&& 3) (am := am) ham
                  refine lv_if_eq (tgt := 254) hx hb dL_law_247 (by decide) (fun c_14 => ?_) (fun c_14 => ?_)
                  · exact absurd c_14 (by decide)
                  · refine lv_iconst (v := 1) hx hb dL_law_250 (by decide) ?_
                    refine lv_goto (tgt := 255) hx hb dL_law_251 (by decide) ?_
                    refine lv_istore_n (lv' := [(3, .int 1), (5, .int v), (4, .int (nI i)), (2, .ref h1), (1, .ref h0), (0, .ref b)]) hx hb dL_law_255 rfl hl (by decide) rfl (fun ls hl => ?_)
                    refine lv_iinc (v := nI (i + 1)) (lv' := [(4, .int (nI (i + 1))), (3, .int 1), (5, .int v), (2, .ref h1), (1, .ref h0), (0, .ref b)]) hx hb dL_law_256 hl (k := 2) rfl (nI_1 i) (by decide) rfl (fun ls hl => ?_)
                    refine lv_goto (tgt := 86) hx hb dL_law_259 (by decide) ?_
                    have hP : va_P (dC, dI) vwCl (WB cI cF h0 qn13 (zT a2 (lowI (v >>> (5 &&& 31)) 4) ((v >>> (8 &&& 31)) &&& 3) am) jcn13 jsn13 jvn13 kn13 (capOf (nn ((zT a2 (lowI (v >>> (5 &&& 31)) 4) ((v >>> (8 &&& 31)) &&& 3) am) 0 4))) h1 qpn13 (zT a2 (lowI (v >>> (5 &&& 31)) 4) ((v >>> (8 &&& 31)) &&& 3) am) jcpn13 jspn13 jvpn13 kpn13 (capOf (nn ((zT a2 (lowI (v >>> (5 &&& 31)) 4) ((v >>> (8 &&& 31)) &&& 3) am) 0 4)))) H := hP
                    have hD : va_D A (WB cI cF h0 qn13 (zT a2 (lowI (v >>> (5 &&& 31)) 4) ((v >>> (8 &&& 31)) &&& 3) am) jcn13 jsn13 jvn13 kn13 (capOf (nn ((zT a2 (lowI (v >>> (5 &&& 31)) 4) ((v >>> (8 &&& 31)) &&& 3) am) 0 4))) h1 qpn13 (zT a2 (lowI (v >>> (5 &&& 31)) 4) ((v >>> (8 &&& 31)) &&& 3) am) jcpn13 jspn13 jvpn13 kpn13 (capOf (nn ((zT a2 (lowI (v >>> (5 &&& 31)) 4) ((v >>> (8 &&& 31)) &&& 3) am) 0 4)))) := hD
                    exact ih (k9 - 1) H locs ls _ _ (by omega) ⟨i + 1, zT a2 (lowI (v >>> (5 &&& 31)) 4) ((v >>> (8 &&& 31)) &&& 3) am, n2 + 3, t9 + 1, qn13, jcn13, jsn13, jvn13, kn13, qpn13, jcpn13, jspn13, jvpn13, kpn13, by omega, by omega, okX_mono hXz (by omega) (Int.le_refl _), by omega, by omega, by omega, by omega, by omega, hCn13, hCpn13, hP, hD, hS, lv_sub hl [0, 1, 3, 4, 5] rfl⟩
            · refine lv_icmp_ne (tgt := 201) hx hb dL_law_180 (by decide) (fun c_15 => ?_) (fun c_15 => ?_)
              · have h7 : ¬ i % 7 = 5 := fun q => c_15 (by rw [q]; rfl)
                have hP : va_P (dC, dI) vwCl (WB cI cF h0 q (actT a v) jc js jv k (capOf (nn ((actT a v) 0 4))) h1 q2 (actT a v) jc2 js2 jv2 k2 (capOf (nn ((actT a v) 0 4)))) H := hP
                have hD : va_D A (WB cI cF h0 q (actT a v) jc js jv k (capOf (nn ((actT a v) 0 4))) h1 q2 (actT a v) jc2 js2 jv2 k2 (capOf (nn ((actT a v) 0 4)))) := hD
                exact K201 H locs ls _ _ ⟨actT a v, n + 1, q, jc, js, jv, k, q2, jc2, js2, jv2, k2, okX_mono hXa (by omega) (Int.le_refl _), by omega, by omega, by omega, hCq, hCq2, hP, hD, hS, lv_sub hl [1, 2, 0, 3, 4, 5] rfl⟩
              · have h7 : i % 7 = 5 := (nI_eq (by omega) (by decide)).mp (c_15.trans (show (5 : Int32) = nI 5 from rfl))
                refine lv_iload_n hx hb dL_law_183 rfl (lv_at hl 0 rfl) ?_
                refine lv_if_eq (tgt := 199) hx hb dL_law_184 (by decide) (fun c_16 => ?_) (fun c_16 => ?_)
                · exact absurd c_16 (by decide)
                · refine lv_aload_n hx hb dL_law_187 rfl (lv_at hl 4 rfl) ?_
                  refine lv_aload_n hx hb dL_law_188 rfl (lv_at hl 3 rfl) ?_
                  have hP : va_P (dC, dI) vwCl (WB cI cF h0 q (actT a v) jc js jv k (capOf (nn ((actT a v) 0 4))) h1 q2 (actT a v) jc2 js2 jv2 k2 (capOf (nn ((actT a v) 0 4)))) H := hP
                  have hD : va_D A (WB cI cF h0 q (actT a v) jc js jv k (capOf (nn ((actT a v) 0 4))) h1 q2 (actT a v) jc2 js2 jv2 k2 (capOf (nn ((actT a v) 0 4)))) := hD
                  have hFc := y_free hD hS hA
                  refine va_calli (va_runS (As := [.ref h0, .ref h1]) (rest := []) ⟨hx, hb, hml, hown, hts⟩ (c_L_isDaySo l dC dI cI cF h0 h1 q q2 H.size (actT a v) jc js jv k jc2 js2 jv2 k2 hst hCq hCq2 hXa (by omega)) (va_cwS 2 hts gL_law_L_isDaySo rfl rfl rfl (by decide +kernel) ⟨Nat.le_of_ble_eq_true rfl, Nat.le_of_ble_eq_true rfl⟩) ⟨pcH_blind, fun U hU hW => pcH_pre hP hD hK hV hN hS hFc hU hW⟩ rfl rfl hl.1 rfl (lv_room (Nat.le_of_ble_eq_true rfl)) dL_law_189 ⟨(by show cells + 2100 ≤ 609056; omega), (by show slots + 12600 ≤ 7274300; omega)⟩) hS (fun q _ h => hFc q h) hFc (fun r u t H1 locs ht hvm hw hB1 hz1 hk1 hS => ?_)
                  obtain ⟨qn17, jcn17, jsn17, jvn17, kn17, qpn17, jcpn17, jspn17, jvpn17, kpn17, hCn17, hCpn17, hPy, hKy, hDy⟩ := hB1
                  rw [ht] at hPy
                  have hP : va_P (dC, dI) vwCl (WB cI cF h0 qn17 (dT (actT a v) 8 1 0 0) jcn17 jsn17 jvn17 kn17 (capOf (nn ((dT (actT a v) 8 1 0 0) 0 4))) h1 qpn17 (dT (actT a v) 8 1 0 0) jcpn17 jspn17 jvpn17 kpn17 (capOf (nn ((dT (actT a v) 8 1 0 0) 0 4)))) _ := hPy
                  have hD : va_D A (WB cI cF h0 qn17 (dT (actT a v) 8 1 0 0) jcn17 jsn17 jvn17 kn17 (capOf (nn ((dT (actT a v) 8 1 0 0) 0 4))) h1 qpn17 (dT (actT a v) 8 1 0 0) jcpn17 jspn17 jvpn17 kpn17 (capOf (nn ((dT (actT a v) 8 1 0 0) 0 4)))) := hDy.weaken (fun kk qq _ h => hFc qq.1 h)
                  generalize H1 = H at hP hS ⊢
                  refine y_topi (y := 1) hw ?_
                  refine lv_if_eq (tgt := 199) hx hb dL_law_192 (by decide) (fun c_18 => ?_) (fun c_18 => ?_)
                  · exact absurd c_18 (by decide)
                  · refine lv_iconst (v := 1) hx hb dL_law_195 (by decide) ?_
                    refine lv_goto (tgt := 200) hx hb dL_law_196 (by decide) ?_
                    refine lv_istore_n (lv' := [(3, .int 1), (5, .int v), (4, .int (nI i)), (2, .ref h1), (1, .ref h0), (0, .ref b)]) hx hb dL_law_200 rfl hl (by decide) rfl (fun ls hl => ?_)
                    have hP : va_P (dC, dI) vwCl (WB cI cF h0 qn17 (dT (actT a v) 8 1 0 0) jcn17 jsn17 jvn17 kn17 (capOf (nn ((dT (actT a v) 8 1 0 0) 0 4))) h1 qpn17 (dT (actT a v) 8 1 0 0) jcpn17 jspn17 jvpn17 kpn17 (capOf (nn ((dT (actT a v) 8 1 0 0) 0 4)))) H := hP
                    have hD : va_D A (WB cI cF h0 qn17 (dT (actT a v) 8 1 0 0) jcn17 jsn17 jvn17 kn17 (capOf (nn ((dT (actT a v) 8 1 0 0) 0 4))) h1 qpn17 (dT (actT a v) 8 1 0 0) jcpn17 jspn17 jvpn17 kpn17 (capOf (nn ((dT (actT a v) 8 1 0 0) 0 4)))) := hD
                    exact K201 H locs ls _ _ ⟨dT (actT a v) 8 1 0 0, n + 2, qn17, jcn17, jsn17, jvn17, kn17, qpn17, jcpn17, jspn17, jvpn17, kpn17, okX_mono (okX_dayT hXa (by omega)) (by omega) (Int.le_refl _), by omega, by omega, by omega, hCn17, hCpn17, hP, hD, hS, lv_sub hl [1, 2, 0, 3, 4, 5] rfl⟩
          · refine lv_icmp_ne (tgt := 168) hx hb dL_law_157 (by decide) (fun c_19 => ?_) (fun c_19 => ?_)
            · have h6 : ¬ i % 6 = 3 := fun q => c_19 (by rw [q]; rfl)
              have hP : va_P (dC, dI) vwCl (WB cI cF h0 qn9 (actT a v) jcn9 jsn9 jvn9 kn9 (capOf (nn ((actT a v) 0 4))) h1 q2 (actT a v) jc2 js2 jv2 k2 (capOf (nn ((actT a v) 0 4)))) H := hP
              have hD : va_D A (WB cI cF h0 qn9 (actT a v) jcn9 jsn9 jvn9 kn9 (capOf (nn ((actT a v) 0 4))) h1 q2 (actT a v) jc2 js2 jv2 k2 (capOf (nn ((actT a v) 0 4)))) := hD
              exact K168 H locs ls _ _ ⟨qn9, jcn9, jsn9, jvn9, kn9, q2, jc2, js2, jv2, k2, by omega, by omega, hCn9, hCq2, hP, hD, hS, lv_sub hl [0, 1, 2, 3, 4, 5] rfl⟩
            · have h6 : i % 6 = 3 := (nI_eq (by omega) (by decide)).mp (c_19.trans (show (3 : Int32) = nI 3 from rfl))
              refine lv_aload_n hx hb dL_law_160 rfl (lv_at hl 4 rfl) ?_
              refine lv_aload_n hx hb dL_law_161 rfl (lv_at hl 3 rfl) ?_
              have hP : va_P (dC, dI) vwCl (WB cI cF h0 qn9 (actT a v) jcn9 jsn9 jvn9 kn9 (capOf (nn ((actT a v) 0 4))) h1 q2 (actT a v) jc2 js2 jv2 k2 (capOf (nn ((actT a v) 0 4)))) H := hP
              have hD : va_D A (WB cI cF h0 qn9 (actT a v) jcn9 jsn9 jvn9 kn9 (capOf (nn ((actT a v) 0 4))) h1 q2 (actT a v) jc2 js2 jv2 k2 (capOf (nn ((actT a v) 0 4)))) := hD
              have hFc := y_free hD hS hA
              refine va_calli (va_runS (As := [.ref h0, .ref h1]) (rest := []) ⟨hx, hb, hml, hown, hts⟩ (c_L_areAlike l dC dI cI cF h0 h1 qn9 q2 H.size (actT a v) jcn9 jsn9 jvn9 kn9 jc2 js2 jv2 k2 hst hCn9 hCq2 hXa) (va_cwS 2 hts gL_law_L_areAlike rfl rfl rfl (by decide +kernel) ⟨Nat.le_of_ble_eq_true rfl, Nat.le_of_ble_eq_true rfl⟩) ⟨pcH_blind, fun U hU hW => pcH_pre hP hD hK hV hN hS hFc hU hW⟩ rfl rfl hl.1 rfl (lv_room (Nat.le_of_ble_eq_true rfl)) dL_law_162 ⟨(by show cells + 1700 + 60 ≤ 609056; omega), (by show slots + 10200 + 360 ≤ 7274300; omega)⟩) hS (fun q _ h => hFc q h) hFc (fun r u t H1 locs ht hvm hw hB1 hz1 hk1 hS => ?_)
              obtain ⟨qn20, jcn20, jsn20, jvn20, kn20, qpn20, jcpn20, jspn20, jvpn20, kpn20, hCn20, hCpn20, hPy, hKy, hDy⟩ := hB1
              rw [ht] at hPy
              have hP : va_P (dC, dI) vwCl (WB cI cF h0 qn20 (actT a v) jcn20 jsn20 jvn20 kn20 (capOf (nn ((actT a v) 0 4))) h1 qpn20 (actT a v) jcpn20 jspn20 jvpn20 kpn20 (capOf (nn ((actT a v) 0 4)))) _ := hPy
              have hD : va_D A (WB cI cF h0 qn20 (actT a v) jcn20 jsn20 jvn20 kn20 (capOf (nn ((actT a v) 0 4))) h1 qpn20 (actT a v) jcpn20 jspn20 jvpn20 kpn20 (capOf (nn ((actT a v) 0 4)))) := hDy.weaken (fun kk qq _ h => hFc qq.1 h)
              generalize H1 = H at hP hS ⊢
              refine y_topi (y := 1) hw ?_
              refine lv_if_eq (tgt := 172) hx hb dL_law_165 (by decide) (fun c_21 => ?_) (fun c_21 => ?_)
              · exact absurd c_21 (by decide)
              · have hP : va_P (dC, dI) vwCl (WB cI cF h0 qn20 (actT a v) jcn20 jsn20 jvn20 kn20 (capOf (nn ((actT a v) 0 4))) h1 qpn20 (actT a v) jcpn20 jspn20 jvpn20 kpn20 (capOf (nn ((actT a v) 0 4)))) H := hP
                have hD : va_D A (WB cI cF h0 qn20 (actT a v) jcn20 jsn20 jvn20 kn20 (capOf (nn ((actT a v) 0 4))) h1 qpn20 (actT a v) jcpn20 jspn20 jvpn20 kpn20 (capOf (nn ((actT a v) 0 4)))) := hD
                exact K168 H locs ls _ _ ⟨qn20, jcn20, jsn20, jvn20, kn20, qpn20, jcpn20, jspn20, jvpn20, kpn20, by omega, by omega, hCn20, hCpn20, hP, hD, hS, lv_sub hl [0, 1, 2, 3, 4, 5] rfl⟩
      · refine lv_icmp_eq (tgt := 144) hx hb dL_law_130 (by decide) (fun c_22 => ?_) (fun c_22 => ?_)
        · have eT := act_s hI (by omega) c_22
          have hP9 : va_P (dC, dI) vwCl (WB cI cF h0 qn8 (actT a v) jcn8 jsn8 jvn8 kn8 (capOf (nn ((actT a v) 0 4))) h1 q2 a jc2 js2 jv2 k2 (capOf (nn (a 0 4)))) H := hP
          have hD9 : va_D A (WB cI cF h0 qn8 (actT a v) jcn8 jsn8 jvn8 kn8 (capOf (nn ((actT a v) 0 4))) h1 q2 a jc2 js2 jv2 k2 (capOf (nn (a 0 4)))) := hD
          have hC9 : okC (actT a v) jc2 js2 jv2 k2 := by rw [eT]; exact hCq2
          have hP : va_P (dC, dI) vwCl (WB cI cF h0 qn8 (actT a v) jcn8 jsn8 jvn8 kn8 (capOf (nn ((actT a v) 0 4))) h1 q2 (actT a v) jc2 js2 jv2 k2 (capOf (nn ((actT a v) 0 4)))) H := by rw [eT] at hP9 ⊢; exact hP9
          have hD : va_D A (WB cI cF h0 qn8 (actT a v) jcn8 jsn8 jvn8 kn8 (capOf (nn ((actT a v) 0 4))) h1 q2 (actT a v) jc2 js2 jv2 k2 (capOf (nn ((actT a v) 0 4)))) := by rw [eT] at hD9 ⊢; exact hD9
          have hP : va_P (dC, dI) vwCl (WB cI cF h0 qn8 (actT a v) jcn8 jsn8 jvn8 kn8 (capOf (nn ((actT a v) 0 4))) h1 q2 (actT a v) jc2 js2 jv2 k2 (capOf (nn ((actT a v) 0 4)))) H := hP
          have hD : va_D A (WB cI cF h0 qn8 (actT a v) jcn8 jsn8 jvn8 kn8 (capOf (nn ((actT a v) 0 4))) h1 q2 (actT a v) jc2 js2 jv2 k2 (capOf (nn ((actT a v) 0 4)))) := hD
          exact K144 H locs ls _ _ ⟨qn8, jcn8, jsn8, jvn8, kn8, q2, jc2, js2, jv2, k2, by omega, by omega, hCn8, hC9, hP, hD, hS, lv_sub hl [1, 2, 3, 4, 5, 6] rfl⟩
        · refine lv_aload_n hx hb dL_law_133 rfl (lv_at hl 4 rfl) ?_
          refine lv_iload hx hb dL_law_134 (lv_at hl 1 rfl) ?_
          have hP : va_P (dC, dI) vwCl (WB cI cF h0 qn8 (actT a v) jcn8 jsn8 jvn8 kn8 (capOf (nn ((actT a v) 0 4))) h1 q2 a jc2 js2 jv2 k2 (capOf (nn (a 0 4)))) H := hP
          have hD : va_D A (WB cI cF h0 qn8 (actT a v) jcn8 jsn8 jvn8 kn8 (capOf (nn ((actT a v) 0 4))) h1 q2 a jc2 js2 jv2 k2 (capOf (nn (a 0 4)))) := hD
          have hPc := hP.sub (ws' := WC cI cF h1 q2 a jc2 js2 jv2 k2 (capOf (nn (a 0 4)))) [27, 28, 29, 30, 31, 32, 33, 34, 35, 36, 37, 38, 39, 40, 41, 42, 43, 44, 45, 46, 47, 48, 49, 50, 51, 52, 53] rfl
          have hDc := hD.sub (ws' := WC cI cF h1 q2 a jc2 js2 jv2 k2 (capOf (nn (a 0 4)))) [27, 28, 29, 30, 31, 32, 33, 34, 35, 36, 37, 38, 39, 40, 41, 42, 43, 44, 45, 46, 47, 48, 49, 50, 51, 52, 53] (by decide) rfl
          have hFc := va_free (wc := WC cI cF h1 q2 a jc2 js2 jv2 k2 (capOf (nn (a 0 4)))) hD hS hA [27, 28, 29, 30, 31, 32, 33, 34, 35, 36, 37, 38, 39, 40, 41, 42, 43, 44, 45, 46, 47, 48, 49, 50, 51, 52, 53] rfl
          refine va_calli (va_runS (As := [.ref h1, .int v]) (rest := []) ⟨hx, hb, hml, hown, hts⟩ (c_L_act l dC dI cI cF h1 q2 H.size a jc2 js2 jv2 k2 hst hCq2 hI.1 (by omega) v) (va_cwS 2 hts gL_law_L_act rfl rfl rfl (by decide +kernel) ⟨Nat.le_of_ble_eq_true rfl, Nat.le_of_ble_eq_true rfl⟩) ⟨pcH_blind, fun U hU hW => pcH_pre hPc hDc hK hV hN hS hFc hU hW⟩ rfl rfl hl.1 rfl (lv_room (Nat.le_of_ble_eq_true rfl)) dL_law_136 ⟨(by show cells + 0 + 1026 + 1026 ≤ 609056; omega), (by show slots + 0 + 6156 + 6156 ≤ 7274300; omega)⟩) hS (fun q _ h => hFc q h) hFc (fun r u t H1 locs ht hvm hw hB1 hz1 hk1 hS => ?_)
          obtain ⟨qn23, jcn23, jsn23, jvn23, kn23, hCn23, hPy, hKy, hDy⟩ := hB1
          rw [ht] at hPy
          obtain ⟨hP, hD⟩ := va_join (wr := WC cI cF h0 qn8 (actT a v) jcn8 jsn8 jvn8 kn8 (capOf (nn ((actT a v) 0 4)))) (w1 := WC cI cF h1 qn23 (actT a v) jcn23 jsn23 jvn23 kn23 (capOf (nn ((actT a v) 0 4)))) hP hD [27, 28, 29, 30, 31, 32, 33, 34, 35, 36, 37, 38, 39, 40, 41, 42, 43, 44, 45, 46, 47, 48, 49, 50, 51, 52, 53] [0, 1, 2, 3, 4, 5, 6, 7, 8, 9, 10, 11, 12, 13, 14, 15, 16, 17, 18, 19, 20, 21, 22, 23, 24, 25, 26] rfl rfl (by decide) (by decide) hk1 hFc hPy hDy
          have hP := hP.sub (ws' := WB cI cF h0 qn8 (actT a v) jcn8 jsn8 jvn8 kn8 (capOf (nn ((actT a v) 0 4))) h1 qn23 (actT a v) jcn23 jsn23 jvn23 kn23 (capOf (nn ((actT a v) 0 4)))) [0, 1, 2, 3, 4, 5, 6, 7, 8, 9, 10, 11, 12, 13, 14, 15, 16, 17, 18, 19, 20, 21, 22, 23, 24, 25, 26, 27, 28, 29, 30, 31, 32, 33, 34, 35, 36, 37, 38, 39, 40, 41, 42, 43, 44, 45, 46, 47, 48, 49, 50, 51, 52, 53] rfl
          have hD := hD.sub (ws' := WB cI cF h0 qn8 (actT a v) jcn8 jsn8 jvn8 kn8 (capOf (nn ((actT a v) 0 4))) h1 qn23 (actT a v) jcn23 jsn23 jvn23 kn23 (capOf (nn ((actT a v) 0 4)))) [0, 1, 2, 3, 4, 5, 6, 7, 8, 9, 10, 11, 12, 13, 14, 15, 16, 17, 18, 19, 20, 21, 22, 23, 24, 25, 26, 27, 28, 29, 30, 31, 32, 33, 34, 35, 36, 37, 38, 39, 40, 41, 42, 43, 44, 45, 46, 47, 48, 49, 50, 51, 52, 53] (by decide) rfl
          generalize H1 = H at hP hS ⊢
          have hCn23 : okC (actT a v) jcn23 jsn23 jvn23 kn23 := hCn23
          refine y_topi (y := actA a v) hw ?_
          refine lv_iload hx hb dL_law_139 (lv_at hl 0 rfl) ?_
          refine lv_icmp_ne (tgt := 172) hx hb dL_law_141 (by decide) (fun c_24 => ?_) (fun c_24 => ?_)
          · exact absurd rfl c_24
          · have hP : va_P (dC, dI) vwCl (WB cI cF h0 qn8 (actT a v) jcn8 jsn8 jvn8 kn8 (capOf (nn ((actT a v) 0 4))) h1 qn23 (actT a v) jcn23 jsn23 jvn23 kn23 (capOf (nn ((actT a v) 0 4)))) H := hP
            have hD : va_D A (WB cI cF h0 qn8 (actT a v) jcn8 jsn8 jvn8 kn8 (capOf (nn ((actT a v) 0 4))) h1 qn23 (actT a v) jcn23 jsn23 jvn23 kn23 (capOf (nn ((actT a v) 0 4)))) := hD
            exact K144 H locs ls _ _ ⟨qn8, jcn8, jsn8, jvn8, kn8, qn23, jcn23, jsn23, jvn23, kn23, by omega, by omega, hCn8, hCn23, hP, hD, hS, lv_sub hl [1, 2, 3, 4, 5, 6] rfl⟩
