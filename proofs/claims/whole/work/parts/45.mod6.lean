section YZST
variable {p : Program} {l : Launch} {e : Env} {R : Room} {s : State} {m : MethodId} {args : Array Value} {below : List Frame} {meth : Method} {c : Code} {H : Heap} {locs : List Loc} {cells slots : Nat} {Q : State → Prop}
variable {cc : ByteArray} {pc : Nat} {ls : Array Slot} {rest : List Value} {D : va_G} {cl : List vw_C} {A : Nat → Prop} {a : Nat} {tys : List (ClassId × FieldType)} {ws : va_W} {H0 : Heap}
theorem y_zst (hexec : p.tables.exec = Jvm.exec) (hb : c.code = cc) (hK : va_K D cl tys s) (hP : va_P D cl ws H) (hD : va_D A ws) (hS : va_S A H0 H locs) (q0 t0 : Nat) {cA : ClassId} {n : Nat} {f : Nat → Int32} (ha : ws[q0]? = some (a, .inl (cA, n, .inl f))) (ht : tys[t0]? = some (cA, .boolean)) {t : Nat} {x : Int32} (h1 : t < n) (h2 : n < 2 ^ 31) (hdg : decode cc pc = .ok (.bastore, 1)) (hz : vp_nar .boolean x = x)
    (kk : ∀ (H1 : Heap) (locs1 : List Loc), va_P D cl (ws.set q0 (a, .inl (cA, n, .inl (upd f t x)))) H1 → va_D A (ws.set q0 (a, .inl (cA, n, .inl (upd f t x)))) → va_S A H0 H1 locs1 → W p l e R s m args below meth c H1 locs1 cells slots Q (F0 m (pc + 1) ls rest)) : W p l e R s m args below meth c H locs cells slots Q (F0 m pc ls (.int x :: .int (nI t) :: .ref a :: rest)) :=
  va_zast hexec hb hK hP hD hS q0 t0 ha ht (vp_in_nI h1 h2) hdg (by rw [nI_clamp (Nat.lt_trans h1 h2), hz]; exact kk)
end YZST
theorem nar_1 : vp_nar .boolean 1 = 1 := rfl
theorem sFail_7 (a : yA) (i : Nat) : sFail a i 7 = upd (a 7) (nn (a 20 i)) (a 7 (nn (a 20 i)) + a 19 i) := by
  unfold sFail sPost
  rw [put_row, put_oth _ _ _ (by decide), put_oth _ _ _ (by decide)]
set_option maxHeartbeats 4000000 in
set_option maxRecDepth 100000 in
theorem c_X5_ends (l : Launch) (dC : Nat → ClassId) (dI : Nat → Nat → Nat) (cI cF cZ : ClassId) (h0 : Nat) (q : Nat → Nat) (sz : Nat) (a : yA) (th : Int32) (hB : okB a) (hU : okU a) (hd : payOK (sD3 a) (nn (a 0 0)))  : Met l yX5_ends wsX5_ends ({ frames := 2, cells := 0, slots := 0, locals := 45 } : Room) (va_Pc [.ref h0] (pcW dC dI [(cI, .int), (cF, .float), (cZ, .boolean)] (WM cI cF cZ h0 q a th) sz)) (va_Qv (fun _ : Unit => True) (fun _ t => atM dC dI cI cF cZ (va_A (WM cI cF cZ h0 q a th) sz) h0 q (sDay a) th t) (va_A (WM cI cF cZ h0 q a th) sz)) 0 0 (va_A (WM cI cF cZ h0 q a th) sz) := by
  refine Met.ofW (cc := cX5_ends) (maxL := 2) (ret := none) (by decide) rfl ?_
  intro p e s m args below meth c s₁ B hml hv
  obtain ⟨rfl, hsz, hP, hK, hD0⟩ := hv
  have hx := B.exec
  have hb := B.bytes
  have hr := B.returns
  have hts := atoms_spec (ws := wsX5_ends) B.pre
  have hown : s.vm.findClass RX5 = some m.cls := findClass_of_methodNamed B.named
  have hlocks := B.notSynchronized
  subst hsz
  have hD := hD0.self (sz := s.heap.size)
  generalize hAe : va_A [(h0, .inr (5, [.int th, .int (a 0 0), .int (a 0 1), .ref (q 1), .ref (q 2), .ref (q 3), .ref (q 4), .ref (q 5), .ref (q 6), .ref (q 7), .ref (q 8), .ref (q 9), .int (a 0 2), .int (a 0 3), .ref (q 10), .ref (q 11), .ref (q 12), .ref (q 13), .ref (q 14), .ref (q 15), .ref (q 16), .ref (q 17), .ref (q 18), .int (a 0 4), .ref (q 19), .ref (q 20), .ref (q 21), .int (a 0 5), .int (a 0 6), .int (a 0 7), .int (a 0 8)])), (q 1, .inl (cI, 8, .inl (a 1))), (q 2, .inl (cI, 8, .inl (a 2))), (q 3, .inl (cI, 8, .inl (a 3))), (q 4, .inl (cI, 8, .inl (a 4))), (q 5, .inl (cI, 8, .inl (a 5))), (q 6, .inl (cI, 8, .inl (a 6))), (q 7, .inl (cI, 8, .inl (a 7))), (q 8, .inl (cI, 8, .inl (a 8))), (q 9, .inl (cF, 4, .inr (.inr (.inl (fun j => shF (a 9 j)))))), (q 10, .inl (cI, 100, .inl (a 10))), (q 11, .inl (cI, 100, .inl (a 11))), (q 12, .inl (cI, 100, .inl (a 12))), (q 13, .inl (cF, 100, .inr (.inr (.inl (fun j => shF (a 13 j)))))), (q 14, .inl (cI, 100, .inl (a 14))), (q 15, .inl (cI, 100, .inl (a 15))), (q 16, .inl (cI, 100, .inl (a 16))), (q 17, .inl (cI, 100, .inl (a 17))), (q 18, .inl (cI, 100, .inl (a 18))), (q 19, .inl (cI, 2000, .inl (a 19))), (q 20, .inl (cI, 2000, .inl (a 20))), (q 21, .inl (cZ, 2000, .inl (a 21)))] s.heap.size = A at hD ⊢
  have hA : ∀ q : Nat, s.heap.size ≤ q → A q := fun q h => by rw [← hAe]; exact Or.inr h
  have hS : va_S A s.heap s.heap [] := va_S.rf
  have hl := lv_entry ([.ref h0]) (n := 2) (Nat.le_of_ble_eq_true rfl)
  rw [lg_entry_eq]
  generalize (lg_sl ([.ref h0]) ++ List.replicate (2 - (lg_sl ([.ref h0])).length) Slot.unset).toArray = ls at hl ⊢
  have hl : lv_has ls 2 [(0, .ref h0)] := hl
  have hiX5 : ∀ w ∈ wsX50, w ∈ wsX5_ends := fun w h => List.mem_cons_of_mem _ (List.mem_append_right _ h)
  have hP : va_P (dC, dI) vwCl [(h0, .inr (5, [.int th, .int (a 0 0), .int (a 0 1), .ref (q 1), .ref (q 2), .ref (q 3), .ref (q 4), .ref (q 5), .ref (q 6), .ref (q 7), .ref (q 8), .ref (q 9), .int (a 0 2), .int (a 0 3), .ref (q 10), .ref (q 11), .ref (q 12), .ref (q 13), .ref (q 14), .ref (q 15), .ref (q 16), .ref (q 17), .ref (q 18), .int (a 0 4), .ref (q 19), .ref (q 20), .ref (q 21), .int (a 0 5), .int (a 0 6), .int (a 0 7), .int (a 0 8)])), (q 1, .inl (cI, 8, .inl (a 1))), (q 2, .inl (cI, 8, .inl (a 2))), (q 3, .inl (cI, 8, .inl (a 3))), (q 4, .inl (cI, 8, .inl (a 4))), (q 5, .inl (cI, 8, .inl (a 5))), (q 6, .inl (cI, 8, .inl (a 6))), (q 7, .inl (cI, 8, .inl (a 7))), (q 8, .inl (cI, 8, .inl (a 8))), (q 9, .inl (cF, 4, .inr (.inr (.inl (fun j => shF (a 9 j)))))), (q 10, .inl (cI, 100, .inl (a 10))), (q 11, .inl (cI, 100, .inl (a 11))), (q 12, .inl (cI, 100, .inl (a 12))), (q 13, .inl (cF, 100, .inr (.inr (.inl (fun j => shF (a 13 j)))))), (q 14, .inl (cI, 100, .inl (a 14))), (q 15, .inl (cI, 100, .inl (a 15))), (q 16, .inl (cI, 100, .inl (a 16))), (q 17, .inl (cI, 100, .inl (a 17))), (q 18, .inl (cI, 100, .inl (a 18))), (q 19, .inl (cI, 2000, .inl (a 19))), (q 20, .inl (cI, 2000, .inl (a 20))), (q 21, .inl (cZ, 2000, .inl (a 21)))] s.heap := hP
  refine y_enter (A := A) hP (fun H hP hS => ?_)
  have hBk := hB
  have hn := hB 0 0 8 rfl
  have hn2 := hn.2
  refine lv_aload_n hx hb dX5_ends_0 rfl (lv_at hl 0 rfl) ?_
  have hFc := y_free hD hS hA
  refine va_callv (va_runV (As := []) (rest := []) ⟨hx, hb, hml, hown, hts⟩ (c_X5_releases l dC dI cI cF cZ h0 q H.size a th hB hU) (cwV 0 hts gX5_ends_X5_releases rfl rfl rfl (by decide +kernel) ⟨Nat.le_of_ble_eq_true rfl, Nat.le_of_ble_eq_true rfl⟩) ⟨pcW_blind, va_recv hK hP (ci := 5) (q0 := 0) rfl rfl, fun U hU hW => pcW_pre hP hD hK hU hW⟩ rfl rfl hl.1 rfl (lv_room (Nat.le_of_ble_eq_true rfl)) dX5_ends_1 ⟨Nat.zero_le _, Nat.zero_le _⟩) hS (fun q _ h => hFc q h) hFc (fun u t H1 locs ht hvm hw hB1 hz1 hk1 hS => ?_)
  obtain ⟨hP, hK1, hD1⟩ := hB1
  rw [ht] at hP
  have hD := hD1.weaken (fun kk qq _ h => hFc qq.1 h)
  generalize H1 = H at hP hS ⊢
  have hP : va_P (dC, dI) vwCl (WM cI cF cZ h0 q (sD1 a) th) H := hP
  have hD : va_D A (WM cI cF cZ h0 q (sD1 a) th) := hD
  have hB1 : okB (sD1 a) := okB_rels hB _
  refine lv_iconst (v := 0) hx hb dX5_ends_4 (by decide) ?_
  refine lv_istore_n (lv' := [(1, .int 0), (0, .ref h0)]) hx hb dX5_ends_5 rfl hl (by decide) rfl (fun ls hl => ?_)
  refine y_loop (fun k9 H locs ls => ∃ (i : Nat), k9 + i = nn (a 0 0) ∧ va_P (dC, dI) vwCl [(h0, .inr (5, [.int th, .int ((sCovRs (sD1 a) (nn (a 0 3)) i) 0 0), .int ((sCovRs (sD1 a) (nn (a 0 3)) i) 0 1), .ref (q 1), .ref (q 2), .ref (q 3), .ref (q 4), .ref (q 5), .ref (q 6), .ref (q 7), .ref (q 8), .ref (q 9), .int ((sCovRs (sD1 a) (nn (a 0 3)) i) 0 2), .int ((sCovRs (sD1 a) (nn (a 0 3)) i) 0 3), .ref (q 10), .ref (q 11), .ref (q 12), .ref (q 13), .ref (q 14), .ref (q 15), .ref (q 16), .ref (q 17), .ref (q 18), .int ((sCovRs (sD1 a) (nn (a 0 3)) i) 0 4), .ref (q 19), .ref (q 20), .ref (q 21), .int ((sCovRs (sD1 a) (nn (a 0 3)) i) 0 5), .int ((sCovRs (sD1 a) (nn (a 0 3)) i) 0 6), .int ((sCovRs (sD1 a) (nn (a 0 3)) i) 0 7), .int ((sCovRs (sD1 a) (nn (a 0 3)) i) 0 8)])), (q 1, .inl (cI, 8, .inl ((sCovRs (sD1 a) (nn (a 0 3)) i) 1))), (q 2, .inl (cI, 8, .inl ((sCovRs (sD1 a) (nn (a 0 3)) i) 2))), (q 3, .inl (cI, 8, .inl ((sCovRs (sD1 a) (nn (a 0 3)) i) 3))), (q 4, .inl (cI, 8, .inl ((sCovRs (sD1 a) (nn (a 0 3)) i) 4))), (q 5, .inl (cI, 8, .inl ((sCovRs (sD1 a) (nn (a 0 3)) i) 5))), (q 6, .inl (cI, 8, .inl ((sCovRs (sD1 a) (nn (a 0 3)) i) 6))), (q 7, .inl (cI, 8, .inl ((sCovRs (sD1 a) (nn (a 0 3)) i) 7))), (q 8, .inl (cI, 8, .inl ((sCovRs (sD1 a) (nn (a 0 3)) i) 8))), (q 9, .inl (cF, 4, .inr (.inr (.inl (fun j => shF ((sCovRs (sD1 a) (nn (a 0 3)) i) 9 j)))))), (q 10, .inl (cI, 100, .inl ((sCovRs (sD1 a) (nn (a 0 3)) i) 10))), (q 11, .inl (cI, 100, .inl ((sCovRs (sD1 a) (nn (a 0 3)) i) 11))), (q 12, .inl (cI, 100, .inl ((sCovRs (sD1 a) (nn (a 0 3)) i) 12))), (q 13, .inl (cF, 100, .inr (.inr (.inl (fun j => shF ((sCovRs (sD1 a) (nn (a 0 3)) i) 13 j)))))), (q 14, .inl (cI, 100, .inl ((sCovRs (sD1 a) (nn (a 0 3)) i) 14))), (q 15, .inl (cI, 100, .inl ((sCovRs (sD1 a) (nn (a 0 3)) i) 15))), (q 16, .inl (cI, 100, .inl ((sCovRs (sD1 a) (nn (a 0 3)) i) 16))), (q 17, .inl (cI, 100, .inl ((sCovRs (sD1 a) (nn (a 0 3)) i) 17))), (q 18, .inl (cI, 100, .inl ((sCovRs (sD1 a) (nn (a 0 3)) i) 18))), (q 19, .inl (cI, 2000, .inl ((sCovRs (sD1 a) (nn (a 0 3)) i) 19))), (q 20, .inl (cI, 2000, .inl ((sCovRs (sD1 a) (nn (a 0 3)) i) 20))), (q 21, .inl (cZ, 2000, .inl ((sCovRs (sD1 a) (nn (a 0 3)) i) 21)))] H ∧ va_D A [(h0, .inr (5, [.int th, .int ((sCovRs (sD1 a) (nn (a 0 3)) i) 0 0), .int ((sCovRs (sD1 a) (nn (a 0 3)) i) 0 1), .ref (q 1), .ref (q 2), .ref (q 3), .ref (q 4), .ref (q 5), .ref (q 6), .ref (q 7), .ref (q 8), .ref (q 9), .int ((sCovRs (sD1 a) (nn (a 0 3)) i) 0 2), .int ((sCovRs (sD1 a) (nn (a 0 3)) i) 0 3), .ref (q 10), .ref (q 11), .ref (q 12), .ref (q 13), .ref (q 14), .ref (q 15), .ref (q 16), .ref (q 17), .ref (q 18), .int ((sCovRs (sD1 a) (nn (a 0 3)) i) 0 4), .ref (q 19), .ref (q 20), .ref (q 21), .int ((sCovRs (sD1 a) (nn (a 0 3)) i) 0 5), .int ((sCovRs (sD1 a) (nn (a 0 3)) i) 0 6), .int ((sCovRs (sD1 a) (nn (a 0 3)) i) 0 7), .int ((sCovRs (sD1 a) (nn (a 0 3)) i) 0 8)])), (q 1, .inl (cI, 8, .inl ((sCovRs (sD1 a) (nn (a 0 3)) i) 1))), (q 2, .inl (cI, 8, .inl ((sCovRs (sD1 a) (nn (a 0 3)) i) 2))), (q 3, .inl (cI, 8, .inl ((sCovRs (sD1 a) (nn (a 0 3)) i) 3))), (q 4, .inl (cI, 8, .inl ((sCovRs (sD1 a) (nn (a 0 3)) i) 4))), (q 5, .inl (cI, 8, .inl ((sCovRs (sD1 a) (nn (a 0 3)) i) 5))), (q 6, .inl (cI, 8, .inl ((sCovRs (sD1 a) (nn (a 0 3)) i) 6))), (q 7, .inl (cI, 8, .inl ((sCovRs (sD1 a) (nn (a 0 3)) i) 7))), (q 8, .inl (cI, 8, .inl ((sCovRs (sD1 a) (nn (a 0 3)) i) 8))), (q 9, .inl (cF, 4, .inr (.inr (.inl (fun j => shF ((sCovRs (sD1 a) (nn (a 0 3)) i) 9 j)))))), (q 10, .inl (cI, 100, .inl ((sCovRs (sD1 a) (nn (a 0 3)) i) 10))), (q 11, .inl (cI, 100, .inl ((sCovRs (sD1 a) (nn (a 0 3)) i) 11))), (q 12, .inl (cI, 100, .inl ((sCovRs (sD1 a) (nn (a 0 3)) i) 12))), (q 13, .inl (cF, 100, .inr (.inr (.inl (fun j => shF ((sCovRs (sD1 a) (nn (a 0 3)) i) 13 j)))))), (q 14, .inl (cI, 100, .inl ((sCovRs (sD1 a) (nn (a 0 3)) i) 14))), (q 15, .inl (cI, 100, .inl ((sCovRs (sD1 a) (nn (a 0 3)) i) 15))), (q 16, .inl (cI, 100, .inl ((sCovRs (sD1 a) (nn (a 0 3)) i) 16))), (q 17, .inl (cI, 100, .inl ((sCovRs (sD1 a) (nn (a 0 3)) i) 17))), (q 18, .inl (cI, 100, .inl ((sCovRs (sD1 a) (nn (a 0 3)) i) 18))), (q 19, .inl (cI, 2000, .inl ((sCovRs (sD1 a) (nn (a 0 3)) i) 19))), (q 20, .inl (cI, 2000, .inl ((sCovRs (sD1 a) (nn (a 0 3)) i) 20))), (q 21, .inl (cZ, 2000, .inl ((sCovRs (sD1 a) (nn (a 0 3)) i) 21)))] ∧ va_S A s.heap H locs ∧ lv_has ls 2 [(1, .int (nI i)), (0, .ref h0)]) (nn (a 0 0)) ⟨0, by omega, hP, hD, hS, lv_sub hl [0, 1] rfl⟩ (fun k9 H locs ls hI ih => ?_)
  obtain ⟨i, hf0, hP, hD, hS, hl⟩ := hI
  have hBi := okB_covRs hB1 (nn (a 0 3)) i
  refine lv_iload_n hx hb dX5_ends_6 rfl (lv_at hl 0 rfl) ?_
  refine lv_aload_n hx hb dX5_ends_7 rfl (lv_at hl 1 rfl) ?_
  refine va_get (D := (dC, dI)) (ci := 5) (v := .int ((sCovRs (sD1 a) (nn (a 0 3)) i) 0 0)) (C := RX5) (T := TX5) (N := 31) hx hb hts hiX5 hown hK hP 0 rfl rfl 1 (by decide) (hts (.fieldLink RX5 80 "PayoutnetModel" "sellers" "I") (List.mem_of_getElem? (i := 1) rfl)) (fun _ h9 => h9) rfl dX5_ends_8 ?_
  refine y_topi (y := nI (nn (a 0 0))) (by show sCovRs (sD1 a) (nn (a 0 3)) i 0 0 = _; rw [sCovRs_oth _ _ _ (by decide) (by decide)]; unfold sD1; rw [sRels_oth _ _ (by decide) (by decide)]; exact hn.1) ?_
  refine lv_icmp_ge (tgt := 25) hx hb dX5_ends_11 (by decide) (fun c_1 => ?_) (fun c_1 => ?_)
  · have hik : i = nn (a 0 0) := by have := (nI_leI (a := nn (a 0 0)) (b := i) (by omega) (by omega)).mp c_1; omega
    rw [hik] at hP hD
    have hP : va_P (dC, dI) vwCl (WM cI cF cZ h0 q (sD2 a) th) H := hP
    have hD : va_D A (WM cI cF cZ h0 q (sD2 a) th) := hD
    refine lv_iconst (v := 0) hx hb dX5_ends_25 (by decide) ?_
    refine lv_istore_n (lv' := [(1, .int 0), (0, .ref h0)]) hx hb dX5_ends_26 rfl hl (by decide) rfl (fun ls hl => ?_)
    refine y_loop (fun k9 H locs ls => ∃ (i : Nat), k9 + i = nn (a 0 0) ∧ va_P (dC, dI) vwCl [(h0, .inr (5, [.int th, .int ((sCovOs (sD2 a) (nn (a 0 0)) i) 0 0), .int ((sCovOs (sD2 a) (nn (a 0 0)) i) 0 1), .ref (q 1), .ref (q 2), .ref (q 3), .ref (q 4), .ref (q 5), .ref (q 6), .ref (q 7), .ref (q 8), .ref (q 9), .int ((sCovOs (sD2 a) (nn (a 0 0)) i) 0 2), .int ((sCovOs (sD2 a) (nn (a 0 0)) i) 0 3), .ref (q 10), .ref (q 11), .ref (q 12), .ref (q 13), .ref (q 14), .ref (q 15), .ref (q 16), .ref (q 17), .ref (q 18), .int ((sCovOs (sD2 a) (nn (a 0 0)) i) 0 4), .ref (q 19), .ref (q 20), .ref (q 21), .int ((sCovOs (sD2 a) (nn (a 0 0)) i) 0 5), .int ((sCovOs (sD2 a) (nn (a 0 0)) i) 0 6), .int ((sCovOs (sD2 a) (nn (a 0 0)) i) 0 7), .int ((sCovOs (sD2 a) (nn (a 0 0)) i) 0 8)])), (q 1, .inl (cI, 8, .inl ((sCovOs (sD2 a) (nn (a 0 0)) i) 1))), (q 2, .inl (cI, 8, .inl ((sCovOs (sD2 a) (nn (a 0 0)) i) 2))), (q 3, .inl (cI, 8, .inl ((sCovOs (sD2 a) (nn (a 0 0)) i) 3))), (q 4, .inl (cI, 8, .inl ((sCovOs (sD2 a) (nn (a 0 0)) i) 4))), (q 5, .inl (cI, 8, .inl ((sCovOs (sD2 a) (nn (a 0 0)) i) 5))), (q 6, .inl (cI, 8, .inl ((sCovOs (sD2 a) (nn (a 0 0)) i) 6))), (q 7, .inl (cI, 8, .inl ((sCovOs (sD2 a) (nn (a 0 0)) i) 7))), (q 8, .inl (cI, 8, .inl ((sCovOs (sD2 a) (nn (a 0 0)) i) 8))), (q 9, .inl (cF, 4, .inr (.inr (.inl (fun j => shF ((sCovOs (sD2 a) (nn (a 0 0)) i) 9 j)))))), (q 10, .inl (cI, 100, .inl ((sCovOs (sD2 a) (nn (a 0 0)) i) 10))), (q 11, .inl (cI, 100, .inl ((sCovOs (sD2 a) (nn (a 0 0)) i) 11))), (q 12, .inl (cI, 100, .inl ((sCovOs (sD2 a) (nn (a 0 0)) i) 12))), (q 13, .inl (cF, 100, .inr (.inr (.inl (fun j => shF ((sCovOs (sD2 a) (nn (a 0 0)) i) 13 j)))))), (q 14, .inl (cI, 100, .inl ((sCovOs (sD2 a) (nn (a 0 0)) i) 14))), (q 15, .inl (cI, 100, .inl ((sCovOs (sD2 a) (nn (a 0 0)) i) 15))), (q 16, .inl (cI, 100, .inl ((sCovOs (sD2 a) (nn (a 0 0)) i) 16))), (q 17, .inl (cI, 100, .inl ((sCovOs (sD2 a) (nn (a 0 0)) i) 17))), (q 18, .inl (cI, 100, .inl ((sCovOs (sD2 a) (nn (a 0 0)) i) 18))), (q 19, .inl (cI, 2000, .inl ((sCovOs (sD2 a) (nn (a 0 0)) i) 19))), (q 20, .inl (cI, 2000, .inl ((sCovOs (sD2 a) (nn (a 0 0)) i) 20))), (q 21, .inl (cZ, 2000, .inl ((sCovOs (sD2 a) (nn (a 0 0)) i) 21)))] H ∧ va_D A [(h0, .inr (5, [.int th, .int ((sCovOs (sD2 a) (nn (a 0 0)) i) 0 0), .int ((sCovOs (sD2 a) (nn (a 0 0)) i) 0 1), .ref (q 1), .ref (q 2), .ref (q 3), .ref (q 4), .ref (q 5), .ref (q 6), .ref (q 7), .ref (q 8), .ref (q 9), .int ((sCovOs (sD2 a) (nn (a 0 0)) i) 0 2), .int ((sCovOs (sD2 a) (nn (a 0 0)) i) 0 3), .ref (q 10), .ref (q 11), .ref (q 12), .ref (q 13), .ref (q 14), .ref (q 15), .ref (q 16), .ref (q 17), .ref (q 18), .int ((sCovOs (sD2 a) (nn (a 0 0)) i) 0 4), .ref (q 19), .ref (q 20), .ref (q 21), .int ((sCovOs (sD2 a) (nn (a 0 0)) i) 0 5), .int ((sCovOs (sD2 a) (nn (a 0 0)) i) 0 6), .int ((sCovOs (sD2 a) (nn (a 0 0)) i) 0 7), .int ((sCovOs (sD2 a) (nn (a 0 0)) i) 0 8)])), (q 1, .inl (cI, 8, .inl ((sCovOs (sD2 a) (nn (a 0 0)) i) 1))), (q 2, .inl (cI, 8, .inl ((sCovOs (sD2 a) (nn (a 0 0)) i) 2))), (q 3, .inl (cI, 8, .inl ((sCovOs (sD2 a) (nn (a 0 0)) i) 3))), (q 4, .inl (cI, 8, .inl ((sCovOs (sD2 a) (nn (a 0 0)) i) 4))), (q 5, .inl (cI, 8, .inl ((sCovOs (sD2 a) (nn (a 0 0)) i) 5))), (q 6, .inl (cI, 8, .inl ((sCovOs (sD2 a) (nn (a 0 0)) i) 6))), (q 7, .inl (cI, 8, .inl ((sCovOs (sD2 a) (nn (a 0 0)) i) 7))), (q 8, .inl (cI, 8, .inl ((sCovOs (sD2 a) (nn (a 0 0)) i) 8))), (q 9, .inl (cF, 4, .inr (.inr (.inl (fun j => shF ((sCovOs (sD2 a) (nn (a 0 0)) i) 9 j)))))), (q 10, .inl (cI, 100, .inl ((sCovOs (sD2 a) (nn (a 0 0)) i) 10))), (q 11, .inl (cI, 100, .inl ((sCovOs (sD2 a) (nn (a 0 0)) i) 11))), (q 12, .inl (cI, 100, .inl ((sCovOs (sD2 a) (nn (a 0 0)) i) 12))), (q 13, .inl (cF, 100, .inr (.inr (.inl (fun j => shF ((sCovOs (sD2 a) (nn (a 0 0)) i) 13 j)))))), (q 14, .inl (cI, 100, .inl ((sCovOs (sD2 a) (nn (a 0 0)) i) 14))), (q 15, .inl (cI, 100, .inl ((sCovOs (sD2 a) (nn (a 0 0)) i) 15))), (q 16, .inl (cI, 100, .inl ((sCovOs (sD2 a) (nn (a 0 0)) i) 16))), (q 17, .inl (cI, 100, .inl ((sCovOs (sD2 a) (nn (a 0 0)) i) 17))), (q 18, .inl (cI, 100, .inl ((sCovOs (sD2 a) (nn (a 0 0)) i) 18))), (q 19, .inl (cI, 2000, .inl ((sCovOs (sD2 a) (nn (a 0 0)) i) 19))), (q 20, .inl (cI, 2000, .inl ((sCovOs (sD2 a) (nn (a 0 0)) i) 20))), (q 21, .inl (cZ, 2000, .inl ((sCovOs (sD2 a) (nn (a 0 0)) i) 21)))] ∧ va_S A s.heap H locs ∧ lv_has ls 2 [(1, .int (nI i)), (0, .ref h0)]) (nn (a 0 0)) ⟨0, by omega, hP, hD, hS, lv_sub hl [0, 1] rfl⟩ (fun k9 H locs ls hI ih => ?_)
    obtain ⟨i, hf0, hP, hD, hS, hl⟩ := hI
    have hBi := okB_covOs (okB_covRs hB1 (nn (a 0 3)) (nn (a 0 0))) (nn (a 0 0)) i
    refine lv_iload_n hx hb dX5_ends_27 rfl (lv_at hl 0 rfl) ?_
    refine lv_aload_n hx hb dX5_ends_28 rfl (lv_at hl 1 rfl) ?_
    refine va_get (D := (dC, dI)) (ci := 5) (v := .int ((sCovOs (sD2 a) (nn (a 0 0)) i) 0 0)) (C := RX5) (T := TX5) (N := 31) hx hb hts hiX5 hown hK hP 0 rfl rfl 1 (by decide) (hts (.fieldLink RX5 80 "PayoutnetModel" "sellers" "I") (List.mem_of_getElem? (i := 1) rfl)) (fun _ h9 => h9) rfl dX5_ends_29 ?_
    refine y_topi (y := nI (nn (a 0 0))) (by show sCovOs (sD2 a) (nn (a 0 0)) i 0 0 = _; rw [sCovOs_oth _ _ _ (by decide)]; unfold sD2 sD1; rw [sCovRs_oth _ _ _ (by decide) (by decide), sRels_oth _ _ (by decide) (by decide)]; exact hn.1) ?_
    refine lv_icmp_ge (tgt := 46) hx hb dX5_ends_32 (by decide) (fun c_2 => ?_) (fun c_2 => ?_)
    · have hik : i = nn (a 0 0) := by have := (nI_leI (a := nn (a 0 0)) (b := i) (by omega) (by omega)).mp c_2; omega
      rw [hik] at hP hD
      have hP : va_P (dC, dI) vwCl (WM cI cF cZ h0 q (sD3 a) th) H := hP
      have hD : va_D A (WM cI cF cZ h0 q (sD3 a) th) := hD
      refine lv_iconst (v := 0) hx hb dX5_ends_46 (by decide) ?_
      refine lv_istore_n (lv' := [(1, .int 0), (0, .ref h0)]) hx hb dX5_ends_47 rfl hl (by decide) rfl (fun ls hl => ?_)
      refine y_loop (fun k9 H locs ls => ∃ (i : Nat), k9 + i = nn (a 0 0) ∧ va_P (dC, dI) vwCl [(h0, .inr (5, [.int th, .int ((sPays (sD3 a) i) 0 0), .int ((sPays (sD3 a) i) 0 1), .ref (q 1), .ref (q 2), .ref (q 3), .ref (q 4), .ref (q 5), .ref (q 6), .ref (q 7), .ref (q 8), .ref (q 9), .int ((sPays (sD3 a) i) 0 2), .int ((sPays (sD3 a) i) 0 3), .ref (q 10), .ref (q 11), .ref (q 12), .ref (q 13), .ref (q 14), .ref (q 15), .ref (q 16), .ref (q 17), .ref (q 18), .int ((sPays (sD3 a) i) 0 4), .ref (q 19), .ref (q 20), .ref (q 21), .int ((sPays (sD3 a) i) 0 5), .int ((sPays (sD3 a) i) 0 6), .int ((sPays (sD3 a) i) 0 7), .int ((sPays (sD3 a) i) 0 8)])), (q 1, .inl (cI, 8, .inl ((sPays (sD3 a) i) 1))), (q 2, .inl (cI, 8, .inl ((sPays (sD3 a) i) 2))), (q 3, .inl (cI, 8, .inl ((sPays (sD3 a) i) 3))), (q 4, .inl (cI, 8, .inl ((sPays (sD3 a) i) 4))), (q 5, .inl (cI, 8, .inl ((sPays (sD3 a) i) 5))), (q 6, .inl (cI, 8, .inl ((sPays (sD3 a) i) 6))), (q 7, .inl (cI, 8, .inl ((sPays (sD3 a) i) 7))), (q 8, .inl (cI, 8, .inl ((sPays (sD3 a) i) 8))), (q 9, .inl (cF, 4, .inr (.inr (.inl (fun j => shF ((sPays (sD3 a) i) 9 j)))))), (q 10, .inl (cI, 100, .inl ((sPays (sD3 a) i) 10))), (q 11, .inl (cI, 100, .inl ((sPays (sD3 a) i) 11))), (q 12, .inl (cI, 100, .inl ((sPays (sD3 a) i) 12))), (q 13, .inl (cF, 100, .inr (.inr (.inl (fun j => shF ((sPays (sD3 a) i) 13 j)))))), (q 14, .inl (cI, 100, .inl ((sPays (sD3 a) i) 14))), (q 15, .inl (cI, 100, .inl ((sPays (sD3 a) i) 15))), (q 16, .inl (cI, 100, .inl ((sPays (sD3 a) i) 16))), (q 17, .inl (cI, 100, .inl ((sPays (sD3 a) i) 17))), (q 18, .inl (cI, 100, .inl ((sPays (sD3 a) i) 18))), (q 19, .inl (cI, 2000, .inl ((sPays (sD3 a) i) 19))), (q 20, .inl (cI, 2000, .inl ((sPays (sD3 a) i) 20))), (q 21, .inl (cZ, 2000, .inl ((sPays (sD3 a) i) 21)))] H ∧ va_D A [(h0, .inr (5, [.int th, .int ((sPays (sD3 a) i) 0 0), .int ((sPays (sD3 a) i) 0 1), .ref (q 1), .ref (q 2), .ref (q 3), .ref (q 4), .ref (q 5), .ref (q 6), .ref (q 7), .ref (q 8), .ref (q 9), .int ((sPays (sD3 a) i) 0 2), .int ((sPays (sD3 a) i) 0 3), .ref (q 10), .ref (q 11), .ref (q 12), .ref (q 13), .ref (q 14), .ref (q 15), .ref (q 16), .ref (q 17), .ref (q 18), .int ((sPays (sD3 a) i) 0 4), .ref (q 19), .ref (q 20), .ref (q 21), .int ((sPays (sD3 a) i) 0 5), .int ((sPays (sD3 a) i) 0 6), .int ((sPays (sD3 a) i) 0 7), .int ((sPays (sD3 a) i) 0 8)])), (q 1, .inl (cI, 8, .inl ((sPays (sD3 a) i) 1))), (q 2, .inl (cI, 8, .inl ((sPays (sD3 a) i) 2))), (q 3, .inl (cI, 8, .inl ((sPays (sD3 a) i) 3))), (q 4, .inl (cI, 8, .inl ((sPays (sD3 a) i) 4))), (q 5, .inl (cI, 8, .inl ((sPays (sD3 a) i) 5))), (q 6, .inl (cI, 8, .inl ((sPays (sD3 a) i) 6))), (q 7, .inl (cI, 8, .inl ((sPays (sD3 a) i) 7))), (q 8, .inl (cI, 8, .inl ((sPays (sD3 a) i) 8))), (q 9, .inl (cF, 4, .inr (.inr (.inl (fun j => shF ((sPays (sD3 a) i) 9 j)))))), (q 10, .inl (cI, 100, .inl ((sPays (sD3 a) i) 10))), (q 11, .inl (cI, 100, .inl ((sPays (sD3 a) i) 11))), (q 12, .inl (cI, 100, .inl ((sPays (sD3 a) i) 12))), (q 13, .inl (cF, 100, .inr (.inr (.inl (fun j => shF ((sPays (sD3 a) i) 13 j)))))), (q 14, .inl (cI, 100, .inl ((sPays (sD3 a) i) 14))), (q 15, .inl (cI, 100, .inl ((sPays (sD3 a) i) 15))), (q 16, .inl (cI, 100, .inl ((sPays (sD3 a) i) 16))), (q 17, .inl (cI, 100, .inl ((sPays (sD3 a) i) 17))), (q 18, .inl (cI, 100, .inl ((sPays (sD3 a) i) 18))), (q 19, .inl (cI, 2000, .inl ((sPays (sD3 a) i) 19))), (q 20, .inl (cI, 2000, .inl ((sPays (sD3 a) i) 20))), (q 21, .inl (cZ, 2000, .inl ((sPays (sD3 a) i) 21)))] ∧ va_S A s.heap H locs ∧ lv_has ls 2 [(1, .int (nI i)), (0, .ref h0)]) (nn (a 0 0)) ⟨0, by omega, hP, hD, hS, lv_sub hl [0, 1] rfl⟩ (fun k9 H locs ls hI ih => ?_)
      obtain ⟨i, hf0, hP, hD, hS, hl⟩ := hI
      have hBi := (okB_pays (okB_D3 hB) i (by omega) (fun z hz => hd z (by omega))).1
      refine lv_iload_n hx hb dX5_ends_48 rfl (lv_at hl 0 rfl) ?_
      refine lv_aload_n hx hb dX5_ends_49 rfl (lv_at hl 1 rfl) ?_
      refine va_get (D := (dC, dI)) (ci := 5) (v := .int ((sPays (sD3 a) i) 0 0)) (C := RX5) (T := TX5) (N := 31) hx hb hts hiX5 hown hK hP 0 rfl rfl 1 (by decide) (hts (.fieldLink RX5 80 "PayoutnetModel" "sellers" "I") (List.mem_of_getElem? (i := 1) rfl)) (fun _ h9 => h9) rfl dX5_ends_50 ?_
      refine y_topi (y := nI (nn (a 0 0))) (by rw [sPays_0 _ _ (by decide), sD3_oth a (by decide) (by decide)]; exact hn.1) ?_
      refine lv_icmp_ge (tgt := 83) hx hb dX5_ends_53 (by decide) (fun c_3 => ?_) (fun c_3 => ?_)
      · have hik : i = nn (a 0 0) := by have := (nI_leI (a := nn (a 0 0)) (b := i) (by omega) (by omega)).mp c_3; omega
        rw [hik] at hP hD
        have hP : va_P (dC, dI) vwCl (WM cI cF cZ h0 q (sD4 a) th) H := hP
        have hD : va_D A (WM cI cF cZ h0 q (sD4 a) th) := hD
        refine lv_aload_n hx hb dX5_ends_83 rfl (lv_at hl 1 rfl) ?_
        refine lv_dup hx hb dX5_ends_84 rfl ?_
        refine va_get (D := (dC, dI)) (ci := 5) (v := .int ((sD4 a) 0 1)) (C := RX5) (T := TX5) (N := 31) hx hb hts hiX5 hown hK hP 0 rfl rfl 2 (by decide) (hts (.fieldLink RX5 117 "PayoutnetModel" "today" "I") (List.mem_of_getElem? (i := 3) rfl)) (fun _ h9 => h9) rfl dX5_ends_85 ?_
        refine lv_iconst (v := 1) hx hb dX5_ends_88 (by decide) ?_
        refine lv_iadd hx hb dX5_ends_89 ?_
        refine va_put (D := (dC, dI)) (ci := 5) (v := .int (((sD4 a) 0 1) + 1)) (ty := .int) (C := RX5) (T := TX5) (N := 31) hx hb hts hiX5 tyX5 tyX5_ok nmX5 hown hK hP hD hS 0 rfl rfl 2 (by decide) (hts (.fieldLink RX5 117 "PayoutnetModel" "today" "I") (List.mem_of_getElem? (i := 3) rfl)) (fun _ h9 => h9) rfl (tyX5_ok 2 (by decide)) rfl rfl (Nat.le_of_ble_eq_true rfl) dX5_ends_90 (fun H locs hP hD hS => ?_)
        have hP : va_P (dC, dI) vwCl [(h0, .inr (5, [.int th, .int ((sD4 a) 0 0), .int (((sD4 a) 0 1) + 1), .ref (q 1), .ref (q 2), .ref (q 3), .ref (q 4), .ref (q 5), .ref (q 6), .ref (q 7), .ref (q 8), .ref (q 9), .int ((sD4 a) 0 2), .int ((sD4 a) 0 3), .ref (q 10), .ref (q 11), .ref (q 12), .ref (q 13), .ref (q 14), .ref (q 15), .ref (q 16), .ref (q 17), .ref (q 18), .int ((sD4 a) 0 4), .ref (q 19), .ref (q 20), .ref (q 21), .int ((sD4 a) 0 5), .int ((sD4 a) 0 6), .int ((sD4 a) 0 7), .int ((sD4 a) 0 8)])), (q 1, .inl (cI, 8, .inl ((sD4 a) 1))), (q 2, .inl (cI, 8, .inl ((sD4 a) 2))), (q 3, .inl (cI, 8, .inl ((sD4 a) 3))), (q 4, .inl (cI, 8, .inl ((sD4 a) 4))), (q 5, .inl (cI, 8, .inl ((sD4 a) 5))), (q 6, .inl (cI, 8, .inl ((sD4 a) 6))), (q 7, .inl (cI, 8, .inl ((sD4 a) 7))), (q 8, .inl (cI, 8, .inl ((sD4 a) 8))), (q 9, .inl (cF, 4, .inr (.inr (.inl (fun j => shF ((sD4 a) 9 j)))))), (q 10, .inl (cI, 100, .inl ((sD4 a) 10))), (q 11, .inl (cI, 100, .inl ((sD4 a) 11))), (q 12, .inl (cI, 100, .inl ((sD4 a) 12))), (q 13, .inl (cF, 100, .inr (.inr (.inl (fun j => shF ((sD4 a) 13 j)))))), (q 14, .inl (cI, 100, .inl ((sD4 a) 14))), (q 15, .inl (cI, 100, .inl ((sD4 a) 15))), (q 16, .inl (cI, 100, .inl ((sD4 a) 16))), (q 17, .inl (cI, 100, .inl ((sD4 a) 17))), (q 18, .inl (cI, 100, .inl ((sD4 a) 18))), (q 19, .inl (cI, 2000, .inl ((sD4 a) 19))), (q 20, .inl (cI, 2000, .inl ((sD4 a) 20))), (q 21, .inl (cZ, 2000, .inl ((sD4 a) 21)))] H := hP
        have hD : va_D A [(h0, .inr (5, [.int th, .int ((sD4 a) 0 0), .int (((sD4 a) 0 1) + 1), .ref (q 1), .ref (q 2), .ref (q 3), .ref (q 4), .ref (q 5), .ref (q 6), .ref (q 7), .ref (q 8), .ref (q 9), .int ((sD4 a) 0 2), .int ((sD4 a) 0 3), .ref (q 10), .ref (q 11), .ref (q 12), .ref (q 13), .ref (q 14), .ref (q 15), .ref (q 16), .ref (q 17), .ref (q 18), .int ((sD4 a) 0 4), .ref (q 19), .ref (q 20), .ref (q 21), .int ((sD4 a) 0 5), .int ((sD4 a) 0 6), .int ((sD4 a) 0 7), .int ((sD4 a) 0 8)])), (q 1, .inl (cI, 8, .inl ((sD4 a) 1))), (q 2, .inl (cI, 8, .inl ((sD4 a) 2))), (q 3, .inl (cI, 8, .inl ((sD4 a) 3))), (q 4, .inl (cI, 8, .inl ((sD4 a) 4))), (q 5, .inl (cI, 8, .inl ((sD4 a) 5))), (q 6, .inl (cI, 8, .inl ((sD4 a) 6))), (q 7, .inl (cI, 8, .inl ((sD4 a) 7))), (q 8, .inl (cI, 8, .inl ((sD4 a) 8))), (q 9, .inl (cF, 4, .inr (.inr (.inl (fun j => shF ((sD4 a) 9 j)))))), (q 10, .inl (cI, 100, .inl ((sD4 a) 10))), (q 11, .inl (cI, 100, .inl ((sD4 a) 11))), (q 12, .inl (cI, 100, .inl ((sD4 a) 12))), (q 13, .inl (cF, 100, .inr (.inr (.inl (fun j => shF ((sD4 a) 13 j)))))), (q 14, .inl (cI, 100, .inl ((sD4 a) 14))), (q 15, .inl (cI, 100, .inl ((sD4 a) 15))), (q 16, .inl (cI, 100, .inl ((sD4 a) 16))), (q 17, .inl (cI, 100, .inl ((sD4 a) 17))), (q 18, .inl (cI, 100, .inl ((sD4 a) 18))), (q 19, .inl (cI, 2000, .inl ((sD4 a) 19))), (q 20, .inl (cI, 2000, .inl ((sD4 a) 20))), (q 21, .inl (cZ, 2000, .inl ((sD4 a) 21)))] := hD
        have hP : va_P (dC, dI) vwCl (WM cI cF cZ h0 q (sDay a) th) H := hP
        have hD : va_D A (WM cI cF cZ h0 q (sDay a) th) := hD
        have hP9 := hP
        have hD9 := hD
        have hK9 := hK
        exact W.vret hx hb hr (fun t ht hW => ⟨⟨(), rfl, trivial, atW_end hP9 hD9 hK9 ht hW⟩, hS.F ht⟩) hS.2.2 dX5_ends_93
      · have hik : i < nn (a 0 0) := Nat.lt_of_not_le (fun h => c_3 ((nI_leI (a := nn (a 0 0)) (b := i) (by omega) (by omega)).mpr h))
        refine lv_aload_n hx hb dX5_ends_56 rfl (lv_at hl 1 rfl) ?_
        refine va_get (D := (dC, dI)) (ci := 5) (v := .ref (q 3)) (C := RX5) (T := TX5) (N := 31) hx hb hts hiX5 hown hK hP 0 rfl rfl 5 (by decide) (hts (.fieldLink RX5 16 "PayoutnetModel" "weekdays" "[I") (List.mem_of_getElem? (i := 2) rfl)) (fun _ h9 => h9) rfl dX5_ends_57 ?_
        refine lv_iload_n hx hb dX5_ends_60 rfl (lv_at hl 0 rfl) ?_
        refine y_ild hx hb hK hP 3 0 rfl rfl (t := i) (by omega) (Nat.le_of_ble_eq_true rfl) dX5_ends_61 ?_
        refine lv_aload_n hx hb dX5_ends_62 rfl (lv_at hl 1 rfl) ?_
        refine va_get (D := (dC, dI)) (ci := 5) (v := .int ((sPays (sD3 a) i) 0 1)) (C := RX5) (T := TX5) (N := 31) hx hb hts hiX5 hown hK hP 0 rfl rfl 2 (by decide) (hts (.fieldLink RX5 117 "PayoutnetModel" "today" "I") (List.mem_of_getElem? (i := 3) rfl)) (fun _ h9 => h9) rfl dX5_ends_63 ?_
        refine lv_bipush (v := 7) hx hb dX5_ends_66 (by decide) ?_
        refine lv_irem hx hb dX5_ends_68 (by decide) ?_
        refine lv_icmp_ne (tgt := 77) hx hb dX5_ends_69 (by decide) (fun c_4 => ?_) (fun c_4 => ?_)
        · have e9 : sPays (sD3 a) (i + 1) = sPays (sD3 a) i := if_neg c_4
          rw [← e9] at hP hD
          refine lv_iinc (v := nI (i + 1)) (lv' := [(1, .int (nI (i + 1))), (0, .ref h0)]) hx hb dX5_ends_77 hl (k := 0) rfl (nI_1 i) (by decide) rfl (fun ls hl => ?_)
          refine lv_goto (tgt := 48) hx hb dX5_ends_80 (by decide) ?_
          exact ih (k9 - 1) H locs ls (by omega) ⟨i + 1, by omega, hP, hD, hS, lv_sub hl [0, 1] rfl⟩
        · have e9 : sPays (sD3 a) (i + 1) = sPay (sPays (sD3 a) i) i := if_pos c_4
          refine lv_aload_n hx hb dX5_ends_72 rfl (lv_at hl 1 rfl) ?_
          refine lv_iload_n hx hb dX5_ends_73 rfl (lv_at hl 0 rfl) ?_
          have hFc := y_free hD hS hA
          refine va_callv (va_runV (As := [.int (nI i)]) (rest := []) ⟨hx, hb, hml, hown, hts⟩ (c_X5_pays l dC dI cI cF cZ h0 q H.size (sPays (sD3 a) i) th hBi i (by omega) (hd i (by omega) c_4)) (cwV 1 hts gX5_ends_X5_pays rfl rfl rfl (by decide +kernel) ⟨Nat.le_of_ble_eq_true rfl, Nat.le_of_ble_eq_true rfl⟩) ⟨pcW_blind, va_recv hK hP (ci := 5) (q0 := 0) rfl rfl, fun U hU hW => pcW_pre hP hD hK hU hW⟩ rfl rfl hl.1 rfl (lv_room (Nat.le_of_ble_eq_true rfl)) dX5_ends_74 ⟨Nat.zero_le _, Nat.zero_le _⟩) hS (fun q _ h => hFc q h) hFc (fun u t H1 locs ht hvm hw hB1 hz1 hk1 hS => ?_)
          obtain ⟨hP, hK1, hD1⟩ := hB1
          rw [ht] at hP
          have hD := hD1.weaken (fun kk qq _ h => hFc qq.1 h)
          generalize H1 = H at hP hS ⊢
          have hP : va_P (dC, dI) vwCl (WM cI cF cZ h0 q (sPay (sPays (sD3 a) i) i) th) H := hP
          have hD : va_D A (WM cI cF cZ h0 q (sPay (sPays (sD3 a) i) i) th) := hD
          rw [← e9] at hP hD
          refine lv_iinc (v := nI (i + 1)) (lv' := [(1, .int (nI (i + 1))), (0, .ref h0)]) hx hb dX5_ends_77 hl (k := 0) rfl (nI_1 i) (by decide) rfl (fun ls hl => ?_)
          refine lv_goto (tgt := 48) hx hb dX5_ends_80 (by decide) ?_
          exact ih (k9 - 1) H locs ls (by omega) ⟨i + 1, by omega, hP, hD, hS, lv_sub hl [0, 1] rfl⟩
    · have hik : i < nn (a 0 0) := Nat.lt_of_not_le (fun h => c_2 ((nI_leI (a := nn (a 0 0)) (b := i) (by omega) (by omega)).mpr h))
      refine lv_aload_n hx hb dX5_ends_35 rfl (lv_at hl 1 rfl) ?_
      refine lv_iload_n hx hb dX5_ends_36 rfl (lv_at hl 0 rfl) ?_
      have hFc := y_free hD hS hA
      refine va_callv (va_runV (As := [.int (nI i)]) (rest := []) ⟨hx, hb, hml, hown, hts⟩ (c_X5_coversByOthers l dC dI cI cF cZ h0 q H.size (sCovOs (sD2 a) (nn (a 0 0)) i) th hBi i (by omega)) (cwV 1 hts gX5_ends_X5_coversByOthers rfl rfl rfl (by decide +kernel) ⟨Nat.le_of_ble_eq_true rfl, Nat.le_of_ble_eq_true rfl⟩) ⟨pcW_blind, va_recv hK hP (ci := 5) (q0 := 0) rfl rfl, fun U hU hW => pcW_pre hP hD hK hU hW⟩ rfl rfl hl.1 rfl (lv_room (Nat.le_of_ble_eq_true rfl)) dX5_ends_37 ⟨Nat.zero_le _, Nat.zero_le _⟩) hS (fun q _ h => hFc q h) hFc (fun u t H1 locs ht hvm hw hB1 hz1 hk1 hS => ?_)
      obtain ⟨hP, hK1, hD1⟩ := hB1
      rw [ht] at hP
      have hD := hD1.weaken (fun kk qq _ h => hFc qq.1 h)
      generalize H1 = H at hP hS ⊢
      have hP : va_P (dC, dI) vwCl (WM cI cF cZ h0 q (sCovO (sCovOs (sD2 a) (nn (a 0 0)) i) i (nn ((sCovOs (sD2 a) (nn (a 0 0)) i) 0 0))) th) H := hP
      have hD : va_D A (WM cI cF cZ h0 q (sCovO (sCovOs (sD2 a) (nn (a 0 0)) i) i (nn ((sCovOs (sD2 a) (nn (a 0 0)) i) 0 0))) th) := hD
      have e8 : sCovO (sCovOs (sD2 a) (nn (a 0 0)) i) i (nn ((sCovOs (sD2 a) (nn (a 0 0)) i) 0 0)) = sCovOs (sD2 a) (nn (a 0 0)) (i + 1) := by
        have e0 : (sCovOs (sD2 a) (nn (a 0 0)) i) 0 0 = a 0 0 := by show sCovOs (sD2 a) (nn (a 0 0)) i 0 0 = _; rw [sCovOs_oth _ _ _ (by decide)]; unfold sD2 sD1; rw [sCovRs_oth _ _ _ (by decide) (by decide), sRels_oth _ _ (by decide) (by decide)]
        rw [e0]; rfl
      rw [e8] at hP hD
      refine lv_iinc (v := nI (i + 1)) (lv' := [(1, .int (nI (i + 1))), (0, .ref h0)]) hx hb dX5_ends_40 hl (k := 0) rfl (nI_1 i) (by decide) rfl (fun ls hl => ?_)
      refine lv_goto (tgt := 27) hx hb dX5_ends_43 (by decide) ?_
      exact ih (k9 - 1) H locs ls (by omega) ⟨i + 1, by omega, hP, hD, hS, lv_sub hl [0, 1] rfl⟩
  · have hik : i < nn (a 0 0) := Nat.lt_of_not_le (fun h => c_1 ((nI_leI (a := nn (a 0 0)) (b := i) (by omega) (by omega)).mpr h))
    refine lv_aload_n hx hb dX5_ends_14 rfl (lv_at hl 1 rfl) ?_
    refine lv_iload_n hx hb dX5_ends_15 rfl (lv_at hl 0 rfl) ?_
    have hFc := y_free hD hS hA
    refine va_callv (va_runV (As := [.int (nI i)]) (rest := []) ⟨hx, hb, hml, hown, hts⟩ (c_X5_coversByReserves l dC dI cI cF cZ h0 q H.size (sCovRs (sD1 a) (nn (a 0 3)) i) th hBi i (by omega)) (cwV 1 hts gX5_ends_X5_coversByReserves rfl rfl rfl (by decide +kernel) ⟨Nat.le_of_ble_eq_true rfl, Nat.le_of_ble_eq_true rfl⟩) ⟨pcW_blind, va_recv hK hP (ci := 5) (q0 := 0) rfl rfl, fun U hU hW => pcW_pre hP hD hK hU hW⟩ rfl rfl hl.1 rfl (lv_room (Nat.le_of_ble_eq_true rfl)) dX5_ends_16 ⟨Nat.zero_le _, Nat.zero_le _⟩) hS (fun q _ h => hFc q h) hFc (fun u t H1 locs ht hvm hw hB1 hz1 hk1 hS => ?_)
    obtain ⟨hP, hK1, hD1⟩ := hB1
    rw [ht] at hP
    have hD := hD1.weaken (fun kk qq _ h => hFc qq.1 h)
    generalize H1 = H at hP hS ⊢
    have hP : va_P (dC, dI) vwCl (WM cI cF cZ h0 q (sCovR (sCovRs (sD1 a) (nn (a 0 3)) i) i (nn ((sCovRs (sD1 a) (nn (a 0 3)) i) 0 3))) th) H := hP
    have hD : va_D A (WM cI cF cZ h0 q (sCovR (sCovRs (sD1 a) (nn (a 0 3)) i) i (nn ((sCovRs (sD1 a) (nn (a 0 3)) i) 0 3))) th) := hD
    have e8 : sCovR (sCovRs (sD1 a) (nn (a 0 3)) i) i (nn ((sCovRs (sD1 a) (nn (a 0 3)) i) 0 3)) = sCovRs (sD1 a) (nn (a 0 3)) (i + 1) := by
      have e0 : (sCovRs (sD1 a) (nn (a 0 3)) i) 0 3 = a 0 3 := by show sCovRs (sD1 a) (nn (a 0 3)) i 0 3 = _; rw [sCovRs_oth _ _ _ (by decide) (by decide)]; unfold sD1; rw [sRels_oth _ _ (by decide) (by decide)]
      rw [e0]; rfl
    rw [e8] at hP hD
    refine lv_iinc (v := nI (i + 1)) (lv' := [(1, .int (nI (i + 1))), (0, .ref h0)]) hx hb dX5_ends_19 hl (k := 0) rfl (nI_1 i) (by decide) rfl (fun ls hl => ?_)
    refine lv_goto (tgt := 6) hx hb dX5_ends_22 (by decide) ?_
    exact ih (k9 - 1) H locs ls (by omega) ⟨i + 1, by omega, hP, hD, hS, lv_sub hl [0, 1] rfl⟩
set_option maxHeartbeats 4000000 in
set_option maxRecDepth 100000 in
theorem c_X5_pass (l : Launch) (dC : Nat → ClassId) (dI : Nat → Nat → Nat) (cI cF cZ : ClassId) (h0 : Nat) (q : Nat → Nat) (sz : Nat) (a : yA) (th : Int32) (hB : okB a) (d : Int32) (hday : kPass a d = 0 → ∀ i, i < nn d → okB (sPass a i) ∧ okU (sPass a i) ∧ dayOK (sPass a i))  : Met l yX5_pass wsX5_pass ({ frames := 3, cells := 0, slots := 0, locals := 66 } : Room) (va_Pc [.ref h0, .int d] (pcW dC dI [(cI, .int), (cF, .float), (cZ, .boolean)] (WM cI cF cZ h0 q a th) sz)) (va_Qi (fun (r : Int32) (_ : Unit) => (kPass a d = 0 → r = sPass a (nn d) 0 4 - a 0 4)) (fun _ t => atM dC dI cI cF cZ (va_A (WM cI cF cZ h0 q a th) sz) h0 q (if kPass a d = 0 then sPass a (nn d) else a) (nI (kPass a d)) t) (va_A (WM cI cF cZ h0 q a th) sz)) 0 0 (va_A (WM cI cF cZ h0 q a th) sz) := by
  refine Met.ofW (cc := cX5_pass) (maxL := 4) (ret := (some .int)) (by decide) rfl ?_
  intro p e s m args below meth c s₁ B hml hv
  obtain ⟨rfl, hsz, hP, hK, hD0⟩ := hv
  have hx := B.exec
  have hb := B.bytes
  have hr := B.returns
  have hts := atoms_spec (ws := wsX5_pass) B.pre
  have hown : s.vm.findClass RX5 = some m.cls := findClass_of_methodNamed B.named
  have hlocks := B.notSynchronized
  subst hsz
  have hD := hD0.self (sz := s.heap.size)
  generalize hAe : va_A [(h0, .inr (5, [.int th, .int (a 0 0), .int (a 0 1), .ref (q 1), .ref (q 2), .ref (q 3), .ref (q 4), .ref (q 5), .ref (q 6), .ref (q 7), .ref (q 8), .ref (q 9), .int (a 0 2), .int (a 0 3), .ref (q 10), .ref (q 11), .ref (q 12), .ref (q 13), .ref (q 14), .ref (q 15), .ref (q 16), .ref (q 17), .ref (q 18), .int (a 0 4), .ref (q 19), .ref (q 20), .ref (q 21), .int (a 0 5), .int (a 0 6), .int (a 0 7), .int (a 0 8)])), (q 1, .inl (cI, 8, .inl (a 1))), (q 2, .inl (cI, 8, .inl (a 2))), (q 3, .inl (cI, 8, .inl (a 3))), (q 4, .inl (cI, 8, .inl (a 4))), (q 5, .inl (cI, 8, .inl (a 5))), (q 6, .inl (cI, 8, .inl (a 6))), (q 7, .inl (cI, 8, .inl (a 7))), (q 8, .inl (cI, 8, .inl (a 8))), (q 9, .inl (cF, 4, .inr (.inr (.inl (fun j => shF (a 9 j)))))), (q 10, .inl (cI, 100, .inl (a 10))), (q 11, .inl (cI, 100, .inl (a 11))), (q 12, .inl (cI, 100, .inl (a 12))), (q 13, .inl (cF, 100, .inr (.inr (.inl (fun j => shF (a 13 j)))))), (q 14, .inl (cI, 100, .inl (a 14))), (q 15, .inl (cI, 100, .inl (a 15))), (q 16, .inl (cI, 100, .inl (a 16))), (q 17, .inl (cI, 100, .inl (a 17))), (q 18, .inl (cI, 100, .inl (a 18))), (q 19, .inl (cI, 2000, .inl (a 19))), (q 20, .inl (cI, 2000, .inl (a 20))), (q 21, .inl (cZ, 2000, .inl (a 21)))] s.heap.size = A at hD ⊢
  have hA : ∀ q : Nat, s.heap.size ≤ q → A q := fun q h => by rw [← hAe]; exact Or.inr h
  have hS : va_S A s.heap s.heap [] := va_S.rf
  have hl := lv_entry ([.ref h0, .int d]) (n := 4) (Nat.le_of_ble_eq_true rfl)
  rw [lg_entry_eq]
  generalize (lg_sl ([.ref h0, .int d]) ++ List.replicate (4 - (lg_sl ([.ref h0, .int d])).length) Slot.unset).toArray = ls at hl ⊢
  have hl : lv_has ls 4 [(0, .ref h0), (1, .int d)] := hl
  have hiX5 : ∀ w ∈ wsX50, w ∈ wsX5_pass := fun w h => List.mem_cons_of_mem _ (List.mem_append_right _ h)
  have hP : va_P (dC, dI) vwCl [(h0, .inr (5, [.int th, .int (a 0 0), .int (a 0 1), .ref (q 1), .ref (q 2), .ref (q 3), .ref (q 4), .ref (q 5), .ref (q 6), .ref (q 7), .ref (q 8), .ref (q 9), .int (a 0 2), .int (a 0 3), .ref (q 10), .ref (q 11), .ref (q 12), .ref (q 13), .ref (q 14), .ref (q 15), .ref (q 16), .ref (q 17), .ref (q 18), .int (a 0 4), .ref (q 19), .ref (q 20), .ref (q 21), .int (a 0 5), .int (a 0 6), .int (a 0 7), .int (a 0 8)])), (q 1, .inl (cI, 8, .inl (a 1))), (q 2, .inl (cI, 8, .inl (a 2))), (q 3, .inl (cI, 8, .inl (a 3))), (q 4, .inl (cI, 8, .inl (a 4))), (q 5, .inl (cI, 8, .inl (a 5))), (q 6, .inl (cI, 8, .inl (a 6))), (q 7, .inl (cI, 8, .inl (a 7))), (q 8, .inl (cI, 8, .inl (a 8))), (q 9, .inl (cF, 4, .inr (.inr (.inl (fun j => shF (a 9 j)))))), (q 10, .inl (cI, 100, .inl (a 10))), (q 11, .inl (cI, 100, .inl (a 11))), (q 12, .inl (cI, 100, .inl (a 12))), (q 13, .inl (cF, 100, .inr (.inr (.inl (fun j => shF (a 13 j)))))), (q 14, .inl (cI, 100, .inl (a 14))), (q 15, .inl (cI, 100, .inl (a 15))), (q 16, .inl (cI, 100, .inl (a 16))), (q 17, .inl (cI, 100, .inl (a 17))), (q 18, .inl (cI, 100, .inl (a 18))), (q 19, .inl (cI, 2000, .inl (a 19))), (q 20, .inl (cI, 2000, .inl (a 20))), (q 21, .inl (cZ, 2000, .inl (a 21)))] s.heap := hP
  refine y_enter (A := A) hP (fun H hP hS => ?_)
  have hBk := hB
  refine lv_aload_n hx hb dX5_pass_0 rfl (lv_at hl 0 rfl) ?_
  refine lv_iload_n hx hb dX5_pass_1 rfl (lv_at hl 1 rfl) ?_
  refine lv_iconst (v := 1) hx hb dX5_pass_2 (by decide) ?_
  refine lv_bipush (v := 100) hx hb dX5_pass_3 (by decide) ?_
  refine va_calli (va_runS (As := [.int d, .int 1, .int 100]) (rest := [.ref h0]) ⟨hx, hb, hml, hown, hts⟩ (c_X5_in l d 1 100) (va_cwS 3 hts gX5_pass_X5_in rfl rfl rfl (by decide +kernel) ⟨Nat.le_of_ble_eq_true rfl, Nat.le_of_ble_eq_true rfl⟩) ⟨pcT_blind, fun U hU hW => pcT_pre⟩ rfl rfl hl.1 rfl (lv_room (Nat.le_of_ble_eq_true rfl)) dX5_pass_5 ⟨(Nat.zero_le _), (Nat.zero_le _)⟩) hS (fun q _ h => h.elim) (fun q h => h.elim) (fun r u t H1 locs ht hvm hw hB1 hz1 hk1 hS => ?_)
  have hP := y_keptP hP hk1
  generalize H1 = H at hP hS ⊢
  refine y_topi (y := bI (bw d 1 100)) hw ?_
  refine lv_if_ne (tgt := 15) hx hb dX5_pass_8 (by decide) (fun c_1 => ?_) (fun c_1 => ?_)
  · have hc_1 : bw d 1 100 := bI_t c_1
    refine lv_aload_n hx hb dX5_pass_15 rfl (lv_at hl 0 rfl) ?_
    refine va_get (D := (dC, dI)) (ci := 5) (v := .int (a 0 1)) (C := RX5) (T := TX5) (N := 31) hx hb hts hiX5 hown hK hP 0 rfl rfl 2 (by decide) (hts (.fieldLink RX5 117 "PayoutnetModel" "today" "I") (List.mem_of_getElem? (i := 1) rfl)) (fun _ h9 => h9) rfl dX5_pass_16 ?_
    refine lv_iload_n hx hb dX5_pass_19 rfl (lv_at hl 1 rfl) ?_
    refine lv_iadd hx hb dX5_pass_20 ?_
    refine lv_sipush (v := 5000) hx hb dX5_pass_21 (by decide) ?_
    refine lv_icmp_le (tgt := 31) hx hb dX5_pass_24 (by decide) (fun c_2 => ?_) (fun c_2 => ?_)
    · have e0 : kPass a d = 0 := by unfold kPass; rw [if_pos hc_1, if_pos c_2]
      refine lv_iconst (v := 0) hx hb dX5_pass_31 (by decide) ?_
      have hFc := y_free hD hS hA
      refine va_calli (va_runV (As := [.int 0]) (rest := []) ⟨hx, hb, hml, hown, hts⟩ (c_X5_holds l dC dI cI cF cZ h0 q H.size a th hB 0) (cwV 1 hts gX5_pass_X5_holds rfl rfl rfl (by decide +kernel) ⟨Nat.le_of_ble_eq_true rfl, Nat.le_of_ble_eq_true rfl⟩) ⟨pcW_blind, va_recv hK hP (ci := 5) (q0 := 0) rfl rfl, fun U hU hW => pcW_pre hP hD hK hU hW⟩ rfl rfl hl.1 rfl (lv_room (Nat.le_of_ble_eq_true rfl)) dX5_pass_32 ⟨Nat.zero_le _, Nat.zero_le _⟩) hS (fun q _ h => hFc q h) hFc (fun r u t H1 locs ht hvm hw hB1 hz1 hk1 hS => ?_)
      obtain ⟨hP, hK1, hD1⟩ := hB1
      rw [ht] at hP
      have hD := hD1.weaken (fun kk qq _ h => hFc qq.1 h)
      generalize H1 = H at hP hS ⊢
      have hP : va_P (dC, dI) vwCl (WM cI cF cZ h0 q a 0) H := hP
      have hD : va_D A (WM cI cF cZ h0 q a 0) := hD
      have hw3 := hw
      refine y_topi (y := 1) (hw3.trans (if_pos rfl)) ?_
      refine lv_if_ne (tgt := 40) hx hb dX5_pass_35 (by decide) (fun c_4 => ?_) (fun c_4 => ?_)
      · have hd1 := nat_le (b := 100) (by decide) (Int32.le_trans (by decide) hc_1.1) hc_1.2
        have hd2 := hd1.2
        have hdy := hday e0
        refine lv_aload_n hx hb dX5_pass_40 rfl (lv_at hl 0 rfl) ?_
        refine va_get (D := (dC, dI)) (ci := 5) (v := .int (a 0 4)) (C := RX5) (T := TX5) (N := 31) hx hb hts hiX5 hown hK hP 0 rfl rfl 23 (by decide) (hts (.fieldLink RX5 145 "PayoutnetModel" "payouts" "I") (List.mem_of_getElem? (i := 2) rfl)) (fun _ h9 => h9) rfl dX5_pass_41 ?_
        refine lv_istore_n (lv' := [(2, .int (a 0 4)), (0, .ref h0), (1, .int d)]) hx hb dX5_pass_44 rfl hl (by decide) rfl (fun ls hl => ?_)
        refine lv_iconst (v := 0) hx hb dX5_pass_45 (by decide) ?_
        refine lv_istore_n (lv' := [(3, .int 0), (2, .int (a 0 4)), (0, .ref h0), (1, .int d)]) hx hb dX5_pass_46 rfl hl (by decide) rfl (fun ls hl => ?_)
        refine y_loop (fun k9 H locs ls => ∃ (i : Nat), k9 + i = nn d ∧ va_P (dC, dI) vwCl [(h0, .inr (5, [.int 0, .int ((sPass a i) 0 0), .int ((sPass a i) 0 1), .ref (q 1), .ref (q 2), .ref (q 3), .ref (q 4), .ref (q 5), .ref (q 6), .ref (q 7), .ref (q 8), .ref (q 9), .int ((sPass a i) 0 2), .int ((sPass a i) 0 3), .ref (q 10), .ref (q 11), .ref (q 12), .ref (q 13), .ref (q 14), .ref (q 15), .ref (q 16), .ref (q 17), .ref (q 18), .int ((sPass a i) 0 4), .ref (q 19), .ref (q 20), .ref (q 21), .int ((sPass a i) 0 5), .int ((sPass a i) 0 6), .int ((sPass a i) 0 7), .int ((sPass a i) 0 8)])), (q 1, .inl (cI, 8, .inl ((sPass a i) 1))), (q 2, .inl (cI, 8, .inl ((sPass a i) 2))), (q 3, .inl (cI, 8, .inl ((sPass a i) 3))), (q 4, .inl (cI, 8, .inl ((sPass a i) 4))), (q 5, .inl (cI, 8, .inl ((sPass a i) 5))), (q 6, .inl (cI, 8, .inl ((sPass a i) 6))), (q 7, .inl (cI, 8, .inl ((sPass a i) 7))), (q 8, .inl (cI, 8, .inl ((sPass a i) 8))), (q 9, .inl (cF, 4, .inr (.inr (.inl (fun j => shF ((sPass a i) 9 j)))))), (q 10, .inl (cI, 100, .inl ((sPass a i) 10))), (q 11, .inl (cI, 100, .inl ((sPass a i) 11))), (q 12, .inl (cI, 100, .inl ((sPass a i) 12))), (q 13, .inl (cF, 100, .inr (.inr (.inl (fun j => shF ((sPass a i) 13 j)))))), (q 14, .inl (cI, 100, .inl ((sPass a i) 14))), (q 15, .inl (cI, 100, .inl ((sPass a i) 15))), (q 16, .inl (cI, 100, .inl ((sPass a i) 16))), (q 17, .inl (cI, 100, .inl ((sPass a i) 17))), (q 18, .inl (cI, 100, .inl ((sPass a i) 18))), (q 19, .inl (cI, 2000, .inl ((sPass a i) 19))), (q 20, .inl (cI, 2000, .inl ((sPass a i) 20))), (q 21, .inl (cZ, 2000, .inl ((sPass a i) 21)))] H ∧ va_D A [(h0, .inr (5, [.int 0, .int ((sPass a i) 0 0), .int ((sPass a i) 0 1), .ref (q 1), .ref (q 2), .ref (q 3), .ref (q 4), .ref (q 5), .ref (q 6), .ref (q 7), .ref (q 8), .ref (q 9), .int ((sPass a i) 0 2), .int ((sPass a i) 0 3), .ref (q 10), .ref (q 11), .ref (q 12), .ref (q 13), .ref (q 14), .ref (q 15), .ref (q 16), .ref (q 17), .ref (q 18), .int ((sPass a i) 0 4), .ref (q 19), .ref (q 20), .ref (q 21), .int ((sPass a i) 0 5), .int ((sPass a i) 0 6), .int ((sPass a i) 0 7), .int ((sPass a i) 0 8)])), (q 1, .inl (cI, 8, .inl ((sPass a i) 1))), (q 2, .inl (cI, 8, .inl ((sPass a i) 2))), (q 3, .inl (cI, 8, .inl ((sPass a i) 3))), (q 4, .inl (cI, 8, .inl ((sPass a i) 4))), (q 5, .inl (cI, 8, .inl ((sPass a i) 5))), (q 6, .inl (cI, 8, .inl ((sPass a i) 6))), (q 7, .inl (cI, 8, .inl ((sPass a i) 7))), (q 8, .inl (cI, 8, .inl ((sPass a i) 8))), (q 9, .inl (cF, 4, .inr (.inr (.inl (fun j => shF ((sPass a i) 9 j)))))), (q 10, .inl (cI, 100, .inl ((sPass a i) 10))), (q 11, .inl (cI, 100, .inl ((sPass a i) 11))), (q 12, .inl (cI, 100, .inl ((sPass a i) 12))), (q 13, .inl (cF, 100, .inr (.inr (.inl (fun j => shF ((sPass a i) 13 j)))))), (q 14, .inl (cI, 100, .inl ((sPass a i) 14))), (q 15, .inl (cI, 100, .inl ((sPass a i) 15))), (q 16, .inl (cI, 100, .inl ((sPass a i) 16))), (q 17, .inl (cI, 100, .inl ((sPass a i) 17))), (q 18, .inl (cI, 100, .inl ((sPass a i) 18))), (q 19, .inl (cI, 2000, .inl ((sPass a i) 19))), (q 20, .inl (cI, 2000, .inl ((sPass a i) 20))), (q 21, .inl (cZ, 2000, .inl ((sPass a i) 21)))] ∧ va_S A s.heap H locs ∧ lv_has ls 4 [(3, .int (nI i)), (2, .int (a 0 4)), (1, .int d), (0, .ref h0)]) (nn d) ⟨0, by omega, hP, hD, hS, lv_sub hl [0, 1, 3, 2] rfl⟩ (fun k9 H locs ls hI ih => ?_)
        obtain ⟨i, hf0, hP, hD, hS, hl⟩ := hI
        refine lv_iload_n hx hb dX5_pass_47 rfl (lv_at hl 0 rfl) ?_
        refine lv_iload_n hx hb dX5_pass_48 rfl (lv_at hl 2 rfl) ?_
        refine y_topi (y := nI (nn d)) hd1.1 ?_
        refine lv_icmp_ge (tgt := 62) hx hb dX5_pass_49 (by decide) (fun c_5 => ?_) (fun c_5 => ?_)
        · have hik : i = nn d := by have := (nI_leI (a := nn d) (b := i) (by omega) (by omega)).mp c_5; omega
          rw [hik] at hP hD
          have hP : va_P (dC, dI) vwCl (WM cI cF cZ h0 q (sPass a (nn d)) 0) H := hP
          have hD : va_D A (WM cI cF cZ h0 q (sPass a (nn d)) 0) := hD
          refine lv_aload_n hx hb dX5_pass_62 rfl (lv_at hl 3 rfl) ?_
          refine va_get (D := (dC, dI)) (ci := 5) (v := .int ((sPass a (nn d)) 0 4)) (C := RX5) (T := TX5) (N := 31) hx hb hts hiX5 hown hK hP 0 rfl rfl 23 (by decide) (hts (.fieldLink RX5 145 "PayoutnetModel" "payouts" "I") (List.mem_of_getElem? (i := 2) rfl)) (fun _ h9 => h9) rfl dX5_pass_63 ?_
          refine lv_iload_n hx hb dX5_pass_66 rfl (lv_at hl 1 rfl) ?_
          refine lv_isub hx hb dX5_pass_67 ?_
          have hP9 := hP
          have hD9 := hD
          have hK9 := hK
          exact W.iret (v := ((sPass a (nn d)) 0 4) - (a 0 4)) hx hb hr (fun t ht hW => ⟨⟨((sPass a (nn d)) 0 4) - (a 0 4), (), rfl, (fun _ => rfl), (by rw [e0]; exact atW_end hP9 hD9 hK9 ht hW)⟩, hS.F ht⟩) hS.2.2 dX5_pass_68
        · have hik : i < nn d := Nat.lt_of_not_le (fun h => c_5 ((nI_leI (a := nn d) (b := i) (by omega) (by omega)).mpr h))
          obtain ⟨g1, g2, g3⟩ := hdy i hik
          refine lv_aload_n hx hb dX5_pass_52 rfl (lv_at hl 3 rfl) ?_
          have hFc := y_free hD hS hA
          refine va_callv (va_runV (As := []) (rest := []) ⟨hx, hb, hml, hown, hts⟩ (c_X5_ends l dC dI cI cF cZ h0 q H.size (sPass a i) 0 g1 g2 g3.1) (cwV 0 hts gX5_pass_X5_ends rfl rfl rfl (by decide +kernel) ⟨Nat.le_of_ble_eq_true rfl, Nat.le_of_ble_eq_true rfl⟩) ⟨pcW_blind, va_recv hK hP (ci := 5) (q0 := 0) rfl rfl, fun U hU hW => pcW_pre hP hD hK hU hW⟩ rfl rfl hl.1 rfl (lv_room (Nat.le_of_ble_eq_true rfl)) dX5_pass_53 ⟨Nat.zero_le _, Nat.zero_le _⟩) hS (fun q _ h => hFc q h) hFc (fun u t H1 locs ht hvm hw hB1 hz1 hk1 hS => ?_)
          obtain ⟨hP, hK1, hD1⟩ := hB1
          rw [ht] at hP
          have hD := hD1.weaken (fun kk qq _ h => hFc qq.1 h)
          generalize H1 = H at hP hS ⊢
          have hP : va_P (dC, dI) vwCl (WM cI cF cZ h0 q (sPass a (i + 1)) 0) H := hP
          have hD : va_D A (WM cI cF cZ h0 q (sPass a (i + 1)) 0) := hD
          refine lv_iinc (v := nI (i + 1)) (lv' := [(3, .int (nI (i + 1))), (2, .int (a 0 4)), (1, .int d), (0, .ref h0)]) hx hb dX5_pass_56 hl (k := 0) rfl (nI_1 i) (by decide) rfl (fun ls hl => ?_)
          refine lv_goto (tgt := 47) hx hb dX5_pass_59 (by decide) ?_
          exact ih (k9 - 1) H locs ls (by omega) ⟨i + 1, by omega, hP, hD, hS, lv_sub hl [0, 1, 2, 3] rfl⟩
      · exact absurd c_4 (by decide)
    · have e2 : kPass a d = 2 := by unfold kPass; rw [if_pos hc_1, if_neg c_2]
      refine lv_iconst (v := 2) hx hb dX5_pass_27 (by decide) ?_
      refine lv_goto (tgt := 32) hx hb dX5_pass_28 (by decide) ?_
      have hFc := y_free hD hS hA
      refine va_calli (va_runV (As := [.int 2]) (rest := []) ⟨hx, hb, hml, hown, hts⟩ (c_X5_holds l dC dI cI cF cZ h0 q H.size a th hB 2) (cwV 1 hts gX5_pass_X5_holds rfl rfl rfl (by decide +kernel) ⟨Nat.le_of_ble_eq_true rfl, Nat.le_of_ble_eq_true rfl⟩) ⟨pcW_blind, va_recv hK hP (ci := 5) (q0 := 0) rfl rfl, fun U hU hW => pcW_pre hP hD hK hU hW⟩ rfl rfl hl.1 rfl (lv_room (Nat.le_of_ble_eq_true rfl)) dX5_pass_32 ⟨Nat.zero_le _, Nat.zero_le _⟩) hS (fun q _ h => hFc q h) hFc (fun r u t H1 locs ht hvm hw hB1 hz1 hk1 hS => ?_)
      obtain ⟨hP, hK1, hD1⟩ := hB1
      rw [ht] at hP
      have hD := hD1.weaken (fun kk qq _ h => hFc qq.1 h)
      generalize H1 = H at hP hS ⊢
      have hP : va_P (dC, dI) vwCl (WM cI cF cZ h0 q a 2) H := hP
      have hD : va_D A (WM cI cF cZ h0 q a 2) := hD
      have hw6 := hw
      refine y_topi (y := 0) (hw6.trans (if_neg (by decide))) ?_
      refine lv_if_ne (tgt := 40) hx hb dX5_pass_35 (by decide) (fun c_7 => ?_) (fun c_7 => ?_)
      · exact absurd c_7 (by decide)
      · refine lv_iconst (v := 0) hx hb dX5_pass_38 (by decide) ?_
        have hP9 := hP
        have hD9 := hD
        have hK9 := hK
        exact W.iret (v := 0) hx hb hr (fun t ht hW => ⟨⟨0, (), rfl, (fun h9 => absurd (e2.symm.trans h9) (by decide)), (by rw [e2]; exact atW_end hP9 hD9 hK9 ht hW)⟩, hS.F ht⟩) hS.2.2 dX5_pass_39
  · have hc_1 : ¬ (bw d 1 100) := bI_f c_1
    have e1 : kPass a d = 1 := if_neg hc_1
    refine lv_iconst (v := 1) hx hb dX5_pass_11 (by decide) ?_
    refine lv_goto (tgt := 32) hx hb dX5_pass_12 (by decide) ?_
    have hFc := y_free hD hS hA
    refine va_calli (va_runV (As := [.int 1]) (rest := []) ⟨hx, hb, hml, hown, hts⟩ (c_X5_holds l dC dI cI cF cZ h0 q H.size a th hB 1) (cwV 1 hts gX5_pass_X5_holds rfl rfl rfl (by decide +kernel) ⟨Nat.le_of_ble_eq_true rfl, Nat.le_of_ble_eq_true rfl⟩) ⟨pcW_blind, va_recv hK hP (ci := 5) (q0 := 0) rfl rfl, fun U hU hW => pcW_pre hP hD hK hU hW⟩ rfl rfl hl.1 rfl (lv_room (Nat.le_of_ble_eq_true rfl)) dX5_pass_32 ⟨Nat.zero_le _, Nat.zero_le _⟩) hS (fun q _ h => hFc q h) hFc (fun r u t H1 locs ht hvm hw hB1 hz1 hk1 hS => ?_)
    obtain ⟨hP, hK1, hD1⟩ := hB1
    rw [ht] at hP
    have hD := hD1.weaken (fun kk qq _ h => hFc qq.1 h)
    generalize H1 = H at hP hS ⊢
    have hP : va_P (dC, dI) vwCl (WM cI cF cZ h0 q a 1) H := hP
    have hD : va_D A (WM cI cF cZ h0 q a 1) := hD
    have hw8 := hw
    refine y_topi (y := 0) (hw8.trans (if_neg (by decide))) ?_
    refine lv_if_ne (tgt := 40) hx hb dX5_pass_35 (by decide) (fun c_9 => ?_) (fun c_9 => ?_)
    · exact absurd c_9 (by decide)
    · refine lv_iconst (v := 0) hx hb dX5_pass_38 (by decide) ?_
      have hP9 := hP
      have hD9 := hD
      have hK9 := hK
      exact W.iret (v := 0) hx hb hr (fun t ht hW => ⟨⟨0, (), rfl, (fun h9 => absurd (e1.symm.trans h9) (by decide)), (by rw [e1]; exact atW_end hP9 hD9 hK9 ht hW)⟩, hS.F ht⟩) hS.2.2 dX5_pass_39
set_option maxHeartbeats 4000000 in
set_option maxRecDepth 100000 in
theorem c_X5_fail (l : Launch) (dC : Nat → ClassId) (dI : Nat → Nat → Nat) (cI cF cZ : ClassId) (h0 : Nat) (q : Nat → Nat) (sz : Nat) (a : yA) (th : Int32) (hB : okB a) (x : Int32) : Met l yX5_fail wsX5_fail ({ frames := 2, cells := 0, slots := 0, locals := 43 } : Room) (va_Pc [.ref h0, .int x] (pcW dC dI [(cI, .int), (cF, .float), (cZ, .boolean)] (WM cI cF cZ h0 q a th) sz)) (va_Qi (fun (r : Int32) (_ : Unit) => (kFail a x = 0 → r = sFail a (nn x) 7 (nn (a 20 (nn x))))) (fun _ t => atM dC dI cI cF cZ (va_A (WM cI cF cZ h0 q a th) sz) h0 q (if kFail a x = 0 then sFail a (nn x) else a) (nI (kFail a x)) t) (va_A (WM cI cF cZ h0 q a th) sz)) 0 0 (va_A (WM cI cF cZ h0 q a th) sz) := by
  refine Met.ofW (cc := cX5_fail) (maxL := 3) (ret := (some .int)) (by decide) rfl ?_
  intro p e s m args below meth c s₁ B hml hv
  obtain ⟨rfl, hsz, hP, hK, hD0⟩ := hv
  have hx := B.exec
  have hb := B.bytes
  have hr := B.returns
  have hts := atoms_spec (ws := wsX5_fail) B.pre
  have hown : s.vm.findClass RX5 = some m.cls := findClass_of_methodNamed B.named
  have hlocks := B.notSynchronized
  subst hsz
  have hD := hD0.self (sz := s.heap.size)
  generalize hAe : va_A [(h0, .inr (5, [.int th, .int (a 0 0), .int (a 0 1), .ref (q 1), .ref (q 2), .ref (q 3), .ref (q 4), .ref (q 5), .ref (q 6), .ref (q 7), .ref (q 8), .ref (q 9), .int (a 0 2), .int (a 0 3), .ref (q 10), .ref (q 11), .ref (q 12), .ref (q 13), .ref (q 14), .ref (q 15), .ref (q 16), .ref (q 17), .ref (q 18), .int (a 0 4), .ref (q 19), .ref (q 20), .ref (q 21), .int (a 0 5), .int (a 0 6), .int (a 0 7), .int (a 0 8)])), (q 1, .inl (cI, 8, .inl (a 1))), (q 2, .inl (cI, 8, .inl (a 2))), (q 3, .inl (cI, 8, .inl (a 3))), (q 4, .inl (cI, 8, .inl (a 4))), (q 5, .inl (cI, 8, .inl (a 5))), (q 6, .inl (cI, 8, .inl (a 6))), (q 7, .inl (cI, 8, .inl (a 7))), (q 8, .inl (cI, 8, .inl (a 8))), (q 9, .inl (cF, 4, .inr (.inr (.inl (fun j => shF (a 9 j)))))), (q 10, .inl (cI, 100, .inl (a 10))), (q 11, .inl (cI, 100, .inl (a 11))), (q 12, .inl (cI, 100, .inl (a 12))), (q 13, .inl (cF, 100, .inr (.inr (.inl (fun j => shF (a 13 j)))))), (q 14, .inl (cI, 100, .inl (a 14))), (q 15, .inl (cI, 100, .inl (a 15))), (q 16, .inl (cI, 100, .inl (a 16))), (q 17, .inl (cI, 100, .inl (a 17))), (q 18, .inl (cI, 100, .inl (a 18))), (q 19, .inl (cI, 2000, .inl (a 19))), (q 20, .inl (cI, 2000, .inl (a 20))), (q 21, .inl (cZ, 2000, .inl (a 21)))] s.heap.size = A at hD ⊢
  have hA : ∀ q : Nat, s.heap.size ≤ q → A q := fun q h => by rw [← hAe]; exact Or.inr h
  have hS : va_S A s.heap s.heap [] := va_S.rf
  have hl := lv_entry ([.ref h0, .int x]) (n := 3) (Nat.le_of_ble_eq_true rfl)
  rw [lg_entry_eq]
  generalize (lg_sl ([.ref h0, .int x]) ++ List.replicate (3 - (lg_sl ([.ref h0, .int x])).length) Slot.unset).toArray = ls at hl ⊢
  have hl : lv_has ls 3 [(0, .ref h0), (1, .int x)] := hl
  have hiX5 : ∀ w ∈ wsX50, w ∈ wsX5_fail := fun w h => List.mem_cons_of_mem _ (List.mem_append_right _ h)
  have hP : va_P (dC, dI) vwCl [(h0, .inr (5, [.int th, .int (a 0 0), .int (a 0 1), .ref (q 1), .ref (q 2), .ref (q 3), .ref (q 4), .ref (q 5), .ref (q 6), .ref (q 7), .ref (q 8), .ref (q 9), .int (a 0 2), .int (a 0 3), .ref (q 10), .ref (q 11), .ref (q 12), .ref (q 13), .ref (q 14), .ref (q 15), .ref (q 16), .ref (q 17), .ref (q 18), .int (a 0 4), .ref (q 19), .ref (q 20), .ref (q 21), .int (a 0 5), .int (a 0 6), .int (a 0 7), .int (a 0 8)])), (q 1, .inl (cI, 8, .inl (a 1))), (q 2, .inl (cI, 8, .inl (a 2))), (q 3, .inl (cI, 8, .inl (a 3))), (q 4, .inl (cI, 8, .inl (a 4))), (q 5, .inl (cI, 8, .inl (a 5))), (q 6, .inl (cI, 8, .inl (a 6))), (q 7, .inl (cI, 8, .inl (a 7))), (q 8, .inl (cI, 8, .inl (a 8))), (q 9, .inl (cF, 4, .inr (.inr (.inl (fun j => shF (a 9 j)))))), (q 10, .inl (cI, 100, .inl (a 10))), (q 11, .inl (cI, 100, .inl (a 11))), (q 12, .inl (cI, 100, .inl (a 12))), (q 13, .inl (cF, 100, .inr (.inr (.inl (fun j => shF (a 13 j)))))), (q 14, .inl (cI, 100, .inl (a 14))), (q 15, .inl (cI, 100, .inl (a 15))), (q 16, .inl (cI, 100, .inl (a 16))), (q 17, .inl (cI, 100, .inl (a 17))), (q 18, .inl (cI, 100, .inl (a 18))), (q 19, .inl (cI, 2000, .inl (a 19))), (q 20, .inl (cI, 2000, .inl (a 20))), (q 21, .inl (cZ, 2000, .inl (a 21)))] s.heap := hP
  refine y_enter (A := A) hP (fun H hP hS => ?_)
  have hBk := hB
  refine lv_aload_n hx hb dX5_fail_0 rfl (lv_at hl 0 rfl) ?_
  refine lv_aload_n hx hb dX5_fail_1 rfl (lv_at hl 0 rfl) ?_
  refine lv_iload_n hx hb dX5_fail_2 rfl (lv_at hl 1 rfl) ?_
  have hFc := y_free hD hS hA
  refine va_calli (va_runV (As := [.int x]) (rest := [.ref h0]) ⟨hx, hb, hml, hown, hts⟩ (c_X5_isPayout l dC dI cI cF cZ h0 q H.size a th hB x) (cwV 1 hts gX5_fail_X5_isPayout rfl rfl rfl (by decide +kernel) ⟨Nat.le_of_ble_eq_true rfl, Nat.le_of_ble_eq_true rfl⟩) ⟨pcW_blind, va_recv hK hP (ci := 5) (q0 := 0) rfl rfl, fun U hU hW => pcW_pre hP hD hK hU hW⟩ rfl rfl hl.1 rfl (lv_room (Nat.le_of_ble_eq_true rfl)) dX5_fail_3 ⟨Nat.zero_le _, Nat.zero_le _⟩) hS (fun q _ h => hFc q h) hFc (fun r u t H1 locs ht hvm hw hB1 hz1 hk1 hS => ?_)
  obtain ⟨hP, hK1, hD1⟩ := hB1
  rw [ht] at hP
  have hD := hD1.weaken (fun kk qq _ h => hFc qq.1 h)
  generalize H1 = H at hP hS ⊢
  have hP : va_P (dC, dI) vwCl (WM cI cF cZ h0 q a th) H := hP
  have hD : va_D A (WM cI cF cZ h0 q a th) := hD
  have hw1 := hw
  refine y_topi (y := bI (payOKn a x)) hw1 ?_
  refine lv_if_ne (tgt := 13) hx hb dX5_fail_6 (by decide) (fun c_2 => ?_) (fun c_2 => ?_)
  · have hc_2 : payOKn a x := bI_t c_2
    have hx1 := nat_of (hB 0 4 1024 rfl) (by decide) hc_2.1 hc_2.2
    have hx8 : nn x < 2000 := Nat.lt_of_lt_of_le hx1.2 (Nat.le_trans (hB 0 4 1024 rfl).2 (by decide))
    refine lv_aload_n hx hb dX5_fail_13 rfl (lv_at hl 0 rfl) ?_
    refine va_get (D := (dC, dI)) (ci := 5) (v := .ref (q 21)) (C := RX5) (T := TX5) (N := 31) hx hb hts hiX5 hown hK hP 0 rfl rfl 26 (by decide) (hts (.fieldLink RX5 71 "PayoutnetModel" "areFailed" "[Z") (List.mem_of_getElem? (i := 1) rfl)) (fun _ h9 => h9) rfl dX5_fail_14 ?_
    refine lv_iload_n hx hb dX5_fail_17 rfl (lv_at hl 1 rfl) ?_
    refine y_topi (y := nI (nn x)) hx1.1 ?_
    refine y_zld hx hb hK hP 21 2 rfl rfl (t := nn x) (by omega) (Nat.le_of_ble_eq_true rfl) dX5_fail_18 ?_
    refine lv_if_eq (tgt := 26) hx hb dX5_fail_19 (by decide) (fun c_3 => ?_) (fun c_3 => ?_)
    · have e0 : kFail a x = 0 := by unfold kFail; rw [if_pos hc_2, if_pos c_3]
      refine lv_iconst (v := 0) hx hb dX5_fail_26 (by decide) ?_
      have hFc := y_free hD hS hA
      refine va_calli (va_runV (As := [.int 0]) (rest := []) ⟨hx, hb, hml, hown, hts⟩ (c_X5_holds l dC dI cI cF cZ h0 q H.size a th hB 0) (cwV 1 hts gX5_fail_X5_holds rfl rfl rfl (by decide +kernel) ⟨Nat.le_of_ble_eq_true rfl, Nat.le_of_ble_eq_true rfl⟩) ⟨pcW_blind, va_recv hK hP (ci := 5) (q0 := 0) rfl rfl, fun U hU hW => pcW_pre hP hD hK hU hW⟩ rfl rfl hl.1 rfl (lv_room (Nat.le_of_ble_eq_true rfl)) dX5_fail_27 ⟨Nat.zero_le _, Nat.zero_le _⟩) hS (fun q _ h => hFc q h) hFc (fun r u t H1 locs ht hvm hw hB1 hz1 hk1 hS => ?_)
      obtain ⟨hP, hK1, hD1⟩ := hB1
      rw [ht] at hP
      have hD := hD1.weaken (fun kk qq _ h => hFc qq.1 h)
      generalize H1 = H at hP hS ⊢
      have hP : va_P (dC, dI) vwCl (WM cI cF cZ h0 q a 0) H := hP
      have hD : va_D A (WM cI cF cZ h0 q a 0) := hD
      have hw4 := hw
      refine y_topi (y := 1) (hw4.trans (if_pos rfl)) ?_
      refine lv_if_ne (tgt := 35) hx hb dX5_fail_30 (by decide) (fun c_5 => ?_) (fun c_5 => ?_)
      · have hs20 := hB 20 (nn x) 7 rfl
        have hz : nn (a 20 (nn x)) < 8 := Nat.lt_succ_of_le hs20.2
        refine lv_aload_n hx hb dX5_fail_35 rfl (lv_at hl 0 rfl) ?_
        refine va_get (D := (dC, dI)) (ci := 5) (v := .ref (q 20)) (C := RX5) (T := TX5) (N := 31) hx hb hts hiX5 hown hK hP 0 rfl rfl 25 (by decide) (hts (.fieldLink RX5 68 "PayoutnetModel" "paidSellers" "[I") (List.mem_of_getElem? (i := 2) rfl)) (fun _ h9 => h9) rfl dX5_fail_36 ?_
        refine lv_iload_n hx hb dX5_fail_39 rfl (lv_at hl 1 rfl) ?_
        refine y_topi (y := nI (nn x)) hx1.1 ?_
        refine y_ild hx hb hK hP 20 0 rfl rfl (t := nn x) (by omega) (Nat.le_of_ble_eq_true rfl) dX5_fail_40 ?_
        refine y_topi (y := nI (nn (a 20 (nn x)))) hs20.1 ?_
        refine lv_istore_n (lv' := [(2, .int (nI (nn (a 20 (nn x))))), (0, .ref h0), (1, .int x)]) hx hb dX5_fail_41 rfl hl (by decide) rfl (fun ls hl => ?_)
        refine lv_aload_n hx hb dX5_fail_42 rfl (lv_at hl 1 rfl) ?_
        refine va_get (D := (dC, dI)) (ci := 5) (v := .ref (q 21)) (C := RX5) (T := TX5) (N := 31) hx hb hts hiX5 hown hK hP 0 rfl rfl 26 (by decide) (hts (.fieldLink RX5 71 "PayoutnetModel" "areFailed" "[Z") (List.mem_of_getElem? (i := 1) rfl)) (fun _ h9 => h9) rfl dX5_fail_43 ?_
        refine lv_iload_n hx hb dX5_fail_46 rfl (lv_at hl 2 rfl) ?_
        refine y_topi (y := nI (nn x)) hx1.1 ?_
        refine lv_iconst (v := 1) hx hb dX5_fail_47 (by decide) ?_
        refine y_zst hx hb hK hP hD hS 21 2 rfl rfl (t := nn x) (by omega) (Nat.le_of_ble_eq_true rfl) dX5_fail_48 nar_1 (fun H locs hP hD hS => ?_)
        have hP : va_P (dC, dI) vwCl [(h0, .inr (5, [.int 0, .int (a 0 0), .int (a 0 1), .ref (q 1), .ref (q 2), .ref (q 3), .ref (q 4), .ref (q 5), .ref (q 6), .ref (q 7), .ref (q 8), .ref (q 9), .int (a 0 2), .int (a 0 3), .ref (q 10), .ref (q 11), .ref (q 12), .ref (q 13), .ref (q 14), .ref (q 15), .ref (q 16), .ref (q 17), .ref (q 18), .int (a 0 4), .ref (q 19), .ref (q 20), .ref (q 21), .int (a 0 5), .int (a 0 6), .int (a 0 7), .int (a 0 8)])), (q 1, .inl (cI, 8, .inl (a 1))), (q 2, .inl (cI, 8, .inl (a 2))), (q 3, .inl (cI, 8, .inl (a 3))), (q 4, .inl (cI, 8, .inl (a 4))), (q 5, .inl (cI, 8, .inl (a 5))), (q 6, .inl (cI, 8, .inl (a 6))), (q 7, .inl (cI, 8, .inl (a 7))), (q 8, .inl (cI, 8, .inl (a 8))), (q 9, .inl (cF, 4, .inr (.inr (.inl (fun j => shF (a 9 j)))))), (q 10, .inl (cI, 100, .inl (a 10))), (q 11, .inl (cI, 100, .inl (a 11))), (q 12, .inl (cI, 100, .inl (a 12))), (q 13, .inl (cF, 100, .inr (.inr (.inl (fun j => shF (a 13 j)))))), (q 14, .inl (cI, 100, .inl (a 14))), (q 15, .inl (cI, 100, .inl (a 15))), (q 16, .inl (cI, 100, .inl (a 16))), (q 17, .inl (cI, 100, .inl (a 17))), (q 18, .inl (cI, 100, .inl (a 18))), (q 19, .inl (cI, 2000, .inl (a 19))), (q 20, .inl (cI, 2000, .inl (a 20))), (q 21, .inl (cZ, 2000, .inl (upd (a 21) (nn x) 1)))] H := hP
        have hD : va_D A [(h0, .inr (5, [.int 0, .int (a 0 0), .int (a 0 1), .ref (q 1), .ref (q 2), .ref (q 3), .ref (q 4), .ref (q 5), .ref (q 6), .ref (q 7), .ref (q 8), .ref (q 9), .int (a 0 2), .int (a 0 3), .ref (q 10), .ref (q 11), .ref (q 12), .ref (q 13), .ref (q 14), .ref (q 15), .ref (q 16), .ref (q 17), .ref (q 18), .int (a 0 4), .ref (q 19), .ref (q 20), .ref (q 21), .int (a 0 5), .int (a 0 6), .int (a 0 7), .int (a 0 8)])), (q 1, .inl (cI, 8, .inl (a 1))), (q 2, .inl (cI, 8, .inl (a 2))), (q 3, .inl (cI, 8, .inl (a 3))), (q 4, .inl (cI, 8, .inl (a 4))), (q 5, .inl (cI, 8, .inl (a 5))), (q 6, .inl (cI, 8, .inl (a 6))), (q 7, .inl (cI, 8, .inl (a 7))), (q 8, .inl (cI, 8, .inl (a 8))), (q 9, .inl (cF, 4, .inr (.inr (.inl (fun j => shF (a 9 j)))))), (q 10, .inl (cI, 100, .inl (a 10))), (q 11, .inl (cI, 100, .inl (a 11))), (q 12, .inl (cI, 100, .inl (a 12))), (q 13, .inl (cF, 100, .inr (.inr (.inl (fun j => shF (a 13 j)))))), (q 14, .inl (cI, 100, .inl (a 14))), (q 15, .inl (cI, 100, .inl (a 15))), (q 16, .inl (cI, 100, .inl (a 16))), (q 17, .inl (cI, 100, .inl (a 17))), (q 18, .inl (cI, 100, .inl (a 18))), (q 19, .inl (cI, 2000, .inl (a 19))), (q 20, .inl (cI, 2000, .inl (a 20))), (q 21, .inl (cZ, 2000, .inl (upd (a 21) (nn x) 1)))] := hD
        refine lv_aload_n hx hb dX5_fail_49 rfl (lv_at hl 1 rfl) ?_
        refine va_get (D := (dC, dI)) (ci := 5) (v := .ref (q 7)) (C := RX5) (T := TX5) (N := 31) hx hb hts hiX5 hown hK hP 0 rfl rfl 9 (by decide) (hts (.fieldLink RX5 28 "PayoutnetModel" "balances" "[I") (List.mem_of_getElem? (i := 3) rfl)) (fun _ h9 => h9) rfl dX5_fail_50 ?_
        refine lv_iload_n hx hb dX5_fail_53 rfl (lv_at hl 0 rfl) ?_
        refine lv_dup2_11 hx hb dX5_fail_54 rfl rfl ?_
        refine y_ild hx hb hK hP 7 0 rfl rfl (t := nn (a 20 (nn x))) (by omega) (Nat.le_of_ble_eq_true rfl) dX5_fail_55 ?_
        refine lv_aload_n hx hb dX5_fail_56 rfl (lv_at hl 1 rfl) ?_
        refine va_get (D := (dC, dI)) (ci := 5) (v := .ref (q 19)) (C := RX5) (T := TX5) (N := 31) hx hb hts hiX5 hown hK hP 0 rfl rfl 24 (by decide) (hts (.fieldLink RX5 65 "PayoutnetModel" "sums" "[I") (List.mem_of_getElem? (i := 4) rfl)) (fun _ h9 => h9) rfl dX5_fail_57 ?_
        refine lv_iload_n hx hb dX5_fail_60 rfl (lv_at hl 2 rfl) ?_
        refine y_topi (y := nI (nn x)) hx1.1 ?_
        refine y_ild hx hb hK hP 19 0 rfl rfl (t := nn x) (by omega) (Nat.le_of_ble_eq_true rfl) dX5_fail_61 ?_
        refine lv_iadd hx hb dX5_fail_62 ?_
        refine y_ist hx hb hK hP hD hS 7 0 rfl rfl (t := nn (a 20 (nn x))) (by omega) (Nat.le_of_ble_eq_true rfl) dX5_fail_63 (fun H locs hP hD hS => ?_)
        have hP : va_P (dC, dI) vwCl [(h0, .inr (5, [.int 0, .int (a 0 0), .int (a 0 1), .ref (q 1), .ref (q 2), .ref (q 3), .ref (q 4), .ref (q 5), .ref (q 6), .ref (q 7), .ref (q 8), .ref (q 9), .int (a 0 2), .int (a 0 3), .ref (q 10), .ref (q 11), .ref (q 12), .ref (q 13), .ref (q 14), .ref (q 15), .ref (q 16), .ref (q 17), .ref (q 18), .int (a 0 4), .ref (q 19), .ref (q 20), .ref (q 21), .int (a 0 5), .int (a 0 6), .int (a 0 7), .int (a 0 8)])), (q 1, .inl (cI, 8, .inl (a 1))), (q 2, .inl (cI, 8, .inl (a 2))), (q 3, .inl (cI, 8, .inl (a 3))), (q 4, .inl (cI, 8, .inl (a 4))), (q 5, .inl (cI, 8, .inl (a 5))), (q 6, .inl (cI, 8, .inl (a 6))), (q 7, .inl (cI, 8, .inl (upd (a 7) (nn (a 20 (nn x))) (((a 7) (nn (a 20 (nn x)))) + ((a 19) (nn x)))))), (q 8, .inl (cI, 8, .inl (a 8))), (q 9, .inl (cF, 4, .inr (.inr (.inl (fun j => shF (a 9 j)))))), (q 10, .inl (cI, 100, .inl (a 10))), (q 11, .inl (cI, 100, .inl (a 11))), (q 12, .inl (cI, 100, .inl (a 12))), (q 13, .inl (cF, 100, .inr (.inr (.inl (fun j => shF (a 13 j)))))), (q 14, .inl (cI, 100, .inl (a 14))), (q 15, .inl (cI, 100, .inl (a 15))), (q 16, .inl (cI, 100, .inl (a 16))), (q 17, .inl (cI, 100, .inl (a 17))), (q 18, .inl (cI, 100, .inl (a 18))), (q 19, .inl (cI, 2000, .inl (a 19))), (q 20, .inl (cI, 2000, .inl (a 20))), (q 21, .inl (cZ, 2000, .inl (upd (a 21) (nn x) 1)))] H := hP
        have hD : va_D A [(h0, .inr (5, [.int 0, .int (a 0 0), .int (a 0 1), .ref (q 1), .ref (q 2), .ref (q 3), .ref (q 4), .ref (q 5), .ref (q 6), .ref (q 7), .ref (q 8), .ref (q 9), .int (a 0 2), .int (a 0 3), .ref (q 10), .ref (q 11), .ref (q 12), .ref (q 13), .ref (q 14), .ref (q 15), .ref (q 16), .ref (q 17), .ref (q 18), .int (a 0 4), .ref (q 19), .ref (q 20), .ref (q 21), .int (a 0 5), .int (a 0 6), .int (a 0 7), .int (a 0 8)])), (q 1, .inl (cI, 8, .inl (a 1))), (q 2, .inl (cI, 8, .inl (a 2))), (q 3, .inl (cI, 8, .inl (a 3))), (q 4, .inl (cI, 8, .inl (a 4))), (q 5, .inl (cI, 8, .inl (a 5))), (q 6, .inl (cI, 8, .inl (a 6))), (q 7, .inl (cI, 8, .inl (upd (a 7) (nn (a 20 (nn x))) (((a 7) (nn (a 20 (nn x)))) + ((a 19) (nn x)))))), (q 8, .inl (cI, 8, .inl (a 8))), (q 9, .inl (cF, 4, .inr (.inr (.inl (fun j => shF (a 9 j)))))), (q 10, .inl (cI, 100, .inl (a 10))), (q 11, .inl (cI, 100, .inl (a 11))), (q 12, .inl (cI, 100, .inl (a 12))), (q 13, .inl (cF, 100, .inr (.inr (.inl (fun j => shF (a 13 j)))))), (q 14, .inl (cI, 100, .inl (a 14))), (q 15, .inl (cI, 100, .inl (a 15))), (q 16, .inl (cI, 100, .inl (a 16))), (q 17, .inl (cI, 100, .inl (a 17))), (q 18, .inl (cI, 100, .inl (a 18))), (q 19, .inl (cI, 2000, .inl (a 19))), (q 20, .inl (cI, 2000, .inl (a 20))), (q 21, .inl (cZ, 2000, .inl (upd (a 21) (nn x) 1)))] := hD
        refine lv_aload_n hx hb dX5_fail_64 rfl (lv_at hl 1 rfl) ?_
        refine va_get (D := (dC, dI)) (ci := 5) (v := .ref (q 8)) (C := RX5) (T := TX5) (N := 31) hx hb hts hiX5 hown hK hP 0 rfl rfl 10 (by decide) (hts (.fieldLink RX5 31 "PayoutnetModel" "paidTo" "[I") (List.mem_of_getElem? (i := 5) rfl)) (fun _ h9 => h9) rfl dX5_fail_65 ?_
        refine lv_iload_n hx hb dX5_fail_68 rfl (lv_at hl 0 rfl) ?_
        refine lv_dup2_11 hx hb dX5_fail_69 rfl rfl ?_
        refine y_ild hx hb hK hP 8 0 rfl rfl (t := nn (a 20 (nn x))) (by omega) (Nat.le_of_ble_eq_true rfl) dX5_fail_70 ?_
        refine lv_aload_n hx hb dX5_fail_71 rfl (lv_at hl 1 rfl) ?_
        refine va_get (D := (dC, dI)) (ci := 5) (v := .ref (q 19)) (C := RX5) (T := TX5) (N := 31) hx hb hts hiX5 hown hK hP 0 rfl rfl 24 (by decide) (hts (.fieldLink RX5 65 "PayoutnetModel" "sums" "[I") (List.mem_of_getElem? (i := 4) rfl)) (fun _ h9 => h9) rfl dX5_fail_72 ?_
        refine lv_iload_n hx hb dX5_fail_75 rfl (lv_at hl 2 rfl) ?_
        refine y_topi (y := nI (nn x)) hx1.1 ?_
        refine y_ild hx hb hK hP 19 0 rfl rfl (t := nn x) (by omega) (Nat.le_of_ble_eq_true rfl) dX5_fail_76 ?_
        refine lv_isub hx hb dX5_fail_77 ?_
        refine y_ist hx hb hK hP hD hS 8 0 rfl rfl (t := nn (a 20 (nn x))) (by omega) (Nat.le_of_ble_eq_true rfl) dX5_fail_78 (fun H locs hP hD hS => ?_)
        have hP : va_P (dC, dI) vwCl [(h0, .inr (5, [.int 0, .int (a 0 0), .int (a 0 1), .ref (q 1), .ref (q 2), .ref (q 3), .ref (q 4), .ref (q 5), .ref (q 6), .ref (q 7), .ref (q 8), .ref (q 9), .int (a 0 2), .int (a 0 3), .ref (q 10), .ref (q 11), .ref (q 12), .ref (q 13), .ref (q 14), .ref (q 15), .ref (q 16), .ref (q 17), .ref (q 18), .int (a 0 4), .ref (q 19), .ref (q 20), .ref (q 21), .int (a 0 5), .int (a 0 6), .int (a 0 7), .int (a 0 8)])), (q 1, .inl (cI, 8, .inl (a 1))), (q 2, .inl (cI, 8, .inl (a 2))), (q 3, .inl (cI, 8, .inl (a 3))), (q 4, .inl (cI, 8, .inl (a 4))), (q 5, .inl (cI, 8, .inl (a 5))), (q 6, .inl (cI, 8, .inl (a 6))), (q 7, .inl (cI, 8, .inl (upd (a 7) (nn (a 20 (nn x))) (((a 7) (nn (a 20 (nn x)))) + ((a 19) (nn x)))))), (q 8, .inl (cI, 8, .inl (upd (a 8) (nn (a 20 (nn x))) (((a 8) (nn (a 20 (nn x)))) - ((a 19) (nn x)))))), (q 9, .inl (cF, 4, .inr (.inr (.inl (fun j => shF (a 9 j)))))), (q 10, .inl (cI, 100, .inl (a 10))), (q 11, .inl (cI, 100, .inl (a 11))), (q 12, .inl (cI, 100, .inl (a 12))), (q 13, .inl (cF, 100, .inr (.inr (.inl (fun j => shF (a 13 j)))))), (q 14, .inl (cI, 100, .inl (a 14))), (q 15, .inl (cI, 100, .inl (a 15))), (q 16, .inl (cI, 100, .inl (a 16))), (q 17, .inl (cI, 100, .inl (a 17))), (q 18, .inl (cI, 100, .inl (a 18))), (q 19, .inl (cI, 2000, .inl (a 19))), (q 20, .inl (cI, 2000, .inl (a 20))), (q 21, .inl (cZ, 2000, .inl (upd (a 21) (nn x) 1)))] H := hP
        have hD : va_D A [(h0, .inr (5, [.int 0, .int (a 0 0), .int (a 0 1), .ref (q 1), .ref (q 2), .ref (q 3), .ref (q 4), .ref (q 5), .ref (q 6), .ref (q 7), .ref (q 8), .ref (q 9), .int (a 0 2), .int (a 0 3), .ref (q 10), .ref (q 11), .ref (q 12), .ref (q 13), .ref (q 14), .ref (q 15), .ref (q 16), .ref (q 17), .ref (q 18), .int (a 0 4), .ref (q 19), .ref (q 20), .ref (q 21), .int (a 0 5), .int (a 0 6), .int (a 0 7), .int (a 0 8)])), (q 1, .inl (cI, 8, .inl (a 1))), (q 2, .inl (cI, 8, .inl (a 2))), (q 3, .inl (cI, 8, .inl (a 3))), (q 4, .inl (cI, 8, .inl (a 4))), (q 5, .inl (cI, 8, .inl (a 5))), (q 6, .inl (cI, 8, .inl (a 6))), (q 7, .inl (cI, 8, .inl (upd (a 7) (nn (a 20 (nn x))) (((a 7) (nn (a 20 (nn x)))) + ((a 19) (nn x)))))), (q 8, .inl (cI, 8, .inl (upd (a 8) (nn (a 20 (nn x))) (((a 8) (nn (a 20 (nn x)))) - ((a 19) (nn x)))))), (q 9, .inl (cF, 4, .inr (.inr (.inl (fun j => shF (a 9 j)))))), (q 10, .inl (cI, 100, .inl (a 10))), (q 11, .inl (cI, 100, .inl (a 11))), (q 12, .inl (cI, 100, .inl (a 12))), (q 13, .inl (cF, 100, .inr (.inr (.inl (fun j => shF (a 13 j)))))), (q 14, .inl (cI, 100, .inl (a 14))), (q 15, .inl (cI, 100, .inl (a 15))), (q 16, .inl (cI, 100, .inl (a 16))), (q 17, .inl (cI, 100, .inl (a 17))), (q 18, .inl (cI, 100, .inl (a 18))), (q 19, .inl (cI, 2000, .inl (a 19))), (q 20, .inl (cI, 2000, .inl (a 20))), (q 21, .inl (cZ, 2000, .inl (upd (a 21) (nn x) 1)))] := hD
        refine lv_aload_n hx hb dX5_fail_79 rfl (lv_at hl 1 rfl) ?_
        refine va_get (D := (dC, dI)) (ci := 5) (v := .ref (q 7)) (C := RX5) (T := TX5) (N := 31) hx hb hts hiX5 hown hK hP 0 rfl rfl 9 (by decide) (hts (.fieldLink RX5 28 "PayoutnetModel" "balances" "[I") (List.mem_of_getElem? (i := 3) rfl)) (fun _ h9 => h9) rfl dX5_fail_80 ?_
        refine lv_iload_n hx hb dX5_fail_83 rfl (lv_at hl 0 rfl) ?_
        refine y_ild hx hb hK hP 7 0 rfl rfl (t := nn (a 20 (nn x))) (by omega) (Nat.le_of_ble_eq_true rfl) dX5_fail_84 ?_
        have hP : va_P (dC, dI) vwCl (WM cI cF cZ h0 q (sFail a (nn x)) 0) H := hP
        have hD : va_D A (WM cI cF cZ h0 q (sFail a (nn x)) 0) := hD
        obtain ⟨sF, esF⟩ : ∃ sF, sF = sFail a (nn x) := ⟨_, rfl⟩
        rw [← esF] at hP hD ⊢
        have hP9 := hP
        have hD9 := hD
        have hK9 := hK
        exact W.iret (v := (upd (a 7) (nn (a 20 (nn x))) (((a 7) (nn (a 20 (nn x)))) + ((a 19) (nn x)))) (nn (a 20 (nn x)))) hx hb hr (fun t ht hW => ⟨⟨(upd (a 7) (nn (a 20 (nn x))) (((a 7) (nn (a 20 (nn x)))) + ((a 19) (nn x)))) (nn (a 20 (nn x))), (), rfl, (fun _ => by rw [esF]; exact (congrFun (sFail_7 a (nn x)) _).symm), (by rw [e0]; exact atW_end hP9 hD9 hK9 ht hW)⟩, hS.F ht⟩) hS.2.2 dX5_fail_85
      · exact absurd c_5 (by decide)
    · have e2 : kFail a x = 2 := by unfold kFail; rw [if_pos hc_2, if_neg c_3]
      refine lv_iconst (v := 2) hx hb dX5_fail_22 (by decide) ?_
      refine lv_goto (tgt := 27) hx hb dX5_fail_23 (by decide) ?_
      have hFc := y_free hD hS hA
      refine va_calli (va_runV (As := [.int 2]) (rest := []) ⟨hx, hb, hml, hown, hts⟩ (c_X5_holds l dC dI cI cF cZ h0 q H.size a th hB 2) (cwV 1 hts gX5_fail_X5_holds rfl rfl rfl (by decide +kernel) ⟨Nat.le_of_ble_eq_true rfl, Nat.le_of_ble_eq_true rfl⟩) ⟨pcW_blind, va_recv hK hP (ci := 5) (q0 := 0) rfl rfl, fun U hU hW => pcW_pre hP hD hK hU hW⟩ rfl rfl hl.1 rfl (lv_room (Nat.le_of_ble_eq_true rfl)) dX5_fail_27 ⟨Nat.zero_le _, Nat.zero_le _⟩) hS (fun q _ h => hFc q h) hFc (fun r u t H1 locs ht hvm hw hB1 hz1 hk1 hS => ?_)
      obtain ⟨hP, hK1, hD1⟩ := hB1
      rw [ht] at hP
      have hD := hD1.weaken (fun kk qq _ h => hFc qq.1 h)
      generalize H1 = H at hP hS ⊢
      have hP : va_P (dC, dI) vwCl (WM cI cF cZ h0 q a 2) H := hP
      have hD : va_D A (WM cI cF cZ h0 q a 2) := hD
      have hw6 := hw
      refine y_topi (y := 0) (hw6.trans (if_neg (by decide))) ?_
      refine lv_if_ne (tgt := 35) hx hb dX5_fail_30 (by decide) (fun c_7 => ?_) (fun c_7 => ?_)
      · exact absurd c_7 (by decide)
      · refine lv_iconst (v := 0) hx hb dX5_fail_33 (by decide) ?_
        have hP9 := hP
        have hD9 := hD
        have hK9 := hK
        exact W.iret (v := 0) hx hb hr (fun t ht hW => ⟨⟨0, (), rfl, (fun h9 => absurd (e2.symm.trans h9) (by decide)), (by rw [e2]; exact atW_end hP9 hD9 hK9 ht hW)⟩, hS.F ht⟩) hS.2.2 dX5_fail_34
  · have hc_2 : ¬ (payOKn a x) := bI_f c_2
    have e1 : kFail a x = 1 := if_neg hc_2
    refine lv_iconst (v := 1) hx hb dX5_fail_9 (by decide) ?_
    refine lv_goto (tgt := 27) hx hb dX5_fail_10 (by decide) ?_
    have hFc := y_free hD hS hA
    refine va_calli (va_runV (As := [.int 1]) (rest := []) ⟨hx, hb, hml, hown, hts⟩ (c_X5_holds l dC dI cI cF cZ h0 q H.size a th hB 1) (cwV 1 hts gX5_fail_X5_holds rfl rfl rfl (by decide +kernel) ⟨Nat.le_of_ble_eq_true rfl, Nat.le_of_ble_eq_true rfl⟩) ⟨pcW_blind, va_recv hK hP (ci := 5) (q0 := 0) rfl rfl, fun U hU hW => pcW_pre hP hD hK hU hW⟩ rfl rfl hl.1 rfl (lv_room (Nat.le_of_ble_eq_true rfl)) dX5_fail_27 ⟨Nat.zero_le _, Nat.zero_le _⟩) hS (fun q _ h => hFc q h) hFc (fun r u t H1 locs ht hvm hw hB1 hz1 hk1 hS => ?_)
    obtain ⟨hP, hK1, hD1⟩ := hB1
    rw [ht] at hP
    have hD := hD1.weaken (fun kk qq _ h => hFc qq.1 h)
    generalize H1 = H at hP hS ⊢
    have hP : va_P (dC, dI) vwCl (WM cI cF cZ h0 q a 1) H := hP
    have hD : va_D A (WM cI cF cZ h0 q a 1) := hD
    have hw8 := hw
    refine y_topi (y := 0) (hw8.trans (if_neg (by decide))) ?_
    refine lv_if_ne (tgt := 35) hx hb dX5_fail_30 (by decide) (fun c_9 => ?_) (fun c_9 => ?_)
    · exact absurd c_9 (by decide)
    · refine lv_iconst (v := 0) hx hb dX5_fail_33 (by decide) ?_
      have hP9 := hP
      have hD9 := hD
      have hK9 := hK
      exact W.iret (v := 0) hx hb hr (fun t ht hW => ⟨⟨0, (), rfl, (fun h9 => absurd (e1.symm.trans h9) (by decide)), (by rw [e1]; exact atW_end hP9 hD9 hK9 ht hW)⟩, hS.F ht⟩) hS.2.2 dX5_fail_34
