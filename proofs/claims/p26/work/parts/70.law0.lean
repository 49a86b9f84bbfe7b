/-! the law's own methods: a call that is caught -/
def okN3 (U : State) : Prop := va_Nc exA exI U ∧ va_Nc exS exI U ∧ va_Nc exS exA U
theorem okN3_moved {u U : State} (hvm : u.vm.Alike U.vm) (h : okN3 u) : okN3 U := ⟨va_Nc.moved hvm h.1, va_Nc.moved hvm h.2.1, va_Nc.moved hvm h.2.2⟩
def pcH (dC : Nat → ClassId) (dI : Nat → Nat → Nat) (tys : List (ClassId × FieldType)) (ws : va_W) (sz : Nat) (U : State) : Prop := pcV dC dI tys ws sz U ∧ okN3 U
theorem pcH_blind {dC : Nat → ClassId} {dI : Nat → Nat → Nat} {tys : List (ClassId × FieldType)} {ws : va_W} {sz : Nat} {As : List Value} : FrameBlind (va_Pc As (pcH dC dI tys ws sz)) := fun a U g mk h => ⟨h.1, (pcV_blind a U g mk ⟨h.1, h.2.1⟩).2, okN3_moved (u := U) (U := U.calling g mk a) (Vm.Alike.refl U.vm) h.2.2⟩
theorem pcH_pre {dC : Nat → ClassId} {dI : Nat → Nat → Nat} {tys : List (ClassId × FieldType)} {ws : va_W} {s U : State} {H : Heap} {A A1 : Nat → Prop} {locs : List Loc} {As : List Value} (hP : va_P (dC, dI) vwCl ws H) (hD : va_D A1 ws) (hK : va_K (dC, dI) vwCl tys s) (hV : okV A s) (hN : okN3 s) (hS : va_S A s.heap H locs) (hF : ∀ q, va_A ws H.size q → A q) (hU : U.heap = H) (hW : s.WarmedH U.vm) : va_Pc As (pcH dC dI tys ws H.size) As.toArray U :=
  ⟨rfl, (pcV_pre (As := As) hP hD hK hV hS hF hU hW).2, okN3_moved hW.alike hN⟩
theorem atC_e {dC : Nat → ClassId} {dI : Nat → Nat → Nat} {cI cF : ClassId} {A : Nat → Prop} {h0 : Nat} {a b : yA} {t : State} {q : Nat → Nat} {jc js jv : Nat → Int32} {k : Nat} (e : b = a) (hC : okC a jc js jv k) (h : atW dC dI [(cI, .int), (cF, .float)] A (WC cI cF h0 q a jc js jv k (capOf (nn (a 0 4)))) t) : atC dC dI cI cF A h0 b t := by
  rw [e]; exact ⟨q, jc, js, jv, k, hC, h⟩
theorem va_X_pre {b L : Nat} {xs : Nat → Int32} {s U : State} {H : Heap} {A : Nat → Prop} {locs : List Loc} (hX : va_X b L xs s s.heap) (hbl : b < s.heap.size) (hbA : ¬ A b) (hS : va_S A s.heap H locs) (hU : U.heap = H) (hW : s.WarmedH U.vm) : va_X b L xs U U.heap ∧ b < U.heap.size := by
  rw [hU]
  exact ⟨va_X.moved hW.alike (hX.kept (hS.2.1 b hbl hbA)), Nat.lt_of_lt_of_le hbl hS.1⟩
/-- the low bits of v, below n -/
def lowI (v n : Int32) : Int32 := (v &&& 2147483647) - (v &&& 2147483647) / n * n
/-- a cell of the script, or a number made up for it -/
def celI (xs : Nat → Int32) (L : Nat) (k : Int32) : Int32 := if k < Int32.ofNat L then xs (nn k) else 7919 * (k + 557) * (k + 2857)
/-- the answer where a call is thrown -/
def dA (a : yA) (how x y z : Int32) : Int32 := if dK a how x y z = 0 then dV a how x y z else -2000000001
def dT (a : yA) (how x y z : Int32) : yA := if dK a how x y z = 0 then dS a how x y z else a
theorem dA_y {a : yA} {how x y z : Int32} (h : dK a how x y z = 0) : dA a how x y z = dV a how x y z := if_pos h
theorem dA_n {a : yA} {how x y z : Int32} (h : ¬ dK a how x y z = 0) : dA a how x y z = -2000000001 := if_neg h
theorem dT_y {a : yA} {how x y z : Int32} (h : dK a how x y z = 0) : dT a how x y z = dS a how x y z := if_pos h
theorem dT_n {a : yA} {how x y z : Int32} (h : ¬ dK a how x y z = 0) : dT a how x y z = a := if_neg h
def rA (a : yA) (x am fb : Int32) : Int32 := if kRef a x am = 0 then sRefund a (nn x) am (decide (¬ fb = 0)) 7 (slr a (nn x)) else -2000000001
def rT (a : yA) (x am fb : Int32) : yA := if kRef a x am = 0 then sRefund a (nn x) am (decide (¬ fb = 0)) else a
theorem rA_y {a : yA} {x am fb : Int32} (h : kRef a x am = 0) : rA a x am fb = sRefund a (nn x) am (decide (¬ fb = 0)) 7 (slr a (nn x)) := if_pos h
theorem rA_n {a : yA} {x am fb : Int32} (h : ¬ kRef a x am = 0) : rA a x am fb = -2000000001 := if_neg h
theorem rT_y {a : yA} {x am fb : Int32} (h : kRef a x am = 0) : rT a x am fb = sRefund a (nn x) am (decide (¬ fb = 0)) := if_pos h
theorem rT_n {a : yA} {x am fb : Int32} (h : ¬ kRef a x am = 0) : rT a x am fb = a := if_neg h
def bA (a : yA) (x : Int32) : Int32 := if kSel a x = 0 then a 7 (nn x) else -2000000001
theorem bA_y {a : yA} {x : Int32} (h : kSel a x = 0) : bA a x = a 7 (nn x) := if_pos h
theorem bA_n {a : yA} {x : Int32} (h : ¬ kSel a x = 0) : bA a x = -2000000001 := if_neg h
def kSet (a : yA) (fl x y z : Int32) : Nat := if fl = 0 then kRes a x y z else kPO a x y z
def sSet (a : yA) (fl x y z : Int32) : yA := if fl = 0 then sRes a x y z else sPO a x y z
set_option maxHeartbeats 4000000 in
set_option maxRecDepth 100000 in
theorem c_L_low (l : Launch) (v n : Int32) (hn : n ≠ 0) : Met l yL_low wsL_low ({ frames := 0, cells := 0, slots := 0, locals := 0 } : Room) (va_Pc [.int v, .int n] (fun _ => True)) (va_Qi (fun (r : Int32) (_ : Unit) => r = lowI v n) (fun _ _ => True) (fun _ => False)) 0 0 (fun _ => False) := by
  refine Met.ofW (cc := cL_low) (maxL := 2) (ret := (some .int)) (by decide) rfl ?_
  intro p e s m args below meth c s₁ B hml hv
  obtain ⟨rfl, -⟩ := hv
  have hx := B.exec
  have hb := B.bytes
  have hr := B.returns
  have hts := atoms_spec (ws := wsL_low) B.pre
  have hown : s.vm.findClass RL = some m.cls := findClass_of_methodNamed B.named
  have hlocks := B.notSynchronized
  have hS : va_S (fun _ => False) s.heap s.heap [] := va_S.rf
  have hl := lv_entry ([.int v, .int n]) (n := 2) (Nat.le_of_ble_eq_true rfl)
  rw [lg_entry_eq]
  generalize (lg_sl ([.int v, .int n]) ++ List.replicate (2 - (lg_sl ([.int v, .int n])).length) Slot.unset).toArray = ls at hl ⊢
  have hl : lv_has ls 2 [(0, .int v), (1, .int n)] := hl
  refine lv_iload_n hx hb dL_low_0 rfl (lv_at hl 0 rfl) ?_
  refine lv_ldc hx hb hown (hts (.constant RL 7 (2147483647)) (List.mem_of_getElem? (i := 1) rfl)) dL_low_1 ?_
  refine lv_iand hx hb dL_low_3 ?_
  refine lv_iload_n hx hb dL_low_4 rfl (lv_at hl 1 rfl) ?_
  refine lv_irem hx hb dL_low_5 hn ?_
  exact W.iret (v := lowI v n) hx hb hr (fun t ht hW => ⟨⟨lowI v n, (), rfl, rfl, trivial⟩, hS.F ht⟩) hS.2.2 dL_low_6
set_option maxHeartbeats 4000000 in
set_option maxRecDepth 100000 in
theorem c_L_cell (l : Launch) (b L : Nat) (xs : Nat → Int32) (hL : L ≤ 260) (k : Nat) (hk : k < 260) : Met l yL_cell wsL_cell ({ frames := 0, cells := 0, slots := 0, locals := 0 } : Room) (va_Pc [.ref b, .int (nI k)] (fun U => va_X b L xs U U.heap ∧ b < U.heap.size)) (va_Qi (fun (r : Int32) (_ : Unit) => r = celI xs L (nI k)) (fun _ _ => True) (fun _ => False)) 0 0 (fun _ => False) := by
  refine Met.ofW (cc := cL_cell) (maxL := 2) (ret := (some .int)) (by decide) rfl ?_
  intro p e s m args below meth c s₁ B hml hv
  obtain ⟨rfl, hX, hbl⟩ := hv
  have hx := B.exec
  have hb := B.bytes
  have hr := B.returns
  have hts := atoms_spec (ws := wsL_cell) B.pre
  have hown : s.vm.findClass RL = some m.cls := findClass_of_methodNamed B.named
  have hlocks := B.notSynchronized
  have hS : va_S (fun _ => False) s.heap s.heap [] := va_S.rf
  have hl := lv_entry ([.ref b, .int (nI k)]) (n := 2) (Nat.le_of_ble_eq_true rfl)
  rw [lg_entry_eq]
  generalize (lg_sl ([.ref b, .int (nI k)]) ++ List.replicate (2 - (lg_sl ([.ref b, .int (nI k)])).length) Slot.unset).toArray = ls at hl ⊢
  have hl : lv_has ls 2 [(0, .ref b), (1, .int (nI k))] := hl
  refine lv_iload_n hx hb dL_cell_0 rfl (lv_at hl 1 rfl) ?_
  refine lv_aload_n hx hb dL_cell_1 rfl (lv_at hl 0 rfl) ?_
  refine va_slen hx hb hX hbl (fun h => h) hS dL_cell_2 ?_
  refine lv_icmp_ge (tgt := 12) hx hb dL_cell_3 (by decide) (fun c_1 => ?_) (fun c_1 => ?_)
  · have e : celI xs L (nI k) = 7919 * (nI k + 557) * (nI k + 2857) := if_neg (Int32.not_lt.mpr c_1)
    refine lv_sipush (v := 7919) hx hb dL_cell_12 (by decide) ?_
    refine lv_iload_n hx hb dL_cell_15 rfl (lv_at hl 1 rfl) ?_
    refine lv_sipush (v := 557) hx hb dL_cell_16 (by decide) ?_
    refine lv_iadd hx hb dL_cell_19 ?_
    refine lv_imul hx hb dL_cell_20 ?_
    refine lv_iload_n hx hb dL_cell_21 rfl (lv_at hl 1 rfl) ?_
    refine lv_sipush (v := 2857) hx hb dL_cell_22 (by decide) ?_
    refine lv_iadd hx hb dL_cell_25 ?_
    refine lv_imul hx hb dL_cell_26 ?_
    exact W.iret (v := (7919 * ((nI k) + 557)) * ((nI k) + 2857)) hx hb hr (fun t ht hW => ⟨⟨(7919 * ((nI k) + 557)) * ((nI k) + 2857), (), rfl, e.symm, trivial⟩, hS.F ht⟩) hS.2.2 dL_cell_27
  · have hlt : nI k < nI L := Int32.not_le.mp c_1
    have hkL : k < L := (nI_ltI (by omega) (by omega)).mp hlt
    have e : celI xs L (nI k) = xs k := by unfold celI; rw [if_pos (show nI k < Int32.ofNat L from hlt), nn_nI (by omega)]
    refine lv_aload_n hx hb dL_cell_6 rfl (lv_at hl 0 rfl) ?_
    refine lv_iload_n hx hb dL_cell_7 rfl (lv_at hl 1 rfl) ?_
    refine va_sld hx hb hX hbl (fun h => h) hS (vp_in_nI hkL (by omega)) dL_cell_8 ?_
    refine y_topi (y := xs k) (by rw [nI_clamp (by omega)]) ?_
    refine lv_goto (tgt := 27) hx hb dL_cell_9 (by decide) ?_
    exact W.iret (v := xs k) hx hb hr (fun t ht hW => ⟨⟨xs k, (), rfl, e.symm, trivial⟩, hS.F ht⟩) hS.2.2 dL_cell_27
set_option maxHeartbeats 4000000 in
set_option maxRecDepth 100000 in
theorem c_L_sets (l : Launch) (dC : Nat → ClassId) (dI : Nat → Nat → Nat) (cI cF : ClassId) (h0 : Nat) (q : Nat → Nat) (sz : Nat) (a : yA) (jc js jv : Nat → Int32) (k : Nat) (hst : l.stackTraces = false)  (hC : okC a jc js jv k) (hB : okB a) (fl x y z : Int32) : vx_Met l yL_sets wsL_sets ({ frames := 8, cells := 3, slots := 18, locals := 135 } : Room) (va_Pc [.ref h0, .int fl, .int x, .int y, .int z] (pcV dC dI [(cI, .int), (cF, .float)] (WC cI cF h0 q a jc js jv k (capOf (nn (a 0 4)))) sz)) (va_Qi (fun (r : Int32) (_ : Unit) => kSet a fl x y z = 0 ∧ r = 0) (fun _ t => atC dC dI cI cF (va_A (WC cI cF h0 q a jc js jv k (capOf (nn (a 0 4)))) sz) h0 (sSet a fl x y z) t) (va_A (WC cI cF h0 q a jc js jv k (capOf (nn (a 0 4)))) sz)) (vx_X (fun _ : Unit => kSet a fl x y z ≠ 0) (fun E _ t => E = eIA (kSet a fl x y z) ∧ atC dC dI cI cF (va_A (WC cI cF h0 q a jc js jv k (capOf (nn (a 0 4)))) sz) h0 a t) (va_A (WC cI cF h0 q a jc js jv k (capOf (nn (a 0 4)))) sz)) (3) (18) (va_A (WC cI cF h0 q a jc js jv k (capOf (nn (a 0 4)))) sz) := by
  refine vx_ofW (cc := cL_sets) (maxL := 5) (ret := (some .int)) (by decide) rfl ?_
  intro p e s m args below meth c s₁ B hml htab hv
  obtain ⟨rfl, ⟨hsz, hP, hK, hD0⟩, hV⟩ := hv
  have hx := B.exec
  have hb := B.bytes
  have hr := B.returns
  have hts := atoms_spec (ws := wsL_sets) B.pre
  have hown : s.vm.findClass RL = some m.cls := findClass_of_methodNamed B.named
  have hlocks := B.notSynchronized
  subst hsz
  have hD := hD0.self (sz := s.heap.size)
  generalize hAe : va_A [(h0, .inr (4, [.ref (q 1), .ref (q 10), .ref (q 18), .ref (q 22), .ref (q 26), .int (a 0 2), .int (a 0 1), .int (a 0 5), .int (a 0 6), .int (a 0 7), .int (a 0 8)])), (q 1, .inr (3, [.ref (q 2), .ref (q 3), .ref (q 4), .ref (q 5), .ref (q 6), .ref (q 7), .ref (q 8), .ref (q 9), .int (a 0 0)])), (q 2, .inl (cI, 8, .inl (a 1))), (q 3, .inl (cI, 8, .inl (a 2))), (q 4, .inl (cI, 8, .inl (a 3))), (q 5, .inl (cI, 8, .inl (a 4))), (q 6, .inl (cI, 8, .inl (a 5))), (q 7, .inl (cI, 8, .inl (a 6))), (q 8, .inl (cI, 8, .inl (a 7))), (q 9, .inl (cI, 8, .inl (a 8))), (q 10, .inr (2, [.ref (q 11), .ref (q 12), .ref (q 13), .ref (q 14), .ref (q 15), .ref (q 16), .ref (q 17), .int (a 0 3)])), (q 11, .inl (cI, 100, .inl (a 10))), (q 12, .inl (cF, 100, .inr (.inr (.inl (fun j => shF (a 13 j)))))), (q 13, .inl (cI, 100, .inl (a 14))), (q 14, .inl (cI, 100, .inl (fun j => a 11 j - a 12 j))), (q 15, .inl (cI, 100, .inl (fun j => a 15 j - a 16 j))), (q 16, .inl (cI, 100, .inl (a 17))), (q 17, .inl (cI, 100, .inl (a 18))), (q 18, .inr (1, [.ref (q 19), .ref (q 20), .ref (q 21), .int (a 0 4)])), (q 19, .inl (cI, capOf (nn (a 0 4)), .inl (a 20))), (q 20, .inl (cI, capOf (nn (a 0 4)), .inl (a 19))), (q 21, .inl (cI, capOf (nn (a 0 4)), .inl (a 21))), (q 22, .inr (0, [.ref (q 23), .ref (q 24), .ref (q 25), .int (nI k)])), (q 23, .inl (cI, 8, .inl (jc))), (q 24, .inl (cI, 256, .inl (js))), (q 25, .inl (cI, 256, .inl (jv))), (q 26, .inl (cF, 4, .inr (.inr (.inl (fun j => shF (a 9 j))))))] s.heap.size = A at hD hV ⊢
  have hA : ∀ q : Nat, s.heap.size ≤ q → A q := fun q h => by rw [← hAe]; exact Or.inr h
  have hS : va_S A s.heap s.heap [] := va_S.rf
  have hl := lv_entry ([.ref h0, .int fl, .int x, .int y, .int z]) (n := 5) (Nat.le_of_ble_eq_true rfl)
  rw [lg_entry_eq]
  generalize (lg_sl ([.ref h0, .int fl, .int x, .int y, .int z]) ++ List.replicate (5 - (lg_sl ([.ref h0, .int fl, .int x, .int y, .int z])).length) Slot.unset).toArray = ls at hl ⊢
  have hl : lv_has ls 5 [(0, .ref h0), (1, .int fl), (2, .int x), (3, .int y), (4, .int z)] := hl
  have hP : va_P (dC, dI) vwCl [(h0, .inr (4, [.ref (q 1), .ref (q 10), .ref (q 18), .ref (q 22), .ref (q 26), .int (a 0 2), .int (a 0 1), .int (a 0 5), .int (a 0 6), .int (a 0 7), .int (a 0 8)])), (q 1, .inr (3, [.ref (q 2), .ref (q 3), .ref (q 4), .ref (q 5), .ref (q 6), .ref (q 7), .ref (q 8), .ref (q 9), .int (a 0 0)])), (q 2, .inl (cI, 8, .inl (a 1))), (q 3, .inl (cI, 8, .inl (a 2))), (q 4, .inl (cI, 8, .inl (a 3))), (q 5, .inl (cI, 8, .inl (a 4))), (q 6, .inl (cI, 8, .inl (a 5))), (q 7, .inl (cI, 8, .inl (a 6))), (q 8, .inl (cI, 8, .inl (a 7))), (q 9, .inl (cI, 8, .inl (a 8))), (q 10, .inr (2, [.ref (q 11), .ref (q 12), .ref (q 13), .ref (q 14), .ref (q 15), .ref (q 16), .ref (q 17), .int (a 0 3)])), (q 11, .inl (cI, 100, .inl (a 10))), (q 12, .inl (cF, 100, .inr (.inr (.inl (fun j => shF (a 13 j)))))), (q 13, .inl (cI, 100, .inl (a 14))), (q 14, .inl (cI, 100, .inl (fun j => a 11 j - a 12 j))), (q 15, .inl (cI, 100, .inl (fun j => a 15 j - a 16 j))), (q 16, .inl (cI, 100, .inl (a 17))), (q 17, .inl (cI, 100, .inl (a 18))), (q 18, .inr (1, [.ref (q 19), .ref (q 20), .ref (q 21), .int (a 0 4)])), (q 19, .inl (cI, capOf (nn (a 0 4)), .inl (a 20))), (q 20, .inl (cI, capOf (nn (a 0 4)), .inl (a 19))), (q 21, .inl (cI, capOf (nn (a 0 4)), .inl (a 21))), (q 22, .inr (0, [.ref (q 23), .ref (q 24), .ref (q 25), .int (nI k)])), (q 23, .inl (cI, 8, .inl (jc))), (q 24, .inl (cI, 256, .inl (js))), (q 25, .inl (cI, 256, .inl (jv))), (q 26, .inl (cF, 4, .inr (.inr (.inl (fun j => shF (a 9 j))))))] s.heap := hP
  refine y_enter (A := A) hP (fun H hP hS => ?_)
  have hBk := hB
  refine lv_iload_n hx hb dL_sets_0 rfl (lv_at hl 1 rfl) ?_
  refine lv_if_eq (tgt := 15) hx hb dL_sets_1 (by decide) (fun c_1 => ?_) (fun c_1 => ?_)
  · have eK : kSet a fl x y z = kRes a x y z := if_pos c_1
    have eS : sSet a fl x y z = sRes a x y z := if_pos c_1
    refine lv_aload_n hx hb dL_sets_15 rfl (lv_at hl 0 rfl) ?_
    refine lv_iload_n hx hb dL_sets_16 rfl (lv_at hl 2 rfl) ?_
    refine lv_iload_n hx hb dL_sets_17 rfl (lv_at hl 3 rfl) ?_
    refine lv_iload hx hb dL_sets_18 (lv_at hl 4 rfl) ?_
    have hFc := y_free hD hS hA
    refine vx_callv (vx_runV (As := [.int x, .int y, .int z]) (rest := []) ⟨hx, hb, hml, hown, hts⟩ (c_X4_setReserve l dC dI cI cF h0 q H.size a jc js jv k hst hC hB x y z) (cwV 3 hts gL_sets_X4_setReserve rfl rfl rfl (by decide +kernel) ⟨Nat.le_of_ble_eq_true rfl, Nat.le_of_ble_eq_true rfl⟩) ⟨pcV_blind, va_recv hK hP (ci := 4) (q0 := 0) rfl rfl, fun U hU hW => pcV_pre hP hD hK hV hS hFc hU hW⟩ rfl rfl hl.1 rfl (lv_room (Nat.le_of_ble_eq_true rfl)) dL_sets_20 ⟨Nat.le_of_ble_eq_true rfl, Nat.le_of_ble_eq_true rfl⟩) hS (fun q _ h => hFc q h) hFc (fun q _ h => hFc q h) (fun E ce q9 u t H1 locs ht hvm hw hBx hz1 hk1 hS hce hcv hcl => ?_) (fun u t H1 locs ht hvm hw hB1 hz1 hk1 hS => ?_)
    · obtain ⟨hE, qx, jcx, jsx, jvx, kx, hCx, hPx, hKx, hDx⟩ := hBx
      rw [ht] at hPx
      exact vx_out (fun x hx9 => (htab x hx9).elim) hlocks hce hcv hcl (fun t9 ht9 hvm9 => ⟨(), (by rw [eK]; exact hw), ⟨(by rw [eK]; exact hE), atC_in hCx (⟨by rw [ht9]; exact hPx, va_K.moved hvm9 hK, hDx.weaken (fun kk qq _ h => hFc qq.1 h)⟩)⟩, hS.F ht9⟩) hS.2.2 (Nat.le_of_ble_eq_true rfl) (Nat.le_of_ble_eq_true rfl)
    · obtain ⟨q2, jc2, js2, jv2, k2, hC2, hP, hK1, hD1⟩ := hB1
      rw [ht] at hP
      have hD := hD1.weaken (fun kk qq _ h => hFc qq.1 h)
      generalize H1 = H at hP hS ⊢
      have hC2 : okC (sRes a x y z) jc2 js2 jv2 k2 := hC2
      have hP : va_P (dC, dI) vwCl (WC cI cF h0 q2 (sRes a x y z) jc2 js2 jv2 k2 (capOf (nn ((sRes a x y z) 0 4)))) H := hP
      have hD : va_D A (WC cI cF h0 q2 (sRes a x y z) jc2 js2 jv2 k2 (capOf (nn ((sRes a x y z) 0 4)))) := hD
      have hw2 := hw
      refine lv_iconst (v := 0) hx hb dL_sets_23 (by decide) ?_
      refine W.widen (k := 3) (n := 18) (Nat.le_of_ble_eq_true rfl) (Nat.le_of_ble_eq_true rfl) ?_
      have hP9 := hP
      have hD9 := hD
      have hK9 := hK
      refine vx_ret ?_
      exact W.iret (v := 0) hx hb hr (fun t ht hW => ⟨⟨0, (), rfl, ⟨eK.trans hw2, rfl⟩, atC_e eS hC2 (atW_end hP9 hD9 hK9 ht hW)⟩, hS.F ht⟩) hS.2.2 dL_sets_24
  · have eK : kSet a fl x y z = kPO a x y z := if_neg c_1
    have eS : sSet a fl x y z = sPO a x y z := if_neg c_1
    refine lv_aload_n hx hb dL_sets_4 rfl (lv_at hl 0 rfl) ?_
    refine lv_iload_n hx hb dL_sets_5 rfl (lv_at hl 2 rfl) ?_
    refine lv_iload_n hx hb dL_sets_6 rfl (lv_at hl 3 rfl) ?_
    refine lv_iload hx hb dL_sets_7 (lv_at hl 4 rfl) ?_
    have hFc := y_free hD hS hA
    refine vx_callv (vx_runV (As := [.int x, .int y, .int z]) (rest := []) ⟨hx, hb, hml, hown, hts⟩ (c_X4_setPayouts l dC dI cI cF h0 q H.size a jc js jv k hst hC hB x y z) (cwV 3 hts gL_sets_X4_setPayouts rfl rfl rfl (by decide +kernel) ⟨Nat.le_of_ble_eq_true rfl, Nat.le_of_ble_eq_true rfl⟩) ⟨pcV_blind, va_recv hK hP (ci := 4) (q0 := 0) rfl rfl, fun U hU hW => pcV_pre hP hD hK hV hS hFc hU hW⟩ rfl rfl hl.1 rfl (lv_room (Nat.le_of_ble_eq_true rfl)) dL_sets_9 ⟨Nat.le_of_ble_eq_true rfl, Nat.le_of_ble_eq_true rfl⟩) hS (fun q _ h => hFc q h) hFc (fun q _ h => hFc q h) (fun E ce q9 u t H1 locs ht hvm hw hBx hz1 hk1 hS hce hcv hcl => ?_) (fun u t H1 locs ht hvm hw hB1 hz1 hk1 hS => ?_)
    · obtain ⟨hE, qx, jcx, jsx, jvx, kx, hCx, hPx, hKx, hDx⟩ := hBx
      rw [ht] at hPx
      exact vx_out (fun x hx9 => (htab x hx9).elim) hlocks hce hcv hcl (fun t9 ht9 hvm9 => ⟨(), (by rw [eK]; exact hw), ⟨(by rw [eK]; exact hE), atC_in hCx (⟨by rw [ht9]; exact hPx, va_K.moved hvm9 hK, hDx.weaken (fun kk qq _ h => hFc qq.1 h)⟩)⟩, hS.F ht9⟩) hS.2.2 (Nat.le_of_ble_eq_true rfl) (Nat.le_of_ble_eq_true rfl)
    · obtain ⟨q3, jc3, js3, jv3, k3, hC3, hP, hK1, hD1⟩ := hB1
      rw [ht] at hP
      have hD := hD1.weaken (fun kk qq _ h => hFc qq.1 h)
      generalize H1 = H at hP hS ⊢
      have hC3 : okC (sPO a x y z) jc3 js3 jv3 k3 := hC3
      have hP : va_P (dC, dI) vwCl (WC cI cF h0 q3 (sPO a x y z) jc3 js3 jv3 k3 (capOf (nn ((sPO a x y z) 0 4)))) H := hP
      have hD : va_D A (WC cI cF h0 q3 (sPO a x y z) jc3 js3 jv3 k3 (capOf (nn ((sPO a x y z) 0 4)))) := hD
      have hw3 := hw
      refine lv_goto (tgt := 23) hx hb dL_sets_12 (by decide) ?_
      refine lv_iconst (v := 0) hx hb dL_sets_23 (by decide) ?_
      refine W.widen (k := 3) (n := 18) (Nat.le_of_ble_eq_true rfl) (Nat.le_of_ble_eq_true rfl) ?_
      have hP9 := hP
      have hD9 := hD
      have hK9 := hK
      refine vx_ret ?_
      exact W.iret (v := 0) hx hb hr (fun t ht hW => ⟨⟨0, (), rfl, ⟨eK.trans hw3, rfl⟩, atC_e eS hC3 (atW_end hP9 hD9 hK9 ht hW)⟩, hS.F ht⟩) hS.2.2 dL_sets_24
