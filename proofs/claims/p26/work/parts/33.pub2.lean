theorem am_nat {x : Int32} (h : bw x 1 1000000) : x = nI (nn x) ∧ 1 ≤ nn x ∧ nn x ≤ 1000000 := by
  have h0 : (0 : Int32) ≤ x := by
    have h1 := h.1
    rw [Int32.le_iff_toInt_le] at h1 ⊢
    have e1 : (1 : Int32).toInt = 1 := rfl
    have e0 : (0 : Int32).toInt = 0 := rfl
    omega
  obtain ⟨e, hle⟩ := nat_le (b := 1000000) (by decide) h0 h.2
  refine ⟨e, ?_, hle⟩
  have h1 := h.1
  rw [e] at h1
  exact (nI_leI (a := 1) (by decide) (by omega)).mp h1
theorem room_nat {x : Int32} (h : lim x 100) (n : Nat) (hn : n ≤ 1000000) (h2 : x + nI n ≤ 100) : nn x + n ≤ 100 := by
  rw [h.1, nI_add] at h2
  exact (nI_leI (b := 100) (by have := h.2; omega) (by decide)).mp h2
def shB (k : Nat) : Int32 := (shF (nI k)).toInt32
def boE (f : UInt32) (e res : Int32) : Bool := decide (FP.fsub f FP.fconst1 &&& 0x7fffffff ≤ 0x7f800000) && decide (FP.fmul (FP.fsub f FP.fconst1) 1258291200 &&& 0x7fffffff ≤ 0x7f800000) && decide (e <<< ((23 : Int32) &&& 31) + FP.f2i (FP.fmul (FP.fsub f FP.fconst1) 1258291200) = res)
def boL : Nat → UInt32 → Int32 → Int32 → Bool
  | 0, _, _, _ => false
  | n + 1, f, e, res => if 0 ≤ Op.cmpValue (FP.fcmp f FP.fconst1) .g then boE f e res else if e ≤ 1 then boE f e res else decide (FP.fmul f FP.fconst2 &&& 0x7fffffff ≤ 0x7f800000) && boL n (FP.fmul f FP.fconst2) (e + (-1)) res
def boA (k : Nat) : Bool := if 0 < Op.cmpValue (FP.fcmp (shF (nI k)) FP.fconst0) .g then boL 20 (shF (nI k)) 127 (shB k) else decide ((0 : Int32) = shB k)
theorem boA_all : ∀ k, k < 1000 → boA k = true := by decide +kernel
set_option maxHeartbeats 4000000 in
set_option maxRecDepth 100000 in
theorem c_X4_bitsOf (l : Launch) (k : Nat) (hk : k ≤ 999) : Met l yX4_bitsOf wsX4_bitsOf ({ frames := 0, cells := 0, slots := 0, locals := 0 } : Room) (va_Pc [.float (shF (nI k))] (fun _ => True)) (va_Qi (fun (r : Int32) (_ : Unit) => r = shB k) (fun _ _ => True) (fun _ => False)) 0 0 (fun _ => False) := by
  refine Met.ofW (cc := cX4_bitsOf) (maxL := 4) (ret := (some .int)) (by decide) rfl ?_
  intro p e s m args below meth c s₁ B hml hv
  obtain ⟨rfl, -⟩ := hv
  have hx := B.exec
  have hb := B.bytes
  have hr := B.returns
  have hts := atoms_spec (ws := wsX4_bitsOf) B.pre
  have hown : s.vm.findClass RX4 = some m.cls := findClass_of_methodNamed B.named
  have hlocks := B.notSynchronized
  have hS : va_S (fun _ => False) s.heap s.heap [] := va_S.rf
  have hl := lv_entry ([.float (shF (nI k))]) (n := 4) (Nat.le_of_ble_eq_true rfl)
  rw [lg_entry_eq]
  generalize (lg_sl ([.float (shF (nI k))]) ++ List.replicate (4 - (lg_sl ([.float (shF (nI k))])).length) Slot.unset).toArray = ls at hl ⊢
  have hl : lv_has ls 4 [(0, .float (shF (nI k)))] := hl
  have hbo := boA_all k (by omega)
  unfold boA at hbo
  refine lv_fload_n hx hb dX4_bitsOf_0 rfl (lv_at hl 0 rfl) ?_
  refine lv_fconst0 hx hb dX4_bitsOf_1 ?_
  refine lv_fcmp hx hb dX4_bitsOf_2 ?_
  refine lv_if_gt (tgt := 8) hx hb dX4_bitsOf_3 (by decide) (fun c_1 => ?_) (fun c_1 => ?_)
  · rw [if_pos c_1] at hbo
    refine lv_fload_n hx hb dX4_bitsOf_8 rfl (lv_at hl 0 rfl) ?_
    refine lv_fstore_n (lv' := [(1, .float (shF (nI k))), (0, .float (shF (nI k)))]) hx hb dX4_bitsOf_9 rfl hl (by decide) rfl (fun ls hl => ?_)
    refine lv_bipush (v := 127) hx hb dX4_bitsOf_10 (by decide) ?_
    refine lv_istore_n (lv' := [(2, .int 127), (1, .float (shF (nI k))), (0, .float (shF (nI k)))]) hx hb dX4_bitsOf_12 rfl hl (by decide) rfl (fun ls hl => ?_)
    refine y_loop (fun k9 H locs ls => ∃ (f : UInt32) (ee : Int32), boL k9 f ee (shB k) = true ∧ va_S (fun _ => False) s.heap H locs ∧ lv_has ls 4 [(2, .int ee), (1, .float f)]) 20 ⟨shF (nI k), 127, hbo, hS, lv_sub hl [0, 1] rfl⟩ (fun k9 H locs ls hI ih => ?_)
    obtain ⟨f, ee, hf, hS, hl⟩ := hI
    obtain ⟨k8, rfl⟩ : ∃ k8, k9 = k8 + 1 := by cases k9 with | zero => exact absurd hf (by simp [boL]) | succ n => exact ⟨n, rfl⟩
    unfold boL at hf
    refine lv_fload_n hx hb dX4_bitsOf_13 rfl (lv_at hl 1 rfl) ?_
    refine lv_fconst1 hx hb dX4_bitsOf_14 ?_
    refine lv_fcmp hx hb dX4_bitsOf_15 ?_
    refine lv_if_ge (tgt := 34) hx hb dX4_bitsOf_16 (by decide) (fun c_2 => ?_) (fun c_2 => ?_)
    · rw [if_pos c_2] at hf
      unfold boE at hf
      simp only [Bool.and_eq_true, decide_eq_true_eq] at hf
      obtain ⟨⟨hf1, hf2⟩, hf3⟩ := hf
      refine lv_fload_n hx hb dX4_bitsOf_34 rfl (lv_at hl 1 rfl) ?_
      refine lv_fconst1 hx hb dX4_bitsOf_35 ?_
      refine lv_fsub hx hb dX4_bitsOf_36 hf1 ?_
      refine lv_ldcf hx hb hown (hts (.constantFloat RX4 215 (1258291200)) (List.mem_of_getElem? (i := 1) rfl)) dX4_bitsOf_37 ?_
      refine lv_fmul hx hb dX4_bitsOf_39 hf2 ?_
      refine lv_f2i hx hb dX4_bitsOf_40 ?_
      refine lv_istore_n (lv' := [(3, .int (FP.f2i (FP.fmul (FP.fsub f FP.fconst1) 1258291200))), (2, .int ee), (1, .float f)]) hx hb dX4_bitsOf_41 rfl hl (by decide) rfl (fun ls hl => ?_)
      refine lv_iload_n hx hb dX4_bitsOf_42 rfl (lv_at hl 1 rfl) ?_
      refine lv_bipush (v := 23) hx hb dX4_bitsOf_43 (by decide) ?_
      refine lv_ishl hx hb dX4_bitsOf_45 ?_
      refine lv_iload_n hx hb dX4_bitsOf_46 rfl (lv_at hl 0 rfl) ?_
      refine lv_iadd hx hb dX4_bitsOf_47 ?_
      exact W.iret (v := (ee <<< (23 &&& 31)) + (FP.f2i (FP.fmul (FP.fsub f FP.fconst1) 1258291200))) hx hb hr (fun t ht hW => ⟨⟨(ee <<< (23 &&& 31)) + (FP.f2i (FP.fmul (FP.fsub f FP.fconst1) 1258291200)), (), rfl, hf3, trivial⟩, hS.F ht⟩) hS.2.2 dX4_bitsOf_48
    · rw [if_neg c_2] at hf
      refine lv_iload_n hx hb dX4_bitsOf_19 rfl (lv_at hl 0 rfl) ?_
      refine lv_iconst (v := 1) hx hb dX4_bitsOf_20 (by decide) ?_
      refine lv_icmp_le (tgt := 34) hx hb dX4_bitsOf_21 (by decide) (fun c_3 => ?_) (fun c_3 => ?_)
      · rw [if_pos c_3] at hf
        unfold boE at hf
        simp only [Bool.and_eq_true, decide_eq_true_eq] at hf
        obtain ⟨⟨hf1, hf2⟩, hf3⟩ := hf
        refine lv_fload_n hx hb dX4_bitsOf_34 rfl (lv_at hl 1 rfl) ?_
        refine lv_fconst1 hx hb dX4_bitsOf_35 ?_
        refine lv_fsub hx hb dX4_bitsOf_36 hf1 ?_
        refine lv_ldcf hx hb hown (hts (.constantFloat RX4 215 (1258291200)) (List.mem_of_getElem? (i := 1) rfl)) dX4_bitsOf_37 ?_
        refine lv_fmul hx hb dX4_bitsOf_39 hf2 ?_
        refine lv_f2i hx hb dX4_bitsOf_40 ?_
        refine lv_istore_n (lv' := [(3, .int (FP.f2i (FP.fmul (FP.fsub f FP.fconst1) 1258291200))), (2, .int ee), (1, .float f)]) hx hb dX4_bitsOf_41 rfl hl (by decide) rfl (fun ls hl => ?_)
        refine lv_iload_n hx hb dX4_bitsOf_42 rfl (lv_at hl 1 rfl) ?_
        refine lv_bipush (v := 23) hx hb dX4_bitsOf_43 (by decide) ?_
        refine lv_ishl hx hb dX4_bitsOf_45 ?_
        refine lv_iload_n hx hb dX4_bitsOf_46 rfl (lv_at hl 0 rfl) ?_
        refine lv_iadd hx hb dX4_bitsOf_47 ?_
        exact W.iret (v := (ee <<< (23 &&& 31)) + (FP.f2i (FP.fmul (FP.fsub f FP.fconst1) 1258291200))) hx hb hr (fun t ht hW => ⟨⟨(ee <<< (23 &&& 31)) + (FP.f2i (FP.fmul (FP.fsub f FP.fconst1) 1258291200)), (), rfl, hf3, trivial⟩, hS.F ht⟩) hS.2.2 dX4_bitsOf_48
      · rw [if_neg c_3] at hf
        simp only [Bool.and_eq_true, decide_eq_true_eq] at hf
        refine lv_fload_n hx hb dX4_bitsOf_24 rfl (lv_at hl 1 rfl) ?_
        refine lv_fconst2 hx hb dX4_bitsOf_25 ?_
        refine lv_fmul hx hb dX4_bitsOf_26 hf.1 ?_
        refine lv_fstore_n (lv' := [(1, .float (FP.fmul f FP.fconst2)), (2, .int ee)]) hx hb dX4_bitsOf_27 rfl hl (by decide) rfl (fun ls hl => ?_)
        refine lv_iinc (v := ee + (-1)) (lv' := [(2, .int (ee + (-1))), (1, .float (FP.fmul f FP.fconst2))]) hx hb dX4_bitsOf_28 hl (k := 1) rfl rfl (by decide) rfl (fun ls hl => ?_)
        refine lv_goto (tgt := 13) hx hb dX4_bitsOf_31 (by decide) ?_
        exact ih k8 H locs ls (by omega) ⟨_, _, hf.2, hS, lv_sub hl [0, 1] rfl⟩
  · rw [if_neg c_1] at hbo
    refine lv_iconst (v := 0) hx hb dX4_bitsOf_6 (by decide) ?_
    exact W.iret (v := 0) hx hb hr (fun t ht hW => ⟨⟨0, (), rfl, (of_decide_eq_true hbo), trivial⟩, hS.F ht⟩) hS.2.2 dX4_bitsOf_7
def kShr (kd th : Int32) : Nat := if bw kd 0 3 then if bw th 0 999 then 0 else 2 else 1
def sShr (a : yA) (kd th : Int32) : yA := put a 9 (nn kd) th
def kSell (a : yA) (x kd am : Int32) : Nat := if selOK a x ∧ bw kd 0 3 then if bw am 1 1000000 then if a 0 3 + 1 ≤ 100 then 0 else 3 else 2 else 1
def sSell (a : yA) (x kd am : Int32) : yA := sSettle a (nn x) (nn kd) am
def kPass (a : yA) (d : Int32) : Nat := if bw d 1 100 then if a 0 1 + d ≤ 5000 then 0 else 2 else 1
set_option maxHeartbeats 4000000 in
set_option maxRecDepth 100000 in
theorem c_X4_setShare (l : Launch) (dC : Nat → ClassId) (dI : Nat → Nat → Nat) (cI cF : ClassId) (h0 : Nat) (q : Nat → Nat) (sz : Nat) (a : yA) (jc js jv : Nat → Int32) (k : Nat) (hst : l.stackTraces = false)  (hC : okC a jc js jv k) (hB : okB a) (kd th : Int32) : vx_Met l yX4_setShare wsX4_setShare ({ frames := 7, cells := 2, slots := 12, locals := 112 } : Room) (va_Pc [.ref h0, .int kd, .int th] (pcV dC dI [(cI, .int), (cF, .float)] (WC cI cF h0 q a jc js jv k (capOf (nn (a 0 4)))) sz)) (va_Qi (fun (r : Int32) (_ : Unit) => kShr kd th = 0 ∧ r = shB (nn th)) (fun _ t => atC dC dI cI cF (va_A (WC cI cF h0 q a jc js jv k (capOf (nn (a 0 4)))) sz) h0 (sShr a kd th) t) (va_A (WC cI cF h0 q a jc js jv k (capOf (nn (a 0 4)))) sz)) (vx_X (fun _ : Unit => kShr kd th ≠ 0) (fun E _ t => E = eIA (kShr kd th) ∧ atC dC dI cI cF (va_A (WC cI cF h0 q a jc js jv k (capOf (nn (a 0 4)))) sz) h0 a t) (va_A (WC cI cF h0 q a jc js jv k (capOf (nn (a 0 4)))) sz)) (2) (12) (va_A (WC cI cF h0 q a jc js jv k (capOf (nn (a 0 4)))) sz) := by
  refine vx_ofW (cc := cX4_setShare) (maxL := 4) (ret := (some .int)) (by decide) rfl ?_
  intro p e s m args below meth c s₁ B hml htab hv
  obtain ⟨rfl, ⟨hsz, hP, hK, hD0⟩, hV⟩ := hv
  have hx := B.exec
  have hb := B.bytes
  have hr := B.returns
  have hts := atoms_spec (ws := wsX4_setShare) B.pre
  have hown : s.vm.findClass RX4 = some m.cls := findClass_of_methodNamed B.named
  have hlocks := B.notSynchronized
  subst hsz
  have hD := hD0.self (sz := s.heap.size)
  generalize hAe : va_A [(h0, .inr (4, [.ref (q 1), .ref (q 10), .ref (q 18), .ref (q 22), .ref (q 26), .int (a 0 2), .int (a 0 1), .int (a 0 5), .int (a 0 6), .int (a 0 7), .int (a 0 8)])), (q 1, .inr (3, [.ref (q 2), .ref (q 3), .ref (q 4), .ref (q 5), .ref (q 6), .ref (q 7), .ref (q 8), .ref (q 9), .int (a 0 0)])), (q 2, .inl (cI, 8, .inl (a 1))), (q 3, .inl (cI, 8, .inl (a 2))), (q 4, .inl (cI, 8, .inl (a 3))), (q 5, .inl (cI, 8, .inl (a 4))), (q 6, .inl (cI, 8, .inl (a 5))), (q 7, .inl (cI, 8, .inl (a 6))), (q 8, .inl (cI, 8, .inl (a 7))), (q 9, .inl (cI, 8, .inl (a 8))), (q 10, .inr (2, [.ref (q 11), .ref (q 12), .ref (q 13), .ref (q 14), .ref (q 15), .ref (q 16), .ref (q 17), .int (a 0 3)])), (q 11, .inl (cI, 100, .inl (a 10))), (q 12, .inl (cF, 100, .inr (.inr (.inl (fun j => shF (a 13 j)))))), (q 13, .inl (cI, 100, .inl (a 14))), (q 14, .inl (cI, 100, .inl (fun j => a 11 j - a 12 j))), (q 15, .inl (cI, 100, .inl (fun j => a 15 j - a 16 j))), (q 16, .inl (cI, 100, .inl (a 17))), (q 17, .inl (cI, 100, .inl (a 18))), (q 18, .inr (1, [.ref (q 19), .ref (q 20), .ref (q 21), .int (a 0 4)])), (q 19, .inl (cI, capOf (nn (a 0 4)), .inl (a 20))), (q 20, .inl (cI, capOf (nn (a 0 4)), .inl (a 19))), (q 21, .inl (cI, capOf (nn (a 0 4)), .inl (a 21))), (q 22, .inr (0, [.ref (q 23), .ref (q 24), .ref (q 25), .int (nI k)])), (q 23, .inl (cI, 8, .inl (jc))), (q 24, .inl (cI, 256, .inl (js))), (q 25, .inl (cI, 256, .inl (jv))), (q 26, .inl (cF, 4, .inr (.inr (.inl (fun j => shF (a 9 j))))))] s.heap.size = A at hD hV ⊢
  have hA : ∀ q : Nat, s.heap.size ≤ q → A q := fun q h => by rw [← hAe]; exact Or.inr h
  have hS : va_S A s.heap s.heap [] := va_S.rf
  have hl := lv_entry ([.ref h0, .int kd, .int th]) (n := 4) (Nat.le_of_ble_eq_true rfl)
  rw [lg_entry_eq]
  generalize (lg_sl ([.ref h0, .int kd, .int th]) ++ List.replicate (4 - (lg_sl ([.ref h0, .int kd, .int th])).length) Slot.unset).toArray = ls at hl ⊢
  have hl : lv_has ls 4 [(0, .ref h0), (1, .int kd), (2, .int th)] := hl
  have hiX4 : ∀ w ∈ wsX40, w ∈ wsX4_setShare := fun w h => List.mem_cons_of_mem _ (List.mem_append_left _ (List.mem_append_left _ (List.mem_append_right _ h)))
  have hP : va_P (dC, dI) vwCl [(h0, .inr (4, [.ref (q 1), .ref (q 10), .ref (q 18), .ref (q 22), .ref (q 26), .int (a 0 2), .int (a 0 1), .int (a 0 5), .int (a 0 6), .int (a 0 7), .int (a 0 8)])), (q 1, .inr (3, [.ref (q 2), .ref (q 3), .ref (q 4), .ref (q 5), .ref (q 6), .ref (q 7), .ref (q 8), .ref (q 9), .int (a 0 0)])), (q 2, .inl (cI, 8, .inl (a 1))), (q 3, .inl (cI, 8, .inl (a 2))), (q 4, .inl (cI, 8, .inl (a 3))), (q 5, .inl (cI, 8, .inl (a 4))), (q 6, .inl (cI, 8, .inl (a 5))), (q 7, .inl (cI, 8, .inl (a 6))), (q 8, .inl (cI, 8, .inl (a 7))), (q 9, .inl (cI, 8, .inl (a 8))), (q 10, .inr (2, [.ref (q 11), .ref (q 12), .ref (q 13), .ref (q 14), .ref (q 15), .ref (q 16), .ref (q 17), .int (a 0 3)])), (q 11, .inl (cI, 100, .inl (a 10))), (q 12, .inl (cF, 100, .inr (.inr (.inl (fun j => shF (a 13 j)))))), (q 13, .inl (cI, 100, .inl (a 14))), (q 14, .inl (cI, 100, .inl (fun j => a 11 j - a 12 j))), (q 15, .inl (cI, 100, .inl (fun j => a 15 j - a 16 j))), (q 16, .inl (cI, 100, .inl (a 17))), (q 17, .inl (cI, 100, .inl (a 18))), (q 18, .inr (1, [.ref (q 19), .ref (q 20), .ref (q 21), .int (a 0 4)])), (q 19, .inl (cI, capOf (nn (a 0 4)), .inl (a 20))), (q 20, .inl (cI, capOf (nn (a 0 4)), .inl (a 19))), (q 21, .inl (cI, capOf (nn (a 0 4)), .inl (a 21))), (q 22, .inr (0, [.ref (q 23), .ref (q 24), .ref (q 25), .int (nI k)])), (q 23, .inl (cI, 8, .inl (jc))), (q 24, .inl (cI, 256, .inl (js))), (q 25, .inl (cI, 256, .inl (jv))), (q 26, .inl (cF, 4, .inr (.inr (.inl (fun j => shF (a 9 j))))))] s.heap := hP
  refine y_enter (A := A) hP (fun H hP hS => ?_)
  have hBk := hB
  refine lv_iload_n hx hb dX4_setShare_0 rfl (lv_at hl 1 rfl) ?_
  have e1 : ¬ bw kd 0 3 → kShr kd th = 1 := fun h9 => if_neg h9
  have hFc := y_freeE hS hA
  have hK0 := hK.sub (tys' := []) [] rfl
  refine vx_callv (vx_runS (As := [.int kd]) (rest := []) ⟨hx, hb, hml, hown, hts⟩ (c_X4_requireKind l dC dI H.size hst kd) (va_cwS 1 hts gX4_setShare_X4_requireKind rfl rfl rfl (by decide +kernel) ⟨Nat.le_of_ble_eq_true rfl, Nat.le_of_ble_eq_true rfl⟩) ⟨pcV_blind, fun U hU hW => pcV_pre va_P_nil (va_D_nil (A := A)) hK0 hV hS hFc hU hW⟩ rfl rfl hl.1 rfl (lv_room (Nat.le_of_ble_eq_true rfl)) dX4_setShare_1 ⟨Nat.le_of_ble_eq_true rfl, Nat.le_of_ble_eq_true rfl⟩) hS (fun q _ h => hFc q h) hFc (fun q _ h => hFc q h) (fun E ce q9 u t H1 locs ht hvm hw hBx hz1 hk1 hS hce hcv hcl => ?_) (fun u t H1 locs ht hvm hw hB1 hz1 hk1 hS => ?_)
  · have hE := hBx.1
    have hPx := y_keptE hP hk1
    exact vx_out (fun x hx9 => (htab x hx9).elim) hlocks hce hcv hcl (fun t9 ht9 hvm9 => ⟨(), (by rw [e1 hw]; decide), ⟨(by rw [e1 hw]; exact hE), atC_in hC (⟨by rw [ht9]; exact hPx, va_K.moved hvm9 hK, hD⟩)⟩, hS.F ht9⟩) hS.2.2 (Nat.le_of_ble_eq_true rfl) (Nat.le_of_ble_eq_true rfl)
  · have hP := y_keptE hP hk1
    generalize H1 = H at hP hS ⊢
    have hw1 := hw
    have hwk := hw1
    refine lv_iload_n hx hb dX4_setShare_4 rfl (lv_at hl 2 rfl) ?_
    refine lv_iconst (v := 0) hx hb dX4_setShare_5 (by decide) ?_
    refine lv_sipush (v := 999) hx hb dX4_setShare_6 (by decide) ?_
    have e2 : ¬ bw th 0 999 → kShr kd th = 2 := fun h9 => by unfold kShr; rw [if_pos hwk, if_neg h9]
    have hFc := y_freeE hS hA
    have hK0 := hK.sub (tys' := []) [] rfl
    refine vx_callv (vx_runS (As := [.int th, .int 0, .int 999]) (rest := []) ⟨hx, hb, hml, hown, hts⟩ (c_X4_requireBetween l dC dI H.size hst th 0 999) (va_cwS 3 hts gX4_setShare_X4_requireBetween rfl rfl rfl (by decide +kernel) ⟨Nat.le_of_ble_eq_true rfl, Nat.le_of_ble_eq_true rfl⟩) ⟨pcV_blind, fun U hU hW => pcV_pre va_P_nil (va_D_nil (A := A)) hK0 hV hS hFc hU hW⟩ rfl rfl hl.1 rfl (lv_room (Nat.le_of_ble_eq_true rfl)) dX4_setShare_9 ⟨Nat.le_of_ble_eq_true rfl, Nat.le_of_ble_eq_true rfl⟩) hS (fun q _ h => hFc q h) hFc (fun q _ h => hFc q h) (fun E ce q9 u t H1 locs ht hvm hw hBx hz1 hk1 hS hce hcv hcl => ?_) (fun u t H1 locs ht hvm hw hB1 hz1 hk1 hS => ?_)
    · have hE := hBx.1
      have hPx := y_keptE hP hk1
      exact vx_out (fun x hx9 => (htab x hx9).elim) hlocks hce hcv hcl (fun t9 ht9 hvm9 => ⟨(), (by rw [e2 hw]; decide), ⟨(by rw [e2 hw]; exact hE), atC_in hC (⟨by rw [ht9]; exact hPx, va_K.moved hvm9 hK, hD⟩)⟩, hS.F ht9⟩) hS.2.2 (Nat.le_of_ble_eq_true rfl) (Nat.le_of_ble_eq_true rfl)
    · have hP := y_keptE hP hk1
      generalize H1 = H at hP hS ⊢
      have hw2 := hw
      have e0 : kShr kd th = 0 := by unfold kShr; rw [if_pos hwk, if_pos hw2]
      have hkd1 := nat_le (b := 3) (by decide) hwk.1 hwk.2
      have ht1 := nat_le (b := 999) (by decide) hw2.1 hw2.2
      refine lv_iload_n hx hb dX4_setShare_12 rfl (lv_at hl 2 rfl) ?_
      refine y_topi (y := nI (nn th)) ht1.1 ?_
      refine va_callf (va_runS (As := [.int (nI (nn th))]) (rest := []) ⟨hx, hb, hml, hown, hts⟩ (c_X4_shareOf l (nn th) ht1.2) (va_cwS 1 hts gX4_setShare_X4_shareOf rfl rfl rfl (by decide +kernel) ⟨Nat.le_of_ble_eq_true rfl, Nat.le_of_ble_eq_true rfl⟩) ⟨pcT_blind, fun U hU hW => pcT_pre⟩ rfl rfl hl.1 rfl (lv_room (Nat.le_of_ble_eq_true rfl)) dX4_setShare_13 ⟨Nat.le_of_ble_eq_true rfl, Nat.le_of_ble_eq_true rfl⟩) hS (fun q _ h => h.elim) (fun q h => h.elim) (fun r u t H1 locs ht hvm hw hB1 hz1 hk1 hS => ?_)
      have hP := y_keptP hP hk1
      generalize H1 = H at hP hS ⊢
      refine y_topf (y := shF (nI (nn th))) hw ?_
      refine lv_fstore_n (lv' := [(3, .float (shF (nI (nn th)))), (0, .ref h0), (1, .int kd), (2, .int th)]) hx hb dX4_setShare_16 rfl hl (by decide) rfl (fun ls hl => ?_)
      refine lv_aload_n hx hb dX4_setShare_17 rfl (lv_at hl 1 rfl) ?_
      refine va_get (D := (dC, dI)) (ci := 4) (v := .ref (q 26)) (C := RX4) (T := TX4) (N := 11) hx hb hts hiX4 hown hK hP 0 rfl rfl 4 (by decide) (hts (.fieldLink RX4 37 "Payoutnet" "shares" "[F") (List.mem_of_getElem? (i := 1) rfl)) (fun _ h9 => h9) rfl dX4_setShare_18 ?_
      refine lv_iload_n hx hb dX4_setShare_21 rfl (lv_at hl 2 rfl) ?_
      refine y_topi (y := nI (nn kd)) hkd1.1 ?_
      refine lv_fload_n hx hb dX4_setShare_22 rfl (lv_at hl 0 rfl) ?_
      refine y_fst hx hb hK hP hD hS 26 1 rfl rfl (t := nn kd) (Nat.lt_succ_of_le hkd1.2) (Nat.le_of_ble_eq_true rfl) dX4_setShare_23 (fun H locs hP hD hS => ?_)
      have hP : va_P (dC, dI) vwCl [(h0, .inr (4, [.ref (q 1), .ref (q 10), .ref (q 18), .ref (q 22), .ref (q 26), .int (a 0 2), .int (a 0 1), .int (a 0 5), .int (a 0 6), .int (a 0 7), .int (a 0 8)])), (q 1, .inr (3, [.ref (q 2), .ref (q 3), .ref (q 4), .ref (q 5), .ref (q 6), .ref (q 7), .ref (q 8), .ref (q 9), .int (a 0 0)])), (q 2, .inl (cI, 8, .inl (a 1))), (q 3, .inl (cI, 8, .inl (a 2))), (q 4, .inl (cI, 8, .inl (a 3))), (q 5, .inl (cI, 8, .inl (a 4))), (q 6, .inl (cI, 8, .inl (a 5))), (q 7, .inl (cI, 8, .inl (a 6))), (q 8, .inl (cI, 8, .inl (a 7))), (q 9, .inl (cI, 8, .inl (a 8))), (q 10, .inr (2, [.ref (q 11), .ref (q 12), .ref (q 13), .ref (q 14), .ref (q 15), .ref (q 16), .ref (q 17), .int (a 0 3)])), (q 11, .inl (cI, 100, .inl (a 10))), (q 12, .inl (cF, 100, .inr (.inr (.inl (fun j => shF (a 13 j)))))), (q 13, .inl (cI, 100, .inl (a 14))), (q 14, .inl (cI, 100, .inl (fun j => a 11 j - a 12 j))), (q 15, .inl (cI, 100, .inl (fun j => a 15 j - a 16 j))), (q 16, .inl (cI, 100, .inl (a 17))), (q 17, .inl (cI, 100, .inl (a 18))), (q 18, .inr (1, [.ref (q 19), .ref (q 20), .ref (q 21), .int (a 0 4)])), (q 19, .inl (cI, capOf (nn (a 0 4)), .inl (a 20))), (q 20, .inl (cI, capOf (nn (a 0 4)), .inl (a 19))), (q 21, .inl (cI, capOf (nn (a 0 4)), .inl (a 21))), (q 22, .inr (0, [.ref (q 23), .ref (q 24), .ref (q 25), .int (nI k)])), (q 23, .inl (cI, 8, .inl (jc))), (q 24, .inl (cI, 256, .inl (js))), (q 25, .inl (cI, 256, .inl (jv))), (q 26, .inl (cF, 4, .inr (.inr (.inl (vf_upd (fun j => shF (a 9 j)) (nn kd) (shF (nI (nn th))))))))] H := hP
      have hD : va_D A [(h0, .inr (4, [.ref (q 1), .ref (q 10), .ref (q 18), .ref (q 22), .ref (q 26), .int (a 0 2), .int (a 0 1), .int (a 0 5), .int (a 0 6), .int (a 0 7), .int (a 0 8)])), (q 1, .inr (3, [.ref (q 2), .ref (q 3), .ref (q 4), .ref (q 5), .ref (q 6), .ref (q 7), .ref (q 8), .ref (q 9), .int (a 0 0)])), (q 2, .inl (cI, 8, .inl (a 1))), (q 3, .inl (cI, 8, .inl (a 2))), (q 4, .inl (cI, 8, .inl (a 3))), (q 5, .inl (cI, 8, .inl (a 4))), (q 6, .inl (cI, 8, .inl (a 5))), (q 7, .inl (cI, 8, .inl (a 6))), (q 8, .inl (cI, 8, .inl (a 7))), (q 9, .inl (cI, 8, .inl (a 8))), (q 10, .inr (2, [.ref (q 11), .ref (q 12), .ref (q 13), .ref (q 14), .ref (q 15), .ref (q 16), .ref (q 17), .int (a 0 3)])), (q 11, .inl (cI, 100, .inl (a 10))), (q 12, .inl (cF, 100, .inr (.inr (.inl (fun j => shF (a 13 j)))))), (q 13, .inl (cI, 100, .inl (a 14))), (q 14, .inl (cI, 100, .inl (fun j => a 11 j - a 12 j))), (q 15, .inl (cI, 100, .inl (fun j => a 15 j - a 16 j))), (q 16, .inl (cI, 100, .inl (a 17))), (q 17, .inl (cI, 100, .inl (a 18))), (q 18, .inr (1, [.ref (q 19), .ref (q 20), .ref (q 21), .int (a 0 4)])), (q 19, .inl (cI, capOf (nn (a 0 4)), .inl (a 20))), (q 20, .inl (cI, capOf (nn (a 0 4)), .inl (a 19))), (q 21, .inl (cI, capOf (nn (a 0 4)), .inl (a 21))), (q 22, .inr (0, [.ref (q 23), .ref (q 24), .ref (q 25), .int (nI k)])), (q 23, .inl (cI, 8, .inl (jc))), (q 24, .inl (cI, 256, .inl (js))), (q 25, .inl (cI, 256, .inl (jv))), (q 26, .inl (cF, 4, .inr (.inr (.inl (vf_upd (fun j => shF (a 9 j)) (nn kd) (shF (nI (nn th))))))))] := hD
      rw [show shF (nI (nn th)) = shF th by rw [← ht1.1], shF_upd] at hP hD
      refine lv_fload_n hx hb dX4_setShare_24 rfl (lv_at hl 0 rfl) ?_
      refine va_calli (va_runS (As := [.float (shF (nI (nn th)))]) (rest := []) ⟨hx, hb, hml, hown, hts⟩ (c_X4_bitsOf l (nn th) ht1.2) (va_cwS 1 hts gX4_setShare_X4_bitsOf rfl rfl rfl (by decide +kernel) ⟨Nat.le_of_ble_eq_true rfl, Nat.le_of_ble_eq_true rfl⟩) ⟨pcT_blind, fun U hU hW => pcT_pre⟩ rfl rfl hl.1 rfl (lv_room (Nat.le_of_ble_eq_true rfl)) dX4_setShare_25 ⟨Nat.le_of_ble_eq_true rfl, Nat.le_of_ble_eq_true rfl⟩) hS (fun q _ h => h.elim) (fun q h => h.elim) (fun r u t H1 locs ht hvm hw hB1 hz1 hk1 hS => ?_)
      have hP := y_keptP hP hk1
      generalize H1 = H at hP hS ⊢
      refine y_topi (y := shB (nn th)) hw ?_
      have hP : va_P (dC, dI) vwCl (WC cI cF h0 q (sShr a kd th) jc js jv k (capOf (nn ((sShr a kd th) 0 4)))) H := hP
      have hD : va_D A (WC cI cF h0 q (sShr a kd th) jc js jv k (capOf (nn ((sShr a kd th) 0 4)))) := hD
      have hC9 : okC (sShr a kd th) jc js jv k := hC
      refine W.widen (k := 2) (n := 12) (Nat.le_of_ble_eq_true rfl) (Nat.le_of_ble_eq_true rfl) ?_
      have hP9 := hP
      have hD9 := hD
      have hK9 := hK
      refine vx_ret ?_
      exact W.iret (v := shB (nn th)) hx hb hr (fun t ht hW => ⟨⟨shB (nn th), (), rfl, ⟨e0, rfl⟩, atC_in hC9 (atW_end hP9 hD9 hK9 ht hW)⟩, hS.F ht⟩) hS.2.2 dX4_setShare_28
set_option maxHeartbeats 4000000 in
set_option maxRecDepth 100000 in
theorem c_X4_sell (l : Launch) (dC : Nat → ClassId) (dI : Nat → Nat → Nat) (cI cF : ClassId) (h0 : Nat) (q : Nat → Nat) (sz : Nat) (a : yA) (jc js jv : Nat → Int32) (k : Nat) (hst : l.stackTraces = false)  (hC : okC a jc js jv k) (hB : okB a) (hY : okY a) (x kd am : Int32) : vx_Met l yX4_sell wsX4_sell ({ frames := 7, cells := 4, slots := 24, locals := 112 } : Room) (va_Pc [.ref h0, .int x, .int kd, .int am] (pcV dC dI [(cI, .int), (cF, .float)] (WC cI cF h0 q a jc js jv k (capOf (nn (a 0 4)))) sz)) (va_Qi (fun (r : Int32) (_ : Unit) => kSell a x kd am = 0 ∧ r = a 0 3) (fun _ t => atC dC dI cI cF (va_A (WC cI cF h0 q a jc js jv k (capOf (nn (a 0 4)))) sz) h0 (sSell a x kd am) t) (va_A (WC cI cF h0 q a jc js jv k (capOf (nn (a 0 4)))) sz)) (vx_X (fun _ : Unit => kSell a x kd am ≠ 0) (fun E _ t => E = eIAS (kSell a x kd am) ∧ atC dC dI cI cF (va_A (WC cI cF h0 q a jc js jv k (capOf (nn (a 0 4)))) sz) h0 a t) (va_A (WC cI cF h0 q a jc js jv k (capOf (nn (a 0 4)))) sz)) (4) (24) (va_A (WC cI cF h0 q a jc js jv k (capOf (nn (a 0 4)))) sz) := by
  refine vx_ofW (cc := cX4_sell) (maxL := 4) (ret := (some .int)) (by decide) rfl ?_
  intro p e s m args below meth c s₁ B hml htab hv
  obtain ⟨rfl, ⟨hsz, hP, hK, hD0⟩, hV⟩ := hv
  have hx := B.exec
  have hb := B.bytes
  have hr := B.returns
  have hts := atoms_spec (ws := wsX4_sell) B.pre
  have hown : s.vm.findClass RX4 = some m.cls := findClass_of_methodNamed B.named
  have hlocks := B.notSynchronized
  subst hsz
  have hD := hD0.self (sz := s.heap.size)
  generalize hAe : va_A [(h0, .inr (4, [.ref (q 1), .ref (q 10), .ref (q 18), .ref (q 22), .ref (q 26), .int (a 0 2), .int (a 0 1), .int (a 0 5), .int (a 0 6), .int (a 0 7), .int (a 0 8)])), (q 1, .inr (3, [.ref (q 2), .ref (q 3), .ref (q 4), .ref (q 5), .ref (q 6), .ref (q 7), .ref (q 8), .ref (q 9), .int (a 0 0)])), (q 2, .inl (cI, 8, .inl (a 1))), (q 3, .inl (cI, 8, .inl (a 2))), (q 4, .inl (cI, 8, .inl (a 3))), (q 5, .inl (cI, 8, .inl (a 4))), (q 6, .inl (cI, 8, .inl (a 5))), (q 7, .inl (cI, 8, .inl (a 6))), (q 8, .inl (cI, 8, .inl (a 7))), (q 9, .inl (cI, 8, .inl (a 8))), (q 10, .inr (2, [.ref (q 11), .ref (q 12), .ref (q 13), .ref (q 14), .ref (q 15), .ref (q 16), .ref (q 17), .int (a 0 3)])), (q 11, .inl (cI, 100, .inl (a 10))), (q 12, .inl (cF, 100, .inr (.inr (.inl (fun j => shF (a 13 j)))))), (q 13, .inl (cI, 100, .inl (a 14))), (q 14, .inl (cI, 100, .inl (fun j => a 11 j - a 12 j))), (q 15, .inl (cI, 100, .inl (fun j => a 15 j - a 16 j))), (q 16, .inl (cI, 100, .inl (a 17))), (q 17, .inl (cI, 100, .inl (a 18))), (q 18, .inr (1, [.ref (q 19), .ref (q 20), .ref (q 21), .int (a 0 4)])), (q 19, .inl (cI, capOf (nn (a 0 4)), .inl (a 20))), (q 20, .inl (cI, capOf (nn (a 0 4)), .inl (a 19))), (q 21, .inl (cI, capOf (nn (a 0 4)), .inl (a 21))), (q 22, .inr (0, [.ref (q 23), .ref (q 24), .ref (q 25), .int (nI k)])), (q 23, .inl (cI, 8, .inl (jc))), (q 24, .inl (cI, 256, .inl (js))), (q 25, .inl (cI, 256, .inl (jv))), (q 26, .inl (cF, 4, .inr (.inr (.inl (fun j => shF (a 9 j))))))] s.heap.size = A at hD hV ⊢
  have hA : ∀ q : Nat, s.heap.size ≤ q → A q := fun q h => by rw [← hAe]; exact Or.inr h
  have hS : va_S A s.heap s.heap [] := va_S.rf
  have hl := lv_entry ([.ref h0, .int x, .int kd, .int am]) (n := 4) (Nat.le_of_ble_eq_true rfl)
  rw [lg_entry_eq]
  generalize (lg_sl ([.ref h0, .int x, .int kd, .int am]) ++ List.replicate (4 - (lg_sl ([.ref h0, .int x, .int kd, .int am])).length) Slot.unset).toArray = ls at hl ⊢
  have hl : lv_has ls 4 [(0, .ref h0), (1, .int x), (2, .int kd), (3, .int am)] := hl
  have hiX4 : ∀ w ∈ wsX40, w ∈ wsX4_sell := fun w h => List.mem_cons_of_mem _ (List.mem_append_left _ (List.mem_append_left _ (List.mem_append_left _ (List.mem_append_left _ (List.mem_append_left _ (List.mem_append_left _ (List.mem_append_right _ h)))))))
  have hP : va_P (dC, dI) vwCl [(h0, .inr (4, [.ref (q 1), .ref (q 10), .ref (q 18), .ref (q 22), .ref (q 26), .int (a 0 2), .int (a 0 1), .int (a 0 5), .int (a 0 6), .int (a 0 7), .int (a 0 8)])), (q 1, .inr (3, [.ref (q 2), .ref (q 3), .ref (q 4), .ref (q 5), .ref (q 6), .ref (q 7), .ref (q 8), .ref (q 9), .int (a 0 0)])), (q 2, .inl (cI, 8, .inl (a 1))), (q 3, .inl (cI, 8, .inl (a 2))), (q 4, .inl (cI, 8, .inl (a 3))), (q 5, .inl (cI, 8, .inl (a 4))), (q 6, .inl (cI, 8, .inl (a 5))), (q 7, .inl (cI, 8, .inl (a 6))), (q 8, .inl (cI, 8, .inl (a 7))), (q 9, .inl (cI, 8, .inl (a 8))), (q 10, .inr (2, [.ref (q 11), .ref (q 12), .ref (q 13), .ref (q 14), .ref (q 15), .ref (q 16), .ref (q 17), .int (a 0 3)])), (q 11, .inl (cI, 100, .inl (a 10))), (q 12, .inl (cF, 100, .inr (.inr (.inl (fun j => shF (a 13 j)))))), (q 13, .inl (cI, 100, .inl (a 14))), (q 14, .inl (cI, 100, .inl (fun j => a 11 j - a 12 j))), (q 15, .inl (cI, 100, .inl (fun j => a 15 j - a 16 j))), (q 16, .inl (cI, 100, .inl (a 17))), (q 17, .inl (cI, 100, .inl (a 18))), (q 18, .inr (1, [.ref (q 19), .ref (q 20), .ref (q 21), .int (a 0 4)])), (q 19, .inl (cI, capOf (nn (a 0 4)), .inl (a 20))), (q 20, .inl (cI, capOf (nn (a 0 4)), .inl (a 19))), (q 21, .inl (cI, capOf (nn (a 0 4)), .inl (a 21))), (q 22, .inr (0, [.ref (q 23), .ref (q 24), .ref (q 25), .int (nI k)])), (q 23, .inl (cI, 8, .inl (jc))), (q 24, .inl (cI, 256, .inl (js))), (q 25, .inl (cI, 256, .inl (jv))), (q 26, .inl (cF, 4, .inr (.inr (.inl (fun j => shF (a 9 j))))))] s.heap := hP
  refine y_enter (A := A) hP (fun H hP hS => ?_)
  have hBk := hB
  refine lv_aload_n hx hb dX4_sell_0 rfl (lv_at hl 0 rfl) ?_
  refine lv_iload_n hx hb dX4_sell_1 rfl (lv_at hl 1 rfl) ?_
  have e1 : ¬ selOK a x → kSell a x kd am = 1 := fun h9 => if_neg (fun h8 => h9 h8.1)
  have hFc := y_free hD hS hA
  refine vx_callv (vx_runV (As := [.int x]) (rest := []) ⟨hx, hb, hml, hown, hts⟩ (c_X4_requireSeller l dC dI cI cF h0 q H.size a jc js jv k hst hC hB x) (cwV 1 hts gX4_sell_X4_requireSeller rfl rfl rfl (by decide +kernel) ⟨Nat.le_of_ble_eq_true rfl, Nat.le_of_ble_eq_true rfl⟩) ⟨pcV_blind, va_recv hK hP (ci := 4) (q0 := 0) rfl rfl, fun U hU hW => pcV_pre hP hD hK hV hS hFc hU hW⟩ rfl rfl hl.1 rfl (lv_room (Nat.le_of_ble_eq_true rfl)) dX4_sell_2 ⟨Nat.le_of_ble_eq_true rfl, Nat.le_of_ble_eq_true rfl⟩) hS (fun q _ h => hFc q h) hFc (fun q _ h => hFc q h) (fun E ce q9 u t H1 locs ht hvm hw hBx hz1 hk1 hS hce hcv hcl => ?_) (fun u t H1 locs ht hvm hw hB1 hz1 hk1 hS => ?_)
  · obtain ⟨hE, qx, jcx, jsx, jvx, kx, hCx, hPx, hKx, hDx⟩ := hBx
    rw [ht] at hPx
    exact vx_out (fun x hx9 => (htab x hx9).elim) hlocks hce hcv hcl (fun t9 ht9 hvm9 => ⟨(), (by rw [e1 hw]; decide), ⟨(by rw [e1 hw]; exact hE), atC_in hCx (⟨by rw [ht9]; exact hPx, va_K.moved hvm9 hK, hDx.weaken (fun kk qq _ h => hFc qq.1 h)⟩)⟩, hS.F ht9⟩) hS.2.2 (Nat.le_of_ble_eq_true rfl) (Nat.le_of_ble_eq_true rfl)
  · obtain ⟨q1, jc1, js1, jv1, k1, hC1, hP, hK1, hD1⟩ := hB1
    rw [ht] at hP
    have hD := hD1.weaken (fun kk qq _ h => hFc qq.1 h)
    generalize H1 = H at hP hS ⊢
    have hC1 : okC (a) jc1 js1 jv1 k1 := hC1
    have hP : va_P (dC, dI) vwCl (WC cI cF h0 q1 a jc1 js1 jv1 k1 (capOf (nn (a 0 4)))) H := hP
    have hD : va_D A (WC cI cF h0 q1 a jc1 js1 jv1 k1 (capOf (nn (a 0 4)))) := hD
    have hw1 := hw
    have hwsel := hw1
    refine lv_iload_n hx hb dX4_sell_5 rfl (lv_at hl 2 rfl) ?_
    have e2 : ¬ bw kd 0 3 → kSell a x kd am = 1 := fun h9 => if_neg (fun h8 => h9 h8.2)
    have hFc := y_freeE hS hA
    have hK0 := hK.sub (tys' := []) [] rfl
    refine vx_callv (vx_runS (As := [.int kd]) (rest := []) ⟨hx, hb, hml, hown, hts⟩ (c_X4_requireKind l dC dI H.size hst kd) (va_cwS 1 hts gX4_sell_X4_requireKind rfl rfl rfl (by decide +kernel) ⟨Nat.le_of_ble_eq_true rfl, Nat.le_of_ble_eq_true rfl⟩) ⟨pcV_blind, fun U hU hW => pcV_pre va_P_nil (va_D_nil (A := A)) hK0 hV hS hFc hU hW⟩ rfl rfl hl.1 rfl (lv_room (Nat.le_of_ble_eq_true rfl)) dX4_sell_6 ⟨Nat.le_of_ble_eq_true rfl, Nat.le_of_ble_eq_true rfl⟩) hS (fun q _ h => hFc q h) hFc (fun q _ h => hFc q h) (fun E ce q9 u t H1 locs ht hvm hw hBx hz1 hk1 hS hce hcv hcl => ?_) (fun u t H1 locs ht hvm hw hB1 hz1 hk1 hS => ?_)
    · have hE := hBx.1
      have hPx := y_keptE hP hk1
      exact vx_out (fun x hx9 => (htab x hx9).elim) hlocks hce hcv hcl (fun t9 ht9 hvm9 => ⟨(), (by rw [e2 hw]; decide), ⟨(by rw [e2 hw]; exact hE), atC_in hC1 (⟨by rw [ht9]; exact hPx, va_K.moved hvm9 hK, hD⟩)⟩, hS.F ht9⟩) hS.2.2 (Nat.le_of_ble_eq_true rfl) (Nat.le_of_ble_eq_true rfl)
    · have hP := y_keptE hP hk1
      generalize H1 = H at hP hS ⊢
      have hw2 := hw
      have hwk := hw2
      refine lv_iload_n hx hb dX4_sell_9 rfl (lv_at hl 3 rfl) ?_
      refine lv_iconst (v := 1) hx hb dX4_sell_10 (by decide) ?_
      refine lv_ldc hx hb hown (hts (.constant RX4 77 (1000000)) (List.mem_of_getElem? (i := 1) rfl)) dX4_sell_11 ?_
      have e3 : ¬ bw am 1 1000000 → kSell a x kd am = 2 := fun h9 => by unfold kSell; rw [if_pos ⟨hwsel, hwk⟩, if_neg h9]
      have hFc := y_freeE hS hA
      have hK0 := hK.sub (tys' := []) [] rfl
      refine vx_callv (vx_runS (As := [.int am, .int 1, .int 1000000]) (rest := []) ⟨hx, hb, hml, hown, hts⟩ (c_X4_requireBetween l dC dI H.size hst am 1 1000000) (va_cwS 3 hts gX4_sell_X4_requireBetween rfl rfl rfl (by decide +kernel) ⟨Nat.le_of_ble_eq_true rfl, Nat.le_of_ble_eq_true rfl⟩) ⟨pcV_blind, fun U hU hW => pcV_pre va_P_nil (va_D_nil (A := A)) hK0 hV hS hFc hU hW⟩ rfl rfl hl.1 rfl (lv_room (Nat.le_of_ble_eq_true rfl)) dX4_sell_13 ⟨Nat.le_of_ble_eq_true rfl, Nat.le_of_ble_eq_true rfl⟩) hS (fun q _ h => hFc q h) hFc (fun q _ h => hFc q h) (fun E ce q9 u t H1 locs ht hvm hw hBx hz1 hk1 hS hce hcv hcl => ?_) (fun u t H1 locs ht hvm hw hB1 hz1 hk1 hS => ?_)
      · have hE := hBx.1
        have hPx := y_keptE hP hk1
        exact vx_out (fun x hx9 => (htab x hx9).elim) hlocks hce hcv hcl (fun t9 ht9 hvm9 => ⟨(), (by rw [e3 hw]; decide), ⟨(by rw [e3 hw]; exact hE), atC_in hC1 (⟨by rw [ht9]; exact hPx, va_K.moved hvm9 hK, hD⟩)⟩, hS.F ht9⟩) hS.2.2 (Nat.le_of_ble_eq_true rfl) (Nat.le_of_ble_eq_true rfl)
      · have hP := y_keptE hP hk1
        generalize H1 = H at hP hS ⊢
        have hw3 := hw
        have hwa := hw3
        refine lv_aload_n hx hb dX4_sell_16 rfl (lv_at hl 0 rfl) ?_
        refine lv_iconst (v := 1) hx hb dX4_sell_17 (by decide) ?_
        have e4 : ¬ (a 0 3 + 1 ≤ 100) → kSell a x kd am = 3 := fun h9 => by unfold kSell; rw [if_pos ⟨hwsel, hwk⟩, if_pos hwa, if_neg h9]
        have hFc := y_free hD hS hA
        refine vx_callv (vx_runV (As := [.int 1]) (rest := []) ⟨hx, hb, hml, hown, hts⟩ (c_X4_requireRoomForSales l dC dI cI cF h0 q1 H.size a jc1 js1 jv1 k1 hst hC1 hB 1) (cwV 1 hts gX4_sell_X4_requireRoomForSales rfl rfl rfl (by decide +kernel) ⟨Nat.le_of_ble_eq_true rfl, Nat.le_of_ble_eq_true rfl⟩) ⟨pcV_blind, va_recv hK hP (ci := 4) (q0 := 0) rfl rfl, fun U hU hW => pcV_pre hP hD hK hV hS hFc hU hW⟩ rfl rfl hl.1 rfl (lv_room (Nat.le_of_ble_eq_true rfl)) dX4_sell_18 ⟨Nat.le_of_ble_eq_true rfl, Nat.le_of_ble_eq_true rfl⟩) hS (fun q _ h => hFc q h) hFc (fun q _ h => hFc q h) (fun E ce q9 u t H1 locs ht hvm hw hBx hz1 hk1 hS hce hcv hcl => ?_) (fun u t H1 locs ht hvm hw hB1 hz1 hk1 hS => ?_)
        · obtain ⟨hE, qx, jcx, jsx, jvx, kx, hCx, hPx, hKx, hDx⟩ := hBx
          rw [ht] at hPx
          exact vx_out (fun x hx9 => (htab x hx9).elim) hlocks hce hcv hcl (fun t9 ht9 hvm9 => ⟨(), (by rw [e4 hw]; decide), ⟨(by rw [e4 hw]; exact hE), atC_in hCx (⟨by rw [ht9]; exact hPx, va_K.moved hvm9 hK, hDx.weaken (fun kk qq _ h => hFc qq.1 h)⟩)⟩, hS.F ht9⟩) hS.2.2 (Nat.le_of_ble_eq_true rfl) (Nat.le_of_ble_eq_true rfl)
        · obtain ⟨q4, jc4, js4, jv4, k4, hC4, hP, hK1, hD1⟩ := hB1
          rw [ht] at hP
          have hD := hD1.weaken (fun kk qq _ h => hFc qq.1 h)
          generalize H1 = H at hP hS ⊢
          have hC4 : okC (a) jc4 js4 jv4 k4 := hC4
          have hP : va_P (dC, dI) vwCl (WC cI cF h0 q4 a jc4 js4 jv4 k4 (capOf (nn (a 0 4)))) H := hP
          have hD : va_D A (WC cI cF h0 q4 a jc4 js4 jv4 k4 (capOf (nn (a 0 4)))) := hD
          have hw4 := hw
          have hwr := hw4
          have e0 : kSell a x kd am = 0 := by unfold kSell; rw [if_pos ⟨hwsel, hwk⟩, if_pos hwa, if_pos hwr]
          have hx1 := nat_of (hB 0 0 8 rfl) (by decide) hwsel.1 hwsel.2
          have hx8 : nn x < 8 := Nat.lt_of_lt_of_le hx1.2 (hB 0 0 8 rfl).2
          have hkd1 := nat_le (b := 3) (by decide) hwk.1 hwk.2
          have ha1 := am_nat hwa
          have hr1 : nn (a 0 3) + 1 ≤ 100 := room_nat (hB 0 3 100 rfl) 1 (by decide) hwr
          refine lv_aload_n hx hb dX4_sell_21 rfl (lv_at hl 0 rfl) ?_
          refine lv_iload_n hx hb dX4_sell_22 rfl (lv_at hl 1 rfl) ?_
          refine y_topi (y := nI (nn x)) hx1.1 ?_
          refine lv_iload_n hx hb dX4_sell_23 rfl (lv_at hl 2 rfl) ?_
          refine y_topi (y := nI (nn kd)) hkd1.1 ?_
          refine lv_iload_n hx hb dX4_sell_24 rfl (lv_at hl 3 rfl) ?_
          refine y_topi (y := nI (nn am)) ha1.1 ?_
          have hFc := y_free hD hS hA
          refine va_calli (va_runV (As := [.int (nI (nn x)), .int (nI (nn kd)), .int (nI (nn am))]) (rest := []) ⟨hx, hb, hml, hown, hts⟩ (c_X4_settle l dC dI cI cF h0 q4 H.size a jc4 js4 jv4 k4 hC4 hB hY (nn x) (nn kd) (nn am) hx8 (Nat.lt_succ_of_le hkd1.2) ha1.2.1 ha1.2.2 hr1) (cwV 3 hts gX4_sell_X4_settle rfl rfl rfl (by decide +kernel) ⟨Nat.le_of_ble_eq_true rfl, Nat.le_of_ble_eq_true rfl⟩) ⟨pcW_blind, va_recv hK hP (ci := 4) (q0 := 0) rfl rfl, fun U hU hW => pcW_pre hP hD hK hU hW⟩ rfl rfl hl.1 rfl (lv_room (Nat.le_of_ble_eq_true rfl)) dX4_sell_25 ⟨Nat.le_of_ble_eq_true rfl, Nat.le_of_ble_eq_true rfl⟩) hS (fun q _ h => hFc q h) hFc (fun r u t H1 locs ht hvm hw hB1 hz1 hk1 hS => ?_)
          obtain ⟨q5, jc5, js5, jv5, k5, hC5, hP, hK1, hD1⟩ := hB1
          rw [ht] at hP
          have hD := hD1.weaken (fun kk qq _ h => hFc qq.1 h)
          generalize H1 = H at hP hS ⊢
          have hC5 : okC (sSettle a (nn x) (nn kd) (nI (nn am))) jc5 js5 jv5 k5 := hC5
          have hP : va_P (dC, dI) vwCl (WC cI cF h0 q5 (sSettle a (nn x) (nn kd) (nI (nn am))) jc5 js5 jv5 k5 (capOf (nn ((sSettle a (nn x) (nn kd) (nI (nn am))) 0 4)))) H := hP
          have hD : va_D A (WC cI cF h0 q5 (sSettle a (nn x) (nn kd) (nI (nn am))) jc5 js5 jv5 k5 (capOf (nn ((sSettle a (nn x) (nn kd) (nI (nn am))) 0 4)))) := hD
          rw [← ha1.1] at hP hD hC5
          have hP : va_P (dC, dI) vwCl (WC cI cF h0 q5 (sSell a x kd am) jc5 js5 jv5 k5 (capOf (nn ((sSell a x kd am) 0 4)))) H := hP
          have hD : va_D A (WC cI cF h0 q5 (sSell a x kd am) jc5 js5 jv5 k5 (capOf (nn ((sSell a x kd am) 0 4)))) := hD
          have hC9 : okC (sSell a x kd am) jc5 js5 jv5 k5 := hC5
          refine W.widen (k := 4) (n := 24) (Nat.le_of_ble_eq_true rfl) (Nat.le_of_ble_eq_true rfl) ?_
          have hP9 := hP
          have hD9 := hD
          have hK9 := hK
          refine vx_ret ?_
          exact W.iret (v := r) hx hb hr (fun t ht hW => ⟨⟨r, (), rfl, ⟨e0, hw.trans (hBk 0 3 100 rfl).1.symm⟩, atC_in hC9 (atW_end hP9 hD9 hK9 ht hW)⟩, hS.F ht⟩) hS.2.2 dX4_sell_28
set_option maxHeartbeats 4000000 in
set_option maxRecDepth 100000 in
theorem c_X4_fail (l : Launch) (dC : Nat → ClassId) (dI : Nat → Nat → Nat) (cI cF : ClassId) (h0 : Nat) (q : Nat → Nat) (sz : Nat) (a : yA) (jc js jv : Nat → Int32) (k : Nat) (hst : l.stackTraces = false)  (hC : okC a jc js jv k) (hB : okB a) (x : Int32) : vx_Met l yX4_fail wsX4_fail ({ frames := 7, cells := 2, slots := 12, locals := 111 } : Room) (va_Pc [.ref h0, .int x] (pcV dC dI [(cI, .int), (cF, .float)] (WC cI cF h0 q a jc js jv k (capOf (nn (a 0 4)))) sz)) (va_Qi (fun (r : Int32) (_ : Unit) => kFail a x = 0 ∧ r = sFail a (nn x) 7 (nn (a 20 (nn x)))) (fun _ t => atC dC dI cI cF (va_A (WC cI cF h0 q a jc js jv k (capOf (nn (a 0 4)))) sz) h0 (sFail a (nn x)) t) (va_A (WC cI cF h0 q a jc js jv k (capOf (nn (a 0 4)))) sz)) (vx_X (fun _ : Unit => kFail a x ≠ 0) (fun E _ t => E = eIS (kFail a x) ∧ atC dC dI cI cF (va_A (WC cI cF h0 q a jc js jv k (capOf (nn (a 0 4)))) sz) h0 a t) (va_A (WC cI cF h0 q a jc js jv k (capOf (nn (a 0 4)))) sz)) (2) (12) (va_A (WC cI cF h0 q a jc js jv k (capOf (nn (a 0 4)))) sz) := by
  refine vx_ofW (cc := cX4_fail) (maxL := 4) (ret := (some .int)) (by decide) rfl ?_
  intro p e s m args below meth c s₁ B hml htab hv
  obtain ⟨rfl, ⟨hsz, hP, hK, hD0⟩, hV⟩ := hv
  have hx := B.exec
  have hb := B.bytes
  have hr := B.returns
  have hts := atoms_spec (ws := wsX4_fail) B.pre
  have hown : s.vm.findClass RX4 = some m.cls := findClass_of_methodNamed B.named
  have hlocks := B.notSynchronized
  subst hsz
  have hD := hD0.self (sz := s.heap.size)
  generalize hAe : va_A [(h0, .inr (4, [.ref (q 1), .ref (q 10), .ref (q 18), .ref (q 22), .ref (q 26), .int (a 0 2), .int (a 0 1), .int (a 0 5), .int (a 0 6), .int (a 0 7), .int (a 0 8)])), (q 1, .inr (3, [.ref (q 2), .ref (q 3), .ref (q 4), .ref (q 5), .ref (q 6), .ref (q 7), .ref (q 8), .ref (q 9), .int (a 0 0)])), (q 2, .inl (cI, 8, .inl (a 1))), (q 3, .inl (cI, 8, .inl (a 2))), (q 4, .inl (cI, 8, .inl (a 3))), (q 5, .inl (cI, 8, .inl (a 4))), (q 6, .inl (cI, 8, .inl (a 5))), (q 7, .inl (cI, 8, .inl (a 6))), (q 8, .inl (cI, 8, .inl (a 7))), (q 9, .inl (cI, 8, .inl (a 8))), (q 10, .inr (2, [.ref (q 11), .ref (q 12), .ref (q 13), .ref (q 14), .ref (q 15), .ref (q 16), .ref (q 17), .int (a 0 3)])), (q 11, .inl (cI, 100, .inl (a 10))), (q 12, .inl (cF, 100, .inr (.inr (.inl (fun j => shF (a 13 j)))))), (q 13, .inl (cI, 100, .inl (a 14))), (q 14, .inl (cI, 100, .inl (fun j => a 11 j - a 12 j))), (q 15, .inl (cI, 100, .inl (fun j => a 15 j - a 16 j))), (q 16, .inl (cI, 100, .inl (a 17))), (q 17, .inl (cI, 100, .inl (a 18))), (q 18, .inr (1, [.ref (q 19), .ref (q 20), .ref (q 21), .int (a 0 4)])), (q 19, .inl (cI, capOf (nn (a 0 4)), .inl (a 20))), (q 20, .inl (cI, capOf (nn (a 0 4)), .inl (a 19))), (q 21, .inl (cI, capOf (nn (a 0 4)), .inl (a 21))), (q 22, .inr (0, [.ref (q 23), .ref (q 24), .ref (q 25), .int (nI k)])), (q 23, .inl (cI, 8, .inl (jc))), (q 24, .inl (cI, 256, .inl (js))), (q 25, .inl (cI, 256, .inl (jv))), (q 26, .inl (cF, 4, .inr (.inr (.inl (fun j => shF (a 9 j))))))] s.heap.size = A at hD hV ⊢
  have hA : ∀ q : Nat, s.heap.size ≤ q → A q := fun q h => by rw [← hAe]; exact Or.inr h
  have hS : va_S A s.heap s.heap [] := va_S.rf
  have hl := lv_entry ([.ref h0, .int x]) (n := 4) (Nat.le_of_ble_eq_true rfl)
  rw [lg_entry_eq]
  generalize (lg_sl ([.ref h0, .int x]) ++ List.replicate (4 - (lg_sl ([.ref h0, .int x])).length) Slot.unset).toArray = ls at hl ⊢
  have hl : lv_has ls 4 [(0, .ref h0), (1, .int x)] := hl
  have hiX4 : ∀ w ∈ wsX40, w ∈ wsX4_fail := fun w h => List.mem_cons_of_mem _ (List.mem_append_left _ (List.mem_append_left _ (List.mem_append_left _ (List.mem_append_left _ (List.mem_append_left _ (List.mem_append_right _ h))))))
  have hiX1 : ∀ w ∈ wsX10, w ∈ wsX4_fail := fun w h => List.mem_cons_of_mem _ (List.mem_append_left _ (List.mem_append_left _ (List.mem_append_left _ (List.mem_append_left _ (List.mem_append_right _ h)))))
  have hiX3 : ∀ w ∈ wsX30, w ∈ wsX4_fail := fun w h => List.mem_cons_of_mem _ (List.mem_append_left _ (List.mem_append_left _ (List.mem_append_left _ (List.mem_append_right _ h))))
  have hP : va_P (dC, dI) vwCl [(h0, .inr (4, [.ref (q 1), .ref (q 10), .ref (q 18), .ref (q 22), .ref (q 26), .int (a 0 2), .int (a 0 1), .int (a 0 5), .int (a 0 6), .int (a 0 7), .int (a 0 8)])), (q 1, .inr (3, [.ref (q 2), .ref (q 3), .ref (q 4), .ref (q 5), .ref (q 6), .ref (q 7), .ref (q 8), .ref (q 9), .int (a 0 0)])), (q 2, .inl (cI, 8, .inl (a 1))), (q 3, .inl (cI, 8, .inl (a 2))), (q 4, .inl (cI, 8, .inl (a 3))), (q 5, .inl (cI, 8, .inl (a 4))), (q 6, .inl (cI, 8, .inl (a 5))), (q 7, .inl (cI, 8, .inl (a 6))), (q 8, .inl (cI, 8, .inl (a 7))), (q 9, .inl (cI, 8, .inl (a 8))), (q 10, .inr (2, [.ref (q 11), .ref (q 12), .ref (q 13), .ref (q 14), .ref (q 15), .ref (q 16), .ref (q 17), .int (a 0 3)])), (q 11, .inl (cI, 100, .inl (a 10))), (q 12, .inl (cF, 100, .inr (.inr (.inl (fun j => shF (a 13 j)))))), (q 13, .inl (cI, 100, .inl (a 14))), (q 14, .inl (cI, 100, .inl (fun j => a 11 j - a 12 j))), (q 15, .inl (cI, 100, .inl (fun j => a 15 j - a 16 j))), (q 16, .inl (cI, 100, .inl (a 17))), (q 17, .inl (cI, 100, .inl (a 18))), (q 18, .inr (1, [.ref (q 19), .ref (q 20), .ref (q 21), .int (a 0 4)])), (q 19, .inl (cI, capOf (nn (a 0 4)), .inl (a 20))), (q 20, .inl (cI, capOf (nn (a 0 4)), .inl (a 19))), (q 21, .inl (cI, capOf (nn (a 0 4)), .inl (a 21))), (q 22, .inr (0, [.ref (q 23), .ref (q 24), .ref (q 25), .int (nI k)])), (q 23, .inl (cI, 8, .inl (jc))), (q 24, .inl (cI, 256, .inl (js))), (q 25, .inl (cI, 256, .inl (jv))), (q 26, .inl (cF, 4, .inr (.inr (.inl (fun j => shF (a 9 j))))))] s.heap := hP
  refine y_enter (A := A) hP (fun H hP hS => ?_)
  have hBk := hB
  refine lv_aload_n hx hb dX4_fail_0 rfl (lv_at hl 0 rfl) ?_
  refine lv_iload_n hx hb dX4_fail_1 rfl (lv_at hl 1 rfl) ?_
  have e1 : ¬ payOKn a x → kFail a x = 1 := fun h9 => if_neg h9
  have hFc := y_free hD hS hA
  refine vx_callv (vx_runV (As := [.int x]) (rest := []) ⟨hx, hb, hml, hown, hts⟩ (c_X4_requirePayout l dC dI cI cF h0 q H.size a jc js jv k hst hC hB x) (cwV 1 hts gX4_fail_X4_requirePayout rfl rfl rfl (by decide +kernel) ⟨Nat.le_of_ble_eq_true rfl, Nat.le_of_ble_eq_true rfl⟩) ⟨pcV_blind, va_recv hK hP (ci := 4) (q0 := 0) rfl rfl, fun U hU hW => pcV_pre hP hD hK hV hS hFc hU hW⟩ rfl rfl hl.1 rfl (lv_room (Nat.le_of_ble_eq_true rfl)) dX4_fail_2 ⟨Nat.le_of_ble_eq_true rfl, Nat.le_of_ble_eq_true rfl⟩) hS (fun q _ h => hFc q h) hFc (fun q _ h => hFc q h) (fun E ce q9 u t H1 locs ht hvm hw hBx hz1 hk1 hS hce hcv hcl => ?_) (fun u t H1 locs ht hvm hw hB1 hz1 hk1 hS => ?_)
  · obtain ⟨hE, qx, jcx, jsx, jvx, kx, hCx, hPx, hKx, hDx⟩ := hBx
    rw [ht] at hPx
    exact vx_out (fun x hx9 => (htab x hx9).elim) hlocks hce hcv hcl (fun t9 ht9 hvm9 => ⟨(), (by rw [e1 hw]; decide), ⟨(by rw [e1 hw]; exact hE), atC_in hCx (⟨by rw [ht9]; exact hPx, va_K.moved hvm9 hK, hDx.weaken (fun kk qq _ h => hFc qq.1 h)⟩)⟩, hS.F ht9⟩) hS.2.2 (Nat.le_of_ble_eq_true rfl) (Nat.le_of_ble_eq_true rfl)
  · obtain ⟨q1, jc1, js1, jv1, k1, hC1, hP, hK1, hD1⟩ := hB1
    rw [ht] at hP
    have hD := hD1.weaken (fun kk qq _ h => hFc qq.1 h)
    generalize H1 = H at hP hS ⊢
    have hC1 : okC (a) jc1 js1 jv1 k1 := hC1
    have hP : va_P (dC, dI) vwCl (WC cI cF h0 q1 a jc1 js1 jv1 k1 (capOf (nn (a 0 4)))) H := hP
    have hD : va_D A (WC cI cF h0 q1 a jc1 js1 jv1 k1 (capOf (nn (a 0 4)))) := hD
    have hw1 := hw
    have hwsel := hw1
    have hx1 := nat_of (hB 0 4 1024 rfl) (by decide) hwsel.1 hwsel.2
    have hx8 : nn x < capOf (nn (a 0 4)) := Nat.lt_of_lt_of_le hx1.2 (capOf_ge (hB 0 4 1024 rfl).2)
    refine lv_aload_n hx hb dX4_fail_5 rfl (lv_at hl 0 rfl) ?_
    refine va_get (D := (dC, dI)) (ci := 4) (v := .ref (q1 18)) (C := RX4) (T := TX4) (N := 11) hx hb hts hiX4 hown hK hP 0 rfl rfl 2 (by decide) (hts (.fieldLink RX4 26 "Payoutnet" "paidOut" "LPayoutnet$Payouts;") (List.mem_of_getElem? (i := 3) rfl)) (fun _ h9 => h9) rfl dX4_fail_6 ?_
    refine va_get (D := (dC, dI)) (ci := 1) (v := .ref (q1 21)) (C := RX1) (T := TX1) (N := 4) hx hb hts hiX1 hown hK hP 18 rfl rfl 2 (by decide) (hts (.fieldLink RX4 183 "Payoutnet$Payouts" "failed" "[I") (List.mem_of_getElem? (i := 4) rfl)) (fun _ h9 => h9) rfl dX4_fail_9 ?_
    refine lv_iload_n hx hb dX4_fail_12 rfl (lv_at hl 1 rfl) ?_
    refine y_topi (y := nI (nn x)) hx1.1 ?_
    refine y_ild hx hb hK hP 21 0 rfl rfl (t := nn x) (by omega) (by have := capOf_le (nn (a 0 4)); omega) dX4_fail_13 ?_
    refine lv_if_eq (tgt := 27) hx hb dX4_fail_14 (by decide) (fun c_2 => ?_) (fun c_2 => ?_)
    · have e0 : kFail a x = 0 := by unfold kFail; rw [if_pos hwsel, if_pos c_2]
      have hs20 := hB 20 (nn x) 7 rfl
      have hz : nn (a 20 (nn x)) < 8 := Nat.lt_succ_of_le hs20.2
      refine lv_aload_n hx hb dX4_fail_27 rfl (lv_at hl 0 rfl) ?_
      refine va_get (D := (dC, dI)) (ci := 4) (v := .ref (q1 18)) (C := RX4) (T := TX4) (N := 11) hx hb hts hiX4 hown hK hP 0 rfl rfl 2 (by decide) (hts (.fieldLink RX4 26 "Payoutnet" "paidOut" "LPayoutnet$Payouts;") (List.mem_of_getElem? (i := 3) rfl)) (fun _ h9 => h9) rfl dX4_fail_28 ?_
      refine va_get (D := (dC, dI)) (ci := 1) (v := .ref (q1 19)) (C := RX1) (T := TX1) (N := 4) hx hb hts hiX1 hown hK hP 18 rfl rfl 0 (by decide) (hts (.fieldLink RX4 188 "Payoutnet$Payouts" "seller" "[I") (List.mem_of_getElem? (i := 5) rfl)) (fun _ h9 => h9) rfl dX4_fail_31 ?_
      refine lv_iload_n hx hb dX4_fail_34 rfl (lv_at hl 1 rfl) ?_
      refine y_topi (y := nI (nn x)) hx1.1 ?_
      refine y_ild hx hb hK hP 19 0 rfl rfl (t := nn x) (by omega) (by have := capOf_le (nn (a 0 4)); omega) dX4_fail_35 ?_
      refine y_topi (y := nI (nn (a 20 (nn x)))) hs20.1 ?_
      refine lv_istore_n (lv' := [(2, .int (nI (nn (a 20 (nn x))))), (0, .ref h0), (1, .int x)]) hx hb dX4_fail_36 rfl hl (by decide) rfl (fun ls hl => ?_)
      refine lv_aload_n hx hb dX4_fail_37 rfl (lv_at hl 1 rfl) ?_
      refine va_get (D := (dC, dI)) (ci := 4) (v := .ref (q1 18)) (C := RX4) (T := TX4) (N := 11) hx hb hts hiX4 hown hK hP 0 rfl rfl 2 (by decide) (hts (.fieldLink RX4 26 "Payoutnet" "paidOut" "LPayoutnet$Payouts;") (List.mem_of_getElem? (i := 3) rfl)) (fun _ h9 => h9) rfl dX4_fail_38 ?_
      refine va_get (D := (dC, dI)) (ci := 1) (v := .ref (q1 20)) (C := RX1) (T := TX1) (N := 4) hx hb hts hiX1 hown hK hP 18 rfl rfl 1 (by decide) (hts (.fieldLink RX4 189 "Payoutnet$Payouts" "cents" "[I") (List.mem_of_getElem? (i := 6) rfl)) (fun _ h9 => h9) rfl dX4_fail_41 ?_
      refine lv_iload_n hx hb dX4_fail_44 rfl (lv_at hl 2 rfl) ?_
      refine y_topi (y := nI (nn x)) hx1.1 ?_
      refine y_ild hx hb hK hP 20 0 rfl rfl (t := nn x) (by omega) (by have := capOf_le (nn (a 0 4)); omega) dX4_fail_45 ?_
      refine lv_istore_n (lv' := [(3, .int ((a 19) (nn x))), (2, .int (nI (nn (a 20 (nn x))))), (0, .ref h0), (1, .int x)]) hx hb dX4_fail_46 rfl hl (by decide) rfl (fun ls hl => ?_)
      refine lv_aload_n hx hb dX4_fail_47 rfl (lv_at hl 2 rfl) ?_
      refine va_get (D := (dC, dI)) (ci := 4) (v := .ref (q1 18)) (C := RX4) (T := TX4) (N := 11) hx hb hts hiX4 hown hK hP 0 rfl rfl 2 (by decide) (hts (.fieldLink RX4 26 "Payoutnet" "paidOut" "LPayoutnet$Payouts;") (List.mem_of_getElem? (i := 3) rfl)) (fun _ h9 => h9) rfl dX4_fail_48 ?_
      refine va_get (D := (dC, dI)) (ci := 1) (v := .ref (q1 21)) (C := RX1) (T := TX1) (N := 4) hx hb hts hiX1 hown hK hP 18 rfl rfl 2 (by decide) (hts (.fieldLink RX4 183 "Payoutnet$Payouts" "failed" "[I") (List.mem_of_getElem? (i := 4) rfl)) (fun _ h9 => h9) rfl dX4_fail_51 ?_
      refine lv_iload_n hx hb dX4_fail_54 rfl (lv_at hl 3 rfl) ?_
      refine y_topi (y := nI (nn x)) hx1.1 ?_
      refine lv_iconst (v := 1) hx hb dX4_fail_55 (by decide) ?_
      refine y_ist hx hb hK hP hD hS 21 0 rfl rfl (t := nn x) (by omega) (by have := capOf_le (nn (a 0 4)); omega) dX4_fail_56 (fun H locs hP hD hS => ?_)
      have hP : va_P (dC, dI) vwCl [(h0, .inr (4, [.ref (q1 1), .ref (q1 10), .ref (q1 18), .ref (q1 22), .ref (q1 26), .int (a 0 2), .int (a 0 1), .int (a 0 5), .int (a 0 6), .int (a 0 7), .int (a 0 8)])), (q1 1, .inr (3, [.ref (q1 2), .ref (q1 3), .ref (q1 4), .ref (q1 5), .ref (q1 6), .ref (q1 7), .ref (q1 8), .ref (q1 9), .int (a 0 0)])), (q1 2, .inl (cI, 8, .inl (a 1))), (q1 3, .inl (cI, 8, .inl (a 2))), (q1 4, .inl (cI, 8, .inl (a 3))), (q1 5, .inl (cI, 8, .inl (a 4))), (q1 6, .inl (cI, 8, .inl (a 5))), (q1 7, .inl (cI, 8, .inl (a 6))), (q1 8, .inl (cI, 8, .inl (a 7))), (q1 9, .inl (cI, 8, .inl (a 8))), (q1 10, .inr (2, [.ref (q1 11), .ref (q1 12), .ref (q1 13), .ref (q1 14), .ref (q1 15), .ref (q1 16), .ref (q1 17), .int (a 0 3)])), (q1 11, .inl (cI, 100, .inl (a 10))), (q1 12, .inl (cF, 100, .inr (.inr (.inl (fun j => shF (a 13 j)))))), (q1 13, .inl (cI, 100, .inl (a 14))), (q1 14, .inl (cI, 100, .inl (fun j => a 11 j - a 12 j))), (q1 15, .inl (cI, 100, .inl (fun j => a 15 j - a 16 j))), (q1 16, .inl (cI, 100, .inl (a 17))), (q1 17, .inl (cI, 100, .inl (a 18))), (q1 18, .inr (1, [.ref (q1 19), .ref (q1 20), .ref (q1 21), .int (a 0 4)])), (q1 19, .inl (cI, capOf (nn (a 0 4)), .inl (a 20))), (q1 20, .inl (cI, capOf (nn (a 0 4)), .inl (a 19))), (q1 21, .inl (cI, capOf (nn (a 0 4)), .inl (upd (a 21) (nn x) 1))), (q1 22, .inr (0, [.ref (q1 23), .ref (q1 24), .ref (q1 25), .int (nI k1)])), (q1 23, .inl (cI, 8, .inl (jc1))), (q1 24, .inl (cI, 256, .inl (js1))), (q1 25, .inl (cI, 256, .inl (jv1))), (q1 26, .inl (cF, 4, .inr (.inr (.inl (fun j => shF (a 9 j))))))] H := hP
      have hD : va_D A [(h0, .inr (4, [.ref (q1 1), .ref (q1 10), .ref (q1 18), .ref (q1 22), .ref (q1 26), .int (a 0 2), .int (a 0 1), .int (a 0 5), .int (a 0 6), .int (a 0 7), .int (a 0 8)])), (q1 1, .inr (3, [.ref (q1 2), .ref (q1 3), .ref (q1 4), .ref (q1 5), .ref (q1 6), .ref (q1 7), .ref (q1 8), .ref (q1 9), .int (a 0 0)])), (q1 2, .inl (cI, 8, .inl (a 1))), (q1 3, .inl (cI, 8, .inl (a 2))), (q1 4, .inl (cI, 8, .inl (a 3))), (q1 5, .inl (cI, 8, .inl (a 4))), (q1 6, .inl (cI, 8, .inl (a 5))), (q1 7, .inl (cI, 8, .inl (a 6))), (q1 8, .inl (cI, 8, .inl (a 7))), (q1 9, .inl (cI, 8, .inl (a 8))), (q1 10, .inr (2, [.ref (q1 11), .ref (q1 12), .ref (q1 13), .ref (q1 14), .ref (q1 15), .ref (q1 16), .ref (q1 17), .int (a 0 3)])), (q1 11, .inl (cI, 100, .inl (a 10))), (q1 12, .inl (cF, 100, .inr (.inr (.inl (fun j => shF (a 13 j)))))), (q1 13, .inl (cI, 100, .inl (a 14))), (q1 14, .inl (cI, 100, .inl (fun j => a 11 j - a 12 j))), (q1 15, .inl (cI, 100, .inl (fun j => a 15 j - a 16 j))), (q1 16, .inl (cI, 100, .inl (a 17))), (q1 17, .inl (cI, 100, .inl (a 18))), (q1 18, .inr (1, [.ref (q1 19), .ref (q1 20), .ref (q1 21), .int (a 0 4)])), (q1 19, .inl (cI, capOf (nn (a 0 4)), .inl (a 20))), (q1 20, .inl (cI, capOf (nn (a 0 4)), .inl (a 19))), (q1 21, .inl (cI, capOf (nn (a 0 4)), .inl (upd (a 21) (nn x) 1))), (q1 22, .inr (0, [.ref (q1 23), .ref (q1 24), .ref (q1 25), .int (nI k1)])), (q1 23, .inl (cI, 8, .inl (jc1))), (q1 24, .inl (cI, 256, .inl (js1))), (q1 25, .inl (cI, 256, .inl (jv1))), (q1 26, .inl (cF, 4, .inr (.inr (.inl (fun j => shF (a 9 j))))))] := hD
      refine lv_aload_n hx hb dX4_fail_57 rfl (lv_at hl 2 rfl) ?_
      refine va_get (D := (dC, dI)) (ci := 4) (v := .ref (q1 1)) (C := RX4) (T := TX4) (N := 11) hx hb hts hiX4 hown hK hP 0 rfl rfl 0 (by decide) (hts (.fieldLink RX4 10 "Payoutnet" "shops" "LPayoutnet$Shops;") (List.mem_of_getElem? (i := 7) rfl)) (fun _ h9 => h9) rfl dX4_fail_58 ?_
      refine va_get (D := (dC, dI)) (ci := 3) (v := .ref (q1 9)) (C := RX3) (T := TX3) (N := 9) hx hb hts hiX3 hown hK hP 1 rfl rfl 7 (by decide) (hts (.fieldLink RX4 192 "Payoutnet$Shops" "paid" "[I") (List.mem_of_getElem? (i := 8) rfl)) (fun _ h9 => h9) rfl dX4_fail_61 ?_
      refine lv_iload_n hx hb dX4_fail_64 rfl (lv_at hl 1 rfl) ?_
      refine lv_dup2_11 hx hb dX4_fail_65 rfl rfl ?_
      refine y_ild hx hb hK hP 9 0 rfl rfl (t := nn (a 20 (nn x))) (by omega) (Nat.le_of_ble_eq_true rfl) dX4_fail_66 ?_
      refine lv_iload_n hx hb dX4_fail_67 rfl (lv_at hl 0 rfl) ?_
      refine lv_isub hx hb dX4_fail_68 ?_
      refine y_ist hx hb hK hP hD hS 9 0 rfl rfl (t := nn (a 20 (nn x))) (by omega) (Nat.le_of_ble_eq_true rfl) dX4_fail_69 (fun H locs hP hD hS => ?_)
      have hP : va_P (dC, dI) vwCl [(h0, .inr (4, [.ref (q1 1), .ref (q1 10), .ref (q1 18), .ref (q1 22), .ref (q1 26), .int (a 0 2), .int (a 0 1), .int (a 0 5), .int (a 0 6), .int (a 0 7), .int (a 0 8)])), (q1 1, .inr (3, [.ref (q1 2), .ref (q1 3), .ref (q1 4), .ref (q1 5), .ref (q1 6), .ref (q1 7), .ref (q1 8), .ref (q1 9), .int (a 0 0)])), (q1 2, .inl (cI, 8, .inl (a 1))), (q1 3, .inl (cI, 8, .inl (a 2))), (q1 4, .inl (cI, 8, .inl (a 3))), (q1 5, .inl (cI, 8, .inl (a 4))), (q1 6, .inl (cI, 8, .inl (a 5))), (q1 7, .inl (cI, 8, .inl (a 6))), (q1 8, .inl (cI, 8, .inl (a 7))), (q1 9, .inl (cI, 8, .inl (upd (a 8) (nn (a 20 (nn x))) (((a 8) (nn (a 20 (nn x)))) - ((a 19) (nn x)))))), (q1 10, .inr (2, [.ref (q1 11), .ref (q1 12), .ref (q1 13), .ref (q1 14), .ref (q1 15), .ref (q1 16), .ref (q1 17), .int (a 0 3)])), (q1 11, .inl (cI, 100, .inl (a 10))), (q1 12, .inl (cF, 100, .inr (.inr (.inl (fun j => shF (a 13 j)))))), (q1 13, .inl (cI, 100, .inl (a 14))), (q1 14, .inl (cI, 100, .inl (fun j => a 11 j - a 12 j))), (q1 15, .inl (cI, 100, .inl (fun j => a 15 j - a 16 j))), (q1 16, .inl (cI, 100, .inl (a 17))), (q1 17, .inl (cI, 100, .inl (a 18))), (q1 18, .inr (1, [.ref (q1 19), .ref (q1 20), .ref (q1 21), .int (a 0 4)])), (q1 19, .inl (cI, capOf (nn (a 0 4)), .inl (a 20))), (q1 20, .inl (cI, capOf (nn (a 0 4)), .inl (a 19))), (q1 21, .inl (cI, capOf (nn (a 0 4)), .inl (upd (a 21) (nn x) 1))), (q1 22, .inr (0, [.ref (q1 23), .ref (q1 24), .ref (q1 25), .int (nI k1)])), (q1 23, .inl (cI, 8, .inl (jc1))), (q1 24, .inl (cI, 256, .inl (js1))), (q1 25, .inl (cI, 256, .inl (jv1))), (q1 26, .inl (cF, 4, .inr (.inr (.inl (fun j => shF (a 9 j))))))] H := hP
      have hD : va_D A [(h0, .inr (4, [.ref (q1 1), .ref (q1 10), .ref (q1 18), .ref (q1 22), .ref (q1 26), .int (a 0 2), .int (a 0 1), .int (a 0 5), .int (a 0 6), .int (a 0 7), .int (a 0 8)])), (q1 1, .inr (3, [.ref (q1 2), .ref (q1 3), .ref (q1 4), .ref (q1 5), .ref (q1 6), .ref (q1 7), .ref (q1 8), .ref (q1 9), .int (a 0 0)])), (q1 2, .inl (cI, 8, .inl (a 1))), (q1 3, .inl (cI, 8, .inl (a 2))), (q1 4, .inl (cI, 8, .inl (a 3))), (q1 5, .inl (cI, 8, .inl (a 4))), (q1 6, .inl (cI, 8, .inl (a 5))), (q1 7, .inl (cI, 8, .inl (a 6))), (q1 8, .inl (cI, 8, .inl (a 7))), (q1 9, .inl (cI, 8, .inl (upd (a 8) (nn (a 20 (nn x))) (((a 8) (nn (a 20 (nn x)))) - ((a 19) (nn x)))))), (q1 10, .inr (2, [.ref (q1 11), .ref (q1 12), .ref (q1 13), .ref (q1 14), .ref (q1 15), .ref (q1 16), .ref (q1 17), .int (a 0 3)])), (q1 11, .inl (cI, 100, .inl (a 10))), (q1 12, .inl (cF, 100, .inr (.inr (.inl (fun j => shF (a 13 j)))))), (q1 13, .inl (cI, 100, .inl (a 14))), (q1 14, .inl (cI, 100, .inl (fun j => a 11 j - a 12 j))), (q1 15, .inl (cI, 100, .inl (fun j => a 15 j - a 16 j))), (q1 16, .inl (cI, 100, .inl (a 17))), (q1 17, .inl (cI, 100, .inl (a 18))), (q1 18, .inr (1, [.ref (q1 19), .ref (q1 20), .ref (q1 21), .int (a 0 4)])), (q1 19, .inl (cI, capOf (nn (a 0 4)), .inl (a 20))), (q1 20, .inl (cI, capOf (nn (a 0 4)), .inl (a 19))), (q1 21, .inl (cI, capOf (nn (a 0 4)), .inl (upd (a 21) (nn x) 1))), (q1 22, .inr (0, [.ref (q1 23), .ref (q1 24), .ref (q1 25), .int (nI k1)])), (q1 23, .inl (cI, 8, .inl (jc1))), (q1 24, .inl (cI, 256, .inl (js1))), (q1 25, .inl (cI, 256, .inl (jv1))), (q1 26, .inl (cF, 4, .inr (.inr (.inl (fun j => shF (a 9 j))))))] := hD
      refine lv_aload_n hx hb dX4_fail_70 rfl (lv_at hl 2 rfl) ?_
      refine lv_iload_n hx hb dX4_fail_71 rfl (lv_at hl 1 rfl) ?_
      refine lv_iload_n hx hb dX4_fail_72 rfl (lv_at hl 0 rfl) ?_
      have hP : va_P (dC, dI) vwCl (WC cI cF h0 q1 (put (put a 21 (nn x) 1) 8 (nn (a 20 (nn x))) (a 8 (nn (a 20 (nn x))) - a 19 (nn x))) jc1 js1 jv1 k1 (capOf (nn ((put (put a 21 (nn x) 1) 8 (nn (a 20 (nn x))) (a 8 (nn (a 20 (nn x))) - a 19 (nn x))) 0 4)))) H := hP
      have hD : va_D A (WC cI cF h0 q1 (put (put a 21 (nn x) 1) 8 (nn (a 20 (nn x))) (a 8 (nn (a 20 (nn x))) - a 19 (nn x))) jc1 js1 jv1 k1 (capOf (nn ((put (put a 21 (nn x) 1) 8 (nn (a 20 (nn x))) (a 8 (nn (a 20 (nn x))) - a 19 (nn x))) 0 4)))) := hD
      have hB2 : okB (put (put a 21 (nn x) 1) 8 (nn (a 20 (nn x))) (a 8 (nn (a 20 (nn x))) - a 19 (nn x))) := okB_free (okB_free hB rfl) rfl
      have hC2 : okC (put (put a 21 (nn x) 1) 8 (nn (a 20 (nn x))) (a 8 (nn (a 20 (nn x))) - a 19 (nn x))) jc1 js1 jv1 k1 := hC1
      have hFc := y_free hD hS hA
      refine va_callv (va_runV (As := [.int (nI (nn (a 20 (nn x)))), .int ((a 19) (nn x))]) (rest := []) ⟨hx, hb, hml, hown, hts⟩ (c_X4_post l dC dI cI cF h0 q1 H.size (put (put a 21 (nn x) 1) 8 (nn (a 20 (nn x))) (a 8 (nn (a 20 (nn x))) - a 19 (nn x))) jc1 js1 jv1 k1 hC2 hB2 (nn (a 20 (nn x))) hz (a 19 (nn x))) (cwV 2 hts gX4_fail_X4_post rfl rfl rfl (by decide +kernel) ⟨Nat.le_of_ble_eq_true rfl, Nat.le_of_ble_eq_true rfl⟩) ⟨pcW_blind, va_recv hK hP (ci := 4) (q0 := 0) rfl rfl, fun U hU hW => pcW_pre hP hD hK hU hW⟩ rfl rfl hl.1 rfl (lv_room (Nat.le_of_ble_eq_true rfl)) dX4_fail_73 ⟨Nat.le_of_ble_eq_true rfl, Nat.le_of_ble_eq_true rfl⟩) hS (fun q _ h => hFc q h) hFc (fun u t H1 locs ht hvm hw hB1 hz1 hk1 hS => ?_)
      obtain ⟨q3, jc3, js3, jv3, k3, hC3, hP, hK1, hD1⟩ := hB1
      rw [ht] at hP
      have hD := hD1.weaken (fun kk qq _ h => hFc qq.1 h)
      generalize H1 = H at hP hS ⊢
      have hC3 : okC (sFail a (nn x)) jc3 js3 jv3 k3 := hC3
      have hP : va_P (dC, dI) vwCl (WC cI cF h0 q3 (sFail a (nn x)) jc3 js3 jv3 k3 (capOf (nn ((sFail a (nn x)) 0 4)))) H := hP
      have hD : va_D A (WC cI cF h0 q3 (sFail a (nn x)) jc3 js3 jv3 k3 (capOf (nn ((sFail a (nn x)) 0 4)))) := hD
      refine lv_aload_n hx hb dX4_fail_76 rfl (lv_at hl 2 rfl) ?_
      refine va_get (D := (dC, dI)) (ci := 4) (v := .ref (q3 1)) (C := RX4) (T := TX4) (N := 11) hx hb hts hiX4 hown hK hP 0 rfl rfl 0 (by decide) (hts (.fieldLink RX4 10 "Payoutnet" "shops" "LPayoutnet$Shops;") (List.mem_of_getElem? (i := 7) rfl)) (fun _ h9 => h9) rfl dX4_fail_77 ?_
      refine va_get (D := (dC, dI)) (ci := 3) (v := .ref (q3 8)) (C := RX3) (T := TX3) (N := 9) hx hb hts hiX3 hown hK hP 1 rfl rfl 6 (by decide) (hts (.fieldLink RX4 168 "Payoutnet$Shops" "balance" "[I") (List.mem_of_getElem? (i := 9) rfl)) (fun _ h9 => h9) rfl dX4_fail_80 ?_
      refine lv_iload_n hx hb dX4_fail_83 rfl (lv_at hl 1 rfl) ?_
      refine y_ild hx hb hK hP 8 0 rfl rfl (t := nn (a 20 (nn x))) (by omega) (Nat.le_of_ble_eq_true rfl) dX4_fail_84 ?_
      refine W.widen (k := 2) (n := 12) (Nat.le_of_ble_eq_true rfl) (Nat.le_of_ble_eq_true rfl) ?_
      have hP9 := hP
      have hD9 := hD
      have hK9 := hK
      refine vx_ret ?_
      exact W.iret (v := ((sFail a (nn x)) 7) (nn (a 20 (nn x)))) hx hb hr (fun t ht hW => ⟨⟨((sFail a (nn x)) 7) (nn (a 20 (nn x))), (), rfl, ⟨e0, rfl⟩, atC_in hC3 (atW_end hP9 hD9 hK9 ht hW)⟩, hS.F ht⟩) hS.2.2 dX4_fail_85
    · have e2 : kFail a x = 2 := by unfold kFail; rw [if_pos hwsel, if_neg c_2]
      obtain ⟨sa, hstr⟩ := hV.2.2.2 (186, "it has failed") (by decide +kernel)
      have hat : ∀ w ∈ vx_atS RX4 60 exS exN, w.before _ s = true := vx_hat (B := vB) (fun w h => hts w (List.mem_cons_of_mem _ (List.mem_append_left _ (List.mem_append_right _ h)))) (by decide +kernel) (okV_use hV)
      exact vx_throwS (cls := exS) (text := "it has failed") (names := exN) (A := A) (sa := sa) hx hb hst hown (by decide +kernel) (by decide +kernel) (hts (.classLink RX4 56 "java/lang/IllegalStateException") (List.mem_of_getElem? (i := 1) rfl)) (hts (.initialized "java/lang/IllegalStateException") (List.mem_of_getElem? (i := 2) rfl)) hstr hat (by decide +kernel) hV.1 hV.2.1 hS (hl.1.trans hml.symm) dX4_fail_17 dX4_fail_20 dX4_fail_21 dX4_fail_23 dX4_fail_26 (fun x hx9 => (htab x hx9).elim) (Nat.le_of_ble_eq_true rfl) (Nat.le_of_ble_eq_true rfl) (Nat.le_of_ble_eq_true rfl) (Nat.le_of_ble_eq_true rfl) hlocks (fun t hvm9 hz9 hk9 => ⟨(), (by rw [e2]; decide), ⟨(by rw [e2]; exact rfl), atC_in hC1 (atW_thr hP hD hK hvm9 hk9)⟩, y_F_thr hS hz9 hk9⟩) hS.2.2 (Nat.le_of_ble_eq_true rfl) (Nat.le_of_ble_eq_true rfl)
theorem pass_ok {a : yA} (hB : okB a) (hZ : okZ a) : ∀ n, (∀ i, i < n → dayOK (sPass a i)) → okB (sPass a n) ∧ okZ (sPass a n) ∧ nn (a 0 4) ≤ nn (sPass a n 0 4) := by
  intro n
  induction n with
  | zero => exact fun _ => ⟨hB, hZ, Nat.le_refl _⟩
  | succ n ih =>
    intro hd
    obtain ⟨h1, h2, h3⟩ := ih (fun i hi => hd i (by omega))
    obtain ⟨h4, h5⟩ := okB_day h1 (hd n (by omega))
    exact ⟨h4, okZ_day h2 h1 (hd n (by omega)).1, Nat.le_trans h3 h5⟩
theorem pass_up {a : yA} (hB : okB a) (hZ : okZ a) {n : Nat} (hd : ∀ i, i < n → dayOK (sPass a i)) : ∀ i, i ≤ n → nn (sPass a i 0 4) ≤ nn (sPass a n 0 4) := by
  induction n with
  | zero => intro i hi; rw [show i = 0 by omega]; exact Nat.le_refl _
  | succ n ih =>
    intro i hi
    by_cases e : i = n + 1
    · rw [e]; exact Nat.le_refl _
    · exact Nat.le_trans (ih (fun j hj => hd j (by omega)) i (by omega)) (okB_day (pass_ok hB hZ n (fun j hj => hd j (by omega))).1 (hd n (by omega))).2
set_option maxHeartbeats 4000000 in
set_option maxRecDepth 100000 in
theorem c_X4_pass (l : Launch) (dC : Nat → ClassId) (dI : Nat → Nat → Nat) (cI cF : ClassId) (h0 : Nat) (q : Nat → Nat) (sz : Nat) (a : yA) (jc js jv : Nat → Int32) (k : Nat) (hst : l.stackTraces = false)  (hC : okC a jc js jv k) (hB : okB a) (hZ : okZ a) (d : Int32) (hday : kPass a d = 0 → ∀ i, i < nn d → dayOK (sPass a i)) : vx_Met l yX4_pass wsX4_pass ({ frames := 7, cells := 2 + mcP a (sPass a (nn d)), slots := 12 + mcP a (sPass a (nn d)) * 6, locals := 148 } : Room) (va_Pc [.ref h0, .int d] (pcV dC dI [(cI, .int), (cF, .float)] (WC cI cF h0 q a jc js jv k (capOf (nn (a 0 4)))) sz)) (va_Qi (fun (r : Int32) (_ : Unit) => kPass a d = 0 ∧ r = sPass a (nn d) 0 4 - a 0 4) (fun _ t => atC dC dI cI cF (va_A (WC cI cF h0 q a jc js jv k (capOf (nn (a 0 4)))) sz) h0 (sPass a (nn d)) t) (va_A (WC cI cF h0 q a jc js jv k (capOf (nn (a 0 4)))) sz)) (vx_X (fun _ : Unit => kPass a d ≠ 0) (fun E _ t => E = eAS (kPass a d) ∧ atC dC dI cI cF (va_A (WC cI cF h0 q a jc js jv k (capOf (nn (a 0 4)))) sz) h0 a t) (va_A (WC cI cF h0 q a jc js jv k (capOf (nn (a 0 4)))) sz)) (2 + mcP a (sPass a (nn d))) (12 + mcP a (sPass a (nn d)) * 6) (va_A (WC cI cF h0 q a jc js jv k (capOf (nn (a 0 4)))) sz) := by
  refine vx_ofW (cc := cX4_pass) (maxL := 4) (ret := (some .int)) (by decide) rfl ?_
  intro p e s m args below meth c s₁ B hml htab hv
  obtain ⟨rfl, ⟨hsz, hP, hK, hD0⟩, hV⟩ := hv
  have hx := B.exec
  have hb := B.bytes
  have hr := B.returns
  have hts := atoms_spec (ws := wsX4_pass) B.pre
  have hown : s.vm.findClass RX4 = some m.cls := findClass_of_methodNamed B.named
  have hlocks := B.notSynchronized
  subst hsz
  have hD := hD0.self (sz := s.heap.size)
  generalize hAe : va_A [(h0, .inr (4, [.ref (q 1), .ref (q 10), .ref (q 18), .ref (q 22), .ref (q 26), .int (a 0 2), .int (a 0 1), .int (a 0 5), .int (a 0 6), .int (a 0 7), .int (a 0 8)])), (q 1, .inr (3, [.ref (q 2), .ref (q 3), .ref (q 4), .ref (q 5), .ref (q 6), .ref (q 7), .ref (q 8), .ref (q 9), .int (a 0 0)])), (q 2, .inl (cI, 8, .inl (a 1))), (q 3, .inl (cI, 8, .inl (a 2))), (q 4, .inl (cI, 8, .inl (a 3))), (q 5, .inl (cI, 8, .inl (a 4))), (q 6, .inl (cI, 8, .inl (a 5))), (q 7, .inl (cI, 8, .inl (a 6))), (q 8, .inl (cI, 8, .inl (a 7))), (q 9, .inl (cI, 8, .inl (a 8))), (q 10, .inr (2, [.ref (q 11), .ref (q 12), .ref (q 13), .ref (q 14), .ref (q 15), .ref (q 16), .ref (q 17), .int (a 0 3)])), (q 11, .inl (cI, 100, .inl (a 10))), (q 12, .inl (cF, 100, .inr (.inr (.inl (fun j => shF (a 13 j)))))), (q 13, .inl (cI, 100, .inl (a 14))), (q 14, .inl (cI, 100, .inl (fun j => a 11 j - a 12 j))), (q 15, .inl (cI, 100, .inl (fun j => a 15 j - a 16 j))), (q 16, .inl (cI, 100, .inl (a 17))), (q 17, .inl (cI, 100, .inl (a 18))), (q 18, .inr (1, [.ref (q 19), .ref (q 20), .ref (q 21), .int (a 0 4)])), (q 19, .inl (cI, capOf (nn (a 0 4)), .inl (a 20))), (q 20, .inl (cI, capOf (nn (a 0 4)), .inl (a 19))), (q 21, .inl (cI, capOf (nn (a 0 4)), .inl (a 21))), (q 22, .inr (0, [.ref (q 23), .ref (q 24), .ref (q 25), .int (nI k)])), (q 23, .inl (cI, 8, .inl (jc))), (q 24, .inl (cI, 256, .inl (js))), (q 25, .inl (cI, 256, .inl (jv))), (q 26, .inl (cF, 4, .inr (.inr (.inl (fun j => shF (a 9 j))))))] s.heap.size = A at hD hV ⊢
  have hA : ∀ q : Nat, s.heap.size ≤ q → A q := fun q h => by rw [← hAe]; exact Or.inr h
  have hS : va_S A s.heap s.heap [] := va_S.rf
  have hl := lv_entry ([.ref h0, .int d]) (n := 4) (Nat.le_of_ble_eq_true rfl)
  rw [lg_entry_eq]
  generalize (lg_sl ([.ref h0, .int d]) ++ List.replicate (4 - (lg_sl ([.ref h0, .int d])).length) Slot.unset).toArray = ls at hl ⊢
  have hl : lv_has ls 4 [(0, .ref h0), (1, .int d)] := hl
  have hiX4 : ∀ w ∈ wsX40, w ∈ wsX4_pass := fun w h => List.mem_cons_of_mem _ (List.mem_append_left _ (List.mem_append_left _ (List.mem_append_left _ (List.mem_append_left _ (List.mem_append_left _ (List.mem_append_left _ (List.mem_append_right _ h)))))))
  have hiX1 : ∀ w ∈ wsX10, w ∈ wsX4_pass := fun w h => List.mem_cons_of_mem _ (List.mem_append_left _ (List.mem_append_left _ (List.mem_append_left _ (List.mem_append_left _ (List.mem_append_left _ (List.mem_append_right _ h))))))
  have hP : va_P (dC, dI) vwCl [(h0, .inr (4, [.ref (q 1), .ref (q 10), .ref (q 18), .ref (q 22), .ref (q 26), .int (a 0 2), .int (a 0 1), .int (a 0 5), .int (a 0 6), .int (a 0 7), .int (a 0 8)])), (q 1, .inr (3, [.ref (q 2), .ref (q 3), .ref (q 4), .ref (q 5), .ref (q 6), .ref (q 7), .ref (q 8), .ref (q 9), .int (a 0 0)])), (q 2, .inl (cI, 8, .inl (a 1))), (q 3, .inl (cI, 8, .inl (a 2))), (q 4, .inl (cI, 8, .inl (a 3))), (q 5, .inl (cI, 8, .inl (a 4))), (q 6, .inl (cI, 8, .inl (a 5))), (q 7, .inl (cI, 8, .inl (a 6))), (q 8, .inl (cI, 8, .inl (a 7))), (q 9, .inl (cI, 8, .inl (a 8))), (q 10, .inr (2, [.ref (q 11), .ref (q 12), .ref (q 13), .ref (q 14), .ref (q 15), .ref (q 16), .ref (q 17), .int (a 0 3)])), (q 11, .inl (cI, 100, .inl (a 10))), (q 12, .inl (cF, 100, .inr (.inr (.inl (fun j => shF (a 13 j)))))), (q 13, .inl (cI, 100, .inl (a 14))), (q 14, .inl (cI, 100, .inl (fun j => a 11 j - a 12 j))), (q 15, .inl (cI, 100, .inl (fun j => a 15 j - a 16 j))), (q 16, .inl (cI, 100, .inl (a 17))), (q 17, .inl (cI, 100, .inl (a 18))), (q 18, .inr (1, [.ref (q 19), .ref (q 20), .ref (q 21), .int (a 0 4)])), (q 19, .inl (cI, capOf (nn (a 0 4)), .inl (a 20))), (q 20, .inl (cI, capOf (nn (a 0 4)), .inl (a 19))), (q 21, .inl (cI, capOf (nn (a 0 4)), .inl (a 21))), (q 22, .inr (0, [.ref (q 23), .ref (q 24), .ref (q 25), .int (nI k)])), (q 23, .inl (cI, 8, .inl (jc))), (q 24, .inl (cI, 256, .inl (js))), (q 25, .inl (cI, 256, .inl (jv))), (q 26, .inl (cF, 4, .inr (.inr (.inl (fun j => shF (a 9 j))))))] s.heap := hP
  refine y_enter (A := A) hP (fun H hP hS => ?_)
  have hBk := hB
  refine lv_iload_n hx hb dX4_pass_0 rfl (lv_at hl 1 rfl) ?_
  refine lv_iconst (v := 1) hx hb dX4_pass_1 (by decide) ?_
  refine lv_bipush (v := 100) hx hb dX4_pass_2 (by decide) ?_
  have e1 : ¬ bw d 1 100 → kPass a d = 1 := fun h9 => if_neg h9
  have hFc := y_freeE hS hA
  have hK0 := hK.sub (tys' := []) [] rfl
  refine vx_callv (vx_runS (As := [.int d, .int 1, .int 100]) (rest := []) ⟨hx, hb, hml, hown, hts⟩ (c_X4_requireBetween l dC dI H.size hst d 1 100) (va_cwS 3 hts gX4_pass_X4_requireBetween rfl rfl rfl (by decide +kernel) ⟨Nat.le_of_ble_eq_true rfl, Nat.le_of_ble_eq_true rfl⟩) ⟨pcV_blind, fun U hU hW => pcV_pre va_P_nil (va_D_nil (A := A)) hK0 hV hS hFc hU hW⟩ rfl rfl hl.1 rfl (lv_room (Nat.le_of_ble_eq_true rfl)) dX4_pass_4 ⟨(by show _ ≤ 2 + mcP a (sPass a (nn d)); omega), (by show _ ≤ 12 + mcP a (sPass a (nn d)) * 6; omega)⟩) hS (fun q _ h => hFc q h) hFc (fun q _ h => hFc q h) (fun E ce q9 u t H1 locs ht hvm hw hBx hz1 hk1 hS hce hcv hcl => ?_) (fun u t H1 locs ht hvm hw hB1 hz1 hk1 hS => ?_)
  · have hE := hBx.1
    have hPx := y_keptE hP hk1
    exact vx_out (fun x hx9 => (htab x hx9).elim) hlocks hce hcv hcl (fun t9 ht9 hvm9 => ⟨(), (by rw [e1 hw]; decide), ⟨(by rw [e1 hw]; exact hE), atC_in hC (⟨by rw [ht9]; exact hPx, va_K.moved hvm9 hK, hD⟩)⟩, hS.F ht9⟩) hS.2.2 (by show _ ≤ 2 + mcP a (sPass a (nn d)); omega) (by show _ ≤ 12 + mcP a (sPass a (nn d)) * 6; omega)
  · have hP := y_keptE hP hk1
    generalize H1 = H at hP hS ⊢
    have hw1 := hw
    have hwd := hw1
    have hd1 : d = nI (nn d) ∧ nn d ≤ 100 := nat_le (b := 100) (by decide) (Int32.le_trans (by decide) hwd.1) hwd.2
    refine lv_aload_n hx hb dX4_pass_7 rfl (lv_at hl 0 rfl) ?_
    refine va_get (D := (dC, dI)) (ci := 4) (v := .int (a 0 1)) (C := RX4) (T := TX4) (N := 11) hx hb hts hiX4 hown hK hP 0 rfl rfl 6 (by decide) (hts (.fieldLink RX4 171 "Payoutnet" "today" "I") (List.mem_of_getElem? (i := 3) rfl)) (fun _ h9 => h9) rfl dX4_pass_8 ?_
    refine lv_iload_n hx hb dX4_pass_11 rfl (lv_at hl 1 rfl) ?_
    refine lv_iadd hx hb dX4_pass_12 ?_
    refine lv_sipush (v := 5000) hx hb dX4_pass_13 (by decide) ?_
    refine lv_icmp_le (tgt := 29) hx hb dX4_pass_16 (by decide) (fun c_2 => ?_) (fun c_2 => ?_)
    · have e0 : kPass a d = 0 := by unfold kPass; rw [if_pos hwd, if_pos c_2]
      have hdy := hday e0
      refine lv_aload_n hx hb dX4_pass_29 rfl (lv_at hl 0 rfl) ?_
      refine va_get (D := (dC, dI)) (ci := 4) (v := .ref (q 18)) (C := RX4) (T := TX4) (N := 11) hx hb hts hiX4 hown hK hP 0 rfl rfl 2 (by decide) (hts (.fieldLink RX4 26 "Payoutnet" "paidOut" "LPayoutnet$Payouts;") (List.mem_of_getElem? (i := 4) rfl)) (fun _ h9 => h9) rfl dX4_pass_30 ?_
      refine va_get (D := (dC, dI)) (ci := 1) (v := .int (a 0 4)) (C := RX1) (T := TX1) (N := 4) hx hb hts hiX1 hown hK hP 18 rfl rfl 3 (by decide) (hts (.fieldLink RX4 176 "Payoutnet$Payouts" "count" "I") (List.mem_of_getElem? (i := 5) rfl)) (fun _ h9 => h9) rfl dX4_pass_33 ?_
      refine lv_istore_n (lv' := [(2, .int (a 0 4)), (0, .ref h0), (1, .int d)]) hx hb dX4_pass_36 rfl hl (by decide) rfl (fun ls hl => ?_)
      refine lv_iconst (v := 0) hx hb dX4_pass_37 (by decide) ?_
      refine lv_istore_n (lv' := [(3, .int 0), (2, .int (a 0 4)), (0, .ref h0), (1, .int d)]) hx hb dX4_pass_38 rfl hl (by decide) rfl (fun ls hl => ?_)
      have hm0 : mcP a (sPass a 0) = 0 := by unfold mcP; exact Nat.sub_self _
      refine y_loopC (fun k9 H locs ls cells slots => ∃ (i : Nat) (q0 : Nat → Nat) (jc0 : Nat → Int32) (js0 : Nat → Int32) (jv0 : Nat → Int32) (k0 : Nat), cells = 1 + mcP a (sPass a i) ∧ slots = 6 + mcP a (sPass a i) * 6 ∧ k9 + i = nn d ∧ okC (sPass a i) jc0 js0 jv0 k0 ∧ va_P (dC, dI) vwCl [(h0, .inr (4, [.ref (q0 1), .ref (q0 10), .ref (q0 18), .ref (q0 22), .ref (q0 26), .int ((sPass a i) 0 2), .int ((sPass a i) 0 1), .int ((sPass a i) 0 5), .int ((sPass a i) 0 6), .int ((sPass a i) 0 7), .int ((sPass a i) 0 8)])), (q0 1, .inr (3, [.ref (q0 2), .ref (q0 3), .ref (q0 4), .ref (q0 5), .ref (q0 6), .ref (q0 7), .ref (q0 8), .ref (q0 9), .int ((sPass a i) 0 0)])), (q0 2, .inl (cI, 8, .inl ((sPass a i) 1))), (q0 3, .inl (cI, 8, .inl ((sPass a i) 2))), (q0 4, .inl (cI, 8, .inl ((sPass a i) 3))), (q0 5, .inl (cI, 8, .inl ((sPass a i) 4))), (q0 6, .inl (cI, 8, .inl ((sPass a i) 5))), (q0 7, .inl (cI, 8, .inl ((sPass a i) 6))), (q0 8, .inl (cI, 8, .inl ((sPass a i) 7))), (q0 9, .inl (cI, 8, .inl ((sPass a i) 8))), (q0 10, .inr (2, [.ref (q0 11), .ref (q0 12), .ref (q0 13), .ref (q0 14), .ref (q0 15), .ref (q0 16), .ref (q0 17), .int ((sPass a i) 0 3)])), (q0 11, .inl (cI, 100, .inl ((sPass a i) 10))), (q0 12, .inl (cF, 100, .inr (.inr (.inl (fun j => shF ((sPass a i) 13 j)))))), (q0 13, .inl (cI, 100, .inl ((sPass a i) 14))), (q0 14, .inl (cI, 100, .inl (fun j => (sPass a i) 11 j - (sPass a i) 12 j))), (q0 15, .inl (cI, 100, .inl (fun j => (sPass a i) 15 j - (sPass a i) 16 j))), (q0 16, .inl (cI, 100, .inl ((sPass a i) 17))), (q0 17, .inl (cI, 100, .inl ((sPass a i) 18))), (q0 18, .inr (1, [.ref (q0 19), .ref (q0 20), .ref (q0 21), .int ((sPass a i) 0 4)])), (q0 19, .inl (cI, capOf (nn ((sPass a i) 0 4)), .inl ((sPass a i) 20))), (q0 20, .inl (cI, capOf (nn ((sPass a i) 0 4)), .inl ((sPass a i) 19))), (q0 21, .inl (cI, capOf (nn ((sPass a i) 0 4)), .inl ((sPass a i) 21))), (q0 22, .inr (0, [.ref (q0 23), .ref (q0 24), .ref (q0 25), .int (nI k0)])), (q0 23, .inl (cI, 8, .inl (jc0))), (q0 24, .inl (cI, 256, .inl (js0))), (q0 25, .inl (cI, 256, .inl (jv0))), (q0 26, .inl (cF, 4, .inr (.inr (.inl (fun j => shF ((sPass a i) 9 j))))))] H ∧ va_D A [(h0, .inr (4, [.ref (q0 1), .ref (q0 10), .ref (q0 18), .ref (q0 22), .ref (q0 26), .int ((sPass a i) 0 2), .int ((sPass a i) 0 1), .int ((sPass a i) 0 5), .int ((sPass a i) 0 6), .int ((sPass a i) 0 7), .int ((sPass a i) 0 8)])), (q0 1, .inr (3, [.ref (q0 2), .ref (q0 3), .ref (q0 4), .ref (q0 5), .ref (q0 6), .ref (q0 7), .ref (q0 8), .ref (q0 9), .int ((sPass a i) 0 0)])), (q0 2, .inl (cI, 8, .inl ((sPass a i) 1))), (q0 3, .inl (cI, 8, .inl ((sPass a i) 2))), (q0 4, .inl (cI, 8, .inl ((sPass a i) 3))), (q0 5, .inl (cI, 8, .inl ((sPass a i) 4))), (q0 6, .inl (cI, 8, .inl ((sPass a i) 5))), (q0 7, .inl (cI, 8, .inl ((sPass a i) 6))), (q0 8, .inl (cI, 8, .inl ((sPass a i) 7))), (q0 9, .inl (cI, 8, .inl ((sPass a i) 8))), (q0 10, .inr (2, [.ref (q0 11), .ref (q0 12), .ref (q0 13), .ref (q0 14), .ref (q0 15), .ref (q0 16), .ref (q0 17), .int ((sPass a i) 0 3)])), (q0 11, .inl (cI, 100, .inl ((sPass a i) 10))), (q0 12, .inl (cF, 100, .inr (.inr (.inl (fun j => shF ((sPass a i) 13 j)))))), (q0 13, .inl (cI, 100, .inl ((sPass a i) 14))), (q0 14, .inl (cI, 100, .inl (fun j => (sPass a i) 11 j - (sPass a i) 12 j))), (q0 15, .inl (cI, 100, .inl (fun j => (sPass a i) 15 j - (sPass a i) 16 j))), (q0 16, .inl (cI, 100, .inl ((sPass a i) 17))), (q0 17, .inl (cI, 100, .inl ((sPass a i) 18))), (q0 18, .inr (1, [.ref (q0 19), .ref (q0 20), .ref (q0 21), .int ((sPass a i) 0 4)])), (q0 19, .inl (cI, capOf (nn ((sPass a i) 0 4)), .inl ((sPass a i) 20))), (q0 20, .inl (cI, capOf (nn ((sPass a i) 0 4)), .inl ((sPass a i) 19))), (q0 21, .inl (cI, capOf (nn ((sPass a i) 0 4)), .inl ((sPass a i) 21))), (q0 22, .inr (0, [.ref (q0 23), .ref (q0 24), .ref (q0 25), .int (nI k0)])), (q0 23, .inl (cI, 8, .inl (jc0))), (q0 24, .inl (cI, 256, .inl (js0))), (q0 25, .inl (cI, 256, .inl (jv0))), (q0 26, .inl (cF, 4, .inr (.inr (.inl (fun j => shF ((sPass a i) 9 j))))))] ∧ va_S A s.heap H locs ∧ lv_has ls 4 [(3, .int (nI i)), (2, .int (a 0 4)), (1, .int d), (0, .ref h0)]) (nn d) ⟨0, q, jc, js, jv, k, (by rw [hm0]), (by rw [hm0]), by omega, hC, hP, hD, hS, lv_sub hl [0, 1, 3, 2] rfl⟩ (fun k9 H locs ls cells slots hI ih => ?_)
      obtain ⟨i, q0, jc0, js0, jv0, k0, hf0, hf1, hf2, hf3, hP, hD, hS, hl⟩ := hI
      obtain ⟨hB3, hZ3, hm3⟩ := pass_ok hB hZ i (fun j hj => hdy j (by omega))
      refine lv_iload_n hx hb dX4_pass_39 rfl (lv_at hl 0 rfl) ?_
      refine lv_iload_n hx hb dX4_pass_40 rfl (lv_at hl 2 rfl) ?_
      refine y_topi (y := nI (nn d)) hd1.1 ?_
      refine lv_icmp_ge (tgt := 54) hx hb dX4_pass_41 (by decide) (fun c_3 => ?_) (fun c_3 => ?_)
      · have hik : i = nn d := by have := (nI_leI (a := nn d) (b := i) (by omega) (by omega)).mp c_3; omega
        rw [hik] at hP hD hf0 hf1 hf3
        have hP : va_P (dC, dI) vwCl (WC cI cF h0 q0 (sPass a (nn d)) jc0 js0 jv0 k0 (capOf (nn ((sPass a (nn d)) 0 4)))) H := hP
        have hD : va_D A (WC cI cF h0 q0 (sPass a (nn d)) jc0 js0 jv0 k0 (capOf (nn ((sPass a (nn d)) 0 4)))) := hD
        refine lv_aload_n hx hb dX4_pass_54 rfl (lv_at hl 3 rfl) ?_
        refine va_get (D := (dC, dI)) (ci := 4) (v := .ref (q0 18)) (C := RX4) (T := TX4) (N := 11) hx hb hts hiX4 hown hK hP 0 rfl rfl 2 (by decide) (hts (.fieldLink RX4 26 "Payoutnet" "paidOut" "LPayoutnet$Payouts;") (List.mem_of_getElem? (i := 4) rfl)) (fun _ h9 => h9) rfl dX4_pass_55 ?_
        refine va_get (D := (dC, dI)) (ci := 1) (v := .int ((sPass a (nn d)) 0 4)) (C := RX1) (T := TX1) (N := 4) hx hb hts hiX1 hown hK hP 18 rfl rfl 3 (by decide) (hts (.fieldLink RX4 176 "Payoutnet$Payouts" "count" "I") (List.mem_of_getElem? (i := 5) rfl)) (fun _ h9 => h9) rfl dX4_pass_58 ?_
        refine lv_iload_n hx hb dX4_pass_61 rfl (lv_at hl 1 rfl) ?_
        refine lv_isub hx hb dX4_pass_62 ?_
        refine W.widen (k := 2 + mcP a (sPass a (nn d))) (n := 12 + mcP a (sPass a (nn d)) * 6) (by rw [hf0]; omega) (by rw [hf1]; omega) ?_
        have hP9 := hP
        have hD9 := hD
        have hK9 := hK
        refine vx_ret ?_
        exact W.iret (v := ((sPass a (nn d)) 0 4) - (a 0 4)) hx hb hr (fun t ht hW => ⟨⟨((sPass a (nn d)) 0 4) - (a 0 4), (), rfl, ⟨e0, rfl⟩, atC_in hf3 (atW_end hP9 hD9 hK9 ht hW)⟩, hS.F ht⟩) hS.2.2 dX4_pass_63
      · have hik : i < nn d := Nat.lt_of_not_le (fun h => c_3 ((nI_leI (a := nn d) (b := i) (by omega) (by omega)).mpr h))
        have hu1 := (okB_day hB3 (hdy i hik)).2
        have hu2 := pass_up hB hZ hdy (i + 1) hik
        have ha1 := mcP_add (a := a) (b := sPass a i) (d := sPass a (i + 1)) hm3 hu1
        have ha2 := mcP_add (a := a) (b := sPass a (i + 1)) (d := sPass a (nn d)) (Nat.le_trans hm3 hu1) hu2
        refine lv_aload_n hx hb dX4_pass_44 rfl (lv_at hl 3 rfl) ?_
        have hFc := y_free hD hS hA
        refine va_callv (va_runV (As := []) (rest := []) ⟨hx, hb, hml, hown, hts⟩ (c_X4_endDay l dC dI cI cF h0 q0 H.size (sPass a i) jc0 js0 jv0 k0 hf3 hB3 hZ3 (hdy i hik)) (cwV 0 hts gX4_pass_X4_endDay rfl rfl rfl (by decide +kernel) ⟨Nat.le_of_ble_eq_true rfl, Nat.le_of_ble_eq_true rfl⟩) ⟨pcW_blind, va_recv hK hP (ci := 4) (q0 := 0) rfl rfl, fun U hU hW => pcW_pre hP hD hK hU hW⟩ rfl rfl hl.1 rfl (lv_room (Nat.le_of_ble_eq_true rfl)) dX4_pass_45 ⟨(by show cells + mcP (sPass a i) (sPass a (i + 1)) ≤ 2 + mcP a (sPass a (nn d)); omega), (by show slots + mcP (sPass a i) (sPass a (i + 1)) * 6 ≤ 12 + mcP a (sPass a (nn d)) * 6; omega)⟩) hS (fun q _ h => hFc q h) hFc (fun u t H1 locs ht hvm hw hB1 hz1 hk1 hS => ?_)
        obtain ⟨q4, jc4, js4, jv4, k4, hC4, hP, hK1, hD1⟩ := hB1
        rw [ht] at hP
        have hD := hD1.weaken (fun kk qq _ h => hFc qq.1 h)
        generalize H1 = H at hP hS ⊢
        have hC4 : okC (sDay (sPass a i)) jc4 js4 jv4 k4 := hC4
        have hP : va_P (dC, dI) vwCl (WC cI cF h0 q4 (sDay (sPass a i)) jc4 js4 jv4 k4 (capOf (nn ((sDay (sPass a i)) 0 4)))) H := hP
        have hD : va_D A (WC cI cF h0 q4 (sDay (sPass a i)) jc4 js4 jv4 k4 (capOf (nn ((sDay (sPass a i)) 0 4)))) := hD
        refine lv_iinc (v := nI (i + 1)) (lv' := [(3, .int (nI (i + 1))), (2, .int (a 0 4)), (1, .int d), (0, .ref h0)]) hx hb dX4_pass_48 hl (k := 0) rfl (nI_1 i) (by decide) rfl (fun ls hl => ?_)
        refine lv_goto (tgt := 39) hx hb dX4_pass_51 (by decide) ?_
        exact ih (k9 - 1) H locs ls _ _ (by omega) ⟨i + 1, q4, jc4, js4, jv4, k4, (by show cells + mcP (sPass a i) (sPass a (i + 1)) = 1 + mcP a (sPass a (i + 1)); omega), (by show slots + mcP (sPass a i) (sPass a (i + 1)) * 6 = 6 + mcP a (sPass a (i + 1)) * 6; omega), by omega, hC4, hP, hD, hS, lv_sub hl [0, 1, 2, 3] rfl⟩
    · have e2 : kPass a d = 2 := by unfold kPass; rw [if_pos hwd, if_neg c_2]
      obtain ⟨sa, hstr⟩ := hV.2.2.2 (174, "too many days") (by decide +kernel)
      have hat : ∀ w ∈ vx_atS RX4 60 exS exN, w.before _ s = true := vx_hat (B := vB) (fun w h => hts w (List.mem_cons_of_mem _ (List.mem_append_left _ (List.mem_append_right _ h)))) (by decide +kernel) (okV_use hV)
      exact vx_throwS (cls := exS) (text := "too many days") (names := exN) (A := A) (sa := sa) hx hb hst hown (by decide +kernel) (by decide +kernel) (hts (.classLink RX4 56 "java/lang/IllegalStateException") (List.mem_of_getElem? (i := 1) rfl)) (hts (.initialized "java/lang/IllegalStateException") (List.mem_of_getElem? (i := 2) rfl)) hstr hat (by decide +kernel) hV.1 hV.2.1 hS (hl.1.trans hml.symm) dX4_pass_19 dX4_pass_22 dX4_pass_23 dX4_pass_25 dX4_pass_28 (fun x hx9 => (htab x hx9).elim) (Nat.le_of_ble_eq_true rfl) (Nat.le_of_ble_eq_true rfl) (by show _ ≤ 2 + mcP a (sPass a (nn d)); omega) (by show _ ≤ 12 + mcP a (sPass a (nn d)) * 6; omega) hlocks (fun t hvm9 hz9 hk9 => ⟨(), (by rw [e2]; decide), ⟨(by rw [e2]; exact rfl), atC_in hC (atW_thr hP hD hK hvm9 hk9)⟩, y_F_thr hS hz9 hk9⟩) hS.2.2 (by show _ ≤ 2 + mcP a (sPass a (nn d)); omega) (by show _ ≤ 12 + mcP a (sPass a (nn d)) * 6; omega)
