/-- the sums that the journal stands for: what is carried, and the entries on the page -/
def crr (jc js jv : Nat → Int32) : Nat → Nat → Int32
  | 0 => jc
  | k + 1 => upd (crr jc js jv k) (js k).toNatClampNeg (crr jc js jv k (js k).toNatClampNeg + jv k)
def okJ (js : Nat → Int32) (k : Nat) : Prop := ∀ i, i < k → ∃ z, z < 8 ∧ js i = nI z
/-- one seller's sum, entry by entry -/
def crs (jc js jv : Nat → Int32) (x : Nat) : Nat → Int32
  | 0 => jc x
  | k + 1 => if js k = nI x then crs jc js jv x k + jv k else crs jc js jv x k
theorem crs_eq {jc js jv : Nat → Int32} {x : Nat} (hx : x < 8) : ∀ k, okJ js k → crs jc js jv x k = crr jc js jv k x := by
  intro k
  induction k with
  | zero => intro _; rfl
  | succ k ih =>
    intro hj
    have h1 := ih (fun i hi => hj i (by omega))
    obtain ⟨z, hz, ez⟩ := hj k (by omega)
    show (if js k = nI x then crs jc js jv x k + jv k else crs jc js jv x k) = upd (crr jc js jv k) (js k).toNatClampNeg (crr jc js jv k (js k).toNatClampNeg + jv k) x
    rw [ez, nI_clamp (by omega), h1]
    by_cases h : z = x
    · subst h
      rw [if_pos rfl]
      simp [upd]
    · rw [if_neg (fun q => h ((nI_eq (by omega) (by omega)).mp q))]
      simp [upd, Ne.symm h]
theorem crr_congr {jc js jv js' jv' : Nat → Int32} : ∀ k, (∀ i, i < k → js' i = js i) → (∀ i, i < k → jv' i = jv i) → crr jc js' jv' k = crr jc js jv k := by
  intro k
  induction k with
  | zero => intro _ _; rfl
  | succ k ih =>
    intro h1 h2
    show upd _ _ _ = upd _ _ _
    rw [ih (fun i hi => h1 i (by omega)) (fun i hi => h2 i (by omega)), h1 k (by omega), h2 k (by omega)]
theorem crr_put {jc js jv : Nat → Int32} {k z : Nat} (hz : z < 8) (c : Int32) : crr jc (upd js k (nI z)) (upd jv k c) (k + 1) = upd (crr jc js jv k) z (crr jc js jv k z + c) := by
  show upd (crr jc (upd js k (nI z)) (upd jv k c) k) (upd js k (nI z) k).toNatClampNeg (crr jc (upd js k (nI z)) (upd jv k c) k (upd js k (nI z) k).toNatClampNeg + upd jv k c k) = _
  rw [crr_congr k (js := js) (jv := jv) (fun i hi => by simp [upd, Nat.ne_of_lt hi]) (fun i hi => by simp [upd, Nat.ne_of_lt hi])]
  rw [show upd js k (nI z) k = nI z by simp [upd], show upd jv k c k = c by simp [upd], nI_clamp (by omega)]
theorem okJ_put {js : Nat → Int32} {k z : Nat} (hj : okJ js k) (hz : z < 8) : okJ (upd js k (nI z)) (k + 1) := by
  intro i hi
  by_cases h : i = k
  · exact ⟨z, hz, by simp [upd, h]⟩
  · obtain ⟨y, hy, e⟩ := hj i (by omega)
    exact ⟨y, hy, by simp [upd, h, e]⟩
theorem upd_add0 (f : Nat → Int32) (z : Nat) : upd f z (f z + 0) = f := by
  funext j
  by_cases h : j = z
  · simp [upd, h]
  · simp [upd, h]
set_option maxHeartbeats 4000000 in
set_option maxRecDepth 100000 in
theorem c_X0_carryForward (l : Launch) (dC : Nat → ClassId) (dI : Nat → Nat → Nat) (cI : ClassId) (h0 qc qs qv sz : Nat) (jc js jv : Nat → Int32) (k : Nat) (hk : k ≤ 256) (hj : okJ js k) : Met l yX0_carryForward wsX0_carryForward ({ frames := 0, cells := 0, slots := 0, locals := 0 } : Room) (va_Pc [.ref h0] (pcW dC dI [(cI, .int)] [(h0, .inr (0, [.ref qc, .ref qs, .ref qv, .int (nI k)])), (qc, .inl (cI, 8, .inl (jc))), (qs, .inl (cI, 256, .inl (js))), (qv, .inl (cI, 256, .inl (jv)))] sz)) (va_Qv (fun _ : Unit => True) (fun _ t => atW dC dI [(cI, .int)] (va_A [(h0, .inr (0, [.ref qc, .ref qs, .ref qv, .int (nI k)])), (qc, .inl (cI, 8, .inl (jc))), (qs, .inl (cI, 256, .inl (js))), (qv, .inl (cI, 256, .inl (jv)))] sz) [(h0, .inr (0, [.ref qc, .ref qs, .ref qv, .int 0])), (qc, .inl (cI, 8, .inl (crr jc js jv k))), (qs, .inl (cI, 256, .inl (js))), (qv, .inl (cI, 256, .inl (jv)))] t) (va_A [(h0, .inr (0, [.ref qc, .ref qs, .ref qv, .int (nI k)])), (qc, .inl (cI, 8, .inl (jc))), (qs, .inl (cI, 256, .inl (js))), (qv, .inl (cI, 256, .inl (jv)))] sz)) 0 0 (va_A [(h0, .inr (0, [.ref qc, .ref qs, .ref qv, .int (nI k)])), (qc, .inl (cI, 8, .inl (jc))), (qs, .inl (cI, 256, .inl (js))), (qv, .inl (cI, 256, .inl (jv)))] sz) := by
  refine Met.ofW (cc := cX0_carryForward) (maxL := 2) (ret := none) (by decide) rfl ?_
  intro p e s m args below meth c s₁ B hml hv
  obtain ⟨rfl, hsz, hP, hK, hD0⟩ := hv
  have hx := B.exec
  have hb := B.bytes
  have hr := B.returns
  have hts := atoms_spec (ws := wsX0_carryForward) B.pre
  have hown : s.vm.findClass RX0 = some m.cls := findClass_of_methodNamed B.named
  have hlocks := B.notSynchronized
  subst hsz
  have hD := hD0.self (sz := s.heap.size)
  generalize hAe : va_A [(h0, .inr (0, [.ref qc, .ref qs, .ref qv, .int (nI k)])), (qc, .inl (cI, 8, .inl (jc))), (qs, .inl (cI, 256, .inl (js))), (qv, .inl (cI, 256, .inl (jv)))] s.heap.size = A at hD ⊢
  have hA : ∀ q : Nat, s.heap.size ≤ q → A q := fun q h => by rw [← hAe]; exact Or.inr h
  have hS : va_S A s.heap s.heap [] := va_S.rf
  have hl := lv_entry ([.ref h0]) (n := 2) (Nat.le_of_ble_eq_true rfl)
  rw [lg_entry_eq]
  generalize (lg_sl ([.ref h0]) ++ List.replicate (2 - (lg_sl ([.ref h0])).length) Slot.unset).toArray = ls at hl ⊢
  have hl : lv_has ls 2 [(0, .ref h0)] := hl
  have hiX0 : ∀ w ∈ wsX00, w ∈ wsX0_carryForward := fun w h => List.mem_cons_of_mem _ (List.mem_append_right _ h)
  have hP : va_P (dC, dI) vwCl [(h0, .inr (0, [.ref qc, .ref qs, .ref qv, .int (nI k)])), (qc, .inl (cI, 8, .inl (jc))), (qs, .inl (cI, 256, .inl (js))), (qv, .inl (cI, 256, .inl (jv)))] s.heap := hP
  refine y_enter (A := A) hP (fun H hP hS => ?_)
  refine lv_iconst (v := 0) hx hb dX0_carryForward_0 (by decide) ?_
  refine lv_istore_n (lv' := [(1, .int 0), (0, .ref h0)]) hx hb dX0_carryForward_1 rfl hl (by decide) rfl (fun ls hl => ?_)
  refine y_loop (fun k9 H locs ls => ∃ (i : Nat), k9 + i = k ∧ va_P (dC, dI) vwCl [(h0, .inr (0, [.ref qc, .ref qs, .ref qv, .int (nI k)])), (qc, .inl (cI, 8, .inl (crr jc js jv i))), (qs, .inl (cI, 256, .inl (js))), (qv, .inl (cI, 256, .inl (jv)))] H ∧ va_D A [(h0, .inr (0, [.ref qc, .ref qs, .ref qv, .int (nI k)])), (qc, .inl (cI, 8, .inl (crr jc js jv i))), (qs, .inl (cI, 256, .inl (js))), (qv, .inl (cI, 256, .inl (jv)))] ∧ va_S A s.heap H locs ∧ lv_has ls 2 [(1, .int (nI i)), (0, .ref h0)]) (k) ⟨0, by omega, hP, hD, hS, lv_sub hl [0, 1] rfl⟩ (fun k9 H locs ls hI ih => ?_)
  obtain ⟨i, hf0, hP, hD, hS, hl⟩ := hI
  refine lv_iload_n hx hb dX0_carryForward_2 rfl (lv_at hl 0 rfl) ?_
  refine lv_aload_n hx hb dX0_carryForward_3 rfl (lv_at hl 1 rfl) ?_
  refine va_get (D := (dC, dI)) (ci := 0) (v := .int (nI k)) (C := RX0) (T := TX0) (N := 4) hx hb hts hiX0 hown hK hP 0 rfl rfl 3 (by decide) (hts (.fieldLink RX0 21 "Payoutnet$Journal" "count" "I") (List.mem_of_getElem? (i := 1) rfl)) (fun _ h9 => h9) rfl dX0_carryForward_4 ?_
  refine lv_icmp_ge (tgt := 36) hx hb dX0_carryForward_7 (by decide) (fun c_1 => ?_) (fun c_1 => ?_)
  · have hik : i = k := by have := (nI_leI (a := k) (b := i) (by omega) (by omega)).mp c_1; omega
    subst hik
    skip
    refine lv_aload_n hx hb dX0_carryForward_36 rfl (lv_at hl 1 rfl) ?_
    refine lv_iconst (v := 0) hx hb dX0_carryForward_37 (by decide) ?_
    refine va_put (D := (dC, dI)) (ci := 0) (v := .int 0) (ty := .int) (C := RX0) (T := TX0) (N := 4) hx hb hts hiX0 tyX0 tyX0_ok nmX0 hown hK hP hD hS 0 rfl rfl 3 (by decide) (hts (.fieldLink RX0 21 "Payoutnet$Journal" "count" "I") (List.mem_of_getElem? (i := 1) rfl)) (fun _ h9 => h9) rfl (tyX0_ok 3 (by decide)) rfl rfl (Nat.le_of_ble_eq_true rfl) dX0_carryForward_38 (fun H locs hP hD hS => ?_)
    have hP : va_P (dC, dI) vwCl [(h0, .inr (0, [.ref qc, .ref qs, .ref qv, .int 0])), (qc, .inl (cI, 8, .inl (crr jc js jv i))), (qs, .inl (cI, 256, .inl (js))), (qv, .inl (cI, 256, .inl (jv)))] H := hP
    have hD : va_D A [(h0, .inr (0, [.ref qc, .ref qs, .ref qv, .int 0])), (qc, .inl (cI, 8, .inl (crr jc js jv i))), (qs, .inl (cI, 256, .inl (js))), (qv, .inl (cI, 256, .inl (jv)))] := hD
    have hP9 := hP
    have hD9 := hD
    have hK9 := hK
    exact W.vret hx hb hr (fun t ht hW => ⟨⟨(), rfl, trivial, atW_end hP9 hD9 hK9 ht hW⟩, hS.F ht⟩) hS.2.2 dX0_carryForward_41
  · have hik : i < k := Nat.lt_of_not_le (fun h => c_1 ((nI_leI (a := k) (b := i) (by omega) (by omega)).mpr h))
    obtain ⟨z, hz, ez⟩ := hj i hik
    refine lv_aload_n hx hb dX0_carryForward_10 rfl (lv_at hl 1 rfl) ?_
    refine va_get (D := (dC, dI)) (ci := 0) (v := .ref qc) (C := RX0) (T := TX0) (N := 4) hx hb hts hiX0 hown hK hP 0 rfl rfl 0 (by decide) (hts (.fieldLink RX0 9 "Payoutnet$Journal" "carried" "[I") (List.mem_of_getElem? (i := 2) rfl)) (fun _ h9 => h9) rfl dX0_carryForward_11 ?_
    refine lv_aload_n hx hb dX0_carryForward_14 rfl (lv_at hl 1 rfl) ?_
    refine va_get (D := (dC, dI)) (ci := 0) (v := .ref qs) (C := RX0) (T := TX0) (N := 4) hx hb hts hiX0 hown hK hP 0 rfl rfl 1 (by decide) (hts (.fieldLink RX0 15 "Payoutnet$Journal" "seller" "[I") (List.mem_of_getElem? (i := 3) rfl)) (fun _ h9 => h9) rfl dX0_carryForward_15 ?_
    refine lv_iload_n hx hb dX0_carryForward_18 rfl (lv_at hl 0 rfl) ?_
    refine y_ild hx hb hK hP 2 0 rfl rfl (t := i) (by omega) (Nat.le_of_ble_eq_true rfl) dX0_carryForward_19 ?_
    refine y_topi (y := nI z) ez ?_
    refine lv_dup2_11 hx hb dX0_carryForward_20 rfl rfl ?_
    refine y_ild hx hb hK hP 1 0 rfl rfl (t := z) (by omega) (Nat.le_of_ble_eq_true rfl) dX0_carryForward_21 ?_
    refine lv_aload_n hx hb dX0_carryForward_22 rfl (lv_at hl 1 rfl) ?_
    refine va_get (D := (dC, dI)) (ci := 0) (v := .ref qv) (C := RX0) (T := TX0) (N := 4) hx hb hts hiX0 hown hK hP 0 rfl rfl 2 (by decide) (hts (.fieldLink RX0 18 "Payoutnet$Journal" "cents" "[I") (List.mem_of_getElem? (i := 4) rfl)) (fun _ h9 => h9) rfl dX0_carryForward_23 ?_
    refine lv_iload_n hx hb dX0_carryForward_26 rfl (lv_at hl 0 rfl) ?_
    refine y_ild hx hb hK hP 3 0 rfl rfl (t := i) (by omega) (Nat.le_of_ble_eq_true rfl) dX0_carryForward_27 ?_
    refine lv_iadd hx hb dX0_carryForward_28 ?_
    refine y_ist hx hb hK hP hD hS 1 0 rfl rfl (t := z) (by omega) (Nat.le_of_ble_eq_true rfl) dX0_carryForward_29 (fun H locs hP hD hS => ?_)
    have hP : va_P (dC, dI) vwCl [(h0, .inr (0, [.ref qc, .ref qs, .ref qv, .int (nI k)])), (qc, .inl (cI, 8, .inl (upd (crr jc js jv i) z (((crr jc js jv i) z) + (jv i))))), (qs, .inl (cI, 256, .inl (js))), (qv, .inl (cI, 256, .inl (jv)))] H := hP
    have hD : va_D A [(h0, .inr (0, [.ref qc, .ref qs, .ref qv, .int (nI k)])), (qc, .inl (cI, 8, .inl (upd (crr jc js jv i) z (((crr jc js jv i) z) + (jv i))))), (qs, .inl (cI, 256, .inl (js))), (qv, .inl (cI, 256, .inl (jv)))] := hD
    refine lv_iinc (v := nI (i + 1)) (lv' := [(1, .int (nI (i + 1))), (0, .ref h0)]) hx hb dX0_carryForward_30 hl (k := 0) rfl (nI_1 i) (by decide) rfl (fun ls hl => ?_)
    have e9 : upd (crr jc js jv i) z (crr jc js jv i z + jv i) = crr jc js jv (i + 1) := by
      show _ = upd (crr jc js jv i) (js i).toNatClampNeg (crr jc js jv i (js i).toNatClampNeg + jv i)
      rw [ez, nI_clamp (by omega)]
    rw [e9] at hP hD
    refine lv_goto (tgt := 2) hx hb dX0_carryForward_33 (by decide) ?_
    exact ih (k9 - 1) H locs ls (by omega) ⟨i + 1, by omega, hP, hD, hS, lv_sub hl [0, 1] rfl⟩
set_option maxHeartbeats 4000000 in
set_option maxRecDepth 100000 in
theorem c_X0_sumOf (l : Launch) (dC : Nat → ClassId) (dI : Nat → Nat → Nat) (cI : ClassId) (h0 qc qs qv sz : Nat) (jc js jv : Nat → Int32) (k : Nat) (x : Nat) (hk : k ≤ 256) (hj : okJ js k) (hx8 : x < 8) : Met l yX0_sumOf wsX0_sumOf ({ frames := 0, cells := 0, slots := 0, locals := 0 } : Room) (va_Pc [.ref h0, .int (nI x)] (pcW dC dI [(cI, .int)] [(h0, .inr (0, [.ref qc, .ref qs, .ref qv, .int (nI k)])), (qc, .inl (cI, 8, .inl (jc))), (qs, .inl (cI, 256, .inl (js))), (qv, .inl (cI, 256, .inl (jv)))] sz)) (va_Qi (fun (r : Int32) (_ : Unit) => r = crr jc js jv k x) (fun _ t => atW dC dI [(cI, .int)] (va_A [(h0, .inr (0, [.ref qc, .ref qs, .ref qv, .int (nI k)])), (qc, .inl (cI, 8, .inl (jc))), (qs, .inl (cI, 256, .inl (js))), (qv, .inl (cI, 256, .inl (jv)))] sz) [(h0, .inr (0, [.ref qc, .ref qs, .ref qv, .int (nI k)])), (qc, .inl (cI, 8, .inl (jc))), (qs, .inl (cI, 256, .inl (js))), (qv, .inl (cI, 256, .inl (jv)))] t) (va_A [(h0, .inr (0, [.ref qc, .ref qs, .ref qv, .int (nI k)])), (qc, .inl (cI, 8, .inl (jc))), (qs, .inl (cI, 256, .inl (js))), (qv, .inl (cI, 256, .inl (jv)))] sz)) 0 0 (va_A [(h0, .inr (0, [.ref qc, .ref qs, .ref qv, .int (nI k)])), (qc, .inl (cI, 8, .inl (jc))), (qs, .inl (cI, 256, .inl (js))), (qv, .inl (cI, 256, .inl (jv)))] sz) := by
  refine Met.ofW (cc := cX0_sumOf) (maxL := 4) (ret := (some .int)) (by decide) rfl ?_
  intro p e s m args below meth c s₁ B hml hv
  obtain ⟨rfl, hsz, hP, hK, hD0⟩ := hv
  have hx := B.exec
  have hb := B.bytes
  have hr := B.returns
  have hts := atoms_spec (ws := wsX0_sumOf) B.pre
  have hown : s.vm.findClass RX0 = some m.cls := findClass_of_methodNamed B.named
  have hlocks := B.notSynchronized
  subst hsz
  have hD := hD0.self (sz := s.heap.size)
  generalize hAe : va_A [(h0, .inr (0, [.ref qc, .ref qs, .ref qv, .int (nI k)])), (qc, .inl (cI, 8, .inl (jc))), (qs, .inl (cI, 256, .inl (js))), (qv, .inl (cI, 256, .inl (jv)))] s.heap.size = A at hD ⊢
  have hA : ∀ q : Nat, s.heap.size ≤ q → A q := fun q h => by rw [← hAe]; exact Or.inr h
  have hS : va_S A s.heap s.heap [] := va_S.rf
  have hl := lv_entry ([.ref h0, .int (nI x)]) (n := 4) (Nat.le_of_ble_eq_true rfl)
  rw [lg_entry_eq]
  generalize (lg_sl ([.ref h0, .int (nI x)]) ++ List.replicate (4 - (lg_sl ([.ref h0, .int (nI x)])).length) Slot.unset).toArray = ls at hl ⊢
  have hl : lv_has ls 4 [(0, .ref h0), (1, .int (nI x))] := hl
  have hiX0 : ∀ w ∈ wsX00, w ∈ wsX0_sumOf := fun w h => List.mem_cons_of_mem _ (List.mem_append_right _ h)
  have hP : va_P (dC, dI) vwCl [(h0, .inr (0, [.ref qc, .ref qs, .ref qv, .int (nI k)])), (qc, .inl (cI, 8, .inl (jc))), (qs, .inl (cI, 256, .inl (js))), (qv, .inl (cI, 256, .inl (jv)))] s.heap := hP
  refine y_enter (A := A) hP (fun H hP hS => ?_)
  refine lv_aload_n hx hb dX0_sumOf_0 rfl (lv_at hl 0 rfl) ?_
  refine va_get (D := (dC, dI)) (ci := 0) (v := .ref qc) (C := RX0) (T := TX0) (N := 4) hx hb hts hiX0 hown hK hP 0 rfl rfl 0 (by decide) (hts (.fieldLink RX0 9 "Payoutnet$Journal" "carried" "[I") (List.mem_of_getElem? (i := 1) rfl)) (fun _ h9 => h9) rfl dX0_sumOf_1 ?_
  refine lv_iload_n hx hb dX0_sumOf_4 rfl (lv_at hl 1 rfl) ?_
  refine y_ild hx hb hK hP 1 0 rfl rfl (t := x) (by omega) (Nat.le_of_ble_eq_true rfl) dX0_sumOf_5 ?_
  refine lv_istore_n (lv' := [(2, .int (jc x)), (0, .ref h0), (1, .int (nI x))]) hx hb dX0_sumOf_6 rfl hl (by decide) rfl (fun ls hl => ?_)
  refine lv_iconst (v := 0) hx hb dX0_sumOf_7 (by decide) ?_
  refine lv_istore_n (lv' := [(3, .int 0), (2, .int (jc x)), (0, .ref h0), (1, .int (nI x))]) hx hb dX0_sumOf_8 rfl hl (by decide) rfl (fun ls hl => ?_)
  refine y_loop (fun k9 H locs ls => ∃ (i : Nat), k9 + i = k ∧ va_P (dC, dI) vwCl [(h0, .inr (0, [.ref qc, .ref qs, .ref qv, .int (nI k)])), (qc, .inl (cI, 8, .inl (jc))), (qs, .inl (cI, 256, .inl (js))), (qv, .inl (cI, 256, .inl (jv)))] H ∧ va_D A [(h0, .inr (0, [.ref qc, .ref qs, .ref qv, .int (nI k)])), (qc, .inl (cI, 8, .inl (jc))), (qs, .inl (cI, 256, .inl (js))), (qv, .inl (cI, 256, .inl (jv)))] ∧ va_S A s.heap H locs ∧ lv_has ls 4 [(3, .int (nI i)), (2, .int (crs jc js jv x i)), (1, .int (nI x)), (0, .ref h0)]) (k) ⟨0, by omega, hP, hD, hS, lv_sub hl [0, 1, 3, 2] rfl⟩ (fun k9 H locs ls hI ih => ?_)
  obtain ⟨i, hf0, hP, hD, hS, hl⟩ := hI
  refine lv_iload_n hx hb dX0_sumOf_9 rfl (lv_at hl 0 rfl) ?_
  refine lv_aload_n hx hb dX0_sumOf_10 rfl (lv_at hl 3 rfl) ?_
  refine va_get (D := (dC, dI)) (ci := 0) (v := .int (nI k)) (C := RX0) (T := TX0) (N := 4) hx hb hts hiX0 hown hK hP 0 rfl rfl 3 (by decide) (hts (.fieldLink RX0 21 "Payoutnet$Journal" "count" "I") (List.mem_of_getElem? (i := 2) rfl)) (fun _ h9 => h9) rfl dX0_sumOf_11 ?_
  refine lv_icmp_ge (tgt := 42) hx hb dX0_sumOf_14 (by decide) (fun c_1 => ?_) (fun c_1 => ?_)
  · have hik : i = k := by have := (nI_leI (a := k) (b := i) (by omega) (by omega)).mp c_1; omega
    refine lv_iload_n hx hb dX0_sumOf_42 rfl (lv_at hl 1 rfl) ?_
    have hP9 := hP
    have hD9 := hD
    have hK9 := hK
    exact W.iret (v := crs jc js jv x i) hx hb hr (fun t ht hW => ⟨⟨crs jc js jv x i, (), rfl, by rw [hik]; exact crs_eq hx8 k hj, atW_end hP9 hD9 hK9 ht hW⟩, hS.F ht⟩) hS.2.2 dX0_sumOf_43
  · have hik : i < k := Nat.lt_of_not_le (fun h => c_1 ((nI_leI (a := k) (b := i) (by omega) (by omega)).mpr h))
    refine lv_aload_n hx hb dX0_sumOf_17 rfl (lv_at hl 3 rfl) ?_
    refine va_get (D := (dC, dI)) (ci := 0) (v := .ref qs) (C := RX0) (T := TX0) (N := 4) hx hb hts hiX0 hown hK hP 0 rfl rfl 1 (by decide) (hts (.fieldLink RX0 15 "Payoutnet$Journal" "seller" "[I") (List.mem_of_getElem? (i := 3) rfl)) (fun _ h9 => h9) rfl dX0_sumOf_18 ?_
    refine lv_iload_n hx hb dX0_sumOf_21 rfl (lv_at hl 0 rfl) ?_
    refine y_ild hx hb hK hP 2 0 rfl rfl (t := i) (by omega) (Nat.le_of_ble_eq_true rfl) dX0_sumOf_22 ?_
    refine lv_iload_n hx hb dX0_sumOf_23 rfl (lv_at hl 2 rfl) ?_
    refine lv_icmp_ne (tgt := 36) hx hb dX0_sumOf_24 (by decide) (fun c_2 => ?_) (fun c_2 => ?_)
    · have e9 : crs jc js jv x (i + 1) = crs jc js jv x i := if_neg c_2
      rw [← e9] at hl
      refine lv_iinc (v := nI (i + 1)) (lv' := [(3, .int (nI (i + 1))), (2, .int (crs jc js jv x (i + 1))), (1, .int (nI x)), (0, .ref h0)]) hx hb dX0_sumOf_36 hl (k := 0) rfl (nI_1 i) (by decide) rfl (fun ls hl => ?_)
      refine lv_goto (tgt := 9) hx hb dX0_sumOf_39 (by decide) ?_
      exact ih (k9 - 1) H locs ls (by omega) ⟨i + 1, by omega, hP, hD, hS, lv_sub hl [0, 1, 2, 3] rfl⟩
    · have e9 : crs jc js jv x (i + 1) = crs jc js jv x i + jv i := if_pos c_2
      refine lv_iload_n hx hb dX0_sumOf_27 rfl (lv_at hl 1 rfl) ?_
      refine lv_aload_n hx hb dX0_sumOf_28 rfl (lv_at hl 3 rfl) ?_
      refine va_get (D := (dC, dI)) (ci := 0) (v := .ref qv) (C := RX0) (T := TX0) (N := 4) hx hb hts hiX0 hown hK hP 0 rfl rfl 2 (by decide) (hts (.fieldLink RX0 18 "Payoutnet$Journal" "cents" "[I") (List.mem_of_getElem? (i := 4) rfl)) (fun _ h9 => h9) rfl dX0_sumOf_29 ?_
      refine lv_iload_n hx hb dX0_sumOf_32 rfl (lv_at hl 0 rfl) ?_
      refine y_ild hx hb hK hP 3 0 rfl rfl (t := i) (by omega) (Nat.le_of_ble_eq_true rfl) dX0_sumOf_33 ?_
      refine lv_iadd hx hb dX0_sumOf_34 ?_
      refine y_topi (y := crs jc js jv x (i + 1)) e9.symm ?_
      refine lv_istore_n (lv' := [(2, .int (crs jc js jv x (i + 1))), (3, .int (nI i)), (1, .int (nI x)), (0, .ref h0)]) hx hb dX0_sumOf_35 rfl hl (by decide) rfl (fun ls hl => ?_)
      refine lv_iinc (v := nI (i + 1)) (lv' := [(3, .int (nI (i + 1))), (2, .int (crs jc js jv x (i + 1))), (1, .int (nI x)), (0, .ref h0)]) hx hb dX0_sumOf_36 hl (k := 1) rfl (nI_1 i) (by decide) rfl (fun ls hl => ?_)
      refine lv_goto (tgt := 9) hx hb dX0_sumOf_39 (by decide) ?_
      exact ih (k9 - 1) H locs ls (by omega) ⟨i + 1, by omega, hP, hD, hS, lv_sub hl [0, 1, 2, 3] rfl⟩
set_option maxHeartbeats 4000000 in
set_option maxRecDepth 100000 in
theorem c_X0_enter (l : Launch) (dC : Nat → ClassId) (dI : Nat → Nat → Nat) (cI : ClassId) (h0 qc qs qv sz : Nat) (jc js jv : Nat → Int32) (k : Nat) (z : Nat) (cv : Int32) (hk : k ≤ 256) (hj : okJ js k) (hz : z < 8) : Met l yX0_enter wsX0_enter ({ frames := 1, cells := 0, slots := 0, locals := 21 } : Room) (va_Pc [.ref h0, .int (nI z), .int cv] (pcW dC dI [(cI, .int)] [(h0, .inr (0, [.ref qc, .ref qs, .ref qv, .int (nI k)])), (qc, .inl (cI, 8, .inl (jc))), (qs, .inl (cI, 256, .inl (js))), (qv, .inl (cI, 256, .inl (jv)))] sz)) (va_Qv (fun u : (Nat → Int32) × (Nat → Int32) × (Nat → Int32) × Nat => u.2.2.2 ≤ 256 ∧ okJ u.2.1 u.2.2.2 ∧ crr u.1 u.2.1 u.2.2.1 u.2.2.2 = upd (crr jc js jv k) z (crr jc js jv k z + cv)) (fun u t => atW dC dI [(cI, .int)] (va_A [(h0, .inr (0, [.ref qc, .ref qs, .ref qv, .int (nI k)])), (qc, .inl (cI, 8, .inl (jc))), (qs, .inl (cI, 256, .inl (js))), (qv, .inl (cI, 256, .inl (jv)))] sz) [(h0, .inr (0, [.ref qc, .ref qs, .ref qv, .int (nI u.2.2.2)])), (qc, .inl (cI, 8, .inl (u.1))), (qs, .inl (cI, 256, .inl (u.2.1))), (qv, .inl (cI, 256, .inl (u.2.2.1)))] t) (va_A [(h0, .inr (0, [.ref qc, .ref qs, .ref qv, .int (nI k)])), (qc, .inl (cI, 8, .inl (jc))), (qs, .inl (cI, 256, .inl (js))), (qv, .inl (cI, 256, .inl (jv)))] sz)) 0 0 (va_A [(h0, .inr (0, [.ref qc, .ref qs, .ref qv, .int (nI k)])), (qc, .inl (cI, 8, .inl (jc))), (qs, .inl (cI, 256, .inl (js))), (qv, .inl (cI, 256, .inl (jv)))] sz) := by
  refine Met.ofW (cc := cX0_enter) (maxL := 3) (ret := none) (by decide) rfl ?_
  intro p e s m args below meth c s₁ B hml hv
  obtain ⟨rfl, hsz, hP, hK, hD0⟩ := hv
  have hx := B.exec
  have hb := B.bytes
  have hr := B.returns
  have hts := atoms_spec (ws := wsX0_enter) B.pre
  have hown : s.vm.findClass RX0 = some m.cls := findClass_of_methodNamed B.named
  have hlocks := B.notSynchronized
  subst hsz
  have hD := hD0.self (sz := s.heap.size)
  generalize hAe : va_A [(h0, .inr (0, [.ref qc, .ref qs, .ref qv, .int (nI k)])), (qc, .inl (cI, 8, .inl (jc))), (qs, .inl (cI, 256, .inl (js))), (qv, .inl (cI, 256, .inl (jv)))] s.heap.size = A at hD ⊢
  have hA : ∀ q : Nat, s.heap.size ≤ q → A q := fun q h => by rw [← hAe]; exact Or.inr h
  have hS : va_S A s.heap s.heap [] := va_S.rf
  have hl := lv_entry ([.ref h0, .int (nI z), .int cv]) (n := 3) (Nat.le_of_ble_eq_true rfl)
  rw [lg_entry_eq]
  generalize (lg_sl ([.ref h0, .int (nI z), .int cv]) ++ List.replicate (3 - (lg_sl ([.ref h0, .int (nI z), .int cv])).length) Slot.unset).toArray = ls at hl ⊢
  have hl : lv_has ls 3 [(0, .ref h0), (1, .int (nI z)), (2, .int cv)] := hl
  have hiX0 : ∀ w ∈ wsX00, w ∈ wsX0_enter := fun w h => List.mem_cons_of_mem _ (List.mem_append_right _ h)
  have hP : va_P (dC, dI) vwCl [(h0, .inr (0, [.ref qc, .ref qs, .ref qv, .int (nI k)])), (qc, .inl (cI, 8, .inl (jc))), (qs, .inl (cI, 256, .inl (js))), (qv, .inl (cI, 256, .inl (jv)))] s.heap := hP
  refine y_enter (A := A) hP (fun H hP hS => ?_)
  refine lv_iload_n hx hb dX0_enter_0 rfl (lv_at hl 2 rfl) ?_
  refine lv_if_ne (tgt := 5) hx hb dX0_enter_1 (by decide) (fun c_1 => ?_) (fun c_1 => ?_)
  · refine lv_aload_n hx hb dX0_enter_5 rfl (lv_at hl 0 rfl) ?_
    refine va_get (D := (dC, dI)) (ci := 0) (v := .int (nI k)) (C := RX0) (T := TX0) (N := 4) hx hb hts hiX0 hown hK hP 0 rfl rfl 3 (by decide) (hts (.fieldLink RX0 21 "Payoutnet$Journal" "count" "I") (List.mem_of_getElem? (i := 1) rfl)) (fun _ h9 => h9) rfl dX0_enter_6 ?_
    refine lv_sipush (v := 256) hx hb dX0_enter_9 (by decide) ?_
    refine lv_icmp_lt (tgt := 19) hx hb dX0_enter_12 (by decide) (fun c_2 => ?_) (fun c_2 => ?_)
    · have hk2 : k < 256 := (nI_ltI (a := k) (b := 256) (by omega) (by omega)).mp c_2
      refine lv_aload_n hx hb dX0_enter_19 rfl (lv_at hl 0 rfl) ?_
      refine va_get (D := (dC, dI)) (ci := 0) (v := .ref qs) (C := RX0) (T := TX0) (N := 4) hx hb hts hiX0 hown hK hP 0 rfl rfl 1 (by decide) (hts (.fieldLink RX0 15 "Payoutnet$Journal" "seller" "[I") (List.mem_of_getElem? (i := 2) rfl)) (fun _ h9 => h9) rfl dX0_enter_20 ?_
      refine lv_aload_n hx hb dX0_enter_23 rfl (lv_at hl 0 rfl) ?_
      refine va_get (D := (dC, dI)) (ci := 0) (v := .int (nI k)) (C := RX0) (T := TX0) (N := 4) hx hb hts hiX0 hown hK hP 0 rfl rfl 3 (by decide) (hts (.fieldLink RX0 21 "Payoutnet$Journal" "count" "I") (List.mem_of_getElem? (i := 1) rfl)) (fun _ h9 => h9) rfl dX0_enter_24 ?_
      refine lv_iload_n hx hb dX0_enter_27 rfl (lv_at hl 1 rfl) ?_
      refine y_ist hx hb hK hP hD hS 2 0 rfl rfl (t := k) (by omega) (Nat.le_of_ble_eq_true rfl) dX0_enter_28 (fun H locs hP hD hS => ?_)
      have hP : va_P (dC, dI) vwCl [(h0, .inr (0, [.ref qc, .ref qs, .ref qv, .int (nI k)])), (qc, .inl (cI, 8, .inl (jc))), (qs, .inl (cI, 256, .inl (upd js k (nI z)))), (qv, .inl (cI, 256, .inl (jv)))] H := hP
      have hD : va_D A [(h0, .inr (0, [.ref qc, .ref qs, .ref qv, .int (nI k)])), (qc, .inl (cI, 8, .inl (jc))), (qs, .inl (cI, 256, .inl (upd js k (nI z)))), (qv, .inl (cI, 256, .inl (jv)))] := hD
      refine lv_aload_n hx hb dX0_enter_29 rfl (lv_at hl 0 rfl) ?_
      refine va_get (D := (dC, dI)) (ci := 0) (v := .ref qv) (C := RX0) (T := TX0) (N := 4) hx hb hts hiX0 hown hK hP 0 rfl rfl 2 (by decide) (hts (.fieldLink RX0 18 "Payoutnet$Journal" "cents" "[I") (List.mem_of_getElem? (i := 3) rfl)) (fun _ h9 => h9) rfl dX0_enter_30 ?_
      refine lv_aload_n hx hb dX0_enter_33 rfl (lv_at hl 0 rfl) ?_
      refine va_get (D := (dC, dI)) (ci := 0) (v := .int (nI k)) (C := RX0) (T := TX0) (N := 4) hx hb hts hiX0 hown hK hP 0 rfl rfl 3 (by decide) (hts (.fieldLink RX0 21 "Payoutnet$Journal" "count" "I") (List.mem_of_getElem? (i := 1) rfl)) (fun _ h9 => h9) rfl dX0_enter_34 ?_
      refine lv_iload_n hx hb dX0_enter_37 rfl (lv_at hl 2 rfl) ?_
      refine y_ist hx hb hK hP hD hS 3 0 rfl rfl (t := k) (by omega) (Nat.le_of_ble_eq_true rfl) dX0_enter_38 (fun H locs hP hD hS => ?_)
      have hP : va_P (dC, dI) vwCl [(h0, .inr (0, [.ref qc, .ref qs, .ref qv, .int (nI k)])), (qc, .inl (cI, 8, .inl (jc))), (qs, .inl (cI, 256, .inl (upd js k (nI z)))), (qv, .inl (cI, 256, .inl (upd jv k cv)))] H := hP
      have hD : va_D A [(h0, .inr (0, [.ref qc, .ref qs, .ref qv, .int (nI k)])), (qc, .inl (cI, 8, .inl (jc))), (qs, .inl (cI, 256, .inl (upd js k (nI z)))), (qv, .inl (cI, 256, .inl (upd jv k cv)))] := hD
      refine lv_aload_n hx hb dX0_enter_39 rfl (lv_at hl 0 rfl) ?_
      refine lv_dup hx hb dX0_enter_40 rfl ?_
      refine va_get (D := (dC, dI)) (ci := 0) (v := .int (nI k)) (C := RX0) (T := TX0) (N := 4) hx hb hts hiX0 hown hK hP 0 rfl rfl 3 (by decide) (hts (.fieldLink RX0 21 "Payoutnet$Journal" "count" "I") (List.mem_of_getElem? (i := 1) rfl)) (fun _ h9 => h9) rfl dX0_enter_41 ?_
      refine lv_iconst (v := 1) hx hb dX0_enter_44 (by decide) ?_
      refine lv_iadd hx hb dX0_enter_45 ?_
      refine y_topi (y := nI (k + 1)) (nI_1 k) ?_
      refine va_put (D := (dC, dI)) (ci := 0) (v := .int (nI (k + 1))) (ty := .int) (C := RX0) (T := TX0) (N := 4) hx hb hts hiX0 tyX0 tyX0_ok nmX0 hown hK hP hD hS 0 rfl rfl 3 (by decide) (hts (.fieldLink RX0 21 "Payoutnet$Journal" "count" "I") (List.mem_of_getElem? (i := 1) rfl)) (fun _ h9 => h9) rfl (tyX0_ok 3 (by decide)) rfl rfl (Nat.le_of_ble_eq_true rfl) dX0_enter_46 (fun H locs hP hD hS => ?_)
      have hP : va_P (dC, dI) vwCl [(h0, .inr (0, [.ref qc, .ref qs, .ref qv, .int (nI (k + 1))])), (qc, .inl (cI, 8, .inl (jc))), (qs, .inl (cI, 256, .inl (upd js k (nI z)))), (qv, .inl (cI, 256, .inl (upd jv k cv)))] H := hP
      have hD : va_D A [(h0, .inr (0, [.ref qc, .ref qs, .ref qv, .int (nI (k + 1))])), (qc, .inl (cI, 8, .inl (jc))), (qs, .inl (cI, 256, .inl (upd js k (nI z)))), (qv, .inl (cI, 256, .inl (upd jv k cv)))] := hD
      have hP9 := hP
      have hD9 := hD
      have hK9 := hK
      exact W.vret hx hb hr (fun t ht hW => ⟨⟨(jc, upd js k (nI z), upd jv k cv, k + 1), rfl, ⟨Nat.succ_le_of_lt hk2, okJ_put hj hz, crr_put hz cv⟩, atW_end hP9 hD9 hK9 ht hW⟩, hS.F ht⟩) hS.2.2 dX0_enter_49
    · have hk2 : k = 256 := Nat.le_antisymm hk (Nat.le_of_not_lt (fun h => c_2 ((nI_ltI (a := k) (b := 256) (by omega) (by omega)).mpr h)))
      refine lv_aload_n hx hb dX0_enter_15 rfl (lv_at hl 0 rfl) ?_
      have hPc := hP.sub (ws' := [(h0, .inr (0, [.ref qc, .ref qs, .ref qv, .int (nI k)])), (qc, .inl (cI, 8, .inl (jc))), (qs, .inl (cI, 256, .inl (js))), (qv, .inl (cI, 256, .inl (jv)))]) [0, 1, 2, 3] rfl
      have hDc := hD.sub (ws' := [(h0, .inr (0, [.ref qc, .ref qs, .ref qv, .int (nI k)])), (qc, .inl (cI, 8, .inl (jc))), (qs, .inl (cI, 256, .inl (js))), (qv, .inl (cI, 256, .inl (jv)))]) [0, 1, 2, 3] (by decide) rfl
      have hFc := va_free (wc := [(h0, .inr (0, [.ref qc, .ref qs, .ref qv, .int (nI k)])), (qc, .inl (cI, 8, .inl (jc))), (qs, .inl (cI, 256, .inl (js))), (qv, .inl (cI, 256, .inl (jv)))]) hD hS hA [0, 1, 2, 3] rfl
      have hKc := hK.sub (tys' := [(cI, .int)]) [0] rfl
      refine va_callv (va_runV (As := []) (rest := []) ⟨hx, hb, hml, hown, hts⟩ (c_X0_carryForward l dC dI cI h0 qc qs qv H.size jc js jv k hk hj) (cwV 0 hts gX0_enter_X0_carryForward rfl rfl rfl (by decide +kernel) ⟨Nat.le_of_ble_eq_true rfl, Nat.le_of_ble_eq_true rfl⟩) ⟨pcW_blind, va_recv hKc hPc (ci := 0) (q0 := 0) rfl rfl, fun U hU hW => pcW_pre hPc hDc hKc hU hW⟩ rfl rfl hl.1 rfl (lv_room (Nat.le_of_ble_eq_true rfl)) dX0_enter_16 ⟨(Nat.zero_le _), (Nat.zero_le _)⟩) hS (fun q _ h => hFc q h) hFc (fun u t H1 locs ht hvm hw hB hz1 hk1 hS => ?_)
      obtain ⟨hP1, hK1, hD1⟩ := hB
      rw [ht] at hP1
      obtain ⟨hP, hD⟩ := va_join (wr := []) (w1 := [(h0, .inr (0, [.ref qc, .ref qs, .ref qv, .int (nI 0)])), (qc, .inl (cI, 8, .inl (crr jc js jv k))), (qs, .inl (cI, 256, .inl (js))), (qv, .inl (cI, 256, .inl (jv)))]) hP hD [0, 1, 2, 3] [] rfl rfl (by decide) (by decide) hk1 hFc hP1 hD1
      generalize H1 = H at hP hS ⊢
      have hP := hP.sub (ws' := [(h0, .inr (0, [.ref qc, .ref qs, .ref qv, .int (nI 0)])), (qc, .inl (cI, 8, .inl (crr jc js jv k))), (qs, .inl (cI, 256, .inl (js))), (qv, .inl (cI, 256, .inl (jv)))]) [0, 1, 2, 3] rfl
      have hD := hD.sub (ws' := [(h0, .inr (0, [.ref qc, .ref qs, .ref qv, .int (nI 0)])), (qc, .inl (cI, 8, .inl (crr jc js jv k))), (qs, .inl (cI, 256, .inl (js))), (qv, .inl (cI, 256, .inl (jv)))]) [0, 1, 2, 3] (by decide) rfl
      refine lv_aload_n hx hb dX0_enter_19 rfl (lv_at hl 0 rfl) ?_
      refine va_get (D := (dC, dI)) (ci := 0) (v := .ref qs) (C := RX0) (T := TX0) (N := 4) hx hb hts hiX0 hown hK hP 0 rfl rfl 1 (by decide) (hts (.fieldLink RX0 15 "Payoutnet$Journal" "seller" "[I") (List.mem_of_getElem? (i := 2) rfl)) (fun _ h9 => h9) rfl dX0_enter_20 ?_
      refine lv_aload_n hx hb dX0_enter_23 rfl (lv_at hl 0 rfl) ?_
      refine va_get (D := (dC, dI)) (ci := 0) (v := .int (nI 0)) (C := RX0) (T := TX0) (N := 4) hx hb hts hiX0 hown hK hP 0 rfl rfl 3 (by decide) (hts (.fieldLink RX0 21 "Payoutnet$Journal" "count" "I") (List.mem_of_getElem? (i := 1) rfl)) (fun _ h9 => h9) rfl dX0_enter_24 ?_
      refine lv_iload_n hx hb dX0_enter_27 rfl (lv_at hl 1 rfl) ?_
      refine y_ist hx hb hK hP hD hS 2 0 rfl rfl (t := 0) (by omega) (Nat.le_of_ble_eq_true rfl) dX0_enter_28 (fun H locs hP hD hS => ?_)
      have hP : va_P (dC, dI) vwCl [(h0, .inr (0, [.ref qc, .ref qs, .ref qv, .int (nI 0)])), (qc, .inl (cI, 8, .inl (crr jc js jv k))), (qs, .inl (cI, 256, .inl (upd js 0 (nI z)))), (qv, .inl (cI, 256, .inl (jv)))] H := hP
      have hD : va_D A [(h0, .inr (0, [.ref qc, .ref qs, .ref qv, .int (nI 0)])), (qc, .inl (cI, 8, .inl (crr jc js jv k))), (qs, .inl (cI, 256, .inl (upd js 0 (nI z)))), (qv, .inl (cI, 256, .inl (jv)))] := hD
      refine lv_aload_n hx hb dX0_enter_29 rfl (lv_at hl 0 rfl) ?_
      refine va_get (D := (dC, dI)) (ci := 0) (v := .ref qv) (C := RX0) (T := TX0) (N := 4) hx hb hts hiX0 hown hK hP 0 rfl rfl 2 (by decide) (hts (.fieldLink RX0 18 "Payoutnet$Journal" "cents" "[I") (List.mem_of_getElem? (i := 3) rfl)) (fun _ h9 => h9) rfl dX0_enter_30 ?_
      refine lv_aload_n hx hb dX0_enter_33 rfl (lv_at hl 0 rfl) ?_
      refine va_get (D := (dC, dI)) (ci := 0) (v := .int (nI 0)) (C := RX0) (T := TX0) (N := 4) hx hb hts hiX0 hown hK hP 0 rfl rfl 3 (by decide) (hts (.fieldLink RX0 21 "Payoutnet$Journal" "count" "I") (List.mem_of_getElem? (i := 1) rfl)) (fun _ h9 => h9) rfl dX0_enter_34 ?_
      refine lv_iload_n hx hb dX0_enter_37 rfl (lv_at hl 2 rfl) ?_
      refine y_ist hx hb hK hP hD hS 3 0 rfl rfl (t := 0) (by omega) (Nat.le_of_ble_eq_true rfl) dX0_enter_38 (fun H locs hP hD hS => ?_)
      have hP : va_P (dC, dI) vwCl [(h0, .inr (0, [.ref qc, .ref qs, .ref qv, .int (nI 0)])), (qc, .inl (cI, 8, .inl (crr jc js jv k))), (qs, .inl (cI, 256, .inl (upd js 0 (nI z)))), (qv, .inl (cI, 256, .inl (upd jv 0 cv)))] H := hP
      have hD : va_D A [(h0, .inr (0, [.ref qc, .ref qs, .ref qv, .int (nI 0)])), (qc, .inl (cI, 8, .inl (crr jc js jv k))), (qs, .inl (cI, 256, .inl (upd js 0 (nI z)))), (qv, .inl (cI, 256, .inl (upd jv 0 cv)))] := hD
      refine lv_aload_n hx hb dX0_enter_39 rfl (lv_at hl 0 rfl) ?_
      refine lv_dup hx hb dX0_enter_40 rfl ?_
      refine va_get (D := (dC, dI)) (ci := 0) (v := .int (nI 0)) (C := RX0) (T := TX0) (N := 4) hx hb hts hiX0 hown hK hP 0 rfl rfl 3 (by decide) (hts (.fieldLink RX0 21 "Payoutnet$Journal" "count" "I") (List.mem_of_getElem? (i := 1) rfl)) (fun _ h9 => h9) rfl dX0_enter_41 ?_
      refine lv_iconst (v := 1) hx hb dX0_enter_44 (by decide) ?_
      refine lv_iadd hx hb dX0_enter_45 ?_
      refine y_topi (y := nI 1) (nI_1 0) ?_
      refine va_put (D := (dC, dI)) (ci := 0) (v := .int (nI 1)) (ty := .int) (C := RX0) (T := TX0) (N := 4) hx hb hts hiX0 tyX0 tyX0_ok nmX0 hown hK hP hD hS 0 rfl rfl 3 (by decide) (hts (.fieldLink RX0 21 "Payoutnet$Journal" "count" "I") (List.mem_of_getElem? (i := 1) rfl)) (fun _ h9 => h9) rfl (tyX0_ok 3 (by decide)) rfl rfl (Nat.le_of_ble_eq_true rfl) dX0_enter_46 (fun H locs hP hD hS => ?_)
      have hP : va_P (dC, dI) vwCl [(h0, .inr (0, [.ref qc, .ref qs, .ref qv, .int (nI 1)])), (qc, .inl (cI, 8, .inl (crr jc js jv k))), (qs, .inl (cI, 256, .inl (upd js 0 (nI z)))), (qv, .inl (cI, 256, .inl (upd jv 0 cv)))] H := hP
      have hD : va_D A [(h0, .inr (0, [.ref qc, .ref qs, .ref qv, .int (nI 1)])), (qc, .inl (cI, 8, .inl (crr jc js jv k))), (qs, .inl (cI, 256, .inl (upd js 0 (nI z)))), (qv, .inl (cI, 256, .inl (upd jv 0 cv)))] := hD
      have hP9 := hP
      have hD9 := hD
      have hK9 := hK
      exact W.vret hx hb hr (fun t ht hW => ⟨⟨(crr jc js jv k, upd js 0 (nI z), upd jv 0 cv, 1), rfl, ⟨(by decide : 1 ≤ 256), okJ_put (k := 0) (fun i hi => absurd hi (Nat.not_lt_zero i)) hz, crr_put (k := 0) hz cv⟩, atW_end hP9 hD9 hK9 ht hW⟩, hS.F ht⟩) hS.2.2 dX0_enter_49
  · have hP9 := hP
    have hD9 := hD
    have hK9 := hK
    exact W.vret hx hb hr (fun t ht hW => ⟨⟨(jc, js, jv, k), rfl, ⟨hk, hj, by rw [c_1, upd_add0]⟩, atW_end hP9 hD9 hK9 ht hW⟩, hS.F ht⟩) hS.2.2 dX0_enter_4
