def bI (P : Prop) [Decidable P] : Int32 := if P then 1 else 0
theorem bI_t {P : Prop} [Decidable P] (h : ¬ bI P = 0) : P := by
  by_cases hp : P
  · exact hp
  · exact absurd (if_neg hp) h
theorem bI_f {P : Prop} [Decidable P] (h : bI P = 0) : ¬ P := by
  intro hp
  have : bI P = 1 := if_pos hp
  rw [this] at h
  exact absurd h (by decide)
theorem bI_y {P : Prop} [Decidable P] (h : P) : 1 = bI P := (if_pos h).symm
theorem bI_n {P : Prop} [Decidable P] (h : ¬ P) : 0 = bI P := (if_neg h).symm
theorem bI_congr {P Q : Prop} [Decidable P] [Decidable Q] (h : P ↔ Q) : bI P = bI Q := by
  by_cases hp : P
  · exact (bI_y hp).symm.trans (bI_y (h.mp hp))
  · exact (bI_n hp).symm.trans (bI_n (fun q => hp (h.mpr q)))
theorem nar_bI (P : Prop) [Decidable P] : narrow .boolean (.int (bI P)) = .int (bI P) := by
  unfold bI
  split <;> rfl
theorem sel_iff {a : yA} (hB : okB a) (x : Int32) : bw x 0 (a 0 0 - 1) ↔ selOK a x := by
  have h := hB 0 0 8 rfl
  have e : (a 0 0).toInt = (nn (a 0 0) : Int) := by
    have := h.2
    rw [h.1, nn_nI (by omega)]; exact nI_toInt (by omega)
  have e1 : (a 0 0 - 1).toInt = (nn (a 0 0) : Int) - 1 := by
    have := h.2
    rw [h.1, nn_nI (by omega), show (1 : Int32) = nI 1 from rfl, pk_sub_toInt (by omega) (by decide)]; rfl
  refine and_congr Iff.rfl ?_
  rw [Int32.le_iff_toInt_le, Int32.lt_iff_toInt_lt, e, e1]
  omega
theorem pay_iff {a : yA} (hB : okB a) (x : Int32) : bw x 0 (a 0 4 - 1) ↔ payOKn a x := by
  have h := hB 0 4 1024 rfl
  have e : (a 0 4).toInt = (nn (a 0 4) : Int) := by
    have := h.2
    rw [h.1, nn_nI (by omega)]; exact nI_toInt (by omega)
  have e1 : (a 0 4 - 1).toInt = (nn (a 0 4) : Int) - 1 := by
    have := h.2
    rw [h.1, nn_nI (by omega), show (1 : Int32) = nI 1 from rfl, pk_sub_toInt (by omega) (by decide)]; rfl
  refine and_congr Iff.rfl ?_
  rw [Int32.le_iff_toInt_le, Int32.lt_iff_toInt_lt, e, e1]
  omega
theorem sale_iff {a : yA} (hB : okB a) (x : Int32) : bw x 0 (a 0 3 - 1) ↔ saleOK a x := by
  have h := hB 0 3 100 rfl
  have e : (a 0 3).toInt = (nn (a 0 3) : Int) := by
    have := h.2
    rw [h.1, nn_nI (by omega)]; exact nI_toInt (by omega)
  have e1 : (a 0 3 - 1).toInt = (nn (a 0 3) : Int) - 1 := by
    have := h.2
    rw [h.1, nn_nI (by omega), show (1 : Int32) = nI 1 from rfl, pk_sub_toInt (by omega) (by decide)]; rfl
  refine and_congr Iff.rfl ?_
  rw [Int32.le_iff_toInt_le, Int32.lt_iff_toInt_lt, e, e1]
  omega
set_option maxHeartbeats 4000000 in
set_option maxRecDepth 100000 in
theorem c_X5_in (l : Launch) (x lo hi : Int32)  : Met l yX5_in wsX5_in ({ frames := 0, cells := 0, slots := 0, locals := 0 } : Room) (va_Pc [.int x, .int lo, .int hi] (fun _ => True)) (va_Qi (fun (r : Int32) (_ : Unit) => r = bI (bw x lo hi)) (fun _ _ => True) (fun _ => False)) 0 0 (fun _ => False) := by
  refine Met.ofW (cc := cX5_in) (maxL := 3) (ret := (some .boolean)) (by decide) rfl ?_
  intro p e s m args below meth c s₁ B hml hv
  obtain ⟨rfl, -⟩ := hv
  have hx := B.exec
  have hb := B.bytes
  have hr := B.returns
  have hts := atoms_spec (ws := wsX5_in) B.pre
  have hown : s.vm.findClass RX5 = some m.cls := findClass_of_methodNamed B.named
  have hlocks := B.notSynchronized
  have hS : va_S (fun _ => False) s.heap s.heap [] := va_S.rf
  have hl := lv_entry ([.int x, .int lo, .int hi]) (n := 3) (Nat.le_of_ble_eq_true rfl)
  rw [lg_entry_eq]
  generalize (lg_sl ([.int x, .int lo, .int hi]) ++ List.replicate (3 - (lg_sl ([.int x, .int lo, .int hi])).length) Slot.unset).toArray = ls at hl ⊢
  have hl : lv_has ls 3 [(0, .int x), (1, .int lo), (2, .int hi)] := hl
  refine lv_iload_n hx hb dX5_in_0 rfl (lv_at hl 0 rfl) ?_
  refine lv_iload_n hx hb dX5_in_1 rfl (lv_at hl 1 rfl) ?_
  refine lv_icmp_lt (tgt := 14) hx hb dX5_in_2 (by decide) (fun c_1 => ?_) (fun c_1 => ?_)
  · refine lv_iconst (v := 0) hx hb dX5_in_14 (by decide) ?_
    exact W.zret (v := 0) (ty := .boolean) hx hb hr rfl (fun t ht hW => ⟨⟨0, (), rfl, (bI_n (fun h9 => absurd c_1 (Int32.not_lt.mpr h9.1))), trivial⟩, hS.F ht⟩) hS.2.2 dX5_in_15
  · refine lv_iload_n hx hb dX5_in_5 rfl (lv_at hl 0 rfl) ?_
    refine lv_iload_n hx hb dX5_in_6 rfl (lv_at hl 2 rfl) ?_
    refine lv_icmp_gt (tgt := 14) hx hb dX5_in_7 (by decide) (fun c_2 => ?_) (fun c_2 => ?_)
    · refine lv_iconst (v := 0) hx hb dX5_in_14 (by decide) ?_
      exact W.zret (v := 0) (ty := .boolean) hx hb hr rfl (fun t ht hW => ⟨⟨0, (), rfl, (bI_n (fun h9 => absurd c_2 (Int32.not_lt.mpr h9.2))), trivial⟩, hS.F ht⟩) hS.2.2 dX5_in_15
    · refine lv_iconst (v := 1) hx hb dX5_in_10 (by decide) ?_
      refine lv_goto (tgt := 15) hx hb dX5_in_11 (by decide) ?_
      exact W.zret (v := 1) (ty := .boolean) hx hb hr rfl (fun t ht hW => ⟨⟨1, (), rfl, (bI_y ⟨Int32.not_lt.mp c_1, Int32.not_lt.mp c_2⟩), trivial⟩, hS.F ht⟩) hS.2.2 dX5_in_15
set_option maxHeartbeats 4000000 in
set_option maxRecDepth 100000 in
theorem c_X5_least (l : Launch) (x y : Int32)  : Met l yX5_least wsX5_least ({ frames := 0, cells := 0, slots := 0, locals := 0 } : Room) (va_Pc [.int x, .int y] (fun _ => True)) (va_Qi (fun (r : Int32) (_ : Unit) => r = if x < y then x else y) (fun _ _ => True) (fun _ => False)) 0 0 (fun _ => False) := by
  refine Met.ofW (cc := cX5_least) (maxL := 2) (ret := (some .int)) (by decide) rfl ?_
  intro p e s m args below meth c s₁ B hml hv
  obtain ⟨rfl, -⟩ := hv
  have hx := B.exec
  have hb := B.bytes
  have hr := B.returns
  have hts := atoms_spec (ws := wsX5_least) B.pre
  have hown : s.vm.findClass RX5 = some m.cls := findClass_of_methodNamed B.named
  have hlocks := B.notSynchronized
  have hS : va_S (fun _ => False) s.heap s.heap [] := va_S.rf
  have hl := lv_entry ([.int x, .int y]) (n := 2) (Nat.le_of_ble_eq_true rfl)
  rw [lg_entry_eq]
  generalize (lg_sl ([.int x, .int y]) ++ List.replicate (2 - (lg_sl ([.int x, .int y])).length) Slot.unset).toArray = ls at hl ⊢
  have hl : lv_has ls 2 [(0, .int x), (1, .int y)] := hl
  refine lv_iload_n hx hb dX5_least_0 rfl (lv_at hl 0 rfl) ?_
  refine lv_iload_n hx hb dX5_least_1 rfl (lv_at hl 1 rfl) ?_
  refine lv_icmp_ge (tgt := 9) hx hb dX5_least_2 (by decide) (fun c_1 => ?_) (fun c_1 => ?_)
  · refine lv_iload_n hx hb dX5_least_9 rfl (lv_at hl 1 rfl) ?_
    exact W.iret (v := y) hx hb hr (fun t ht hW => ⟨⟨y, (), rfl, (if_neg (Int32.not_lt.mpr c_1)).symm, trivial⟩, hS.F ht⟩) hS.2.2 dX5_least_10
  · refine lv_iload_n hx hb dX5_least_5 rfl (lv_at hl 0 rfl) ?_
    refine lv_goto (tgt := 10) hx hb dX5_least_6 (by decide) ?_
    exact W.iret (v := x) hx hb hr (fun t ht hW => ⟨⟨x, (), rfl, (if_pos (Int32.not_le.mp c_1)).symm, trivial⟩, hS.F ht⟩) hS.2.2 dX5_least_10
set_option maxHeartbeats 4000000 in
set_option maxRecDepth 100000 in
theorem c_X5_feeOn (l : Launch) (x k : Nat) (h0 : 1 ≤ x) (h1 : x ≤ 1000000) (hk : k ≤ 999) : Met l yX5_feeOn wsX5_feeOn ({ frames := 0, cells := 0, slots := 0, locals := 0 } : Room) (va_Pc [.int (nI x), .float (shF (nI k))] (fun _ => True)) (va_Qi (fun (r : Int32) (_ : Unit) => r = feeI (nI x) (nI k)) (fun _ _ => True) (fun _ => False)) 0 0 (fun _ => False) := by
  refine Met.ofW (cc := cX5_feeOn) (maxL := 2) (ret := (some .int)) (by decide) rfl ?_
  intro p e s m args below meth c s₁ B hml hv
  obtain ⟨rfl, -⟩ := hv
  have hx := B.exec
  have hb := B.bytes
  have hr := B.returns
  have hts := atoms_spec (ws := wsX5_feeOn) B.pre
  have hown : s.vm.findClass RX5 = some m.cls := findClass_of_methodNamed B.named
  have hlocks := B.notSynchronized
  have hS : va_S (fun _ => False) s.heap s.heap [] := va_S.rf
  have hl := lv_entry ([.int (nI x), .float (shF (nI k))]) (n := 2) (Nat.le_of_ble_eq_true rfl)
  rw [lg_entry_eq]
  generalize (lg_sl ([.int (nI x), .float (shF (nI k))]) ++ List.replicate (2 - (lg_sl ([.int (nI x), .float (shF (nI k))])).length) Slot.unset).toArray = ls at hl ⊢
  have hl : lv_has ls 2 [(0, .int (nI x)), (1, .float (shF (nI k)))] := hl
  refine lv_iload_n hx hb dX5_feeOn_0 rfl (lv_at hl 0 rfl) ?_
  refine lv_i2f hx hb dX5_feeOn_1 ?_
  refine lv_fload_n hx hb dX5_feeOn_2 rfl (lv_at hl 1 rfl) ?_
  refine lv_fmul hx hb dX5_feeOn_3 (fp_mul h0 h1 hk).1 ?_
  refine lv_f2i hx hb dX5_feeOn_4 ?_
  exact W.iret (v := FP.f2i (FP.fmul (FP.i2f (nI x)) (shF (nI k)))) hx hb hr (fun t ht hW => ⟨⟨FP.f2i (FP.fmul (FP.i2f (nI x)) (shF (nI k))), (), rfl, rfl, trivial⟩, hS.F ht⟩) hS.2.2 dX5_feeOn_5
set_option maxHeartbeats 4000000 in
set_option maxRecDepth 100000 in
theorem c_X5_isKind (l : Launch) (x : Int32)  : Met l yX5_isKind wsX5_isKind ({ frames := 1, cells := 0, slots := 0, locals := 22 } : Room) (va_Pc [.int x] (fun _ => True)) (va_Qi (fun (r : Int32) (_ : Unit) => r = bI (bw x 0 3)) (fun _ _ => True) (fun _ => False)) 0 0 (fun _ => False) := by
  refine Met.ofW (cc := cX5_isKind) (maxL := 1) (ret := (some .boolean)) (by decide) rfl ?_
  intro p e s m args below meth c s₁ B hml hv
  obtain ⟨rfl, -⟩ := hv
  have hx := B.exec
  have hb := B.bytes
  have hr := B.returns
  have hts := atoms_spec (ws := wsX5_isKind) B.pre
  have hown : s.vm.findClass RX5 = some m.cls := findClass_of_methodNamed B.named
  have hlocks := B.notSynchronized
  have hS : va_S (fun _ => False) s.heap s.heap [] := va_S.rf
  have hl := lv_entry ([.int x]) (n := 1) (Nat.le_of_ble_eq_true rfl)
  rw [lg_entry_eq]
  generalize (lg_sl ([.int x]) ++ List.replicate (1 - (lg_sl ([.int x])).length) Slot.unset).toArray = ls at hl ⊢
  have hl : lv_has ls 1 [(0, .int x)] := hl
  have hP : va_P ((fun _ => 0), (fun _ _ => 0)) vwCl [] s.heap := va_P_nil
  refine lv_iload_n hx hb dX5_isKind_0 rfl (lv_at hl 0 rfl) ?_
  refine lv_iconst (v := 0) hx hb dX5_isKind_1 (by decide) ?_
  refine lv_iconst (v := 3) hx hb dX5_isKind_2 (by decide) ?_
  refine va_calli (va_runS (As := [.int x, .int 0, .int 3]) (rest := []) ⟨hx, hb, hml, hown, hts⟩ (c_X5_in l x 0 3) (va_cwS 3 hts gX5_isKind_X5_in rfl rfl rfl (by decide +kernel) ⟨Nat.le_of_ble_eq_true rfl, Nat.le_of_ble_eq_true rfl⟩) ⟨pcT_blind, fun U hU hW => pcT_pre⟩ rfl rfl hl.1 rfl (lv_room (Nat.le_of_ble_eq_true rfl)) dX5_isKind_3 ⟨(Nat.zero_le _), (Nat.zero_le _)⟩) hS (fun q _ h => h.elim) (fun q h => h.elim) (fun r u t H1 locs ht hvm hw hB1 hz1 hk1 hS => ?_)
  have hP := y_keptP hP hk1
  generalize H1 = H at hP hS ⊢
  refine y_topi (y := bI (bw x 0 3)) hw ?_
  exact W.zret (v := bI (bw x 0 3)) (ty := .boolean) hx hb hr (nar_bI _) (fun t ht hW => ⟨⟨bI (bw x 0 3), (), rfl, rfl, trivial⟩, hS.F ht⟩) hS.2.2 dX5_isKind_6
/-- how many bits are left to count -/
def manyL : Nat → Int32 → Int32 → Int32 → Bool
  | 0, _, _, _ => false
  | n + 1, lft, c, res => if lft = 0 then decide (c = res) else manyL n (lft &&& (lft - 1)) (c + 1) res
theorem many_all : ∀ set, set < 256 → manyL 10 (nI set) 0 (nI (cntB set 8)) = true := by decide +kernel
set_option maxHeartbeats 4000000 in
set_option maxRecDepth 100000 in
theorem c_X5_many (l : Launch) (set : Nat) (hset : set < 256) : Met l yX5_many wsX5_many ({ frames := 0, cells := 0, slots := 0, locals := 0 } : Room) (va_Pc [.int (nI set)] (fun _ => True)) (va_Qi (fun (r : Int32) (_ : Unit) => r = nI (cntB set 8)) (fun _ _ => True) (fun _ => False)) 0 0 (fun _ => False) := by
  refine Met.ofW (cc := cX5_many) (maxL := 3) (ret := (some .int)) (by decide) rfl ?_
  intro p e s m args below meth c s₁ B hml hv
  obtain ⟨rfl, -⟩ := hv
  have hx := B.exec
  have hb := B.bytes
  have hr := B.returns
  have hts := atoms_spec (ws := wsX5_many) B.pre
  have hown : s.vm.findClass RX5 = some m.cls := findClass_of_methodNamed B.named
  have hlocks := B.notSynchronized
  have hS : va_S (fun _ => False) s.heap s.heap [] := va_S.rf
  have hl := lv_entry ([.int (nI set)]) (n := 3) (Nat.le_of_ble_eq_true rfl)
  rw [lg_entry_eq]
  generalize (lg_sl ([.int (nI set)]) ++ List.replicate (3 - (lg_sl ([.int (nI set)])).length) Slot.unset).toArray = ls at hl ⊢
  have hl : lv_has ls 3 [(0, .int (nI set))] := hl
  have hmy := many_all set hset
  refine lv_iconst (v := 0) hx hb dX5_many_0 (by decide) ?_
  refine lv_istore_n (lv' := [(1, .int 0), (0, .int (nI set))]) hx hb dX5_many_1 rfl hl (by decide) rfl (fun ls hl => ?_)
  refine lv_iload_n hx hb dX5_many_2 rfl (lv_at hl 1 rfl) ?_
  refine lv_istore_n (lv' := [(2, .int (nI set)), (1, .int 0), (0, .int (nI set))]) hx hb dX5_many_3 rfl hl (by decide) rfl (fun ls hl => ?_)
  refine y_loop (fun k9 H locs ls => ∃ (f ee : Int32), manyL k9 f ee (nI (cntB set 8)) = true ∧ va_S (fun _ => False) s.heap H locs ∧ lv_has ls 3 [(2, .int f), (1, .int ee)]) 10 ⟨nI set, 0, hmy, hS, lv_sub hl [0, 1] rfl⟩ (fun k9 H locs ls hI ih => ?_)
  obtain ⟨f, ee, hf, hS, hl⟩ := hI
  obtain ⟨k8, rfl⟩ : ∃ k8, k9 = k8 + 1 := by cases k9 with | zero => exact absurd hf (by simp [manyL]) | succ n => exact ⟨n, rfl⟩
  unfold manyL at hf
  refine lv_iload_n hx hb dX5_many_4 rfl (lv_at hl 0 rfl) ?_
  refine lv_if_eq (tgt := 20) hx hb dX5_many_5 (by decide) (fun c_1 => ?_) (fun c_1 => ?_)
  · rw [if_pos c_1] at hf
    refine lv_iload_n hx hb dX5_many_20 rfl (lv_at hl 1 rfl) ?_
    exact W.iret (v := ee) hx hb hr (fun t ht hW => ⟨⟨ee, (), rfl, (of_decide_eq_true hf), trivial⟩, hS.F ht⟩) hS.2.2 dX5_many_21
  · rw [if_neg c_1] at hf
    refine lv_iinc (v := (ee) + 1) (lv' := [(1, .int ((ee) + 1)), (2, .int f)]) hx hb dX5_many_8 hl (k := 1) rfl rfl (by decide) rfl (fun ls hl => ?_)
    refine lv_iload_n hx hb dX5_many_11 rfl (lv_at hl 1 rfl) ?_
    refine lv_iload_n hx hb dX5_many_12 rfl (lv_at hl 1 rfl) ?_
    refine lv_iconst (v := 1) hx hb dX5_many_13 (by decide) ?_
    refine lv_isub hx hb dX5_many_14 ?_
    refine lv_iand hx hb dX5_many_15 ?_
    refine lv_istore_n (lv' := [(2, .int (f &&& (f - 1))), (1, .int ((ee) + 1))]) hx hb dX5_many_16 rfl hl (by decide) rfl (fun ls hl => ?_)
    refine lv_goto (tgt := 4) hx hb dX5_many_17 (by decide) ?_
    exact ih k8 H locs ls (by omega) ⟨_, _, hf, hS, lv_sub hl [0, 1] rfl⟩
set_option maxHeartbeats 4000000 in
set_option maxRecDepth 100000 in
theorem c_X5_thrown (l : Launch) (dC : Nat → ClassId) (dI : Nat → Nat → Nat) (cI cF cZ : ClassId) (h0 : Nat) (q : Nat → Nat) (sz : Nat) (a : yA) (th : Int32) (hB : okB a)  : Met l yX5_thrown wsX5_thrown ({ frames := 0, cells := 0, slots := 0, locals := 0 } : Room) (va_Pc [.ref h0] (pcW dC dI [(cI, .int), (cF, .float), (cZ, .boolean)] (WM cI cF cZ h0 q a th) sz)) (va_Qi (fun (r : Int32) (_ : Unit) => r = th) (fun _ t => atM dC dI cI cF cZ (va_A (WM cI cF cZ h0 q a th) sz) h0 q (a) th t) (va_A (WM cI cF cZ h0 q a th) sz)) 0 0 (va_A (WM cI cF cZ h0 q a th) sz) := by
  refine Met.ofW (cc := cX5_thrown) (maxL := 1) (ret := (some .int)) (by decide) rfl ?_
  intro p e s m args below meth c s₁ B hml hv
  obtain ⟨rfl, hsz, hP, hK, hD0⟩ := hv
  have hx := B.exec
  have hb := B.bytes
  have hr := B.returns
  have hts := atoms_spec (ws := wsX5_thrown) B.pre
  have hown : s.vm.findClass RX5 = some m.cls := findClass_of_methodNamed B.named
  have hlocks := B.notSynchronized
  subst hsz
  have hD := hD0.self (sz := s.heap.size)
  generalize hAe : va_A [(h0, .inr (5, [.int th, .int (a 0 0), .int (a 0 1), .ref (q 1), .ref (q 2), .ref (q 3), .ref (q 4), .ref (q 5), .ref (q 6), .ref (q 7), .ref (q 8), .ref (q 9), .int (a 0 2), .int (a 0 3), .ref (q 10), .ref (q 11), .ref (q 12), .ref (q 13), .ref (q 14), .ref (q 15), .ref (q 16), .ref (q 17), .ref (q 18), .int (a 0 4), .ref (q 19), .ref (q 20), .ref (q 21), .int (a 0 5), .int (a 0 6), .int (a 0 7), .int (a 0 8)])), (q 1, .inl (cI, 8, .inl (a 1))), (q 2, .inl (cI, 8, .inl (a 2))), (q 3, .inl (cI, 8, .inl (a 3))), (q 4, .inl (cI, 8, .inl (a 4))), (q 5, .inl (cI, 8, .inl (a 5))), (q 6, .inl (cI, 8, .inl (a 6))), (q 7, .inl (cI, 8, .inl (a 7))), (q 8, .inl (cI, 8, .inl (a 8))), (q 9, .inl (cF, 4, .inr (.inr (.inl (fun j => shF (a 9 j)))))), (q 10, .inl (cI, 100, .inl (a 10))), (q 11, .inl (cI, 100, .inl (a 11))), (q 12, .inl (cI, 100, .inl (a 12))), (q 13, .inl (cF, 100, .inr (.inr (.inl (fun j => shF (a 13 j)))))), (q 14, .inl (cI, 100, .inl (a 14))), (q 15, .inl (cI, 100, .inl (a 15))), (q 16, .inl (cI, 100, .inl (a 16))), (q 17, .inl (cI, 100, .inl (a 17))), (q 18, .inl (cI, 100, .inl (a 18))), (q 19, .inl (cI, 2000, .inl (a 19))), (q 20, .inl (cI, 2000, .inl (a 20))), (q 21, .inl (cZ, 2000, .inl (a 21)))] s.heap.size = A at hD ⊢
  have hA : ∀ q : Nat, s.heap.size ≤ q → A q := fun q h => by rw [← hAe]; exact Or.inr h
  have hS : va_S A s.heap s.heap [] := va_S.rf
  have hl := lv_entry ([.ref h0]) (n := 1) (Nat.le_of_ble_eq_true rfl)
  rw [lg_entry_eq]
  generalize (lg_sl ([.ref h0]) ++ List.replicate (1 - (lg_sl ([.ref h0])).length) Slot.unset).toArray = ls at hl ⊢
  have hl : lv_has ls 1 [(0, .ref h0)] := hl
  have hiX5 : ∀ w ∈ wsX50, w ∈ wsX5_thrown := fun w h => List.mem_cons_of_mem _ (List.mem_append_right _ h)
  have hP : va_P (dC, dI) vwCl [(h0, .inr (5, [.int th, .int (a 0 0), .int (a 0 1), .ref (q 1), .ref (q 2), .ref (q 3), .ref (q 4), .ref (q 5), .ref (q 6), .ref (q 7), .ref (q 8), .ref (q 9), .int (a 0 2), .int (a 0 3), .ref (q 10), .ref (q 11), .ref (q 12), .ref (q 13), .ref (q 14), .ref (q 15), .ref (q 16), .ref (q 17), .ref (q 18), .int (a 0 4), .ref (q 19), .ref (q 20), .ref (q 21), .int (a 0 5), .int (a 0 6), .int (a 0 7), .int (a 0 8)])), (q 1, .inl (cI, 8, .inl (a 1))), (q 2, .inl (cI, 8, .inl (a 2))), (q 3, .inl (cI, 8, .inl (a 3))), (q 4, .inl (cI, 8, .inl (a 4))), (q 5, .inl (cI, 8, .inl (a 5))), (q 6, .inl (cI, 8, .inl (a 6))), (q 7, .inl (cI, 8, .inl (a 7))), (q 8, .inl (cI, 8, .inl (a 8))), (q 9, .inl (cF, 4, .inr (.inr (.inl (fun j => shF (a 9 j)))))), (q 10, .inl (cI, 100, .inl (a 10))), (q 11, .inl (cI, 100, .inl (a 11))), (q 12, .inl (cI, 100, .inl (a 12))), (q 13, .inl (cF, 100, .inr (.inr (.inl (fun j => shF (a 13 j)))))), (q 14, .inl (cI, 100, .inl (a 14))), (q 15, .inl (cI, 100, .inl (a 15))), (q 16, .inl (cI, 100, .inl (a 16))), (q 17, .inl (cI, 100, .inl (a 17))), (q 18, .inl (cI, 100, .inl (a 18))), (q 19, .inl (cI, 2000, .inl (a 19))), (q 20, .inl (cI, 2000, .inl (a 20))), (q 21, .inl (cZ, 2000, .inl (a 21)))] s.heap := hP
  refine y_enter (A := A) hP (fun H hP hS => ?_)
  have hBk := hB
  refine lv_aload_n hx hb dX5_thrown_0 rfl (lv_at hl 0 rfl) ?_
  refine va_get (D := (dC, dI)) (ci := 5) (v := .int th) (C := RX5) (T := TX5) (N := 31) hx hb hts hiX5 hown hK hP 0 rfl rfl 0 (by decide) (hts (.fieldLink RX5 76 "PayoutnetModel" "thrown" "I") (List.mem_of_getElem? (i := 1) rfl)) (fun _ h9 => h9) rfl dX5_thrown_1 ?_
  have hP9 := hP
  have hD9 := hD
  have hK9 := hK
  exact W.iret (v := th) hx hb hr (fun t ht hW => ⟨⟨th, (), rfl, rfl, atW_end hP9 hD9 hK9 ht hW⟩, hS.F ht⟩) hS.2.2 dX5_thrown_4
set_option maxHeartbeats 4000000 in
set_option maxRecDepth 100000 in
theorem c_X5_holds (l : Launch) (dC : Nat → ClassId) (dI : Nat → Nat → Nat) (cI cF cZ : ClassId) (h0 : Nat) (q : Nat → Nat) (sz : Nat) (a : yA) (th : Int32) (hB : okB a) (v : Int32) : Met l yX5_holds wsX5_holds ({ frames := 0, cells := 0, slots := 0, locals := 0 } : Room) (va_Pc [.ref h0, .int v] (pcW dC dI [(cI, .int), (cF, .float), (cZ, .boolean)] (WM cI cF cZ h0 q a th) sz)) (va_Qi (fun (r : Int32) (_ : Unit) => r = bI (v = 0)) (fun _ t => atM dC dI cI cF cZ (va_A (WM cI cF cZ h0 q a th) sz) h0 q (a) v t) (va_A (WM cI cF cZ h0 q a th) sz)) 0 0 (va_A (WM cI cF cZ h0 q a th) sz) := by
  refine Met.ofW (cc := cX5_holds) (maxL := 2) (ret := (some .boolean)) (by decide) rfl ?_
  intro p e s m args below meth c s₁ B hml hv
  obtain ⟨rfl, hsz, hP, hK, hD0⟩ := hv
  have hx := B.exec
  have hb := B.bytes
  have hr := B.returns
  have hts := atoms_spec (ws := wsX5_holds) B.pre
  have hown : s.vm.findClass RX5 = some m.cls := findClass_of_methodNamed B.named
  have hlocks := B.notSynchronized
  subst hsz
  have hD := hD0.self (sz := s.heap.size)
  generalize hAe : va_A [(h0, .inr (5, [.int th, .int (a 0 0), .int (a 0 1), .ref (q 1), .ref (q 2), .ref (q 3), .ref (q 4), .ref (q 5), .ref (q 6), .ref (q 7), .ref (q 8), .ref (q 9), .int (a 0 2), .int (a 0 3), .ref (q 10), .ref (q 11), .ref (q 12), .ref (q 13), .ref (q 14), .ref (q 15), .ref (q 16), .ref (q 17), .ref (q 18), .int (a 0 4), .ref (q 19), .ref (q 20), .ref (q 21), .int (a 0 5), .int (a 0 6), .int (a 0 7), .int (a 0 8)])), (q 1, .inl (cI, 8, .inl (a 1))), (q 2, .inl (cI, 8, .inl (a 2))), (q 3, .inl (cI, 8, .inl (a 3))), (q 4, .inl (cI, 8, .inl (a 4))), (q 5, .inl (cI, 8, .inl (a 5))), (q 6, .inl (cI, 8, .inl (a 6))), (q 7, .inl (cI, 8, .inl (a 7))), (q 8, .inl (cI, 8, .inl (a 8))), (q 9, .inl (cF, 4, .inr (.inr (.inl (fun j => shF (a 9 j)))))), (q 10, .inl (cI, 100, .inl (a 10))), (q 11, .inl (cI, 100, .inl (a 11))), (q 12, .inl (cI, 100, .inl (a 12))), (q 13, .inl (cF, 100, .inr (.inr (.inl (fun j => shF (a 13 j)))))), (q 14, .inl (cI, 100, .inl (a 14))), (q 15, .inl (cI, 100, .inl (a 15))), (q 16, .inl (cI, 100, .inl (a 16))), (q 17, .inl (cI, 100, .inl (a 17))), (q 18, .inl (cI, 100, .inl (a 18))), (q 19, .inl (cI, 2000, .inl (a 19))), (q 20, .inl (cI, 2000, .inl (a 20))), (q 21, .inl (cZ, 2000, .inl (a 21)))] s.heap.size = A at hD ⊢
  have hA : ∀ q : Nat, s.heap.size ≤ q → A q := fun q h => by rw [← hAe]; exact Or.inr h
  have hS : va_S A s.heap s.heap [] := va_S.rf
  have hl := lv_entry ([.ref h0, .int v]) (n := 2) (Nat.le_of_ble_eq_true rfl)
  rw [lg_entry_eq]
  generalize (lg_sl ([.ref h0, .int v]) ++ List.replicate (2 - (lg_sl ([.ref h0, .int v])).length) Slot.unset).toArray = ls at hl ⊢
  have hl : lv_has ls 2 [(0, .ref h0), (1, .int v)] := hl
  have hiX5 : ∀ w ∈ wsX50, w ∈ wsX5_holds := fun w h => List.mem_cons_of_mem _ (List.mem_append_right _ h)
  have hP : va_P (dC, dI) vwCl [(h0, .inr (5, [.int th, .int (a 0 0), .int (a 0 1), .ref (q 1), .ref (q 2), .ref (q 3), .ref (q 4), .ref (q 5), .ref (q 6), .ref (q 7), .ref (q 8), .ref (q 9), .int (a 0 2), .int (a 0 3), .ref (q 10), .ref (q 11), .ref (q 12), .ref (q 13), .ref (q 14), .ref (q 15), .ref (q 16), .ref (q 17), .ref (q 18), .int (a 0 4), .ref (q 19), .ref (q 20), .ref (q 21), .int (a 0 5), .int (a 0 6), .int (a 0 7), .int (a 0 8)])), (q 1, .inl (cI, 8, .inl (a 1))), (q 2, .inl (cI, 8, .inl (a 2))), (q 3, .inl (cI, 8, .inl (a 3))), (q 4, .inl (cI, 8, .inl (a 4))), (q 5, .inl (cI, 8, .inl (a 5))), (q 6, .inl (cI, 8, .inl (a 6))), (q 7, .inl (cI, 8, .inl (a 7))), (q 8, .inl (cI, 8, .inl (a 8))), (q 9, .inl (cF, 4, .inr (.inr (.inl (fun j => shF (a 9 j)))))), (q 10, .inl (cI, 100, .inl (a 10))), (q 11, .inl (cI, 100, .inl (a 11))), (q 12, .inl (cI, 100, .inl (a 12))), (q 13, .inl (cF, 100, .inr (.inr (.inl (fun j => shF (a 13 j)))))), (q 14, .inl (cI, 100, .inl (a 14))), (q 15, .inl (cI, 100, .inl (a 15))), (q 16, .inl (cI, 100, .inl (a 16))), (q 17, .inl (cI, 100, .inl (a 17))), (q 18, .inl (cI, 100, .inl (a 18))), (q 19, .inl (cI, 2000, .inl (a 19))), (q 20, .inl (cI, 2000, .inl (a 20))), (q 21, .inl (cZ, 2000, .inl (a 21)))] s.heap := hP
  refine y_enter (A := A) hP (fun H hP hS => ?_)
  have hBk := hB
  refine lv_aload_n hx hb dX5_holds_0 rfl (lv_at hl 0 rfl) ?_
  refine lv_iload_n hx hb dX5_holds_1 rfl (lv_at hl 1 rfl) ?_
  refine va_put (D := (dC, dI)) (ci := 5) (v := .int v) (ty := .int) (C := RX5) (T := TX5) (N := 31) hx hb hts hiX5 tyX5 tyX5_ok nmX5 hown hK hP hD hS 0 rfl rfl 0 (by decide) (hts (.fieldLink RX5 76 "PayoutnetModel" "thrown" "I") (List.mem_of_getElem? (i := 1) rfl)) (fun _ h9 => h9) rfl (tyX5_ok 0 (by decide)) rfl rfl (Nat.le_of_ble_eq_true rfl) dX5_holds_2 (fun H locs hP hD hS => ?_)
  have hP : va_P (dC, dI) vwCl [(h0, .inr (5, [.int v, .int (a 0 0), .int (a 0 1), .ref (q 1), .ref (q 2), .ref (q 3), .ref (q 4), .ref (q 5), .ref (q 6), .ref (q 7), .ref (q 8), .ref (q 9), .int (a 0 2), .int (a 0 3), .ref (q 10), .ref (q 11), .ref (q 12), .ref (q 13), .ref (q 14), .ref (q 15), .ref (q 16), .ref (q 17), .ref (q 18), .int (a 0 4), .ref (q 19), .ref (q 20), .ref (q 21), .int (a 0 5), .int (a 0 6), .int (a 0 7), .int (a 0 8)])), (q 1, .inl (cI, 8, .inl (a 1))), (q 2, .inl (cI, 8, .inl (a 2))), (q 3, .inl (cI, 8, .inl (a 3))), (q 4, .inl (cI, 8, .inl (a 4))), (q 5, .inl (cI, 8, .inl (a 5))), (q 6, .inl (cI, 8, .inl (a 6))), (q 7, .inl (cI, 8, .inl (a 7))), (q 8, .inl (cI, 8, .inl (a 8))), (q 9, .inl (cF, 4, .inr (.inr (.inl (fun j => shF (a 9 j)))))), (q 10, .inl (cI, 100, .inl (a 10))), (q 11, .inl (cI, 100, .inl (a 11))), (q 12, .inl (cI, 100, .inl (a 12))), (q 13, .inl (cF, 100, .inr (.inr (.inl (fun j => shF (a 13 j)))))), (q 14, .inl (cI, 100, .inl (a 14))), (q 15, .inl (cI, 100, .inl (a 15))), (q 16, .inl (cI, 100, .inl (a 16))), (q 17, .inl (cI, 100, .inl (a 17))), (q 18, .inl (cI, 100, .inl (a 18))), (q 19, .inl (cI, 2000, .inl (a 19))), (q 20, .inl (cI, 2000, .inl (a 20))), (q 21, .inl (cZ, 2000, .inl (a 21)))] H := hP
  have hD : va_D A [(h0, .inr (5, [.int v, .int (a 0 0), .int (a 0 1), .ref (q 1), .ref (q 2), .ref (q 3), .ref (q 4), .ref (q 5), .ref (q 6), .ref (q 7), .ref (q 8), .ref (q 9), .int (a 0 2), .int (a 0 3), .ref (q 10), .ref (q 11), .ref (q 12), .ref (q 13), .ref (q 14), .ref (q 15), .ref (q 16), .ref (q 17), .ref (q 18), .int (a 0 4), .ref (q 19), .ref (q 20), .ref (q 21), .int (a 0 5), .int (a 0 6), .int (a 0 7), .int (a 0 8)])), (q 1, .inl (cI, 8, .inl (a 1))), (q 2, .inl (cI, 8, .inl (a 2))), (q 3, .inl (cI, 8, .inl (a 3))), (q 4, .inl (cI, 8, .inl (a 4))), (q 5, .inl (cI, 8, .inl (a 5))), (q 6, .inl (cI, 8, .inl (a 6))), (q 7, .inl (cI, 8, .inl (a 7))), (q 8, .inl (cI, 8, .inl (a 8))), (q 9, .inl (cF, 4, .inr (.inr (.inl (fun j => shF (a 9 j)))))), (q 10, .inl (cI, 100, .inl (a 10))), (q 11, .inl (cI, 100, .inl (a 11))), (q 12, .inl (cI, 100, .inl (a 12))), (q 13, .inl (cF, 100, .inr (.inr (.inl (fun j => shF (a 13 j)))))), (q 14, .inl (cI, 100, .inl (a 14))), (q 15, .inl (cI, 100, .inl (a 15))), (q 16, .inl (cI, 100, .inl (a 16))), (q 17, .inl (cI, 100, .inl (a 17))), (q 18, .inl (cI, 100, .inl (a 18))), (q 19, .inl (cI, 2000, .inl (a 19))), (q 20, .inl (cI, 2000, .inl (a 20))), (q 21, .inl (cZ, 2000, .inl (a 21)))] := hD
  refine lv_iload_n hx hb dX5_holds_5 rfl (lv_at hl 1 rfl) ?_
  refine lv_if_ne (tgt := 13) hx hb dX5_holds_6 (by decide) (fun c_1 => ?_) (fun c_1 => ?_)
  · refine lv_iconst (v := 0) hx hb dX5_holds_13 (by decide) ?_
    have hP9 := hP
    have hD9 := hD
    have hK9 := hK
    exact W.zret (v := 0) (ty := .boolean) hx hb hr rfl (fun t ht hW => ⟨⟨0, (), rfl, (bI_n c_1), atW_end hP9 hD9 hK9 ht hW⟩, hS.F ht⟩) hS.2.2 dX5_holds_14
  · refine lv_iconst (v := 1) hx hb dX5_holds_9 (by decide) ?_
    refine lv_goto (tgt := 14) hx hb dX5_holds_10 (by decide) ?_
    have hP9 := hP
    have hD9 := hD
    have hK9 := hK
    exact W.zret (v := 1) (ty := .boolean) hx hb hr rfl (fun t ht hW => ⟨⟨1, (), rfl, (bI_y c_1), atW_end hP9 hD9 hK9 ht hW⟩, hS.F ht⟩) hS.2.2 dX5_holds_14
set_option maxHeartbeats 4000000 in
set_option maxRecDepth 100000 in
theorem c_X5_isSeller (l : Launch) (dC : Nat → ClassId) (dI : Nat → Nat → Nat) (cI cF cZ : ClassId) (h0 : Nat) (q : Nat → Nat) (sz : Nat) (a : yA) (th : Int32) (hB : okB a) (x : Int32) : Met l yX5_isSeller wsX5_isSeller ({ frames := 1, cells := 0, slots := 0, locals := 22 } : Room) (va_Pc [.ref h0, .int x] (pcW dC dI [(cI, .int), (cF, .float), (cZ, .boolean)] (WM cI cF cZ h0 q a th) sz)) (va_Qi (fun (r : Int32) (_ : Unit) => r = bI (selOK a x)) (fun _ t => atM dC dI cI cF cZ (va_A (WM cI cF cZ h0 q a th) sz) h0 q (a) th t) (va_A (WM cI cF cZ h0 q a th) sz)) 0 0 (va_A (WM cI cF cZ h0 q a th) sz) := by
  refine Met.ofW (cc := cX5_isSeller) (maxL := 2) (ret := (some .boolean)) (by decide) rfl ?_
  intro p e s m args below meth c s₁ B hml hv
  obtain ⟨rfl, hsz, hP, hK, hD0⟩ := hv
  have hx := B.exec
  have hb := B.bytes
  have hr := B.returns
  have hts := atoms_spec (ws := wsX5_isSeller) B.pre
  have hown : s.vm.findClass RX5 = some m.cls := findClass_of_methodNamed B.named
  have hlocks := B.notSynchronized
  subst hsz
  have hD := hD0.self (sz := s.heap.size)
  generalize hAe : va_A [(h0, .inr (5, [.int th, .int (a 0 0), .int (a 0 1), .ref (q 1), .ref (q 2), .ref (q 3), .ref (q 4), .ref (q 5), .ref (q 6), .ref (q 7), .ref (q 8), .ref (q 9), .int (a 0 2), .int (a 0 3), .ref (q 10), .ref (q 11), .ref (q 12), .ref (q 13), .ref (q 14), .ref (q 15), .ref (q 16), .ref (q 17), .ref (q 18), .int (a 0 4), .ref (q 19), .ref (q 20), .ref (q 21), .int (a 0 5), .int (a 0 6), .int (a 0 7), .int (a 0 8)])), (q 1, .inl (cI, 8, .inl (a 1))), (q 2, .inl (cI, 8, .inl (a 2))), (q 3, .inl (cI, 8, .inl (a 3))), (q 4, .inl (cI, 8, .inl (a 4))), (q 5, .inl (cI, 8, .inl (a 5))), (q 6, .inl (cI, 8, .inl (a 6))), (q 7, .inl (cI, 8, .inl (a 7))), (q 8, .inl (cI, 8, .inl (a 8))), (q 9, .inl (cF, 4, .inr (.inr (.inl (fun j => shF (a 9 j)))))), (q 10, .inl (cI, 100, .inl (a 10))), (q 11, .inl (cI, 100, .inl (a 11))), (q 12, .inl (cI, 100, .inl (a 12))), (q 13, .inl (cF, 100, .inr (.inr (.inl (fun j => shF (a 13 j)))))), (q 14, .inl (cI, 100, .inl (a 14))), (q 15, .inl (cI, 100, .inl (a 15))), (q 16, .inl (cI, 100, .inl (a 16))), (q 17, .inl (cI, 100, .inl (a 17))), (q 18, .inl (cI, 100, .inl (a 18))), (q 19, .inl (cI, 2000, .inl (a 19))), (q 20, .inl (cI, 2000, .inl (a 20))), (q 21, .inl (cZ, 2000, .inl (a 21)))] s.heap.size = A at hD ⊢
  have hA : ∀ q : Nat, s.heap.size ≤ q → A q := fun q h => by rw [← hAe]; exact Or.inr h
  have hS : va_S A s.heap s.heap [] := va_S.rf
  have hl := lv_entry ([.ref h0, .int x]) (n := 2) (Nat.le_of_ble_eq_true rfl)
  rw [lg_entry_eq]
  generalize (lg_sl ([.ref h0, .int x]) ++ List.replicate (2 - (lg_sl ([.ref h0, .int x])).length) Slot.unset).toArray = ls at hl ⊢
  have hl : lv_has ls 2 [(0, .ref h0), (1, .int x)] := hl
  have hiX5 : ∀ w ∈ wsX50, w ∈ wsX5_isSeller := fun w h => List.mem_cons_of_mem _ (List.mem_append_right _ h)
  have hP : va_P (dC, dI) vwCl [(h0, .inr (5, [.int th, .int (a 0 0), .int (a 0 1), .ref (q 1), .ref (q 2), .ref (q 3), .ref (q 4), .ref (q 5), .ref (q 6), .ref (q 7), .ref (q 8), .ref (q 9), .int (a 0 2), .int (a 0 3), .ref (q 10), .ref (q 11), .ref (q 12), .ref (q 13), .ref (q 14), .ref (q 15), .ref (q 16), .ref (q 17), .ref (q 18), .int (a 0 4), .ref (q 19), .ref (q 20), .ref (q 21), .int (a 0 5), .int (a 0 6), .int (a 0 7), .int (a 0 8)])), (q 1, .inl (cI, 8, .inl (a 1))), (q 2, .inl (cI, 8, .inl (a 2))), (q 3, .inl (cI, 8, .inl (a 3))), (q 4, .inl (cI, 8, .inl (a 4))), (q 5, .inl (cI, 8, .inl (a 5))), (q 6, .inl (cI, 8, .inl (a 6))), (q 7, .inl (cI, 8, .inl (a 7))), (q 8, .inl (cI, 8, .inl (a 8))), (q 9, .inl (cF, 4, .inr (.inr (.inl (fun j => shF (a 9 j)))))), (q 10, .inl (cI, 100, .inl (a 10))), (q 11, .inl (cI, 100, .inl (a 11))), (q 12, .inl (cI, 100, .inl (a 12))), (q 13, .inl (cF, 100, .inr (.inr (.inl (fun j => shF (a 13 j)))))), (q 14, .inl (cI, 100, .inl (a 14))), (q 15, .inl (cI, 100, .inl (a 15))), (q 16, .inl (cI, 100, .inl (a 16))), (q 17, .inl (cI, 100, .inl (a 17))), (q 18, .inl (cI, 100, .inl (a 18))), (q 19, .inl (cI, 2000, .inl (a 19))), (q 20, .inl (cI, 2000, .inl (a 20))), (q 21, .inl (cZ, 2000, .inl (a 21)))] s.heap := hP
  refine y_enter (A := A) hP (fun H hP hS => ?_)
  have hBk := hB
  refine lv_iload_n hx hb dX5_isSeller_0 rfl (lv_at hl 1 rfl) ?_
  refine lv_iconst (v := 0) hx hb dX5_isSeller_1 (by decide) ?_
  refine lv_aload_n hx hb dX5_isSeller_2 rfl (lv_at hl 0 rfl) ?_
  refine va_get (D := (dC, dI)) (ci := 5) (v := .int (a 0 0)) (C := RX5) (T := TX5) (N := 31) hx hb hts hiX5 hown hK hP 0 rfl rfl 1 (by decide) (hts (.fieldLink RX5 80 "PayoutnetModel" "sellers" "I") (List.mem_of_getElem? (i := 1) rfl)) (fun _ h9 => h9) rfl dX5_isSeller_3 ?_
  refine lv_iconst (v := 1) hx hb dX5_isSeller_6 (by decide) ?_
  refine lv_isub hx hb dX5_isSeller_7 ?_
  refine va_calli (va_runS (As := [.int x, .int 0, .int ((a 0 0) - 1)]) (rest := []) ⟨hx, hb, hml, hown, hts⟩ (c_X5_in l x 0 (a 0 0 - 1)) (va_cwS 3 hts gX5_isSeller_X5_in rfl rfl rfl (by decide +kernel) ⟨Nat.le_of_ble_eq_true rfl, Nat.le_of_ble_eq_true rfl⟩) ⟨pcT_blind, fun U hU hW => pcT_pre⟩ rfl rfl hl.1 rfl (lv_room (Nat.le_of_ble_eq_true rfl)) dX5_isSeller_8 ⟨(Nat.zero_le _), (Nat.zero_le _)⟩) hS (fun q _ h => h.elim) (fun q h => h.elim) (fun r u t H1 locs ht hvm hw hB1 hz1 hk1 hS => ?_)
  have hP := y_keptP hP hk1
  generalize H1 = H at hP hS ⊢
  refine y_topi (y := bI (bw x 0 (a 0 0 - 1))) hw ?_
  have e9 : bI (bw x 0 (a 0 0 - 1)) = bI (selOK a x) := bI_congr (sel_iff hB x)
  refine y_topi (y := bI (selOK a x)) e9 ?_
  have hP9 := hP
  have hD9 := hD
  have hK9 := hK
  exact W.zret (v := bI (selOK a x)) (ty := .boolean) hx hb hr (nar_bI _) (fun t ht hW => ⟨⟨bI (selOK a x), (), rfl, rfl, atW_end hP9 hD9 hK9 ht hW⟩, hS.F ht⟩) hS.2.2 dX5_isSeller_11
set_option maxHeartbeats 4000000 in
set_option maxRecDepth 100000 in
theorem c_X5_isPayout (l : Launch) (dC : Nat → ClassId) (dI : Nat → Nat → Nat) (cI cF cZ : ClassId) (h0 : Nat) (q : Nat → Nat) (sz : Nat) (a : yA) (th : Int32) (hB : okB a) (x : Int32) : Met l yX5_isPayout wsX5_isPayout ({ frames := 1, cells := 0, slots := 0, locals := 22 } : Room) (va_Pc [.ref h0, .int x] (pcW dC dI [(cI, .int), (cF, .float), (cZ, .boolean)] (WM cI cF cZ h0 q a th) sz)) (va_Qi (fun (r : Int32) (_ : Unit) => r = bI (payOKn a x)) (fun _ t => atM dC dI cI cF cZ (va_A (WM cI cF cZ h0 q a th) sz) h0 q (a) th t) (va_A (WM cI cF cZ h0 q a th) sz)) 0 0 (va_A (WM cI cF cZ h0 q a th) sz) := by
  refine Met.ofW (cc := cX5_isPayout) (maxL := 2) (ret := (some .boolean)) (by decide) rfl ?_
  intro p e s m args below meth c s₁ B hml hv
  obtain ⟨rfl, hsz, hP, hK, hD0⟩ := hv
  have hx := B.exec
  have hb := B.bytes
  have hr := B.returns
  have hts := atoms_spec (ws := wsX5_isPayout) B.pre
  have hown : s.vm.findClass RX5 = some m.cls := findClass_of_methodNamed B.named
  have hlocks := B.notSynchronized
  subst hsz
  have hD := hD0.self (sz := s.heap.size)
  generalize hAe : va_A [(h0, .inr (5, [.int th, .int (a 0 0), .int (a 0 1), .ref (q 1), .ref (q 2), .ref (q 3), .ref (q 4), .ref (q 5), .ref (q 6), .ref (q 7), .ref (q 8), .ref (q 9), .int (a 0 2), .int (a 0 3), .ref (q 10), .ref (q 11), .ref (q 12), .ref (q 13), .ref (q 14), .ref (q 15), .ref (q 16), .ref (q 17), .ref (q 18), .int (a 0 4), .ref (q 19), .ref (q 20), .ref (q 21), .int (a 0 5), .int (a 0 6), .int (a 0 7), .int (a 0 8)])), (q 1, .inl (cI, 8, .inl (a 1))), (q 2, .inl (cI, 8, .inl (a 2))), (q 3, .inl (cI, 8, .inl (a 3))), (q 4, .inl (cI, 8, .inl (a 4))), (q 5, .inl (cI, 8, .inl (a 5))), (q 6, .inl (cI, 8, .inl (a 6))), (q 7, .inl (cI, 8, .inl (a 7))), (q 8, .inl (cI, 8, .inl (a 8))), (q 9, .inl (cF, 4, .inr (.inr (.inl (fun j => shF (a 9 j)))))), (q 10, .inl (cI, 100, .inl (a 10))), (q 11, .inl (cI, 100, .inl (a 11))), (q 12, .inl (cI, 100, .inl (a 12))), (q 13, .inl (cF, 100, .inr (.inr (.inl (fun j => shF (a 13 j)))))), (q 14, .inl (cI, 100, .inl (a 14))), (q 15, .inl (cI, 100, .inl (a 15))), (q 16, .inl (cI, 100, .inl (a 16))), (q 17, .inl (cI, 100, .inl (a 17))), (q 18, .inl (cI, 100, .inl (a 18))), (q 19, .inl (cI, 2000, .inl (a 19))), (q 20, .inl (cI, 2000, .inl (a 20))), (q 21, .inl (cZ, 2000, .inl (a 21)))] s.heap.size = A at hD ⊢
  have hA : ∀ q : Nat, s.heap.size ≤ q → A q := fun q h => by rw [← hAe]; exact Or.inr h
  have hS : va_S A s.heap s.heap [] := va_S.rf
  have hl := lv_entry ([.ref h0, .int x]) (n := 2) (Nat.le_of_ble_eq_true rfl)
  rw [lg_entry_eq]
  generalize (lg_sl ([.ref h0, .int x]) ++ List.replicate (2 - (lg_sl ([.ref h0, .int x])).length) Slot.unset).toArray = ls at hl ⊢
  have hl : lv_has ls 2 [(0, .ref h0), (1, .int x)] := hl
  have hiX5 : ∀ w ∈ wsX50, w ∈ wsX5_isPayout := fun w h => List.mem_cons_of_mem _ (List.mem_append_right _ h)
  have hP : va_P (dC, dI) vwCl [(h0, .inr (5, [.int th, .int (a 0 0), .int (a 0 1), .ref (q 1), .ref (q 2), .ref (q 3), .ref (q 4), .ref (q 5), .ref (q 6), .ref (q 7), .ref (q 8), .ref (q 9), .int (a 0 2), .int (a 0 3), .ref (q 10), .ref (q 11), .ref (q 12), .ref (q 13), .ref (q 14), .ref (q 15), .ref (q 16), .ref (q 17), .ref (q 18), .int (a 0 4), .ref (q 19), .ref (q 20), .ref (q 21), .int (a 0 5), .int (a 0 6), .int (a 0 7), .int (a 0 8)])), (q 1, .inl (cI, 8, .inl (a 1))), (q 2, .inl (cI, 8, .inl (a 2))), (q 3, .inl (cI, 8, .inl (a 3))), (q 4, .inl (cI, 8, .inl (a 4))), (q 5, .inl (cI, 8, .inl (a 5))), (q 6, .inl (cI, 8, .inl (a 6))), (q 7, .inl (cI, 8, .inl (a 7))), (q 8, .inl (cI, 8, .inl (a 8))), (q 9, .inl (cF, 4, .inr (.inr (.inl (fun j => shF (a 9 j)))))), (q 10, .inl (cI, 100, .inl (a 10))), (q 11, .inl (cI, 100, .inl (a 11))), (q 12, .inl (cI, 100, .inl (a 12))), (q 13, .inl (cF, 100, .inr (.inr (.inl (fun j => shF (a 13 j)))))), (q 14, .inl (cI, 100, .inl (a 14))), (q 15, .inl (cI, 100, .inl (a 15))), (q 16, .inl (cI, 100, .inl (a 16))), (q 17, .inl (cI, 100, .inl (a 17))), (q 18, .inl (cI, 100, .inl (a 18))), (q 19, .inl (cI, 2000, .inl (a 19))), (q 20, .inl (cI, 2000, .inl (a 20))), (q 21, .inl (cZ, 2000, .inl (a 21)))] s.heap := hP
  refine y_enter (A := A) hP (fun H hP hS => ?_)
  have hBk := hB
  refine lv_iload_n hx hb dX5_isPayout_0 rfl (lv_at hl 1 rfl) ?_
  refine lv_iconst (v := 0) hx hb dX5_isPayout_1 (by decide) ?_
  refine lv_aload_n hx hb dX5_isPayout_2 rfl (lv_at hl 0 rfl) ?_
  refine va_get (D := (dC, dI)) (ci := 5) (v := .int (a 0 4)) (C := RX5) (T := TX5) (N := 31) hx hb hts hiX5 hown hK hP 0 rfl rfl 23 (by decide) (hts (.fieldLink RX5 145 "PayoutnetModel" "payouts" "I") (List.mem_of_getElem? (i := 1) rfl)) (fun _ h9 => h9) rfl dX5_isPayout_3 ?_
  refine lv_iconst (v := 1) hx hb dX5_isPayout_6 (by decide) ?_
  refine lv_isub hx hb dX5_isPayout_7 ?_
  refine va_calli (va_runS (As := [.int x, .int 0, .int ((a 0 4) - 1)]) (rest := []) ⟨hx, hb, hml, hown, hts⟩ (c_X5_in l x 0 (a 0 4 - 1)) (va_cwS 3 hts gX5_isPayout_X5_in rfl rfl rfl (by decide +kernel) ⟨Nat.le_of_ble_eq_true rfl, Nat.le_of_ble_eq_true rfl⟩) ⟨pcT_blind, fun U hU hW => pcT_pre⟩ rfl rfl hl.1 rfl (lv_room (Nat.le_of_ble_eq_true rfl)) dX5_isPayout_8 ⟨(Nat.zero_le _), (Nat.zero_le _)⟩) hS (fun q _ h => h.elim) (fun q h => h.elim) (fun r u t H1 locs ht hvm hw hB1 hz1 hk1 hS => ?_)
  have hP := y_keptP hP hk1
  generalize H1 = H at hP hS ⊢
  refine y_topi (y := bI (bw x 0 (a 0 4 - 1))) hw ?_
  have e9 : bI (bw x 0 (a 0 4 - 1)) = bI (payOKn a x) := bI_congr (pay_iff hB x)
  refine y_topi (y := bI (payOKn a x)) e9 ?_
  have hP9 := hP
  have hD9 := hD
  have hK9 := hK
  exact W.zret (v := bI (payOKn a x)) (ty := .boolean) hx hb hr (nar_bI _) (fun t ht hW => ⟨⟨bI (payOKn a x), (), rfl, rfl, atW_end hP9 hD9 hK9 ht hW⟩, hS.F ht⟩) hS.2.2 dX5_isPayout_11
set_option maxHeartbeats 4000000 in
set_option maxRecDepth 100000 in
theorem c_X5_today (l : Launch) (dC : Nat → ClassId) (dI : Nat → Nat → Nat) (cI cF cZ : ClassId) (h0 : Nat) (q : Nat → Nat) (sz : Nat) (a : yA) (th : Int32) (hB : okB a)  : Met l yX5_today wsX5_today ({ frames := 0, cells := 0, slots := 0, locals := 0 } : Room) (va_Pc [.ref h0] (pcW dC dI [(cI, .int), (cF, .float), (cZ, .boolean)] (WM cI cF cZ h0 q a th) sz)) (va_Qi (fun (r : Int32) (_ : Unit) => r = a 0 1) (fun _ t => atM dC dI cI cF cZ (va_A (WM cI cF cZ h0 q a th) sz) h0 q (a) 0 t) (va_A (WM cI cF cZ h0 q a th) sz)) 0 0 (va_A (WM cI cF cZ h0 q a th) sz) := by
  refine Met.ofW (cc := cX5_today) (maxL := 1) (ret := (some .int)) (by decide) rfl ?_
  intro p e s m args below meth c s₁ B hml hv
  obtain ⟨rfl, hsz, hP, hK, hD0⟩ := hv
  have hx := B.exec
  have hb := B.bytes
  have hr := B.returns
  have hts := atoms_spec (ws := wsX5_today) B.pre
  have hown : s.vm.findClass RX5 = some m.cls := findClass_of_methodNamed B.named
  have hlocks := B.notSynchronized
  subst hsz
  have hD := hD0.self (sz := s.heap.size)
  generalize hAe : va_A [(h0, .inr (5, [.int th, .int (a 0 0), .int (a 0 1), .ref (q 1), .ref (q 2), .ref (q 3), .ref (q 4), .ref (q 5), .ref (q 6), .ref (q 7), .ref (q 8), .ref (q 9), .int (a 0 2), .int (a 0 3), .ref (q 10), .ref (q 11), .ref (q 12), .ref (q 13), .ref (q 14), .ref (q 15), .ref (q 16), .ref (q 17), .ref (q 18), .int (a 0 4), .ref (q 19), .ref (q 20), .ref (q 21), .int (a 0 5), .int (a 0 6), .int (a 0 7), .int (a 0 8)])), (q 1, .inl (cI, 8, .inl (a 1))), (q 2, .inl (cI, 8, .inl (a 2))), (q 3, .inl (cI, 8, .inl (a 3))), (q 4, .inl (cI, 8, .inl (a 4))), (q 5, .inl (cI, 8, .inl (a 5))), (q 6, .inl (cI, 8, .inl (a 6))), (q 7, .inl (cI, 8, .inl (a 7))), (q 8, .inl (cI, 8, .inl (a 8))), (q 9, .inl (cF, 4, .inr (.inr (.inl (fun j => shF (a 9 j)))))), (q 10, .inl (cI, 100, .inl (a 10))), (q 11, .inl (cI, 100, .inl (a 11))), (q 12, .inl (cI, 100, .inl (a 12))), (q 13, .inl (cF, 100, .inr (.inr (.inl (fun j => shF (a 13 j)))))), (q 14, .inl (cI, 100, .inl (a 14))), (q 15, .inl (cI, 100, .inl (a 15))), (q 16, .inl (cI, 100, .inl (a 16))), (q 17, .inl (cI, 100, .inl (a 17))), (q 18, .inl (cI, 100, .inl (a 18))), (q 19, .inl (cI, 2000, .inl (a 19))), (q 20, .inl (cI, 2000, .inl (a 20))), (q 21, .inl (cZ, 2000, .inl (a 21)))] s.heap.size = A at hD ⊢
  have hA : ∀ q : Nat, s.heap.size ≤ q → A q := fun q h => by rw [← hAe]; exact Or.inr h
  have hS : va_S A s.heap s.heap [] := va_S.rf
  have hl := lv_entry ([.ref h0]) (n := 1) (Nat.le_of_ble_eq_true rfl)
  rw [lg_entry_eq]
  generalize (lg_sl ([.ref h0]) ++ List.replicate (1 - (lg_sl ([.ref h0])).length) Slot.unset).toArray = ls at hl ⊢
  have hl : lv_has ls 1 [(0, .ref h0)] := hl
  have hiX5 : ∀ w ∈ wsX50, w ∈ wsX5_today := fun w h => List.mem_cons_of_mem _ (List.mem_append_right _ h)
  have hP : va_P (dC, dI) vwCl [(h0, .inr (5, [.int th, .int (a 0 0), .int (a 0 1), .ref (q 1), .ref (q 2), .ref (q 3), .ref (q 4), .ref (q 5), .ref (q 6), .ref (q 7), .ref (q 8), .ref (q 9), .int (a 0 2), .int (a 0 3), .ref (q 10), .ref (q 11), .ref (q 12), .ref (q 13), .ref (q 14), .ref (q 15), .ref (q 16), .ref (q 17), .ref (q 18), .int (a 0 4), .ref (q 19), .ref (q 20), .ref (q 21), .int (a 0 5), .int (a 0 6), .int (a 0 7), .int (a 0 8)])), (q 1, .inl (cI, 8, .inl (a 1))), (q 2, .inl (cI, 8, .inl (a 2))), (q 3, .inl (cI, 8, .inl (a 3))), (q 4, .inl (cI, 8, .inl (a 4))), (q 5, .inl (cI, 8, .inl (a 5))), (q 6, .inl (cI, 8, .inl (a 6))), (q 7, .inl (cI, 8, .inl (a 7))), (q 8, .inl (cI, 8, .inl (a 8))), (q 9, .inl (cF, 4, .inr (.inr (.inl (fun j => shF (a 9 j)))))), (q 10, .inl (cI, 100, .inl (a 10))), (q 11, .inl (cI, 100, .inl (a 11))), (q 12, .inl (cI, 100, .inl (a 12))), (q 13, .inl (cF, 100, .inr (.inr (.inl (fun j => shF (a 13 j)))))), (q 14, .inl (cI, 100, .inl (a 14))), (q 15, .inl (cI, 100, .inl (a 15))), (q 16, .inl (cI, 100, .inl (a 16))), (q 17, .inl (cI, 100, .inl (a 17))), (q 18, .inl (cI, 100, .inl (a 18))), (q 19, .inl (cI, 2000, .inl (a 19))), (q 20, .inl (cI, 2000, .inl (a 20))), (q 21, .inl (cZ, 2000, .inl (a 21)))] s.heap := hP
  refine y_enter (A := A) hP (fun H hP hS => ?_)
  have hBk := hB
  refine lv_aload_n hx hb dX5_today_0 rfl (lv_at hl 0 rfl) ?_
  refine lv_iconst (v := 0) hx hb dX5_today_1 (by decide) ?_
  refine va_put (D := (dC, dI)) (ci := 5) (v := .int 0) (ty := .int) (C := RX5) (T := TX5) (N := 31) hx hb hts hiX5 tyX5 tyX5_ok nmX5 hown hK hP hD hS 0 rfl rfl 0 (by decide) (hts (.fieldLink RX5 76 "PayoutnetModel" "thrown" "I") (List.mem_of_getElem? (i := 1) rfl)) (fun _ h9 => h9) rfl (tyX5_ok 0 (by decide)) rfl rfl (Nat.le_of_ble_eq_true rfl) dX5_today_2 (fun H locs hP hD hS => ?_)
  have hP : va_P (dC, dI) vwCl [(h0, .inr (5, [.int 0, .int (a 0 0), .int (a 0 1), .ref (q 1), .ref (q 2), .ref (q 3), .ref (q 4), .ref (q 5), .ref (q 6), .ref (q 7), .ref (q 8), .ref (q 9), .int (a 0 2), .int (a 0 3), .ref (q 10), .ref (q 11), .ref (q 12), .ref (q 13), .ref (q 14), .ref (q 15), .ref (q 16), .ref (q 17), .ref (q 18), .int (a 0 4), .ref (q 19), .ref (q 20), .ref (q 21), .int (a 0 5), .int (a 0 6), .int (a 0 7), .int (a 0 8)])), (q 1, .inl (cI, 8, .inl (a 1))), (q 2, .inl (cI, 8, .inl (a 2))), (q 3, .inl (cI, 8, .inl (a 3))), (q 4, .inl (cI, 8, .inl (a 4))), (q 5, .inl (cI, 8, .inl (a 5))), (q 6, .inl (cI, 8, .inl (a 6))), (q 7, .inl (cI, 8, .inl (a 7))), (q 8, .inl (cI, 8, .inl (a 8))), (q 9, .inl (cF, 4, .inr (.inr (.inl (fun j => shF (a 9 j)))))), (q 10, .inl (cI, 100, .inl (a 10))), (q 11, .inl (cI, 100, .inl (a 11))), (q 12, .inl (cI, 100, .inl (a 12))), (q 13, .inl (cF, 100, .inr (.inr (.inl (fun j => shF (a 13 j)))))), (q 14, .inl (cI, 100, .inl (a 14))), (q 15, .inl (cI, 100, .inl (a 15))), (q 16, .inl (cI, 100, .inl (a 16))), (q 17, .inl (cI, 100, .inl (a 17))), (q 18, .inl (cI, 100, .inl (a 18))), (q 19, .inl (cI, 2000, .inl (a 19))), (q 20, .inl (cI, 2000, .inl (a 20))), (q 21, .inl (cZ, 2000, .inl (a 21)))] H := hP
  have hD : va_D A [(h0, .inr (5, [.int 0, .int (a 0 0), .int (a 0 1), .ref (q 1), .ref (q 2), .ref (q 3), .ref (q 4), .ref (q 5), .ref (q 6), .ref (q 7), .ref (q 8), .ref (q 9), .int (a 0 2), .int (a 0 3), .ref (q 10), .ref (q 11), .ref (q 12), .ref (q 13), .ref (q 14), .ref (q 15), .ref (q 16), .ref (q 17), .ref (q 18), .int (a 0 4), .ref (q 19), .ref (q 20), .ref (q 21), .int (a 0 5), .int (a 0 6), .int (a 0 7), .int (a 0 8)])), (q 1, .inl (cI, 8, .inl (a 1))), (q 2, .inl (cI, 8, .inl (a 2))), (q 3, .inl (cI, 8, .inl (a 3))), (q 4, .inl (cI, 8, .inl (a 4))), (q 5, .inl (cI, 8, .inl (a 5))), (q 6, .inl (cI, 8, .inl (a 6))), (q 7, .inl (cI, 8, .inl (a 7))), (q 8, .inl (cI, 8, .inl (a 8))), (q 9, .inl (cF, 4, .inr (.inr (.inl (fun j => shF (a 9 j)))))), (q 10, .inl (cI, 100, .inl (a 10))), (q 11, .inl (cI, 100, .inl (a 11))), (q 12, .inl (cI, 100, .inl (a 12))), (q 13, .inl (cF, 100, .inr (.inr (.inl (fun j => shF (a 13 j)))))), (q 14, .inl (cI, 100, .inl (a 14))), (q 15, .inl (cI, 100, .inl (a 15))), (q 16, .inl (cI, 100, .inl (a 16))), (q 17, .inl (cI, 100, .inl (a 17))), (q 18, .inl (cI, 100, .inl (a 18))), (q 19, .inl (cI, 2000, .inl (a 19))), (q 20, .inl (cI, 2000, .inl (a 20))), (q 21, .inl (cZ, 2000, .inl (a 21)))] := hD
  refine lv_aload_n hx hb dX5_today_5 rfl (lv_at hl 0 rfl) ?_
  refine va_get (D := (dC, dI)) (ci := 5) (v := .int (a 0 1)) (C := RX5) (T := TX5) (N := 31) hx hb hts hiX5 hown hK hP 0 rfl rfl 2 (by decide) (hts (.fieldLink RX5 117 "PayoutnetModel" "today" "I") (List.mem_of_getElem? (i := 2) rfl)) (fun _ h9 => h9) rfl dX5_today_6 ?_
  have hP9 := hP
  have hD9 := hD
  have hK9 := hK
  exact W.iret (v := a 0 1) hx hb hr (fun t ht hW => ⟨⟨a 0 1, (), rfl, rfl, atW_end hP9 hD9 hK9 ht hW⟩, hS.F ht⟩) hS.2.2 dX5_today_9
set_option maxHeartbeats 4000000 in
set_option maxRecDepth 100000 in
theorem c_X5_payouts (l : Launch) (dC : Nat → ClassId) (dI : Nat → Nat → Nat) (cI cF cZ : ClassId) (h0 : Nat) (q : Nat → Nat) (sz : Nat) (a : yA) (th : Int32) (hB : okB a)  : Met l yX5_payouts wsX5_payouts ({ frames := 0, cells := 0, slots := 0, locals := 0 } : Room) (va_Pc [.ref h0] (pcW dC dI [(cI, .int), (cF, .float), (cZ, .boolean)] (WM cI cF cZ h0 q a th) sz)) (va_Qi (fun (r : Int32) (_ : Unit) => r = a 0 4) (fun _ t => atM dC dI cI cF cZ (va_A (WM cI cF cZ h0 q a th) sz) h0 q (a) 0 t) (va_A (WM cI cF cZ h0 q a th) sz)) 0 0 (va_A (WM cI cF cZ h0 q a th) sz) := by
  refine Met.ofW (cc := cX5_payouts) (maxL := 1) (ret := (some .int)) (by decide) rfl ?_
  intro p e s m args below meth c s₁ B hml hv
  obtain ⟨rfl, hsz, hP, hK, hD0⟩ := hv
  have hx := B.exec
  have hb := B.bytes
  have hr := B.returns
  have hts := atoms_spec (ws := wsX5_payouts) B.pre
  have hown : s.vm.findClass RX5 = some m.cls := findClass_of_methodNamed B.named
  have hlocks := B.notSynchronized
  subst hsz
  have hD := hD0.self (sz := s.heap.size)
  generalize hAe : va_A [(h0, .inr (5, [.int th, .int (a 0 0), .int (a 0 1), .ref (q 1), .ref (q 2), .ref (q 3), .ref (q 4), .ref (q 5), .ref (q 6), .ref (q 7), .ref (q 8), .ref (q 9), .int (a 0 2), .int (a 0 3), .ref (q 10), .ref (q 11), .ref (q 12), .ref (q 13), .ref (q 14), .ref (q 15), .ref (q 16), .ref (q 17), .ref (q 18), .int (a 0 4), .ref (q 19), .ref (q 20), .ref (q 21), .int (a 0 5), .int (a 0 6), .int (a 0 7), .int (a 0 8)])), (q 1, .inl (cI, 8, .inl (a 1))), (q 2, .inl (cI, 8, .inl (a 2))), (q 3, .inl (cI, 8, .inl (a 3))), (q 4, .inl (cI, 8, .inl (a 4))), (q 5, .inl (cI, 8, .inl (a 5))), (q 6, .inl (cI, 8, .inl (a 6))), (q 7, .inl (cI, 8, .inl (a 7))), (q 8, .inl (cI, 8, .inl (a 8))), (q 9, .inl (cF, 4, .inr (.inr (.inl (fun j => shF (a 9 j)))))), (q 10, .inl (cI, 100, .inl (a 10))), (q 11, .inl (cI, 100, .inl (a 11))), (q 12, .inl (cI, 100, .inl (a 12))), (q 13, .inl (cF, 100, .inr (.inr (.inl (fun j => shF (a 13 j)))))), (q 14, .inl (cI, 100, .inl (a 14))), (q 15, .inl (cI, 100, .inl (a 15))), (q 16, .inl (cI, 100, .inl (a 16))), (q 17, .inl (cI, 100, .inl (a 17))), (q 18, .inl (cI, 100, .inl (a 18))), (q 19, .inl (cI, 2000, .inl (a 19))), (q 20, .inl (cI, 2000, .inl (a 20))), (q 21, .inl (cZ, 2000, .inl (a 21)))] s.heap.size = A at hD ⊢
  have hA : ∀ q : Nat, s.heap.size ≤ q → A q := fun q h => by rw [← hAe]; exact Or.inr h
  have hS : va_S A s.heap s.heap [] := va_S.rf
  have hl := lv_entry ([.ref h0]) (n := 1) (Nat.le_of_ble_eq_true rfl)
  rw [lg_entry_eq]
  generalize (lg_sl ([.ref h0]) ++ List.replicate (1 - (lg_sl ([.ref h0])).length) Slot.unset).toArray = ls at hl ⊢
  have hl : lv_has ls 1 [(0, .ref h0)] := hl
  have hiX5 : ∀ w ∈ wsX50, w ∈ wsX5_payouts := fun w h => List.mem_cons_of_mem _ (List.mem_append_right _ h)
  have hP : va_P (dC, dI) vwCl [(h0, .inr (5, [.int th, .int (a 0 0), .int (a 0 1), .ref (q 1), .ref (q 2), .ref (q 3), .ref (q 4), .ref (q 5), .ref (q 6), .ref (q 7), .ref (q 8), .ref (q 9), .int (a 0 2), .int (a 0 3), .ref (q 10), .ref (q 11), .ref (q 12), .ref (q 13), .ref (q 14), .ref (q 15), .ref (q 16), .ref (q 17), .ref (q 18), .int (a 0 4), .ref (q 19), .ref (q 20), .ref (q 21), .int (a 0 5), .int (a 0 6), .int (a 0 7), .int (a 0 8)])), (q 1, .inl (cI, 8, .inl (a 1))), (q 2, .inl (cI, 8, .inl (a 2))), (q 3, .inl (cI, 8, .inl (a 3))), (q 4, .inl (cI, 8, .inl (a 4))), (q 5, .inl (cI, 8, .inl (a 5))), (q 6, .inl (cI, 8, .inl (a 6))), (q 7, .inl (cI, 8, .inl (a 7))), (q 8, .inl (cI, 8, .inl (a 8))), (q 9, .inl (cF, 4, .inr (.inr (.inl (fun j => shF (a 9 j)))))), (q 10, .inl (cI, 100, .inl (a 10))), (q 11, .inl (cI, 100, .inl (a 11))), (q 12, .inl (cI, 100, .inl (a 12))), (q 13, .inl (cF, 100, .inr (.inr (.inl (fun j => shF (a 13 j)))))), (q 14, .inl (cI, 100, .inl (a 14))), (q 15, .inl (cI, 100, .inl (a 15))), (q 16, .inl (cI, 100, .inl (a 16))), (q 17, .inl (cI, 100, .inl (a 17))), (q 18, .inl (cI, 100, .inl (a 18))), (q 19, .inl (cI, 2000, .inl (a 19))), (q 20, .inl (cI, 2000, .inl (a 20))), (q 21, .inl (cZ, 2000, .inl (a 21)))] s.heap := hP
  refine y_enter (A := A) hP (fun H hP hS => ?_)
  have hBk := hB
  refine lv_aload_n hx hb dX5_payouts_0 rfl (lv_at hl 0 rfl) ?_
  refine lv_iconst (v := 0) hx hb dX5_payouts_1 (by decide) ?_
  refine va_put (D := (dC, dI)) (ci := 5) (v := .int 0) (ty := .int) (C := RX5) (T := TX5) (N := 31) hx hb hts hiX5 tyX5 tyX5_ok nmX5 hown hK hP hD hS 0 rfl rfl 0 (by decide) (hts (.fieldLink RX5 76 "PayoutnetModel" "thrown" "I") (List.mem_of_getElem? (i := 1) rfl)) (fun _ h9 => h9) rfl (tyX5_ok 0 (by decide)) rfl rfl (Nat.le_of_ble_eq_true rfl) dX5_payouts_2 (fun H locs hP hD hS => ?_)
  have hP : va_P (dC, dI) vwCl [(h0, .inr (5, [.int 0, .int (a 0 0), .int (a 0 1), .ref (q 1), .ref (q 2), .ref (q 3), .ref (q 4), .ref (q 5), .ref (q 6), .ref (q 7), .ref (q 8), .ref (q 9), .int (a 0 2), .int (a 0 3), .ref (q 10), .ref (q 11), .ref (q 12), .ref (q 13), .ref (q 14), .ref (q 15), .ref (q 16), .ref (q 17), .ref (q 18), .int (a 0 4), .ref (q 19), .ref (q 20), .ref (q 21), .int (a 0 5), .int (a 0 6), .int (a 0 7), .int (a 0 8)])), (q 1, .inl (cI, 8, .inl (a 1))), (q 2, .inl (cI, 8, .inl (a 2))), (q 3, .inl (cI, 8, .inl (a 3))), (q 4, .inl (cI, 8, .inl (a 4))), (q 5, .inl (cI, 8, .inl (a 5))), (q 6, .inl (cI, 8, .inl (a 6))), (q 7, .inl (cI, 8, .inl (a 7))), (q 8, .inl (cI, 8, .inl (a 8))), (q 9, .inl (cF, 4, .inr (.inr (.inl (fun j => shF (a 9 j)))))), (q 10, .inl (cI, 100, .inl (a 10))), (q 11, .inl (cI, 100, .inl (a 11))), (q 12, .inl (cI, 100, .inl (a 12))), (q 13, .inl (cF, 100, .inr (.inr (.inl (fun j => shF (a 13 j)))))), (q 14, .inl (cI, 100, .inl (a 14))), (q 15, .inl (cI, 100, .inl (a 15))), (q 16, .inl (cI, 100, .inl (a 16))), (q 17, .inl (cI, 100, .inl (a 17))), (q 18, .inl (cI, 100, .inl (a 18))), (q 19, .inl (cI, 2000, .inl (a 19))), (q 20, .inl (cI, 2000, .inl (a 20))), (q 21, .inl (cZ, 2000, .inl (a 21)))] H := hP
  have hD : va_D A [(h0, .inr (5, [.int 0, .int (a 0 0), .int (a 0 1), .ref (q 1), .ref (q 2), .ref (q 3), .ref (q 4), .ref (q 5), .ref (q 6), .ref (q 7), .ref (q 8), .ref (q 9), .int (a 0 2), .int (a 0 3), .ref (q 10), .ref (q 11), .ref (q 12), .ref (q 13), .ref (q 14), .ref (q 15), .ref (q 16), .ref (q 17), .ref (q 18), .int (a 0 4), .ref (q 19), .ref (q 20), .ref (q 21), .int (a 0 5), .int (a 0 6), .int (a 0 7), .int (a 0 8)])), (q 1, .inl (cI, 8, .inl (a 1))), (q 2, .inl (cI, 8, .inl (a 2))), (q 3, .inl (cI, 8, .inl (a 3))), (q 4, .inl (cI, 8, .inl (a 4))), (q 5, .inl (cI, 8, .inl (a 5))), (q 6, .inl (cI, 8, .inl (a 6))), (q 7, .inl (cI, 8, .inl (a 7))), (q 8, .inl (cI, 8, .inl (a 8))), (q 9, .inl (cF, 4, .inr (.inr (.inl (fun j => shF (a 9 j)))))), (q 10, .inl (cI, 100, .inl (a 10))), (q 11, .inl (cI, 100, .inl (a 11))), (q 12, .inl (cI, 100, .inl (a 12))), (q 13, .inl (cF, 100, .inr (.inr (.inl (fun j => shF (a 13 j)))))), (q 14, .inl (cI, 100, .inl (a 14))), (q 15, .inl (cI, 100, .inl (a 15))), (q 16, .inl (cI, 100, .inl (a 16))), (q 17, .inl (cI, 100, .inl (a 17))), (q 18, .inl (cI, 100, .inl (a 18))), (q 19, .inl (cI, 2000, .inl (a 19))), (q 20, .inl (cI, 2000, .inl (a 20))), (q 21, .inl (cZ, 2000, .inl (a 21)))] := hD
  refine lv_aload_n hx hb dX5_payouts_5 rfl (lv_at hl 0 rfl) ?_
  refine va_get (D := (dC, dI)) (ci := 5) (v := .int (a 0 4)) (C := RX5) (T := TX5) (N := 31) hx hb hts hiX5 hown hK hP 0 rfl rfl 23 (by decide) (hts (.fieldLink RX5 145 "PayoutnetModel" "payouts" "I") (List.mem_of_getElem? (i := 2) rfl)) (fun _ h9 => h9) rfl dX5_payouts_6 ?_
  have hP9 := hP
  have hD9 := hD
  have hK9 := hK
  exact W.iret (v := a 0 4) hx hb hr (fun t ht hW => ⟨⟨a 0 4, (), rfl, rfl, atW_end hP9 hD9 hK9 ht hW⟩, hS.F ht⟩) hS.2.2 dX5_payouts_9
set_option maxHeartbeats 4000000 in
set_option maxRecDepth 100000 in
theorem c_X5_received (l : Launch) (dC : Nat → ClassId) (dI : Nat → Nat → Nat) (cI cF cZ : ClassId) (h0 : Nat) (q : Nat → Nat) (sz : Nat) (a : yA) (th : Int32) (hB : okB a)  : Met l yX5_received wsX5_received ({ frames := 0, cells := 0, slots := 0, locals := 0 } : Room) (va_Pc [.ref h0] (pcW dC dI [(cI, .int), (cF, .float), (cZ, .boolean)] (WM cI cF cZ h0 q a th) sz)) (va_Qi (fun (r : Int32) (_ : Unit) => r = a 0 5) (fun _ t => atM dC dI cI cF cZ (va_A (WM cI cF cZ h0 q a th) sz) h0 q (a) 0 t) (va_A (WM cI cF cZ h0 q a th) sz)) 0 0 (va_A (WM cI cF cZ h0 q a th) sz) := by
  refine Met.ofW (cc := cX5_received) (maxL := 1) (ret := (some .int)) (by decide) rfl ?_
  intro p e s m args below meth c s₁ B hml hv
  obtain ⟨rfl, hsz, hP, hK, hD0⟩ := hv
  have hx := B.exec
  have hb := B.bytes
  have hr := B.returns
  have hts := atoms_spec (ws := wsX5_received) B.pre
  have hown : s.vm.findClass RX5 = some m.cls := findClass_of_methodNamed B.named
  have hlocks := B.notSynchronized
  subst hsz
  have hD := hD0.self (sz := s.heap.size)
  generalize hAe : va_A [(h0, .inr (5, [.int th, .int (a 0 0), .int (a 0 1), .ref (q 1), .ref (q 2), .ref (q 3), .ref (q 4), .ref (q 5), .ref (q 6), .ref (q 7), .ref (q 8), .ref (q 9), .int (a 0 2), .int (a 0 3), .ref (q 10), .ref (q 11), .ref (q 12), .ref (q 13), .ref (q 14), .ref (q 15), .ref (q 16), .ref (q 17), .ref (q 18), .int (a 0 4), .ref (q 19), .ref (q 20), .ref (q 21), .int (a 0 5), .int (a 0 6), .int (a 0 7), .int (a 0 8)])), (q 1, .inl (cI, 8, .inl (a 1))), (q 2, .inl (cI, 8, .inl (a 2))), (q 3, .inl (cI, 8, .inl (a 3))), (q 4, .inl (cI, 8, .inl (a 4))), (q 5, .inl (cI, 8, .inl (a 5))), (q 6, .inl (cI, 8, .inl (a 6))), (q 7, .inl (cI, 8, .inl (a 7))), (q 8, .inl (cI, 8, .inl (a 8))), (q 9, .inl (cF, 4, .inr (.inr (.inl (fun j => shF (a 9 j)))))), (q 10, .inl (cI, 100, .inl (a 10))), (q 11, .inl (cI, 100, .inl (a 11))), (q 12, .inl (cI, 100, .inl (a 12))), (q 13, .inl (cF, 100, .inr (.inr (.inl (fun j => shF (a 13 j)))))), (q 14, .inl (cI, 100, .inl (a 14))), (q 15, .inl (cI, 100, .inl (a 15))), (q 16, .inl (cI, 100, .inl (a 16))), (q 17, .inl (cI, 100, .inl (a 17))), (q 18, .inl (cI, 100, .inl (a 18))), (q 19, .inl (cI, 2000, .inl (a 19))), (q 20, .inl (cI, 2000, .inl (a 20))), (q 21, .inl (cZ, 2000, .inl (a 21)))] s.heap.size = A at hD ⊢
  have hA : ∀ q : Nat, s.heap.size ≤ q → A q := fun q h => by rw [← hAe]; exact Or.inr h
  have hS : va_S A s.heap s.heap [] := va_S.rf
  have hl := lv_entry ([.ref h0]) (n := 1) (Nat.le_of_ble_eq_true rfl)
  rw [lg_entry_eq]
  generalize (lg_sl ([.ref h0]) ++ List.replicate (1 - (lg_sl ([.ref h0])).length) Slot.unset).toArray = ls at hl ⊢
  have hl : lv_has ls 1 [(0, .ref h0)] := hl
  have hiX5 : ∀ w ∈ wsX50, w ∈ wsX5_received := fun w h => List.mem_cons_of_mem _ (List.mem_append_right _ h)
  have hP : va_P (dC, dI) vwCl [(h0, .inr (5, [.int th, .int (a 0 0), .int (a 0 1), .ref (q 1), .ref (q 2), .ref (q 3), .ref (q 4), .ref (q 5), .ref (q 6), .ref (q 7), .ref (q 8), .ref (q 9), .int (a 0 2), .int (a 0 3), .ref (q 10), .ref (q 11), .ref (q 12), .ref (q 13), .ref (q 14), .ref (q 15), .ref (q 16), .ref (q 17), .ref (q 18), .int (a 0 4), .ref (q 19), .ref (q 20), .ref (q 21), .int (a 0 5), .int (a 0 6), .int (a 0 7), .int (a 0 8)])), (q 1, .inl (cI, 8, .inl (a 1))), (q 2, .inl (cI, 8, .inl (a 2))), (q 3, .inl (cI, 8, .inl (a 3))), (q 4, .inl (cI, 8, .inl (a 4))), (q 5, .inl (cI, 8, .inl (a 5))), (q 6, .inl (cI, 8, .inl (a 6))), (q 7, .inl (cI, 8, .inl (a 7))), (q 8, .inl (cI, 8, .inl (a 8))), (q 9, .inl (cF, 4, .inr (.inr (.inl (fun j => shF (a 9 j)))))), (q 10, .inl (cI, 100, .inl (a 10))), (q 11, .inl (cI, 100, .inl (a 11))), (q 12, .inl (cI, 100, .inl (a 12))), (q 13, .inl (cF, 100, .inr (.inr (.inl (fun j => shF (a 13 j)))))), (q 14, .inl (cI, 100, .inl (a 14))), (q 15, .inl (cI, 100, .inl (a 15))), (q 16, .inl (cI, 100, .inl (a 16))), (q 17, .inl (cI, 100, .inl (a 17))), (q 18, .inl (cI, 100, .inl (a 18))), (q 19, .inl (cI, 2000, .inl (a 19))), (q 20, .inl (cI, 2000, .inl (a 20))), (q 21, .inl (cZ, 2000, .inl (a 21)))] s.heap := hP
  refine y_enter (A := A) hP (fun H hP hS => ?_)
  have hBk := hB
  refine lv_aload_n hx hb dX5_received_0 rfl (lv_at hl 0 rfl) ?_
  refine lv_iconst (v := 0) hx hb dX5_received_1 (by decide) ?_
  refine va_put (D := (dC, dI)) (ci := 5) (v := .int 0) (ty := .int) (C := RX5) (T := TX5) (N := 31) hx hb hts hiX5 tyX5 tyX5_ok nmX5 hown hK hP hD hS 0 rfl rfl 0 (by decide) (hts (.fieldLink RX5 76 "PayoutnetModel" "thrown" "I") (List.mem_of_getElem? (i := 1) rfl)) (fun _ h9 => h9) rfl (tyX5_ok 0 (by decide)) rfl rfl (Nat.le_of_ble_eq_true rfl) dX5_received_2 (fun H locs hP hD hS => ?_)
  have hP : va_P (dC, dI) vwCl [(h0, .inr (5, [.int 0, .int (a 0 0), .int (a 0 1), .ref (q 1), .ref (q 2), .ref (q 3), .ref (q 4), .ref (q 5), .ref (q 6), .ref (q 7), .ref (q 8), .ref (q 9), .int (a 0 2), .int (a 0 3), .ref (q 10), .ref (q 11), .ref (q 12), .ref (q 13), .ref (q 14), .ref (q 15), .ref (q 16), .ref (q 17), .ref (q 18), .int (a 0 4), .ref (q 19), .ref (q 20), .ref (q 21), .int (a 0 5), .int (a 0 6), .int (a 0 7), .int (a 0 8)])), (q 1, .inl (cI, 8, .inl (a 1))), (q 2, .inl (cI, 8, .inl (a 2))), (q 3, .inl (cI, 8, .inl (a 3))), (q 4, .inl (cI, 8, .inl (a 4))), (q 5, .inl (cI, 8, .inl (a 5))), (q 6, .inl (cI, 8, .inl (a 6))), (q 7, .inl (cI, 8, .inl (a 7))), (q 8, .inl (cI, 8, .inl (a 8))), (q 9, .inl (cF, 4, .inr (.inr (.inl (fun j => shF (a 9 j)))))), (q 10, .inl (cI, 100, .inl (a 10))), (q 11, .inl (cI, 100, .inl (a 11))), (q 12, .inl (cI, 100, .inl (a 12))), (q 13, .inl (cF, 100, .inr (.inr (.inl (fun j => shF (a 13 j)))))), (q 14, .inl (cI, 100, .inl (a 14))), (q 15, .inl (cI, 100, .inl (a 15))), (q 16, .inl (cI, 100, .inl (a 16))), (q 17, .inl (cI, 100, .inl (a 17))), (q 18, .inl (cI, 100, .inl (a 18))), (q 19, .inl (cI, 2000, .inl (a 19))), (q 20, .inl (cI, 2000, .inl (a 20))), (q 21, .inl (cZ, 2000, .inl (a 21)))] H := hP
  have hD : va_D A [(h0, .inr (5, [.int 0, .int (a 0 0), .int (a 0 1), .ref (q 1), .ref (q 2), .ref (q 3), .ref (q 4), .ref (q 5), .ref (q 6), .ref (q 7), .ref (q 8), .ref (q 9), .int (a 0 2), .int (a 0 3), .ref (q 10), .ref (q 11), .ref (q 12), .ref (q 13), .ref (q 14), .ref (q 15), .ref (q 16), .ref (q 17), .ref (q 18), .int (a 0 4), .ref (q 19), .ref (q 20), .ref (q 21), .int (a 0 5), .int (a 0 6), .int (a 0 7), .int (a 0 8)])), (q 1, .inl (cI, 8, .inl (a 1))), (q 2, .inl (cI, 8, .inl (a 2))), (q 3, .inl (cI, 8, .inl (a 3))), (q 4, .inl (cI, 8, .inl (a 4))), (q 5, .inl (cI, 8, .inl (a 5))), (q 6, .inl (cI, 8, .inl (a 6))), (q 7, .inl (cI, 8, .inl (a 7))), (q 8, .inl (cI, 8, .inl (a 8))), (q 9, .inl (cF, 4, .inr (.inr (.inl (fun j => shF (a 9 j)))))), (q 10, .inl (cI, 100, .inl (a 10))), (q 11, .inl (cI, 100, .inl (a 11))), (q 12, .inl (cI, 100, .inl (a 12))), (q 13, .inl (cF, 100, .inr (.inr (.inl (fun j => shF (a 13 j)))))), (q 14, .inl (cI, 100, .inl (a 14))), (q 15, .inl (cI, 100, .inl (a 15))), (q 16, .inl (cI, 100, .inl (a 16))), (q 17, .inl (cI, 100, .inl (a 17))), (q 18, .inl (cI, 100, .inl (a 18))), (q 19, .inl (cI, 2000, .inl (a 19))), (q 20, .inl (cI, 2000, .inl (a 20))), (q 21, .inl (cZ, 2000, .inl (a 21)))] := hD
  refine lv_aload_n hx hb dX5_received_5 rfl (lv_at hl 0 rfl) ?_
  refine va_get (D := (dC, dI)) (ci := 5) (v := .int (a 0 5)) (C := RX5) (T := TX5) (N := 31) hx hb hts hiX5 hown hK hP 0 rfl rfl 27 (by decide) (hts (.fieldLink RX5 120 "PayoutnetModel" "received" "I") (List.mem_of_getElem? (i := 2) rfl)) (fun _ h9 => h9) rfl dX5_received_6 ?_
  have hP9 := hP
  have hD9 := hD
  have hK9 := hK
  exact W.iret (v := a 0 5) hx hb hr (fun t ht hW => ⟨⟨a 0 5, (), rfl, rfl, atW_end hP9 hD9 hK9 ht hW⟩, hS.F ht⟩) hS.2.2 dX5_received_9
set_option maxHeartbeats 4000000 in
set_option maxRecDepth 100000 in
theorem c_X5_refunded (l : Launch) (dC : Nat → ClassId) (dI : Nat → Nat → Nat) (cI cF cZ : ClassId) (h0 : Nat) (q : Nat → Nat) (sz : Nat) (a : yA) (th : Int32) (hB : okB a)  : Met l yX5_refunded wsX5_refunded ({ frames := 0, cells := 0, slots := 0, locals := 0 } : Room) (va_Pc [.ref h0] (pcW dC dI [(cI, .int), (cF, .float), (cZ, .boolean)] (WM cI cF cZ h0 q a th) sz)) (va_Qi (fun (r : Int32) (_ : Unit) => r = a 0 6) (fun _ t => atM dC dI cI cF cZ (va_A (WM cI cF cZ h0 q a th) sz) h0 q (a) 0 t) (va_A (WM cI cF cZ h0 q a th) sz)) 0 0 (va_A (WM cI cF cZ h0 q a th) sz) := by
  refine Met.ofW (cc := cX5_refunded) (maxL := 1) (ret := (some .int)) (by decide) rfl ?_
  intro p e s m args below meth c s₁ B hml hv
  obtain ⟨rfl, hsz, hP, hK, hD0⟩ := hv
  have hx := B.exec
  have hb := B.bytes
  have hr := B.returns
  have hts := atoms_spec (ws := wsX5_refunded) B.pre
  have hown : s.vm.findClass RX5 = some m.cls := findClass_of_methodNamed B.named
  have hlocks := B.notSynchronized
  subst hsz
  have hD := hD0.self (sz := s.heap.size)
  generalize hAe : va_A [(h0, .inr (5, [.int th, .int (a 0 0), .int (a 0 1), .ref (q 1), .ref (q 2), .ref (q 3), .ref (q 4), .ref (q 5), .ref (q 6), .ref (q 7), .ref (q 8), .ref (q 9), .int (a 0 2), .int (a 0 3), .ref (q 10), .ref (q 11), .ref (q 12), .ref (q 13), .ref (q 14), .ref (q 15), .ref (q 16), .ref (q 17), .ref (q 18), .int (a 0 4), .ref (q 19), .ref (q 20), .ref (q 21), .int (a 0 5), .int (a 0 6), .int (a 0 7), .int (a 0 8)])), (q 1, .inl (cI, 8, .inl (a 1))), (q 2, .inl (cI, 8, .inl (a 2))), (q 3, .inl (cI, 8, .inl (a 3))), (q 4, .inl (cI, 8, .inl (a 4))), (q 5, .inl (cI, 8, .inl (a 5))), (q 6, .inl (cI, 8, .inl (a 6))), (q 7, .inl (cI, 8, .inl (a 7))), (q 8, .inl (cI, 8, .inl (a 8))), (q 9, .inl (cF, 4, .inr (.inr (.inl (fun j => shF (a 9 j)))))), (q 10, .inl (cI, 100, .inl (a 10))), (q 11, .inl (cI, 100, .inl (a 11))), (q 12, .inl (cI, 100, .inl (a 12))), (q 13, .inl (cF, 100, .inr (.inr (.inl (fun j => shF (a 13 j)))))), (q 14, .inl (cI, 100, .inl (a 14))), (q 15, .inl (cI, 100, .inl (a 15))), (q 16, .inl (cI, 100, .inl (a 16))), (q 17, .inl (cI, 100, .inl (a 17))), (q 18, .inl (cI, 100, .inl (a 18))), (q 19, .inl (cI, 2000, .inl (a 19))), (q 20, .inl (cI, 2000, .inl (a 20))), (q 21, .inl (cZ, 2000, .inl (a 21)))] s.heap.size = A at hD ⊢
  have hA : ∀ q : Nat, s.heap.size ≤ q → A q := fun q h => by rw [← hAe]; exact Or.inr h
  have hS : va_S A s.heap s.heap [] := va_S.rf
  have hl := lv_entry ([.ref h0]) (n := 1) (Nat.le_of_ble_eq_true rfl)
  rw [lg_entry_eq]
  generalize (lg_sl ([.ref h0]) ++ List.replicate (1 - (lg_sl ([.ref h0])).length) Slot.unset).toArray = ls at hl ⊢
  have hl : lv_has ls 1 [(0, .ref h0)] := hl
  have hiX5 : ∀ w ∈ wsX50, w ∈ wsX5_refunded := fun w h => List.mem_cons_of_mem _ (List.mem_append_right _ h)
  have hP : va_P (dC, dI) vwCl [(h0, .inr (5, [.int th, .int (a 0 0), .int (a 0 1), .ref (q 1), .ref (q 2), .ref (q 3), .ref (q 4), .ref (q 5), .ref (q 6), .ref (q 7), .ref (q 8), .ref (q 9), .int (a 0 2), .int (a 0 3), .ref (q 10), .ref (q 11), .ref (q 12), .ref (q 13), .ref (q 14), .ref (q 15), .ref (q 16), .ref (q 17), .ref (q 18), .int (a 0 4), .ref (q 19), .ref (q 20), .ref (q 21), .int (a 0 5), .int (a 0 6), .int (a 0 7), .int (a 0 8)])), (q 1, .inl (cI, 8, .inl (a 1))), (q 2, .inl (cI, 8, .inl (a 2))), (q 3, .inl (cI, 8, .inl (a 3))), (q 4, .inl (cI, 8, .inl (a 4))), (q 5, .inl (cI, 8, .inl (a 5))), (q 6, .inl (cI, 8, .inl (a 6))), (q 7, .inl (cI, 8, .inl (a 7))), (q 8, .inl (cI, 8, .inl (a 8))), (q 9, .inl (cF, 4, .inr (.inr (.inl (fun j => shF (a 9 j)))))), (q 10, .inl (cI, 100, .inl (a 10))), (q 11, .inl (cI, 100, .inl (a 11))), (q 12, .inl (cI, 100, .inl (a 12))), (q 13, .inl (cF, 100, .inr (.inr (.inl (fun j => shF (a 13 j)))))), (q 14, .inl (cI, 100, .inl (a 14))), (q 15, .inl (cI, 100, .inl (a 15))), (q 16, .inl (cI, 100, .inl (a 16))), (q 17, .inl (cI, 100, .inl (a 17))), (q 18, .inl (cI, 100, .inl (a 18))), (q 19, .inl (cI, 2000, .inl (a 19))), (q 20, .inl (cI, 2000, .inl (a 20))), (q 21, .inl (cZ, 2000, .inl (a 21)))] s.heap := hP
  refine y_enter (A := A) hP (fun H hP hS => ?_)
  have hBk := hB
  refine lv_aload_n hx hb dX5_refunded_0 rfl (lv_at hl 0 rfl) ?_
  refine lv_iconst (v := 0) hx hb dX5_refunded_1 (by decide) ?_
  refine va_put (D := (dC, dI)) (ci := 5) (v := .int 0) (ty := .int) (C := RX5) (T := TX5) (N := 31) hx hb hts hiX5 tyX5 tyX5_ok nmX5 hown hK hP hD hS 0 rfl rfl 0 (by decide) (hts (.fieldLink RX5 76 "PayoutnetModel" "thrown" "I") (List.mem_of_getElem? (i := 1) rfl)) (fun _ h9 => h9) rfl (tyX5_ok 0 (by decide)) rfl rfl (Nat.le_of_ble_eq_true rfl) dX5_refunded_2 (fun H locs hP hD hS => ?_)
  have hP : va_P (dC, dI) vwCl [(h0, .inr (5, [.int 0, .int (a 0 0), .int (a 0 1), .ref (q 1), .ref (q 2), .ref (q 3), .ref (q 4), .ref (q 5), .ref (q 6), .ref (q 7), .ref (q 8), .ref (q 9), .int (a 0 2), .int (a 0 3), .ref (q 10), .ref (q 11), .ref (q 12), .ref (q 13), .ref (q 14), .ref (q 15), .ref (q 16), .ref (q 17), .ref (q 18), .int (a 0 4), .ref (q 19), .ref (q 20), .ref (q 21), .int (a 0 5), .int (a 0 6), .int (a 0 7), .int (a 0 8)])), (q 1, .inl (cI, 8, .inl (a 1))), (q 2, .inl (cI, 8, .inl (a 2))), (q 3, .inl (cI, 8, .inl (a 3))), (q 4, .inl (cI, 8, .inl (a 4))), (q 5, .inl (cI, 8, .inl (a 5))), (q 6, .inl (cI, 8, .inl (a 6))), (q 7, .inl (cI, 8, .inl (a 7))), (q 8, .inl (cI, 8, .inl (a 8))), (q 9, .inl (cF, 4, .inr (.inr (.inl (fun j => shF (a 9 j)))))), (q 10, .inl (cI, 100, .inl (a 10))), (q 11, .inl (cI, 100, .inl (a 11))), (q 12, .inl (cI, 100, .inl (a 12))), (q 13, .inl (cF, 100, .inr (.inr (.inl (fun j => shF (a 13 j)))))), (q 14, .inl (cI, 100, .inl (a 14))), (q 15, .inl (cI, 100, .inl (a 15))), (q 16, .inl (cI, 100, .inl (a 16))), (q 17, .inl (cI, 100, .inl (a 17))), (q 18, .inl (cI, 100, .inl (a 18))), (q 19, .inl (cI, 2000, .inl (a 19))), (q 20, .inl (cI, 2000, .inl (a 20))), (q 21, .inl (cZ, 2000, .inl (a 21)))] H := hP
  have hD : va_D A [(h0, .inr (5, [.int 0, .int (a 0 0), .int (a 0 1), .ref (q 1), .ref (q 2), .ref (q 3), .ref (q 4), .ref (q 5), .ref (q 6), .ref (q 7), .ref (q 8), .ref (q 9), .int (a 0 2), .int (a 0 3), .ref (q 10), .ref (q 11), .ref (q 12), .ref (q 13), .ref (q 14), .ref (q 15), .ref (q 16), .ref (q 17), .ref (q 18), .int (a 0 4), .ref (q 19), .ref (q 20), .ref (q 21), .int (a 0 5), .int (a 0 6), .int (a 0 7), .int (a 0 8)])), (q 1, .inl (cI, 8, .inl (a 1))), (q 2, .inl (cI, 8, .inl (a 2))), (q 3, .inl (cI, 8, .inl (a 3))), (q 4, .inl (cI, 8, .inl (a 4))), (q 5, .inl (cI, 8, .inl (a 5))), (q 6, .inl (cI, 8, .inl (a 6))), (q 7, .inl (cI, 8, .inl (a 7))), (q 8, .inl (cI, 8, .inl (a 8))), (q 9, .inl (cF, 4, .inr (.inr (.inl (fun j => shF (a 9 j)))))), (q 10, .inl (cI, 100, .inl (a 10))), (q 11, .inl (cI, 100, .inl (a 11))), (q 12, .inl (cI, 100, .inl (a 12))), (q 13, .inl (cF, 100, .inr (.inr (.inl (fun j => shF (a 13 j)))))), (q 14, .inl (cI, 100, .inl (a 14))), (q 15, .inl (cI, 100, .inl (a 15))), (q 16, .inl (cI, 100, .inl (a 16))), (q 17, .inl (cI, 100, .inl (a 17))), (q 18, .inl (cI, 100, .inl (a 18))), (q 19, .inl (cI, 2000, .inl (a 19))), (q 20, .inl (cI, 2000, .inl (a 20))), (q 21, .inl (cZ, 2000, .inl (a 21)))] := hD
  refine lv_aload_n hx hb dX5_refunded_5 rfl (lv_at hl 0 rfl) ?_
  refine va_get (D := (dC, dI)) (ci := 5) (v := .int (a 0 6)) (C := RX5) (T := TX5) (N := 31) hx hb hts hiX5 hown hK hP 0 rfl rfl 28 (by decide) (hts (.fieldLink RX5 137 "PayoutnetModel" "refunded" "I") (List.mem_of_getElem? (i := 2) rfl)) (fun _ h9 => h9) rfl dX5_refunded_6 ?_
  have hP9 := hP
  have hD9 := hD
  have hK9 := hK
  exact W.iret (v := a 0 6) hx hb hr (fun t ht hW => ⟨⟨a 0 6, (), rfl, rfl, atW_end hP9 hD9 hK9 ht hW⟩, hS.F ht⟩) hS.2.2 dX5_refunded_9
set_option maxHeartbeats 4000000 in
set_option maxRecDepth 100000 in
theorem c_X5_fees (l : Launch) (dC : Nat → ClassId) (dI : Nat → Nat → Nat) (cI cF cZ : ClassId) (h0 : Nat) (q : Nat → Nat) (sz : Nat) (a : yA) (th : Int32) (hB : okB a)  : Met l yX5_fees wsX5_fees ({ frames := 0, cells := 0, slots := 0, locals := 0 } : Room) (va_Pc [.ref h0] (pcW dC dI [(cI, .int), (cF, .float), (cZ, .boolean)] (WM cI cF cZ h0 q a th) sz)) (va_Qi (fun (r : Int32) (_ : Unit) => r = a 0 7) (fun _ t => atM dC dI cI cF cZ (va_A (WM cI cF cZ h0 q a th) sz) h0 q (a) 0 t) (va_A (WM cI cF cZ h0 q a th) sz)) 0 0 (va_A (WM cI cF cZ h0 q a th) sz) := by
  refine Met.ofW (cc := cX5_fees) (maxL := 1) (ret := (some .int)) (by decide) rfl ?_
  intro p e s m args below meth c s₁ B hml hv
  obtain ⟨rfl, hsz, hP, hK, hD0⟩ := hv
  have hx := B.exec
  have hb := B.bytes
  have hr := B.returns
  have hts := atoms_spec (ws := wsX5_fees) B.pre
  have hown : s.vm.findClass RX5 = some m.cls := findClass_of_methodNamed B.named
  have hlocks := B.notSynchronized
  subst hsz
  have hD := hD0.self (sz := s.heap.size)
  generalize hAe : va_A [(h0, .inr (5, [.int th, .int (a 0 0), .int (a 0 1), .ref (q 1), .ref (q 2), .ref (q 3), .ref (q 4), .ref (q 5), .ref (q 6), .ref (q 7), .ref (q 8), .ref (q 9), .int (a 0 2), .int (a 0 3), .ref (q 10), .ref (q 11), .ref (q 12), .ref (q 13), .ref (q 14), .ref (q 15), .ref (q 16), .ref (q 17), .ref (q 18), .int (a 0 4), .ref (q 19), .ref (q 20), .ref (q 21), .int (a 0 5), .int (a 0 6), .int (a 0 7), .int (a 0 8)])), (q 1, .inl (cI, 8, .inl (a 1))), (q 2, .inl (cI, 8, .inl (a 2))), (q 3, .inl (cI, 8, .inl (a 3))), (q 4, .inl (cI, 8, .inl (a 4))), (q 5, .inl (cI, 8, .inl (a 5))), (q 6, .inl (cI, 8, .inl (a 6))), (q 7, .inl (cI, 8, .inl (a 7))), (q 8, .inl (cI, 8, .inl (a 8))), (q 9, .inl (cF, 4, .inr (.inr (.inl (fun j => shF (a 9 j)))))), (q 10, .inl (cI, 100, .inl (a 10))), (q 11, .inl (cI, 100, .inl (a 11))), (q 12, .inl (cI, 100, .inl (a 12))), (q 13, .inl (cF, 100, .inr (.inr (.inl (fun j => shF (a 13 j)))))), (q 14, .inl (cI, 100, .inl (a 14))), (q 15, .inl (cI, 100, .inl (a 15))), (q 16, .inl (cI, 100, .inl (a 16))), (q 17, .inl (cI, 100, .inl (a 17))), (q 18, .inl (cI, 100, .inl (a 18))), (q 19, .inl (cI, 2000, .inl (a 19))), (q 20, .inl (cI, 2000, .inl (a 20))), (q 21, .inl (cZ, 2000, .inl (a 21)))] s.heap.size = A at hD ⊢
  have hA : ∀ q : Nat, s.heap.size ≤ q → A q := fun q h => by rw [← hAe]; exact Or.inr h
  have hS : va_S A s.heap s.heap [] := va_S.rf
  have hl := lv_entry ([.ref h0]) (n := 1) (Nat.le_of_ble_eq_true rfl)
  rw [lg_entry_eq]
  generalize (lg_sl ([.ref h0]) ++ List.replicate (1 - (lg_sl ([.ref h0])).length) Slot.unset).toArray = ls at hl ⊢
  have hl : lv_has ls 1 [(0, .ref h0)] := hl
  have hiX5 : ∀ w ∈ wsX50, w ∈ wsX5_fees := fun w h => List.mem_cons_of_mem _ (List.mem_append_right _ h)
  have hP : va_P (dC, dI) vwCl [(h0, .inr (5, [.int th, .int (a 0 0), .int (a 0 1), .ref (q 1), .ref (q 2), .ref (q 3), .ref (q 4), .ref (q 5), .ref (q 6), .ref (q 7), .ref (q 8), .ref (q 9), .int (a 0 2), .int (a 0 3), .ref (q 10), .ref (q 11), .ref (q 12), .ref (q 13), .ref (q 14), .ref (q 15), .ref (q 16), .ref (q 17), .ref (q 18), .int (a 0 4), .ref (q 19), .ref (q 20), .ref (q 21), .int (a 0 5), .int (a 0 6), .int (a 0 7), .int (a 0 8)])), (q 1, .inl (cI, 8, .inl (a 1))), (q 2, .inl (cI, 8, .inl (a 2))), (q 3, .inl (cI, 8, .inl (a 3))), (q 4, .inl (cI, 8, .inl (a 4))), (q 5, .inl (cI, 8, .inl (a 5))), (q 6, .inl (cI, 8, .inl (a 6))), (q 7, .inl (cI, 8, .inl (a 7))), (q 8, .inl (cI, 8, .inl (a 8))), (q 9, .inl (cF, 4, .inr (.inr (.inl (fun j => shF (a 9 j)))))), (q 10, .inl (cI, 100, .inl (a 10))), (q 11, .inl (cI, 100, .inl (a 11))), (q 12, .inl (cI, 100, .inl (a 12))), (q 13, .inl (cF, 100, .inr (.inr (.inl (fun j => shF (a 13 j)))))), (q 14, .inl (cI, 100, .inl (a 14))), (q 15, .inl (cI, 100, .inl (a 15))), (q 16, .inl (cI, 100, .inl (a 16))), (q 17, .inl (cI, 100, .inl (a 17))), (q 18, .inl (cI, 100, .inl (a 18))), (q 19, .inl (cI, 2000, .inl (a 19))), (q 20, .inl (cI, 2000, .inl (a 20))), (q 21, .inl (cZ, 2000, .inl (a 21)))] s.heap := hP
  refine y_enter (A := A) hP (fun H hP hS => ?_)
  have hBk := hB
  refine lv_aload_n hx hb dX5_fees_0 rfl (lv_at hl 0 rfl) ?_
  refine lv_iconst (v := 0) hx hb dX5_fees_1 (by decide) ?_
  refine va_put (D := (dC, dI)) (ci := 5) (v := .int 0) (ty := .int) (C := RX5) (T := TX5) (N := 31) hx hb hts hiX5 tyX5 tyX5_ok nmX5 hown hK hP hD hS 0 rfl rfl 0 (by decide) (hts (.fieldLink RX5 76 "PayoutnetModel" "thrown" "I") (List.mem_of_getElem? (i := 1) rfl)) (fun _ h9 => h9) rfl (tyX5_ok 0 (by decide)) rfl rfl (Nat.le_of_ble_eq_true rfl) dX5_fees_2 (fun H locs hP hD hS => ?_)
  have hP : va_P (dC, dI) vwCl [(h0, .inr (5, [.int 0, .int (a 0 0), .int (a 0 1), .ref (q 1), .ref (q 2), .ref (q 3), .ref (q 4), .ref (q 5), .ref (q 6), .ref (q 7), .ref (q 8), .ref (q 9), .int (a 0 2), .int (a 0 3), .ref (q 10), .ref (q 11), .ref (q 12), .ref (q 13), .ref (q 14), .ref (q 15), .ref (q 16), .ref (q 17), .ref (q 18), .int (a 0 4), .ref (q 19), .ref (q 20), .ref (q 21), .int (a 0 5), .int (a 0 6), .int (a 0 7), .int (a 0 8)])), (q 1, .inl (cI, 8, .inl (a 1))), (q 2, .inl (cI, 8, .inl (a 2))), (q 3, .inl (cI, 8, .inl (a 3))), (q 4, .inl (cI, 8, .inl (a 4))), (q 5, .inl (cI, 8, .inl (a 5))), (q 6, .inl (cI, 8, .inl (a 6))), (q 7, .inl (cI, 8, .inl (a 7))), (q 8, .inl (cI, 8, .inl (a 8))), (q 9, .inl (cF, 4, .inr (.inr (.inl (fun j => shF (a 9 j)))))), (q 10, .inl (cI, 100, .inl (a 10))), (q 11, .inl (cI, 100, .inl (a 11))), (q 12, .inl (cI, 100, .inl (a 12))), (q 13, .inl (cF, 100, .inr (.inr (.inl (fun j => shF (a 13 j)))))), (q 14, .inl (cI, 100, .inl (a 14))), (q 15, .inl (cI, 100, .inl (a 15))), (q 16, .inl (cI, 100, .inl (a 16))), (q 17, .inl (cI, 100, .inl (a 17))), (q 18, .inl (cI, 100, .inl (a 18))), (q 19, .inl (cI, 2000, .inl (a 19))), (q 20, .inl (cI, 2000, .inl (a 20))), (q 21, .inl (cZ, 2000, .inl (a 21)))] H := hP
  have hD : va_D A [(h0, .inr (5, [.int 0, .int (a 0 0), .int (a 0 1), .ref (q 1), .ref (q 2), .ref (q 3), .ref (q 4), .ref (q 5), .ref (q 6), .ref (q 7), .ref (q 8), .ref (q 9), .int (a 0 2), .int (a 0 3), .ref (q 10), .ref (q 11), .ref (q 12), .ref (q 13), .ref (q 14), .ref (q 15), .ref (q 16), .ref (q 17), .ref (q 18), .int (a 0 4), .ref (q 19), .ref (q 20), .ref (q 21), .int (a 0 5), .int (a 0 6), .int (a 0 7), .int (a 0 8)])), (q 1, .inl (cI, 8, .inl (a 1))), (q 2, .inl (cI, 8, .inl (a 2))), (q 3, .inl (cI, 8, .inl (a 3))), (q 4, .inl (cI, 8, .inl (a 4))), (q 5, .inl (cI, 8, .inl (a 5))), (q 6, .inl (cI, 8, .inl (a 6))), (q 7, .inl (cI, 8, .inl (a 7))), (q 8, .inl (cI, 8, .inl (a 8))), (q 9, .inl (cF, 4, .inr (.inr (.inl (fun j => shF (a 9 j)))))), (q 10, .inl (cI, 100, .inl (a 10))), (q 11, .inl (cI, 100, .inl (a 11))), (q 12, .inl (cI, 100, .inl (a 12))), (q 13, .inl (cF, 100, .inr (.inr (.inl (fun j => shF (a 13 j)))))), (q 14, .inl (cI, 100, .inl (a 14))), (q 15, .inl (cI, 100, .inl (a 15))), (q 16, .inl (cI, 100, .inl (a 16))), (q 17, .inl (cI, 100, .inl (a 17))), (q 18, .inl (cI, 100, .inl (a 18))), (q 19, .inl (cI, 2000, .inl (a 19))), (q 20, .inl (cI, 2000, .inl (a 20))), (q 21, .inl (cZ, 2000, .inl (a 21)))] := hD
  refine lv_aload_n hx hb dX5_fees_5 rfl (lv_at hl 0 rfl) ?_
  refine va_get (D := (dC, dI)) (ci := 5) (v := .int (a 0 7)) (C := RX5) (T := TX5) (N := 31) hx hb hts hiX5 hown hK hP 0 rfl rfl 29 (by decide) (hts (.fieldLink RX5 123 "PayoutnetModel" "fees" "I") (List.mem_of_getElem? (i := 2) rfl)) (fun _ h9 => h9) rfl dX5_fees_6 ?_
  have hP9 := hP
  have hD9 := hD
  have hK9 := hK
  exact W.iret (v := a 0 7) hx hb hr (fun t ht hW => ⟨⟨a 0 7, (), rfl, rfl, atW_end hP9 hD9 hK9 ht hW⟩, hS.F ht⟩) hS.2.2 dX5_fees_9
set_option maxHeartbeats 4000000 in
set_option maxRecDepth 100000 in
theorem c_X5_taxes (l : Launch) (dC : Nat → ClassId) (dI : Nat → Nat → Nat) (cI cF cZ : ClassId) (h0 : Nat) (q : Nat → Nat) (sz : Nat) (a : yA) (th : Int32) (hB : okB a)  : Met l yX5_taxes wsX5_taxes ({ frames := 0, cells := 0, slots := 0, locals := 0 } : Room) (va_Pc [.ref h0] (pcW dC dI [(cI, .int), (cF, .float), (cZ, .boolean)] (WM cI cF cZ h0 q a th) sz)) (va_Qi (fun (r : Int32) (_ : Unit) => r = a 0 8) (fun _ t => atM dC dI cI cF cZ (va_A (WM cI cF cZ h0 q a th) sz) h0 q (a) 0 t) (va_A (WM cI cF cZ h0 q a th) sz)) 0 0 (va_A (WM cI cF cZ h0 q a th) sz) := by
  refine Met.ofW (cc := cX5_taxes) (maxL := 1) (ret := (some .int)) (by decide) rfl ?_
  intro p e s m args below meth c s₁ B hml hv
  obtain ⟨rfl, hsz, hP, hK, hD0⟩ := hv
  have hx := B.exec
  have hb := B.bytes
  have hr := B.returns
  have hts := atoms_spec (ws := wsX5_taxes) B.pre
  have hown : s.vm.findClass RX5 = some m.cls := findClass_of_methodNamed B.named
  have hlocks := B.notSynchronized
  subst hsz
  have hD := hD0.self (sz := s.heap.size)
  generalize hAe : va_A [(h0, .inr (5, [.int th, .int (a 0 0), .int (a 0 1), .ref (q 1), .ref (q 2), .ref (q 3), .ref (q 4), .ref (q 5), .ref (q 6), .ref (q 7), .ref (q 8), .ref (q 9), .int (a 0 2), .int (a 0 3), .ref (q 10), .ref (q 11), .ref (q 12), .ref (q 13), .ref (q 14), .ref (q 15), .ref (q 16), .ref (q 17), .ref (q 18), .int (a 0 4), .ref (q 19), .ref (q 20), .ref (q 21), .int (a 0 5), .int (a 0 6), .int (a 0 7), .int (a 0 8)])), (q 1, .inl (cI, 8, .inl (a 1))), (q 2, .inl (cI, 8, .inl (a 2))), (q 3, .inl (cI, 8, .inl (a 3))), (q 4, .inl (cI, 8, .inl (a 4))), (q 5, .inl (cI, 8, .inl (a 5))), (q 6, .inl (cI, 8, .inl (a 6))), (q 7, .inl (cI, 8, .inl (a 7))), (q 8, .inl (cI, 8, .inl (a 8))), (q 9, .inl (cF, 4, .inr (.inr (.inl (fun j => shF (a 9 j)))))), (q 10, .inl (cI, 100, .inl (a 10))), (q 11, .inl (cI, 100, .inl (a 11))), (q 12, .inl (cI, 100, .inl (a 12))), (q 13, .inl (cF, 100, .inr (.inr (.inl (fun j => shF (a 13 j)))))), (q 14, .inl (cI, 100, .inl (a 14))), (q 15, .inl (cI, 100, .inl (a 15))), (q 16, .inl (cI, 100, .inl (a 16))), (q 17, .inl (cI, 100, .inl (a 17))), (q 18, .inl (cI, 100, .inl (a 18))), (q 19, .inl (cI, 2000, .inl (a 19))), (q 20, .inl (cI, 2000, .inl (a 20))), (q 21, .inl (cZ, 2000, .inl (a 21)))] s.heap.size = A at hD ⊢
  have hA : ∀ q : Nat, s.heap.size ≤ q → A q := fun q h => by rw [← hAe]; exact Or.inr h
  have hS : va_S A s.heap s.heap [] := va_S.rf
  have hl := lv_entry ([.ref h0]) (n := 1) (Nat.le_of_ble_eq_true rfl)
  rw [lg_entry_eq]
  generalize (lg_sl ([.ref h0]) ++ List.replicate (1 - (lg_sl ([.ref h0])).length) Slot.unset).toArray = ls at hl ⊢
  have hl : lv_has ls 1 [(0, .ref h0)] := hl
  have hiX5 : ∀ w ∈ wsX50, w ∈ wsX5_taxes := fun w h => List.mem_cons_of_mem _ (List.mem_append_right _ h)
  have hP : va_P (dC, dI) vwCl [(h0, .inr (5, [.int th, .int (a 0 0), .int (a 0 1), .ref (q 1), .ref (q 2), .ref (q 3), .ref (q 4), .ref (q 5), .ref (q 6), .ref (q 7), .ref (q 8), .ref (q 9), .int (a 0 2), .int (a 0 3), .ref (q 10), .ref (q 11), .ref (q 12), .ref (q 13), .ref (q 14), .ref (q 15), .ref (q 16), .ref (q 17), .ref (q 18), .int (a 0 4), .ref (q 19), .ref (q 20), .ref (q 21), .int (a 0 5), .int (a 0 6), .int (a 0 7), .int (a 0 8)])), (q 1, .inl (cI, 8, .inl (a 1))), (q 2, .inl (cI, 8, .inl (a 2))), (q 3, .inl (cI, 8, .inl (a 3))), (q 4, .inl (cI, 8, .inl (a 4))), (q 5, .inl (cI, 8, .inl (a 5))), (q 6, .inl (cI, 8, .inl (a 6))), (q 7, .inl (cI, 8, .inl (a 7))), (q 8, .inl (cI, 8, .inl (a 8))), (q 9, .inl (cF, 4, .inr (.inr (.inl (fun j => shF (a 9 j)))))), (q 10, .inl (cI, 100, .inl (a 10))), (q 11, .inl (cI, 100, .inl (a 11))), (q 12, .inl (cI, 100, .inl (a 12))), (q 13, .inl (cF, 100, .inr (.inr (.inl (fun j => shF (a 13 j)))))), (q 14, .inl (cI, 100, .inl (a 14))), (q 15, .inl (cI, 100, .inl (a 15))), (q 16, .inl (cI, 100, .inl (a 16))), (q 17, .inl (cI, 100, .inl (a 17))), (q 18, .inl (cI, 100, .inl (a 18))), (q 19, .inl (cI, 2000, .inl (a 19))), (q 20, .inl (cI, 2000, .inl (a 20))), (q 21, .inl (cZ, 2000, .inl (a 21)))] s.heap := hP
  refine y_enter (A := A) hP (fun H hP hS => ?_)
  have hBk := hB
  refine lv_aload_n hx hb dX5_taxes_0 rfl (lv_at hl 0 rfl) ?_
  refine lv_iconst (v := 0) hx hb dX5_taxes_1 (by decide) ?_
  refine va_put (D := (dC, dI)) (ci := 5) (v := .int 0) (ty := .int) (C := RX5) (T := TX5) (N := 31) hx hb hts hiX5 tyX5 tyX5_ok nmX5 hown hK hP hD hS 0 rfl rfl 0 (by decide) (hts (.fieldLink RX5 76 "PayoutnetModel" "thrown" "I") (List.mem_of_getElem? (i := 1) rfl)) (fun _ h9 => h9) rfl (tyX5_ok 0 (by decide)) rfl rfl (Nat.le_of_ble_eq_true rfl) dX5_taxes_2 (fun H locs hP hD hS => ?_)
  have hP : va_P (dC, dI) vwCl [(h0, .inr (5, [.int 0, .int (a 0 0), .int (a 0 1), .ref (q 1), .ref (q 2), .ref (q 3), .ref (q 4), .ref (q 5), .ref (q 6), .ref (q 7), .ref (q 8), .ref (q 9), .int (a 0 2), .int (a 0 3), .ref (q 10), .ref (q 11), .ref (q 12), .ref (q 13), .ref (q 14), .ref (q 15), .ref (q 16), .ref (q 17), .ref (q 18), .int (a 0 4), .ref (q 19), .ref (q 20), .ref (q 21), .int (a 0 5), .int (a 0 6), .int (a 0 7), .int (a 0 8)])), (q 1, .inl (cI, 8, .inl (a 1))), (q 2, .inl (cI, 8, .inl (a 2))), (q 3, .inl (cI, 8, .inl (a 3))), (q 4, .inl (cI, 8, .inl (a 4))), (q 5, .inl (cI, 8, .inl (a 5))), (q 6, .inl (cI, 8, .inl (a 6))), (q 7, .inl (cI, 8, .inl (a 7))), (q 8, .inl (cI, 8, .inl (a 8))), (q 9, .inl (cF, 4, .inr (.inr (.inl (fun j => shF (a 9 j)))))), (q 10, .inl (cI, 100, .inl (a 10))), (q 11, .inl (cI, 100, .inl (a 11))), (q 12, .inl (cI, 100, .inl (a 12))), (q 13, .inl (cF, 100, .inr (.inr (.inl (fun j => shF (a 13 j)))))), (q 14, .inl (cI, 100, .inl (a 14))), (q 15, .inl (cI, 100, .inl (a 15))), (q 16, .inl (cI, 100, .inl (a 16))), (q 17, .inl (cI, 100, .inl (a 17))), (q 18, .inl (cI, 100, .inl (a 18))), (q 19, .inl (cI, 2000, .inl (a 19))), (q 20, .inl (cI, 2000, .inl (a 20))), (q 21, .inl (cZ, 2000, .inl (a 21)))] H := hP
  have hD : va_D A [(h0, .inr (5, [.int 0, .int (a 0 0), .int (a 0 1), .ref (q 1), .ref (q 2), .ref (q 3), .ref (q 4), .ref (q 5), .ref (q 6), .ref (q 7), .ref (q 8), .ref (q 9), .int (a 0 2), .int (a 0 3), .ref (q 10), .ref (q 11), .ref (q 12), .ref (q 13), .ref (q 14), .ref (q 15), .ref (q 16), .ref (q 17), .ref (q 18), .int (a 0 4), .ref (q 19), .ref (q 20), .ref (q 21), .int (a 0 5), .int (a 0 6), .int (a 0 7), .int (a 0 8)])), (q 1, .inl (cI, 8, .inl (a 1))), (q 2, .inl (cI, 8, .inl (a 2))), (q 3, .inl (cI, 8, .inl (a 3))), (q 4, .inl (cI, 8, .inl (a 4))), (q 5, .inl (cI, 8, .inl (a 5))), (q 6, .inl (cI, 8, .inl (a 6))), (q 7, .inl (cI, 8, .inl (a 7))), (q 8, .inl (cI, 8, .inl (a 8))), (q 9, .inl (cF, 4, .inr (.inr (.inl (fun j => shF (a 9 j)))))), (q 10, .inl (cI, 100, .inl (a 10))), (q 11, .inl (cI, 100, .inl (a 11))), (q 12, .inl (cI, 100, .inl (a 12))), (q 13, .inl (cF, 100, .inr (.inr (.inl (fun j => shF (a 13 j)))))), (q 14, .inl (cI, 100, .inl (a 14))), (q 15, .inl (cI, 100, .inl (a 15))), (q 16, .inl (cI, 100, .inl (a 16))), (q 17, .inl (cI, 100, .inl (a 17))), (q 18, .inl (cI, 100, .inl (a 18))), (q 19, .inl (cI, 2000, .inl (a 19))), (q 20, .inl (cI, 2000, .inl (a 20))), (q 21, .inl (cZ, 2000, .inl (a 21)))] := hD
  refine lv_aload_n hx hb dX5_taxes_5 rfl (lv_at hl 0 rfl) ?_
  refine va_get (D := (dC, dI)) (ci := 5) (v := .int (a 0 8)) (C := RX5) (T := TX5) (N := 31) hx hb hts hiX5 hown hK hP 0 rfl rfl 30 (by decide) (hts (.fieldLink RX5 126 "PayoutnetModel" "taxes" "I") (List.mem_of_getElem? (i := 2) rfl)) (fun _ h9 => h9) rfl dX5_taxes_6 ?_
  have hP9 := hP
  have hD9 := hD
  have hK9 := hK
  exact W.iret (v := a 0 8) hx hb hr (fun t ht hW => ⟨⟨a 0 8, (), rfl, rfl, atW_end hP9 hD9 hK9 ht hW⟩, hS.F ht⟩) hS.2.2 dX5_taxes_9
set_option maxHeartbeats 4000000 in
set_option maxRecDepth 100000 in
theorem c_X5_payout (l : Launch) (dC : Nat → ClassId) (dI : Nat → Nat → Nat) (cI cF cZ : ClassId) (h0 : Nat) (q : Nat → Nat) (sz : Nat) (a : yA) (th : Int32) (hB : okB a) (x : Int32) : Met l yX5_payout wsX5_payout ({ frames := 2, cells := 0, slots := 0, locals := 43 } : Room) (va_Pc [.ref h0, .int x] (pcW dC dI [(cI, .int), (cF, .float), (cZ, .boolean)] (WM cI cF cZ h0 q a th) sz)) (va_Qi (fun (r : Int32) (_ : Unit) => (kPay a x = 0 → r = a 19 (nn x))) (fun _ t => atM dC dI cI cF cZ (va_A (WM cI cF cZ h0 q a th) sz) h0 q (a) (nI (kPay a x)) t) (va_A (WM cI cF cZ h0 q a th) sz)) 0 0 (va_A (WM cI cF cZ h0 q a th) sz) := by
  refine Met.ofW (cc := cX5_payout) (maxL := 2) (ret := (some .int)) (by decide) rfl ?_
  intro p e s m args below meth c s₁ B hml hv
  obtain ⟨rfl, hsz, hP, hK, hD0⟩ := hv
  have hx := B.exec
  have hb := B.bytes
  have hr := B.returns
  have hts := atoms_spec (ws := wsX5_payout) B.pre
  have hown : s.vm.findClass RX5 = some m.cls := findClass_of_methodNamed B.named
  have hlocks := B.notSynchronized
  subst hsz
  have hD := hD0.self (sz := s.heap.size)
  generalize hAe : va_A [(h0, .inr (5, [.int th, .int (a 0 0), .int (a 0 1), .ref (q 1), .ref (q 2), .ref (q 3), .ref (q 4), .ref (q 5), .ref (q 6), .ref (q 7), .ref (q 8), .ref (q 9), .int (a 0 2), .int (a 0 3), .ref (q 10), .ref (q 11), .ref (q 12), .ref (q 13), .ref (q 14), .ref (q 15), .ref (q 16), .ref (q 17), .ref (q 18), .int (a 0 4), .ref (q 19), .ref (q 20), .ref (q 21), .int (a 0 5), .int (a 0 6), .int (a 0 7), .int (a 0 8)])), (q 1, .inl (cI, 8, .inl (a 1))), (q 2, .inl (cI, 8, .inl (a 2))), (q 3, .inl (cI, 8, .inl (a 3))), (q 4, .inl (cI, 8, .inl (a 4))), (q 5, .inl (cI, 8, .inl (a 5))), (q 6, .inl (cI, 8, .inl (a 6))), (q 7, .inl (cI, 8, .inl (a 7))), (q 8, .inl (cI, 8, .inl (a 8))), (q 9, .inl (cF, 4, .inr (.inr (.inl (fun j => shF (a 9 j)))))), (q 10, .inl (cI, 100, .inl (a 10))), (q 11, .inl (cI, 100, .inl (a 11))), (q 12, .inl (cI, 100, .inl (a 12))), (q 13, .inl (cF, 100, .inr (.inr (.inl (fun j => shF (a 13 j)))))), (q 14, .inl (cI, 100, .inl (a 14))), (q 15, .inl (cI, 100, .inl (a 15))), (q 16, .inl (cI, 100, .inl (a 16))), (q 17, .inl (cI, 100, .inl (a 17))), (q 18, .inl (cI, 100, .inl (a 18))), (q 19, .inl (cI, 2000, .inl (a 19))), (q 20, .inl (cI, 2000, .inl (a 20))), (q 21, .inl (cZ, 2000, .inl (a 21)))] s.heap.size = A at hD ⊢
  have hA : ∀ q : Nat, s.heap.size ≤ q → A q := fun q h => by rw [← hAe]; exact Or.inr h
  have hS : va_S A s.heap s.heap [] := va_S.rf
  have hl := lv_entry ([.ref h0, .int x]) (n := 2) (Nat.le_of_ble_eq_true rfl)
  rw [lg_entry_eq]
  generalize (lg_sl ([.ref h0, .int x]) ++ List.replicate (2 - (lg_sl ([.ref h0, .int x])).length) Slot.unset).toArray = ls at hl ⊢
  have hl : lv_has ls 2 [(0, .ref h0), (1, .int x)] := hl
  have hiX5 : ∀ w ∈ wsX50, w ∈ wsX5_payout := fun w h => List.mem_cons_of_mem _ (List.mem_append_right _ h)
  have hP : va_P (dC, dI) vwCl [(h0, .inr (5, [.int th, .int (a 0 0), .int (a 0 1), .ref (q 1), .ref (q 2), .ref (q 3), .ref (q 4), .ref (q 5), .ref (q 6), .ref (q 7), .ref (q 8), .ref (q 9), .int (a 0 2), .int (a 0 3), .ref (q 10), .ref (q 11), .ref (q 12), .ref (q 13), .ref (q 14), .ref (q 15), .ref (q 16), .ref (q 17), .ref (q 18), .int (a 0 4), .ref (q 19), .ref (q 20), .ref (q 21), .int (a 0 5), .int (a 0 6), .int (a 0 7), .int (a 0 8)])), (q 1, .inl (cI, 8, .inl (a 1))), (q 2, .inl (cI, 8, .inl (a 2))), (q 3, .inl (cI, 8, .inl (a 3))), (q 4, .inl (cI, 8, .inl (a 4))), (q 5, .inl (cI, 8, .inl (a 5))), (q 6, .inl (cI, 8, .inl (a 6))), (q 7, .inl (cI, 8, .inl (a 7))), (q 8, .inl (cI, 8, .inl (a 8))), (q 9, .inl (cF, 4, .inr (.inr (.inl (fun j => shF (a 9 j)))))), (q 10, .inl (cI, 100, .inl (a 10))), (q 11, .inl (cI, 100, .inl (a 11))), (q 12, .inl (cI, 100, .inl (a 12))), (q 13, .inl (cF, 100, .inr (.inr (.inl (fun j => shF (a 13 j)))))), (q 14, .inl (cI, 100, .inl (a 14))), (q 15, .inl (cI, 100, .inl (a 15))), (q 16, .inl (cI, 100, .inl (a 16))), (q 17, .inl (cI, 100, .inl (a 17))), (q 18, .inl (cI, 100, .inl (a 18))), (q 19, .inl (cI, 2000, .inl (a 19))), (q 20, .inl (cI, 2000, .inl (a 20))), (q 21, .inl (cZ, 2000, .inl (a 21)))] s.heap := hP
  refine y_enter (A := A) hP (fun H hP hS => ?_)
  have hBk := hB
  refine lv_aload_n hx hb dX5_payout_0 rfl (lv_at hl 0 rfl) ?_
  refine lv_aload_n hx hb dX5_payout_1 rfl (lv_at hl 0 rfl) ?_
  refine lv_iload_n hx hb dX5_payout_2 rfl (lv_at hl 1 rfl) ?_
  have hFc := y_free hD hS hA
  refine va_calli (va_runV (As := [.int x]) (rest := [.ref h0]) ⟨hx, hb, hml, hown, hts⟩ (c_X5_isPayout l dC dI cI cF cZ h0 q H.size a th hB x) (cwV 1 hts gX5_payout_X5_isPayout rfl rfl rfl (by decide +kernel) ⟨Nat.le_of_ble_eq_true rfl, Nat.le_of_ble_eq_true rfl⟩) ⟨pcW_blind, va_recv hK hP (ci := 5) (q0 := 0) rfl rfl, fun U hU hW => pcW_pre hP hD hK hU hW⟩ rfl rfl hl.1 rfl (lv_room (Nat.le_of_ble_eq_true rfl)) dX5_payout_3 ⟨Nat.zero_le _, Nat.zero_le _⟩) hS (fun q _ h => hFc q h) hFc (fun r u t H1 locs ht hvm hw hB1 hz1 hk1 hS => ?_)
  obtain ⟨hP, hK1, hD1⟩ := hB1
  rw [ht] at hP
  have hD := hD1.weaken (fun kk qq _ h => hFc qq.1 h)
  generalize H1 = H at hP hS ⊢
  have hP : va_P (dC, dI) vwCl (WM cI cF cZ h0 q a th) H := hP
  have hD : va_D A (WM cI cF cZ h0 q a th) := hD
  have hw1 := hw
  refine y_topi (y := bI (payOKn a x)) hw1 ?_
  refine lv_if_eq (tgt := 13) hx hb dX5_payout_6 (by decide) (fun c_2 => ?_) (fun c_2 => ?_)
  · have hc_2 : ¬ (payOKn a x) := bI_f c_2
    have e1 : kPay a x = 1 := if_neg hc_2
    refine lv_iconst (v := 1) hx hb dX5_payout_13 (by decide) ?_
    have hFc := y_free hD hS hA
    refine va_calli (va_runV (As := [.int 1]) (rest := []) ⟨hx, hb, hml, hown, hts⟩ (c_X5_holds l dC dI cI cF cZ h0 q H.size a th hB 1) (cwV 1 hts gX5_payout_X5_holds rfl rfl rfl (by decide +kernel) ⟨Nat.le_of_ble_eq_true rfl, Nat.le_of_ble_eq_true rfl⟩) ⟨pcW_blind, va_recv hK hP (ci := 5) (q0 := 0) rfl rfl, fun U hU hW => pcW_pre hP hD hK hU hW⟩ rfl rfl hl.1 rfl (lv_room (Nat.le_of_ble_eq_true rfl)) dX5_payout_14 ⟨Nat.zero_le _, Nat.zero_le _⟩) hS (fun q _ h => hFc q h) hFc (fun r u t H1 locs ht hvm hw hB1 hz1 hk1 hS => ?_)
    obtain ⟨hP, hK1, hD1⟩ := hB1
    rw [ht] at hP
    have hD := hD1.weaken (fun kk qq _ h => hFc qq.1 h)
    generalize H1 = H at hP hS ⊢
    have hP : va_P (dC, dI) vwCl (WM cI cF cZ h0 q a 1) H := hP
    have hD : va_D A (WM cI cF cZ h0 q a 1) := hD
    have hw3 := hw
    refine y_topi (y := 0) (hw3.trans (if_neg (by decide))) ?_
    refine lv_if_eq (tgt := 29) hx hb dX5_payout_17 (by decide) (fun c_4 => ?_) (fun c_4 => ?_)
    · refine lv_iconst (v := 0) hx hb dX5_payout_29 (by decide) ?_
      have hP9 := hP
      have hD9 := hD
      have hK9 := hK
      exact W.iret (v := 0) hx hb hr (fun t ht hW => ⟨⟨0, (), rfl, (fun h9 => absurd (e1.symm.trans h9) (by decide)), (by rw [e1]; exact atW_end hP9 hD9 hK9 ht hW)⟩, hS.F ht⟩) hS.2.2 dX5_payout_30
    · exact absurd rfl c_4
  · have hc_2 : payOKn a x := bI_t c_2
    have e0 : kPay a x = 0 := if_pos hc_2
    refine lv_iconst (v := 0) hx hb dX5_payout_9 (by decide) ?_
    refine lv_goto (tgt := 14) hx hb dX5_payout_10 (by decide) ?_
    have hFc := y_free hD hS hA
    refine va_calli (va_runV (As := [.int 0]) (rest := []) ⟨hx, hb, hml, hown, hts⟩ (c_X5_holds l dC dI cI cF cZ h0 q H.size a th hB 0) (cwV 1 hts gX5_payout_X5_holds rfl rfl rfl (by decide +kernel) ⟨Nat.le_of_ble_eq_true rfl, Nat.le_of_ble_eq_true rfl⟩) ⟨pcW_blind, va_recv hK hP (ci := 5) (q0 := 0) rfl rfl, fun U hU hW => pcW_pre hP hD hK hU hW⟩ rfl rfl hl.1 rfl (lv_room (Nat.le_of_ble_eq_true rfl)) dX5_payout_14 ⟨Nat.zero_le _, Nat.zero_le _⟩) hS (fun q _ h => hFc q h) hFc (fun r u t H1 locs ht hvm hw hB1 hz1 hk1 hS => ?_)
    obtain ⟨hP, hK1, hD1⟩ := hB1
    rw [ht] at hP
    have hD := hD1.weaken (fun kk qq _ h => hFc qq.1 h)
    generalize H1 = H at hP hS ⊢
    have hP : va_P (dC, dI) vwCl (WM cI cF cZ h0 q a 0) H := hP
    have hD : va_D A (WM cI cF cZ h0 q a 0) := hD
    have hw5 := hw
    refine y_topi (y := 1) (hw5.trans (if_pos rfl)) ?_
    refine lv_if_eq (tgt := 29) hx hb dX5_payout_17 (by decide) (fun c_6 => ?_) (fun c_6 => ?_)
    · exact absurd c_6 (by decide)
    · have hx1 := nat_of (hB 0 4 1024 rfl) (by decide) hc_2.1 hc_2.2
      have hx8 : nn x < 2000 := Nat.lt_of_lt_of_le hx1.2 (Nat.le_trans (hB 0 4 1024 rfl).2 (by decide))
      refine lv_aload_n hx hb dX5_payout_20 rfl (lv_at hl 0 rfl) ?_
      refine va_get (D := (dC, dI)) (ci := 5) (v := .ref (q 19)) (C := RX5) (T := TX5) (N := 31) hx hb hts hiX5 hown hK hP 0 rfl rfl 24 (by decide) (hts (.fieldLink RX5 65 "PayoutnetModel" "sums" "[I") (List.mem_of_getElem? (i := 1) rfl)) (fun _ h9 => h9) rfl dX5_payout_21 ?_
      refine lv_iload_n hx hb dX5_payout_24 rfl (lv_at hl 1 rfl) ?_
      refine y_topi (y := nI (nn x)) hx1.1 ?_
      refine y_ild hx hb hK hP 19 0 rfl rfl (t := nn x) (by omega) (Nat.le_of_ble_eq_true rfl) dX5_payout_25 ?_
      refine lv_goto (tgt := 30) hx hb dX5_payout_26 (by decide) ?_
      have hP9 := hP
      have hD9 := hD
      have hK9 := hK
      exact W.iret (v := (a 19) (nn x)) hx hb hr (fun t ht hW => ⟨⟨(a 19) (nn x), (), rfl, (fun _ => rfl), (by rw [e0]; exact atW_end hP9 hD9 hK9 ht hW)⟩, hS.F ht⟩) hS.2.2 dX5_payout_30
set_option maxHeartbeats 4000000 in
set_option maxRecDepth 100000 in
theorem c_X5_sellerOf (l : Launch) (dC : Nat → ClassId) (dI : Nat → Nat → Nat) (cI cF cZ : ClassId) (h0 : Nat) (q : Nat → Nat) (sz : Nat) (a : yA) (th : Int32) (hB : okB a) (x : Int32) : Met l yX5_sellerOf wsX5_sellerOf ({ frames := 2, cells := 0, slots := 0, locals := 43 } : Room) (va_Pc [.ref h0, .int x] (pcW dC dI [(cI, .int), (cF, .float), (cZ, .boolean)] (WM cI cF cZ h0 q a th) sz)) (va_Qi (fun (r : Int32) (_ : Unit) => (kPay a x = 0 → r = a 20 (nn x))) (fun _ t => atM dC dI cI cF cZ (va_A (WM cI cF cZ h0 q a th) sz) h0 q (a) (nI (kPay a x)) t) (va_A (WM cI cF cZ h0 q a th) sz)) 0 0 (va_A (WM cI cF cZ h0 q a th) sz) := by
  refine Met.ofW (cc := cX5_sellerOf) (maxL := 2) (ret := (some .int)) (by decide) rfl ?_
  intro p e s m args below meth c s₁ B hml hv
  obtain ⟨rfl, hsz, hP, hK, hD0⟩ := hv
  have hx := B.exec
  have hb := B.bytes
  have hr := B.returns
  have hts := atoms_spec (ws := wsX5_sellerOf) B.pre
  have hown : s.vm.findClass RX5 = some m.cls := findClass_of_methodNamed B.named
  have hlocks := B.notSynchronized
  subst hsz
  have hD := hD0.self (sz := s.heap.size)
  generalize hAe : va_A [(h0, .inr (5, [.int th, .int (a 0 0), .int (a 0 1), .ref (q 1), .ref (q 2), .ref (q 3), .ref (q 4), .ref (q 5), .ref (q 6), .ref (q 7), .ref (q 8), .ref (q 9), .int (a 0 2), .int (a 0 3), .ref (q 10), .ref (q 11), .ref (q 12), .ref (q 13), .ref (q 14), .ref (q 15), .ref (q 16), .ref (q 17), .ref (q 18), .int (a 0 4), .ref (q 19), .ref (q 20), .ref (q 21), .int (a 0 5), .int (a 0 6), .int (a 0 7), .int (a 0 8)])), (q 1, .inl (cI, 8, .inl (a 1))), (q 2, .inl (cI, 8, .inl (a 2))), (q 3, .inl (cI, 8, .inl (a 3))), (q 4, .inl (cI, 8, .inl (a 4))), (q 5, .inl (cI, 8, .inl (a 5))), (q 6, .inl (cI, 8, .inl (a 6))), (q 7, .inl (cI, 8, .inl (a 7))), (q 8, .inl (cI, 8, .inl (a 8))), (q 9, .inl (cF, 4, .inr (.inr (.inl (fun j => shF (a 9 j)))))), (q 10, .inl (cI, 100, .inl (a 10))), (q 11, .inl (cI, 100, .inl (a 11))), (q 12, .inl (cI, 100, .inl (a 12))), (q 13, .inl (cF, 100, .inr (.inr (.inl (fun j => shF (a 13 j)))))), (q 14, .inl (cI, 100, .inl (a 14))), (q 15, .inl (cI, 100, .inl (a 15))), (q 16, .inl (cI, 100, .inl (a 16))), (q 17, .inl (cI, 100, .inl (a 17))), (q 18, .inl (cI, 100, .inl (a 18))), (q 19, .inl (cI, 2000, .inl (a 19))), (q 20, .inl (cI, 2000, .inl (a 20))), (q 21, .inl (cZ, 2000, .inl (a 21)))] s.heap.size = A at hD ⊢
  have hA : ∀ q : Nat, s.heap.size ≤ q → A q := fun q h => by rw [← hAe]; exact Or.inr h
  have hS : va_S A s.heap s.heap [] := va_S.rf
  have hl := lv_entry ([.ref h0, .int x]) (n := 2) (Nat.le_of_ble_eq_true rfl)
  rw [lg_entry_eq]
  generalize (lg_sl ([.ref h0, .int x]) ++ List.replicate (2 - (lg_sl ([.ref h0, .int x])).length) Slot.unset).toArray = ls at hl ⊢
  have hl : lv_has ls 2 [(0, .ref h0), (1, .int x)] := hl
  have hiX5 : ∀ w ∈ wsX50, w ∈ wsX5_sellerOf := fun w h => List.mem_cons_of_mem _ (List.mem_append_right _ h)
  have hP : va_P (dC, dI) vwCl [(h0, .inr (5, [.int th, .int (a 0 0), .int (a 0 1), .ref (q 1), .ref (q 2), .ref (q 3), .ref (q 4), .ref (q 5), .ref (q 6), .ref (q 7), .ref (q 8), .ref (q 9), .int (a 0 2), .int (a 0 3), .ref (q 10), .ref (q 11), .ref (q 12), .ref (q 13), .ref (q 14), .ref (q 15), .ref (q 16), .ref (q 17), .ref (q 18), .int (a 0 4), .ref (q 19), .ref (q 20), .ref (q 21), .int (a 0 5), .int (a 0 6), .int (a 0 7), .int (a 0 8)])), (q 1, .inl (cI, 8, .inl (a 1))), (q 2, .inl (cI, 8, .inl (a 2))), (q 3, .inl (cI, 8, .inl (a 3))), (q 4, .inl (cI, 8, .inl (a 4))), (q 5, .inl (cI, 8, .inl (a 5))), (q 6, .inl (cI, 8, .inl (a 6))), (q 7, .inl (cI, 8, .inl (a 7))), (q 8, .inl (cI, 8, .inl (a 8))), (q 9, .inl (cF, 4, .inr (.inr (.inl (fun j => shF (a 9 j)))))), (q 10, .inl (cI, 100, .inl (a 10))), (q 11, .inl (cI, 100, .inl (a 11))), (q 12, .inl (cI, 100, .inl (a 12))), (q 13, .inl (cF, 100, .inr (.inr (.inl (fun j => shF (a 13 j)))))), (q 14, .inl (cI, 100, .inl (a 14))), (q 15, .inl (cI, 100, .inl (a 15))), (q 16, .inl (cI, 100, .inl (a 16))), (q 17, .inl (cI, 100, .inl (a 17))), (q 18, .inl (cI, 100, .inl (a 18))), (q 19, .inl (cI, 2000, .inl (a 19))), (q 20, .inl (cI, 2000, .inl (a 20))), (q 21, .inl (cZ, 2000, .inl (a 21)))] s.heap := hP
  refine y_enter (A := A) hP (fun H hP hS => ?_)
  have hBk := hB
  refine lv_aload_n hx hb dX5_sellerOf_0 rfl (lv_at hl 0 rfl) ?_
  refine lv_aload_n hx hb dX5_sellerOf_1 rfl (lv_at hl 0 rfl) ?_
  refine lv_iload_n hx hb dX5_sellerOf_2 rfl (lv_at hl 1 rfl) ?_
  have hFc := y_free hD hS hA
  refine va_calli (va_runV (As := [.int x]) (rest := [.ref h0]) ⟨hx, hb, hml, hown, hts⟩ (c_X5_isPayout l dC dI cI cF cZ h0 q H.size a th hB x) (cwV 1 hts gX5_sellerOf_X5_isPayout rfl rfl rfl (by decide +kernel) ⟨Nat.le_of_ble_eq_true rfl, Nat.le_of_ble_eq_true rfl⟩) ⟨pcW_blind, va_recv hK hP (ci := 5) (q0 := 0) rfl rfl, fun U hU hW => pcW_pre hP hD hK hU hW⟩ rfl rfl hl.1 rfl (lv_room (Nat.le_of_ble_eq_true rfl)) dX5_sellerOf_3 ⟨Nat.zero_le _, Nat.zero_le _⟩) hS (fun q _ h => hFc q h) hFc (fun r u t H1 locs ht hvm hw hB1 hz1 hk1 hS => ?_)
  obtain ⟨hP, hK1, hD1⟩ := hB1
  rw [ht] at hP
  have hD := hD1.weaken (fun kk qq _ h => hFc qq.1 h)
  generalize H1 = H at hP hS ⊢
  have hP : va_P (dC, dI) vwCl (WM cI cF cZ h0 q a th) H := hP
  have hD : va_D A (WM cI cF cZ h0 q a th) := hD
  have hw1 := hw
  refine y_topi (y := bI (payOKn a x)) hw1 ?_
  refine lv_if_eq (tgt := 13) hx hb dX5_sellerOf_6 (by decide) (fun c_2 => ?_) (fun c_2 => ?_)
  · have hc_2 : ¬ (payOKn a x) := bI_f c_2
    have e1 : kPay a x = 1 := if_neg hc_2
    refine lv_iconst (v := 1) hx hb dX5_sellerOf_13 (by decide) ?_
    have hFc := y_free hD hS hA
    refine va_calli (va_runV (As := [.int 1]) (rest := []) ⟨hx, hb, hml, hown, hts⟩ (c_X5_holds l dC dI cI cF cZ h0 q H.size a th hB 1) (cwV 1 hts gX5_sellerOf_X5_holds rfl rfl rfl (by decide +kernel) ⟨Nat.le_of_ble_eq_true rfl, Nat.le_of_ble_eq_true rfl⟩) ⟨pcW_blind, va_recv hK hP (ci := 5) (q0 := 0) rfl rfl, fun U hU hW => pcW_pre hP hD hK hU hW⟩ rfl rfl hl.1 rfl (lv_room (Nat.le_of_ble_eq_true rfl)) dX5_sellerOf_14 ⟨Nat.zero_le _, Nat.zero_le _⟩) hS (fun q _ h => hFc q h) hFc (fun r u t H1 locs ht hvm hw hB1 hz1 hk1 hS => ?_)
    obtain ⟨hP, hK1, hD1⟩ := hB1
    rw [ht] at hP
    have hD := hD1.weaken (fun kk qq _ h => hFc qq.1 h)
    generalize H1 = H at hP hS ⊢
    have hP : va_P (dC, dI) vwCl (WM cI cF cZ h0 q a 1) H := hP
    have hD : va_D A (WM cI cF cZ h0 q a 1) := hD
    have hw3 := hw
    refine y_topi (y := 0) (hw3.trans (if_neg (by decide))) ?_
    refine lv_if_eq (tgt := 29) hx hb dX5_sellerOf_17 (by decide) (fun c_4 => ?_) (fun c_4 => ?_)
    · refine lv_iconst (v := 0) hx hb dX5_sellerOf_29 (by decide) ?_
      have hP9 := hP
      have hD9 := hD
      have hK9 := hK
      exact W.iret (v := 0) hx hb hr (fun t ht hW => ⟨⟨0, (), rfl, (fun h9 => absurd (e1.symm.trans h9) (by decide)), (by rw [e1]; exact atW_end hP9 hD9 hK9 ht hW)⟩, hS.F ht⟩) hS.2.2 dX5_sellerOf_30
    · exact absurd rfl c_4
  · have hc_2 : payOKn a x := bI_t c_2
    have e0 : kPay a x = 0 := if_pos hc_2
    refine lv_iconst (v := 0) hx hb dX5_sellerOf_9 (by decide) ?_
    refine lv_goto (tgt := 14) hx hb dX5_sellerOf_10 (by decide) ?_
    have hFc := y_free hD hS hA
    refine va_calli (va_runV (As := [.int 0]) (rest := []) ⟨hx, hb, hml, hown, hts⟩ (c_X5_holds l dC dI cI cF cZ h0 q H.size a th hB 0) (cwV 1 hts gX5_sellerOf_X5_holds rfl rfl rfl (by decide +kernel) ⟨Nat.le_of_ble_eq_true rfl, Nat.le_of_ble_eq_true rfl⟩) ⟨pcW_blind, va_recv hK hP (ci := 5) (q0 := 0) rfl rfl, fun U hU hW => pcW_pre hP hD hK hU hW⟩ rfl rfl hl.1 rfl (lv_room (Nat.le_of_ble_eq_true rfl)) dX5_sellerOf_14 ⟨Nat.zero_le _, Nat.zero_le _⟩) hS (fun q _ h => hFc q h) hFc (fun r u t H1 locs ht hvm hw hB1 hz1 hk1 hS => ?_)
    obtain ⟨hP, hK1, hD1⟩ := hB1
    rw [ht] at hP
    have hD := hD1.weaken (fun kk qq _ h => hFc qq.1 h)
    generalize H1 = H at hP hS ⊢
    have hP : va_P (dC, dI) vwCl (WM cI cF cZ h0 q a 0) H := hP
    have hD : va_D A (WM cI cF cZ h0 q a 0) := hD
    have hw5 := hw
    refine y_topi (y := 1) (hw5.trans (if_pos rfl)) ?_
    refine lv_if_eq (tgt := 29) hx hb dX5_sellerOf_17 (by decide) (fun c_6 => ?_) (fun c_6 => ?_)
    · exact absurd c_6 (by decide)
    · have hx1 := nat_of (hB 0 4 1024 rfl) (by decide) hc_2.1 hc_2.2
      have hx8 : nn x < 2000 := Nat.lt_of_lt_of_le hx1.2 (Nat.le_trans (hB 0 4 1024 rfl).2 (by decide))
      refine lv_aload_n hx hb dX5_sellerOf_20 rfl (lv_at hl 0 rfl) ?_
      refine va_get (D := (dC, dI)) (ci := 5) (v := .ref (q 20)) (C := RX5) (T := TX5) (N := 31) hx hb hts hiX5 hown hK hP 0 rfl rfl 25 (by decide) (hts (.fieldLink RX5 68 "PayoutnetModel" "paidSellers" "[I") (List.mem_of_getElem? (i := 1) rfl)) (fun _ h9 => h9) rfl dX5_sellerOf_21 ?_
      refine lv_iload_n hx hb dX5_sellerOf_24 rfl (lv_at hl 1 rfl) ?_
      refine y_topi (y := nI (nn x)) hx1.1 ?_
      refine y_ild hx hb hK hP 20 0 rfl rfl (t := nn x) (by omega) (Nat.le_of_ble_eq_true rfl) dX5_sellerOf_25 ?_
      refine lv_goto (tgt := 30) hx hb dX5_sellerOf_26 (by decide) ?_
      have hP9 := hP
      have hD9 := hD
      have hK9 := hK
      exact W.iret (v := (a 20) (nn x)) hx hb hr (fun t ht hW => ⟨⟨(a 20) (nn x), (), rfl, (fun _ => rfl), (by rw [e0]; exact atW_end hP9 hD9 hK9 ht hW)⟩, hS.F ht⟩) hS.2.2 dX5_sellerOf_30
set_option maxHeartbeats 4000000 in
set_option maxRecDepth 100000 in
theorem c_X5_balance (l : Launch) (dC : Nat → ClassId) (dI : Nat → Nat → Nat) (cI cF cZ : ClassId) (h0 : Nat) (q : Nat → Nat) (sz : Nat) (a : yA) (th : Int32) (hB : okB a) (x : Int32) : Met l yX5_balance wsX5_balance ({ frames := 2, cells := 0, slots := 0, locals := 43 } : Room) (va_Pc [.ref h0, .int x] (pcW dC dI [(cI, .int), (cF, .float), (cZ, .boolean)] (WM cI cF cZ h0 q a th) sz)) (va_Qi (fun (r : Int32) (_ : Unit) => (kSel a x = 0 → r = a 7 (nn x))) (fun _ t => atM dC dI cI cF cZ (va_A (WM cI cF cZ h0 q a th) sz) h0 q (a) (nI (kSel a x)) t) (va_A (WM cI cF cZ h0 q a th) sz)) 0 0 (va_A (WM cI cF cZ h0 q a th) sz) := by
  refine Met.ofW (cc := cX5_balance) (maxL := 2) (ret := (some .int)) (by decide) rfl ?_
  intro p e s m args below meth c s₁ B hml hv
  obtain ⟨rfl, hsz, hP, hK, hD0⟩ := hv
  have hx := B.exec
  have hb := B.bytes
  have hr := B.returns
  have hts := atoms_spec (ws := wsX5_balance) B.pre
  have hown : s.vm.findClass RX5 = some m.cls := findClass_of_methodNamed B.named
  have hlocks := B.notSynchronized
  subst hsz
  have hD := hD0.self (sz := s.heap.size)
  generalize hAe : va_A [(h0, .inr (5, [.int th, .int (a 0 0), .int (a 0 1), .ref (q 1), .ref (q 2), .ref (q 3), .ref (q 4), .ref (q 5), .ref (q 6), .ref (q 7), .ref (q 8), .ref (q 9), .int (a 0 2), .int (a 0 3), .ref (q 10), .ref (q 11), .ref (q 12), .ref (q 13), .ref (q 14), .ref (q 15), .ref (q 16), .ref (q 17), .ref (q 18), .int (a 0 4), .ref (q 19), .ref (q 20), .ref (q 21), .int (a 0 5), .int (a 0 6), .int (a 0 7), .int (a 0 8)])), (q 1, .inl (cI, 8, .inl (a 1))), (q 2, .inl (cI, 8, .inl (a 2))), (q 3, .inl (cI, 8, .inl (a 3))), (q 4, .inl (cI, 8, .inl (a 4))), (q 5, .inl (cI, 8, .inl (a 5))), (q 6, .inl (cI, 8, .inl (a 6))), (q 7, .inl (cI, 8, .inl (a 7))), (q 8, .inl (cI, 8, .inl (a 8))), (q 9, .inl (cF, 4, .inr (.inr (.inl (fun j => shF (a 9 j)))))), (q 10, .inl (cI, 100, .inl (a 10))), (q 11, .inl (cI, 100, .inl (a 11))), (q 12, .inl (cI, 100, .inl (a 12))), (q 13, .inl (cF, 100, .inr (.inr (.inl (fun j => shF (a 13 j)))))), (q 14, .inl (cI, 100, .inl (a 14))), (q 15, .inl (cI, 100, .inl (a 15))), (q 16, .inl (cI, 100, .inl (a 16))), (q 17, .inl (cI, 100, .inl (a 17))), (q 18, .inl (cI, 100, .inl (a 18))), (q 19, .inl (cI, 2000, .inl (a 19))), (q 20, .inl (cI, 2000, .inl (a 20))), (q 21, .inl (cZ, 2000, .inl (a 21)))] s.heap.size = A at hD ⊢
  have hA : ∀ q : Nat, s.heap.size ≤ q → A q := fun q h => by rw [← hAe]; exact Or.inr h
  have hS : va_S A s.heap s.heap [] := va_S.rf
  have hl := lv_entry ([.ref h0, .int x]) (n := 2) (Nat.le_of_ble_eq_true rfl)
  rw [lg_entry_eq]
  generalize (lg_sl ([.ref h0, .int x]) ++ List.replicate (2 - (lg_sl ([.ref h0, .int x])).length) Slot.unset).toArray = ls at hl ⊢
  have hl : lv_has ls 2 [(0, .ref h0), (1, .int x)] := hl
  have hiX5 : ∀ w ∈ wsX50, w ∈ wsX5_balance := fun w h => List.mem_cons_of_mem _ (List.mem_append_right _ h)
  have hP : va_P (dC, dI) vwCl [(h0, .inr (5, [.int th, .int (a 0 0), .int (a 0 1), .ref (q 1), .ref (q 2), .ref (q 3), .ref (q 4), .ref (q 5), .ref (q 6), .ref (q 7), .ref (q 8), .ref (q 9), .int (a 0 2), .int (a 0 3), .ref (q 10), .ref (q 11), .ref (q 12), .ref (q 13), .ref (q 14), .ref (q 15), .ref (q 16), .ref (q 17), .ref (q 18), .int (a 0 4), .ref (q 19), .ref (q 20), .ref (q 21), .int (a 0 5), .int (a 0 6), .int (a 0 7), .int (a 0 8)])), (q 1, .inl (cI, 8, .inl (a 1))), (q 2, .inl (cI, 8, .inl (a 2))), (q 3, .inl (cI, 8, .inl (a 3))), (q 4, .inl (cI, 8, .inl (a 4))), (q 5, .inl (cI, 8, .inl (a 5))), (q 6, .inl (cI, 8, .inl (a 6))), (q 7, .inl (cI, 8, .inl (a 7))), (q 8, .inl (cI, 8, .inl (a 8))), (q 9, .inl (cF, 4, .inr (.inr (.inl (fun j => shF (a 9 j)))))), (q 10, .inl (cI, 100, .inl (a 10))), (q 11, .inl (cI, 100, .inl (a 11))), (q 12, .inl (cI, 100, .inl (a 12))), (q 13, .inl (cF, 100, .inr (.inr (.inl (fun j => shF (a 13 j)))))), (q 14, .inl (cI, 100, .inl (a 14))), (q 15, .inl (cI, 100, .inl (a 15))), (q 16, .inl (cI, 100, .inl (a 16))), (q 17, .inl (cI, 100, .inl (a 17))), (q 18, .inl (cI, 100, .inl (a 18))), (q 19, .inl (cI, 2000, .inl (a 19))), (q 20, .inl (cI, 2000, .inl (a 20))), (q 21, .inl (cZ, 2000, .inl (a 21)))] s.heap := hP
  refine y_enter (A := A) hP (fun H hP hS => ?_)
  have hBk := hB
  refine lv_aload_n hx hb dX5_balance_0 rfl (lv_at hl 0 rfl) ?_
  refine lv_aload_n hx hb dX5_balance_1 rfl (lv_at hl 0 rfl) ?_
  refine lv_iload_n hx hb dX5_balance_2 rfl (lv_at hl 1 rfl) ?_
  have hFc := y_free hD hS hA
  refine va_calli (va_runV (As := [.int x]) (rest := [.ref h0]) ⟨hx, hb, hml, hown, hts⟩ (c_X5_isSeller l dC dI cI cF cZ h0 q H.size a th hB x) (cwV 1 hts gX5_balance_X5_isSeller rfl rfl rfl (by decide +kernel) ⟨Nat.le_of_ble_eq_true rfl, Nat.le_of_ble_eq_true rfl⟩) ⟨pcW_blind, va_recv hK hP (ci := 5) (q0 := 0) rfl rfl, fun U hU hW => pcW_pre hP hD hK hU hW⟩ rfl rfl hl.1 rfl (lv_room (Nat.le_of_ble_eq_true rfl)) dX5_balance_3 ⟨Nat.zero_le _, Nat.zero_le _⟩) hS (fun q _ h => hFc q h) hFc (fun r u t H1 locs ht hvm hw hB1 hz1 hk1 hS => ?_)
  obtain ⟨hP, hK1, hD1⟩ := hB1
  rw [ht] at hP
  have hD := hD1.weaken (fun kk qq _ h => hFc qq.1 h)
  generalize H1 = H at hP hS ⊢
  have hP : va_P (dC, dI) vwCl (WM cI cF cZ h0 q a th) H := hP
  have hD : va_D A (WM cI cF cZ h0 q a th) := hD
  have hw1 := hw
  refine y_topi (y := bI (selOK a x)) hw1 ?_
  refine lv_if_eq (tgt := 13) hx hb dX5_balance_6 (by decide) (fun c_2 => ?_) (fun c_2 => ?_)
  · have hc_2 : ¬ (selOK a x) := bI_f c_2
    have e1 : kSel a x = 1 := if_neg hc_2
    refine lv_iconst (v := 1) hx hb dX5_balance_13 (by decide) ?_
    have hFc := y_free hD hS hA
    refine va_calli (va_runV (As := [.int 1]) (rest := []) ⟨hx, hb, hml, hown, hts⟩ (c_X5_holds l dC dI cI cF cZ h0 q H.size a th hB 1) (cwV 1 hts gX5_balance_X5_holds rfl rfl rfl (by decide +kernel) ⟨Nat.le_of_ble_eq_true rfl, Nat.le_of_ble_eq_true rfl⟩) ⟨pcW_blind, va_recv hK hP (ci := 5) (q0 := 0) rfl rfl, fun U hU hW => pcW_pre hP hD hK hU hW⟩ rfl rfl hl.1 rfl (lv_room (Nat.le_of_ble_eq_true rfl)) dX5_balance_14 ⟨Nat.zero_le _, Nat.zero_le _⟩) hS (fun q _ h => hFc q h) hFc (fun r u t H1 locs ht hvm hw hB1 hz1 hk1 hS => ?_)
    obtain ⟨hP, hK1, hD1⟩ := hB1
    rw [ht] at hP
    have hD := hD1.weaken (fun kk qq _ h => hFc qq.1 h)
    generalize H1 = H at hP hS ⊢
    have hP : va_P (dC, dI) vwCl (WM cI cF cZ h0 q a 1) H := hP
    have hD : va_D A (WM cI cF cZ h0 q a 1) := hD
    have hw3 := hw
    refine y_topi (y := 0) (hw3.trans (if_neg (by decide))) ?_
    refine lv_if_eq (tgt := 29) hx hb dX5_balance_17 (by decide) (fun c_4 => ?_) (fun c_4 => ?_)
    · refine lv_iconst (v := 0) hx hb dX5_balance_29 (by decide) ?_
      have hP9 := hP
      have hD9 := hD
      have hK9 := hK
      exact W.iret (v := 0) hx hb hr (fun t ht hW => ⟨⟨0, (), rfl, (fun h9 => absurd (e1.symm.trans h9) (by decide)), (by rw [e1]; exact atW_end hP9 hD9 hK9 ht hW)⟩, hS.F ht⟩) hS.2.2 dX5_balance_30
    · exact absurd rfl c_4
  · have hc_2 : selOK a x := bI_t c_2
    have e0 : kSel a x = 0 := if_pos hc_2
    refine lv_iconst (v := 0) hx hb dX5_balance_9 (by decide) ?_
    refine lv_goto (tgt := 14) hx hb dX5_balance_10 (by decide) ?_
    have hFc := y_free hD hS hA
    refine va_calli (va_runV (As := [.int 0]) (rest := []) ⟨hx, hb, hml, hown, hts⟩ (c_X5_holds l dC dI cI cF cZ h0 q H.size a th hB 0) (cwV 1 hts gX5_balance_X5_holds rfl rfl rfl (by decide +kernel) ⟨Nat.le_of_ble_eq_true rfl, Nat.le_of_ble_eq_true rfl⟩) ⟨pcW_blind, va_recv hK hP (ci := 5) (q0 := 0) rfl rfl, fun U hU hW => pcW_pre hP hD hK hU hW⟩ rfl rfl hl.1 rfl (lv_room (Nat.le_of_ble_eq_true rfl)) dX5_balance_14 ⟨Nat.zero_le _, Nat.zero_le _⟩) hS (fun q _ h => hFc q h) hFc (fun r u t H1 locs ht hvm hw hB1 hz1 hk1 hS => ?_)
    obtain ⟨hP, hK1, hD1⟩ := hB1
    rw [ht] at hP
    have hD := hD1.weaken (fun kk qq _ h => hFc qq.1 h)
    generalize H1 = H at hP hS ⊢
    have hP : va_P (dC, dI) vwCl (WM cI cF cZ h0 q a 0) H := hP
    have hD : va_D A (WM cI cF cZ h0 q a 0) := hD
    have hw5 := hw
    refine y_topi (y := 1) (hw5.trans (if_pos rfl)) ?_
    refine lv_if_eq (tgt := 29) hx hb dX5_balance_17 (by decide) (fun c_6 => ?_) (fun c_6 => ?_)
    · exact absurd c_6 (by decide)
    · have hx1 := nat_of (hB 0 0 8 rfl) (by decide) hc_2.1 hc_2.2
      have hx8 : nn x < 8 := Nat.lt_of_lt_of_le hx1.2 (hB 0 0 8 rfl).2
      refine lv_aload_n hx hb dX5_balance_20 rfl (lv_at hl 0 rfl) ?_
      refine va_get (D := (dC, dI)) (ci := 5) (v := .ref (q 7)) (C := RX5) (T := TX5) (N := 31) hx hb hts hiX5 hown hK hP 0 rfl rfl 9 (by decide) (hts (.fieldLink RX5 28 "PayoutnetModel" "balances" "[I") (List.mem_of_getElem? (i := 1) rfl)) (fun _ h9 => h9) rfl dX5_balance_21 ?_
      refine lv_iload_n hx hb dX5_balance_24 rfl (lv_at hl 1 rfl) ?_
      refine y_topi (y := nI (nn x)) hx1.1 ?_
      refine y_ild hx hb hK hP 7 0 rfl rfl (t := nn x) (by omega) (Nat.le_of_ble_eq_true rfl) dX5_balance_25 ?_
      refine lv_goto (tgt := 30) hx hb dX5_balance_26 (by decide) ?_
      have hP9 := hP
      have hD9 := hD
      have hK9 := hK
      exact W.iret (v := (a 7) (nn x)) hx hb hr (fun t ht hW => ⟨⟨(a 7) (nn x), (), rfl, (fun _ => rfl), (by rw [e0]; exact atW_end hP9 hD9 hK9 ht hW)⟩, hS.F ht⟩) hS.2.2 dX5_balance_30
set_option maxHeartbeats 4000000 in
set_option maxRecDepth 100000 in
theorem c_X5_balanceByEntries (l : Launch) (dC : Nat → ClassId) (dI : Nat → Nat → Nat) (cI cF cZ : ClassId) (h0 : Nat) (q : Nat → Nat) (sz : Nat) (a : yA) (th : Int32) (hB : okB a) (x : Int32) : Met l yX5_balanceByEntries wsX5_balanceByEntries ({ frames := 2, cells := 0, slots := 0, locals := 43 } : Room) (va_Pc [.ref h0, .int x] (pcW dC dI [(cI, .int), (cF, .float), (cZ, .boolean)] (WM cI cF cZ h0 q a th) sz)) (va_Qi (fun (r : Int32) (_ : Unit) => (kSel a x = 0 → r = a 7 (nn x))) (fun _ t => atM dC dI cI cF cZ (va_A (WM cI cF cZ h0 q a th) sz) h0 q (a) (nI (kSel a x)) t) (va_A (WM cI cF cZ h0 q a th) sz)) 0 0 (va_A (WM cI cF cZ h0 q a th) sz) := by
  refine Met.ofW (cc := cX5_balanceByEntries) (maxL := 2) (ret := (some .int)) (by decide) rfl ?_
  intro p e s m args below meth c s₁ B hml hv
  obtain ⟨rfl, hsz, hP, hK, hD0⟩ := hv
  have hx := B.exec
  have hb := B.bytes
  have hr := B.returns
  have hts := atoms_spec (ws := wsX5_balanceByEntries) B.pre
  have hown : s.vm.findClass RX5 = some m.cls := findClass_of_methodNamed B.named
  have hlocks := B.notSynchronized
  subst hsz
  have hD := hD0.self (sz := s.heap.size)
  generalize hAe : va_A [(h0, .inr (5, [.int th, .int (a 0 0), .int (a 0 1), .ref (q 1), .ref (q 2), .ref (q 3), .ref (q 4), .ref (q 5), .ref (q 6), .ref (q 7), .ref (q 8), .ref (q 9), .int (a 0 2), .int (a 0 3), .ref (q 10), .ref (q 11), .ref (q 12), .ref (q 13), .ref (q 14), .ref (q 15), .ref (q 16), .ref (q 17), .ref (q 18), .int (a 0 4), .ref (q 19), .ref (q 20), .ref (q 21), .int (a 0 5), .int (a 0 6), .int (a 0 7), .int (a 0 8)])), (q 1, .inl (cI, 8, .inl (a 1))), (q 2, .inl (cI, 8, .inl (a 2))), (q 3, .inl (cI, 8, .inl (a 3))), (q 4, .inl (cI, 8, .inl (a 4))), (q 5, .inl (cI, 8, .inl (a 5))), (q 6, .inl (cI, 8, .inl (a 6))), (q 7, .inl (cI, 8, .inl (a 7))), (q 8, .inl (cI, 8, .inl (a 8))), (q 9, .inl (cF, 4, .inr (.inr (.inl (fun j => shF (a 9 j)))))), (q 10, .inl (cI, 100, .inl (a 10))), (q 11, .inl (cI, 100, .inl (a 11))), (q 12, .inl (cI, 100, .inl (a 12))), (q 13, .inl (cF, 100, .inr (.inr (.inl (fun j => shF (a 13 j)))))), (q 14, .inl (cI, 100, .inl (a 14))), (q 15, .inl (cI, 100, .inl (a 15))), (q 16, .inl (cI, 100, .inl (a 16))), (q 17, .inl (cI, 100, .inl (a 17))), (q 18, .inl (cI, 100, .inl (a 18))), (q 19, .inl (cI, 2000, .inl (a 19))), (q 20, .inl (cI, 2000, .inl (a 20))), (q 21, .inl (cZ, 2000, .inl (a 21)))] s.heap.size = A at hD ⊢
  have hA : ∀ q : Nat, s.heap.size ≤ q → A q := fun q h => by rw [← hAe]; exact Or.inr h
  have hS : va_S A s.heap s.heap [] := va_S.rf
  have hl := lv_entry ([.ref h0, .int x]) (n := 2) (Nat.le_of_ble_eq_true rfl)
  rw [lg_entry_eq]
  generalize (lg_sl ([.ref h0, .int x]) ++ List.replicate (2 - (lg_sl ([.ref h0, .int x])).length) Slot.unset).toArray = ls at hl ⊢
  have hl : lv_has ls 2 [(0, .ref h0), (1, .int x)] := hl
  have hiX5 : ∀ w ∈ wsX50, w ∈ wsX5_balanceByEntries := fun w h => List.mem_cons_of_mem _ (List.mem_append_right _ h)
  have hP : va_P (dC, dI) vwCl [(h0, .inr (5, [.int th, .int (a 0 0), .int (a 0 1), .ref (q 1), .ref (q 2), .ref (q 3), .ref (q 4), .ref (q 5), .ref (q 6), .ref (q 7), .ref (q 8), .ref (q 9), .int (a 0 2), .int (a 0 3), .ref (q 10), .ref (q 11), .ref (q 12), .ref (q 13), .ref (q 14), .ref (q 15), .ref (q 16), .ref (q 17), .ref (q 18), .int (a 0 4), .ref (q 19), .ref (q 20), .ref (q 21), .int (a 0 5), .int (a 0 6), .int (a 0 7), .int (a 0 8)])), (q 1, .inl (cI, 8, .inl (a 1))), (q 2, .inl (cI, 8, .inl (a 2))), (q 3, .inl (cI, 8, .inl (a 3))), (q 4, .inl (cI, 8, .inl (a 4))), (q 5, .inl (cI, 8, .inl (a 5))), (q 6, .inl (cI, 8, .inl (a 6))), (q 7, .inl (cI, 8, .inl (a 7))), (q 8, .inl (cI, 8, .inl (a 8))), (q 9, .inl (cF, 4, .inr (.inr (.inl (fun j => shF (a 9 j)))))), (q 10, .inl (cI, 100, .inl (a 10))), (q 11, .inl (cI, 100, .inl (a 11))), (q 12, .inl (cI, 100, .inl (a 12))), (q 13, .inl (cF, 100, .inr (.inr (.inl (fun j => shF (a 13 j)))))), (q 14, .inl (cI, 100, .inl (a 14))), (q 15, .inl (cI, 100, .inl (a 15))), (q 16, .inl (cI, 100, .inl (a 16))), (q 17, .inl (cI, 100, .inl (a 17))), (q 18, .inl (cI, 100, .inl (a 18))), (q 19, .inl (cI, 2000, .inl (a 19))), (q 20, .inl (cI, 2000, .inl (a 20))), (q 21, .inl (cZ, 2000, .inl (a 21)))] s.heap := hP
  refine y_enter (A := A) hP (fun H hP hS => ?_)
  have hBk := hB
  refine lv_aload_n hx hb dX5_balanceByEntries_0 rfl (lv_at hl 0 rfl) ?_
  refine lv_aload_n hx hb dX5_balanceByEntries_1 rfl (lv_at hl 0 rfl) ?_
  refine lv_iload_n hx hb dX5_balanceByEntries_2 rfl (lv_at hl 1 rfl) ?_
  have hFc := y_free hD hS hA
  refine va_calli (va_runV (As := [.int x]) (rest := [.ref h0]) ⟨hx, hb, hml, hown, hts⟩ (c_X5_isSeller l dC dI cI cF cZ h0 q H.size a th hB x) (cwV 1 hts gX5_balanceByEntries_X5_isSeller rfl rfl rfl (by decide +kernel) ⟨Nat.le_of_ble_eq_true rfl, Nat.le_of_ble_eq_true rfl⟩) ⟨pcW_blind, va_recv hK hP (ci := 5) (q0 := 0) rfl rfl, fun U hU hW => pcW_pre hP hD hK hU hW⟩ rfl rfl hl.1 rfl (lv_room (Nat.le_of_ble_eq_true rfl)) dX5_balanceByEntries_3 ⟨Nat.zero_le _, Nat.zero_le _⟩) hS (fun q _ h => hFc q h) hFc (fun r u t H1 locs ht hvm hw hB1 hz1 hk1 hS => ?_)
  obtain ⟨hP, hK1, hD1⟩ := hB1
  rw [ht] at hP
  have hD := hD1.weaken (fun kk qq _ h => hFc qq.1 h)
  generalize H1 = H at hP hS ⊢
  have hP : va_P (dC, dI) vwCl (WM cI cF cZ h0 q a th) H := hP
  have hD : va_D A (WM cI cF cZ h0 q a th) := hD
  have hw1 := hw
  refine y_topi (y := bI (selOK a x)) hw1 ?_
  refine lv_if_eq (tgt := 13) hx hb dX5_balanceByEntries_6 (by decide) (fun c_2 => ?_) (fun c_2 => ?_)
  · have hc_2 : ¬ (selOK a x) := bI_f c_2
    have e1 : kSel a x = 1 := if_neg hc_2
    refine lv_iconst (v := 1) hx hb dX5_balanceByEntries_13 (by decide) ?_
    have hFc := y_free hD hS hA
    refine va_calli (va_runV (As := [.int 1]) (rest := []) ⟨hx, hb, hml, hown, hts⟩ (c_X5_holds l dC dI cI cF cZ h0 q H.size a th hB 1) (cwV 1 hts gX5_balanceByEntries_X5_holds rfl rfl rfl (by decide +kernel) ⟨Nat.le_of_ble_eq_true rfl, Nat.le_of_ble_eq_true rfl⟩) ⟨pcW_blind, va_recv hK hP (ci := 5) (q0 := 0) rfl rfl, fun U hU hW => pcW_pre hP hD hK hU hW⟩ rfl rfl hl.1 rfl (lv_room (Nat.le_of_ble_eq_true rfl)) dX5_balanceByEntries_14 ⟨Nat.zero_le _, Nat.zero_le _⟩) hS (fun q _ h => hFc q h) hFc (fun r u t H1 locs ht hvm hw hB1 hz1 hk1 hS => ?_)
    obtain ⟨hP, hK1, hD1⟩ := hB1
    rw [ht] at hP
    have hD := hD1.weaken (fun kk qq _ h => hFc qq.1 h)
    generalize H1 = H at hP hS ⊢
    have hP : va_P (dC, dI) vwCl (WM cI cF cZ h0 q a 1) H := hP
    have hD : va_D A (WM cI cF cZ h0 q a 1) := hD
    have hw3 := hw
    refine y_topi (y := 0) (hw3.trans (if_neg (by decide))) ?_
    refine lv_if_eq (tgt := 29) hx hb dX5_balanceByEntries_17 (by decide) (fun c_4 => ?_) (fun c_4 => ?_)
    · refine lv_iconst (v := 0) hx hb dX5_balanceByEntries_29 (by decide) ?_
      have hP9 := hP
      have hD9 := hD
      have hK9 := hK
      exact W.iret (v := 0) hx hb hr (fun t ht hW => ⟨⟨0, (), rfl, (fun h9 => absurd (e1.symm.trans h9) (by decide)), (by rw [e1]; exact atW_end hP9 hD9 hK9 ht hW)⟩, hS.F ht⟩) hS.2.2 dX5_balanceByEntries_30
    · exact absurd rfl c_4
  · have hc_2 : selOK a x := bI_t c_2
    have e0 : kSel a x = 0 := if_pos hc_2
    refine lv_iconst (v := 0) hx hb dX5_balanceByEntries_9 (by decide) ?_
    refine lv_goto (tgt := 14) hx hb dX5_balanceByEntries_10 (by decide) ?_
    have hFc := y_free hD hS hA
    refine va_calli (va_runV (As := [.int 0]) (rest := []) ⟨hx, hb, hml, hown, hts⟩ (c_X5_holds l dC dI cI cF cZ h0 q H.size a th hB 0) (cwV 1 hts gX5_balanceByEntries_X5_holds rfl rfl rfl (by decide +kernel) ⟨Nat.le_of_ble_eq_true rfl, Nat.le_of_ble_eq_true rfl⟩) ⟨pcW_blind, va_recv hK hP (ci := 5) (q0 := 0) rfl rfl, fun U hU hW => pcW_pre hP hD hK hU hW⟩ rfl rfl hl.1 rfl (lv_room (Nat.le_of_ble_eq_true rfl)) dX5_balanceByEntries_14 ⟨Nat.zero_le _, Nat.zero_le _⟩) hS (fun q _ h => hFc q h) hFc (fun r u t H1 locs ht hvm hw hB1 hz1 hk1 hS => ?_)
    obtain ⟨hP, hK1, hD1⟩ := hB1
    rw [ht] at hP
    have hD := hD1.weaken (fun kk qq _ h => hFc qq.1 h)
    generalize H1 = H at hP hS ⊢
    have hP : va_P (dC, dI) vwCl (WM cI cF cZ h0 q a 0) H := hP
    have hD : va_D A (WM cI cF cZ h0 q a 0) := hD
    have hw5 := hw
    refine y_topi (y := 1) (hw5.trans (if_pos rfl)) ?_
    refine lv_if_eq (tgt := 29) hx hb dX5_balanceByEntries_17 (by decide) (fun c_6 => ?_) (fun c_6 => ?_)
    · exact absurd c_6 (by decide)
    · have hx1 := nat_of (hB 0 0 8 rfl) (by decide) hc_2.1 hc_2.2
      have hx8 : nn x < 8 := Nat.lt_of_lt_of_le hx1.2 (hB 0 0 8 rfl).2
      refine lv_aload_n hx hb dX5_balanceByEntries_20 rfl (lv_at hl 0 rfl) ?_
      refine va_get (D := (dC, dI)) (ci := 5) (v := .ref (q 7)) (C := RX5) (T := TX5) (N := 31) hx hb hts hiX5 hown hK hP 0 rfl rfl 9 (by decide) (hts (.fieldLink RX5 28 "PayoutnetModel" "balances" "[I") (List.mem_of_getElem? (i := 1) rfl)) (fun _ h9 => h9) rfl dX5_balanceByEntries_21 ?_
      refine lv_iload_n hx hb dX5_balanceByEntries_24 rfl (lv_at hl 1 rfl) ?_
      refine y_topi (y := nI (nn x)) hx1.1 ?_
      refine y_ild hx hb hK hP 7 0 rfl rfl (t := nn x) (by omega) (Nat.le_of_ble_eq_true rfl) dX5_balanceByEntries_25 ?_
      refine lv_goto (tgt := 30) hx hb dX5_balanceByEntries_26 (by decide) ?_
      have hP9 := hP
      have hD9 := hD
      have hK9 := hK
      exact W.iret (v := (a 7) (nn x)) hx hb hr (fun t ht hW => ⟨⟨(a 7) (nn x), (), rfl, (fun _ => rfl), (by rw [e0]; exact atW_end hP9 hD9 hK9 ht hW)⟩, hS.F ht⟩) hS.2.2 dX5_balanceByEntries_30
set_option maxHeartbeats 4000000 in
set_option maxRecDepth 100000 in
theorem c_X5_paidTo (l : Launch) (dC : Nat → ClassId) (dI : Nat → Nat → Nat) (cI cF cZ : ClassId) (h0 : Nat) (q : Nat → Nat) (sz : Nat) (a : yA) (th : Int32) (hB : okB a) (x : Int32) : Met l yX5_paidTo wsX5_paidTo ({ frames := 2, cells := 0, slots := 0, locals := 43 } : Room) (va_Pc [.ref h0, .int x] (pcW dC dI [(cI, .int), (cF, .float), (cZ, .boolean)] (WM cI cF cZ h0 q a th) sz)) (va_Qi (fun (r : Int32) (_ : Unit) => (kSel a x = 0 → r = a 8 (nn x))) (fun _ t => atM dC dI cI cF cZ (va_A (WM cI cF cZ h0 q a th) sz) h0 q (a) (nI (kSel a x)) t) (va_A (WM cI cF cZ h0 q a th) sz)) 0 0 (va_A (WM cI cF cZ h0 q a th) sz) := by
  refine Met.ofW (cc := cX5_paidTo) (maxL := 2) (ret := (some .int)) (by decide) rfl ?_
  intro p e s m args below meth c s₁ B hml hv
  obtain ⟨rfl, hsz, hP, hK, hD0⟩ := hv
  have hx := B.exec
  have hb := B.bytes
  have hr := B.returns
  have hts := atoms_spec (ws := wsX5_paidTo) B.pre
  have hown : s.vm.findClass RX5 = some m.cls := findClass_of_methodNamed B.named
  have hlocks := B.notSynchronized
  subst hsz
  have hD := hD0.self (sz := s.heap.size)
  generalize hAe : va_A [(h0, .inr (5, [.int th, .int (a 0 0), .int (a 0 1), .ref (q 1), .ref (q 2), .ref (q 3), .ref (q 4), .ref (q 5), .ref (q 6), .ref (q 7), .ref (q 8), .ref (q 9), .int (a 0 2), .int (a 0 3), .ref (q 10), .ref (q 11), .ref (q 12), .ref (q 13), .ref (q 14), .ref (q 15), .ref (q 16), .ref (q 17), .ref (q 18), .int (a 0 4), .ref (q 19), .ref (q 20), .ref (q 21), .int (a 0 5), .int (a 0 6), .int (a 0 7), .int (a 0 8)])), (q 1, .inl (cI, 8, .inl (a 1))), (q 2, .inl (cI, 8, .inl (a 2))), (q 3, .inl (cI, 8, .inl (a 3))), (q 4, .inl (cI, 8, .inl (a 4))), (q 5, .inl (cI, 8, .inl (a 5))), (q 6, .inl (cI, 8, .inl (a 6))), (q 7, .inl (cI, 8, .inl (a 7))), (q 8, .inl (cI, 8, .inl (a 8))), (q 9, .inl (cF, 4, .inr (.inr (.inl (fun j => shF (a 9 j)))))), (q 10, .inl (cI, 100, .inl (a 10))), (q 11, .inl (cI, 100, .inl (a 11))), (q 12, .inl (cI, 100, .inl (a 12))), (q 13, .inl (cF, 100, .inr (.inr (.inl (fun j => shF (a 13 j)))))), (q 14, .inl (cI, 100, .inl (a 14))), (q 15, .inl (cI, 100, .inl (a 15))), (q 16, .inl (cI, 100, .inl (a 16))), (q 17, .inl (cI, 100, .inl (a 17))), (q 18, .inl (cI, 100, .inl (a 18))), (q 19, .inl (cI, 2000, .inl (a 19))), (q 20, .inl (cI, 2000, .inl (a 20))), (q 21, .inl (cZ, 2000, .inl (a 21)))] s.heap.size = A at hD ⊢
  have hA : ∀ q : Nat, s.heap.size ≤ q → A q := fun q h => by rw [← hAe]; exact Or.inr h
  have hS : va_S A s.heap s.heap [] := va_S.rf
  have hl := lv_entry ([.ref h0, .int x]) (n := 2) (Nat.le_of_ble_eq_true rfl)
  rw [lg_entry_eq]
  generalize (lg_sl ([.ref h0, .int x]) ++ List.replicate (2 - (lg_sl ([.ref h0, .int x])).length) Slot.unset).toArray = ls at hl ⊢
  have hl : lv_has ls 2 [(0, .ref h0), (1, .int x)] := hl
  have hiX5 : ∀ w ∈ wsX50, w ∈ wsX5_paidTo := fun w h => List.mem_cons_of_mem _ (List.mem_append_right _ h)
  have hP : va_P (dC, dI) vwCl [(h0, .inr (5, [.int th, .int (a 0 0), .int (a 0 1), .ref (q 1), .ref (q 2), .ref (q 3), .ref (q 4), .ref (q 5), .ref (q 6), .ref (q 7), .ref (q 8), .ref (q 9), .int (a 0 2), .int (a 0 3), .ref (q 10), .ref (q 11), .ref (q 12), .ref (q 13), .ref (q 14), .ref (q 15), .ref (q 16), .ref (q 17), .ref (q 18), .int (a 0 4), .ref (q 19), .ref (q 20), .ref (q 21), .int (a 0 5), .int (a 0 6), .int (a 0 7), .int (a 0 8)])), (q 1, .inl (cI, 8, .inl (a 1))), (q 2, .inl (cI, 8, .inl (a 2))), (q 3, .inl (cI, 8, .inl (a 3))), (q 4, .inl (cI, 8, .inl (a 4))), (q 5, .inl (cI, 8, .inl (a 5))), (q 6, .inl (cI, 8, .inl (a 6))), (q 7, .inl (cI, 8, .inl (a 7))), (q 8, .inl (cI, 8, .inl (a 8))), (q 9, .inl (cF, 4, .inr (.inr (.inl (fun j => shF (a 9 j)))))), (q 10, .inl (cI, 100, .inl (a 10))), (q 11, .inl (cI, 100, .inl (a 11))), (q 12, .inl (cI, 100, .inl (a 12))), (q 13, .inl (cF, 100, .inr (.inr (.inl (fun j => shF (a 13 j)))))), (q 14, .inl (cI, 100, .inl (a 14))), (q 15, .inl (cI, 100, .inl (a 15))), (q 16, .inl (cI, 100, .inl (a 16))), (q 17, .inl (cI, 100, .inl (a 17))), (q 18, .inl (cI, 100, .inl (a 18))), (q 19, .inl (cI, 2000, .inl (a 19))), (q 20, .inl (cI, 2000, .inl (a 20))), (q 21, .inl (cZ, 2000, .inl (a 21)))] s.heap := hP
  refine y_enter (A := A) hP (fun H hP hS => ?_)
  have hBk := hB
  refine lv_aload_n hx hb dX5_paidTo_0 rfl (lv_at hl 0 rfl) ?_
  refine lv_aload_n hx hb dX5_paidTo_1 rfl (lv_at hl 0 rfl) ?_
  refine lv_iload_n hx hb dX5_paidTo_2 rfl (lv_at hl 1 rfl) ?_
  have hFc := y_free hD hS hA
  refine va_calli (va_runV (As := [.int x]) (rest := [.ref h0]) ⟨hx, hb, hml, hown, hts⟩ (c_X5_isSeller l dC dI cI cF cZ h0 q H.size a th hB x) (cwV 1 hts gX5_paidTo_X5_isSeller rfl rfl rfl (by decide +kernel) ⟨Nat.le_of_ble_eq_true rfl, Nat.le_of_ble_eq_true rfl⟩) ⟨pcW_blind, va_recv hK hP (ci := 5) (q0 := 0) rfl rfl, fun U hU hW => pcW_pre hP hD hK hU hW⟩ rfl rfl hl.1 rfl (lv_room (Nat.le_of_ble_eq_true rfl)) dX5_paidTo_3 ⟨Nat.zero_le _, Nat.zero_le _⟩) hS (fun q _ h => hFc q h) hFc (fun r u t H1 locs ht hvm hw hB1 hz1 hk1 hS => ?_)
  obtain ⟨hP, hK1, hD1⟩ := hB1
  rw [ht] at hP
  have hD := hD1.weaken (fun kk qq _ h => hFc qq.1 h)
  generalize H1 = H at hP hS ⊢
  have hP : va_P (dC, dI) vwCl (WM cI cF cZ h0 q a th) H := hP
  have hD : va_D A (WM cI cF cZ h0 q a th) := hD
  have hw1 := hw
  refine y_topi (y := bI (selOK a x)) hw1 ?_
  refine lv_if_eq (tgt := 13) hx hb dX5_paidTo_6 (by decide) (fun c_2 => ?_) (fun c_2 => ?_)
  · have hc_2 : ¬ (selOK a x) := bI_f c_2
    have e1 : kSel a x = 1 := if_neg hc_2
    refine lv_iconst (v := 1) hx hb dX5_paidTo_13 (by decide) ?_
    have hFc := y_free hD hS hA
    refine va_calli (va_runV (As := [.int 1]) (rest := []) ⟨hx, hb, hml, hown, hts⟩ (c_X5_holds l dC dI cI cF cZ h0 q H.size a th hB 1) (cwV 1 hts gX5_paidTo_X5_holds rfl rfl rfl (by decide +kernel) ⟨Nat.le_of_ble_eq_true rfl, Nat.le_of_ble_eq_true rfl⟩) ⟨pcW_blind, va_recv hK hP (ci := 5) (q0 := 0) rfl rfl, fun U hU hW => pcW_pre hP hD hK hU hW⟩ rfl rfl hl.1 rfl (lv_room (Nat.le_of_ble_eq_true rfl)) dX5_paidTo_14 ⟨Nat.zero_le _, Nat.zero_le _⟩) hS (fun q _ h => hFc q h) hFc (fun r u t H1 locs ht hvm hw hB1 hz1 hk1 hS => ?_)
    obtain ⟨hP, hK1, hD1⟩ := hB1
    rw [ht] at hP
    have hD := hD1.weaken (fun kk qq _ h => hFc qq.1 h)
    generalize H1 = H at hP hS ⊢
    have hP : va_P (dC, dI) vwCl (WM cI cF cZ h0 q a 1) H := hP
    have hD : va_D A (WM cI cF cZ h0 q a 1) := hD
    have hw3 := hw
    refine y_topi (y := 0) (hw3.trans (if_neg (by decide))) ?_
    refine lv_if_eq (tgt := 29) hx hb dX5_paidTo_17 (by decide) (fun c_4 => ?_) (fun c_4 => ?_)
    · refine lv_iconst (v := 0) hx hb dX5_paidTo_29 (by decide) ?_
      have hP9 := hP
      have hD9 := hD
      have hK9 := hK
      exact W.iret (v := 0) hx hb hr (fun t ht hW => ⟨⟨0, (), rfl, (fun h9 => absurd (e1.symm.trans h9) (by decide)), (by rw [e1]; exact atW_end hP9 hD9 hK9 ht hW)⟩, hS.F ht⟩) hS.2.2 dX5_paidTo_30
    · exact absurd rfl c_4
  · have hc_2 : selOK a x := bI_t c_2
    have e0 : kSel a x = 0 := if_pos hc_2
    refine lv_iconst (v := 0) hx hb dX5_paidTo_9 (by decide) ?_
    refine lv_goto (tgt := 14) hx hb dX5_paidTo_10 (by decide) ?_
    have hFc := y_free hD hS hA
    refine va_calli (va_runV (As := [.int 0]) (rest := []) ⟨hx, hb, hml, hown, hts⟩ (c_X5_holds l dC dI cI cF cZ h0 q H.size a th hB 0) (cwV 1 hts gX5_paidTo_X5_holds rfl rfl rfl (by decide +kernel) ⟨Nat.le_of_ble_eq_true rfl, Nat.le_of_ble_eq_true rfl⟩) ⟨pcW_blind, va_recv hK hP (ci := 5) (q0 := 0) rfl rfl, fun U hU hW => pcW_pre hP hD hK hU hW⟩ rfl rfl hl.1 rfl (lv_room (Nat.le_of_ble_eq_true rfl)) dX5_paidTo_14 ⟨Nat.zero_le _, Nat.zero_le _⟩) hS (fun q _ h => hFc q h) hFc (fun r u t H1 locs ht hvm hw hB1 hz1 hk1 hS => ?_)
    obtain ⟨hP, hK1, hD1⟩ := hB1
    rw [ht] at hP
    have hD := hD1.weaken (fun kk qq _ h => hFc qq.1 h)
    generalize H1 = H at hP hS ⊢
    have hP : va_P (dC, dI) vwCl (WM cI cF cZ h0 q a 0) H := hP
    have hD : va_D A (WM cI cF cZ h0 q a 0) := hD
    have hw5 := hw
    refine y_topi (y := 1) (hw5.trans (if_pos rfl)) ?_
    refine lv_if_eq (tgt := 29) hx hb dX5_paidTo_17 (by decide) (fun c_6 => ?_) (fun c_6 => ?_)
    · exact absurd c_6 (by decide)
    · have hx1 := nat_of (hB 0 0 8 rfl) (by decide) hc_2.1 hc_2.2
      have hx8 : nn x < 8 := Nat.lt_of_lt_of_le hx1.2 (hB 0 0 8 rfl).2
      refine lv_aload_n hx hb dX5_paidTo_20 rfl (lv_at hl 0 rfl) ?_
      refine va_get (D := (dC, dI)) (ci := 5) (v := .ref (q 8)) (C := RX5) (T := TX5) (N := 31) hx hb hts hiX5 hown hK hP 0 rfl rfl 10 (by decide) (hts (.fieldLink RX5 31 "PayoutnetModel" "paidTo" "[I") (List.mem_of_getElem? (i := 1) rfl)) (fun _ h9 => h9) rfl dX5_paidTo_21 ?_
      refine lv_iload_n hx hb dX5_paidTo_24 rfl (lv_at hl 1 rfl) ?_
      refine y_topi (y := nI (nn x)) hx1.1 ?_
      refine y_ild hx hb hK hP 8 0 rfl rfl (t := nn x) (by omega) (Nat.le_of_ble_eq_true rfl) dX5_paidTo_25 ?_
      refine lv_goto (tgt := 30) hx hb dX5_paidTo_26 (by decide) ?_
      have hP9 := hP
      have hD9 := hD
      have hK9 := hK
      exact W.iret (v := (a 8) (nn x)) hx hb hr (fun t ht hW => ⟨⟨(a 8) (nn x), (), rfl, (fun _ => rfl), (by rw [e0]; exact atW_end hP9 hD9 hK9 ht hW)⟩, hS.F ht⟩) hS.2.2 dX5_paidTo_30
set_option maxHeartbeats 4000000 in
set_option maxRecDepth 100000 in
theorem c_X5_reserve (l : Launch) (dC : Nat → ClassId) (dI : Nat → Nat → Nat) (cI cF cZ : ClassId) (h0 : Nat) (q : Nat → Nat) (sz : Nat) (a : yA) (th : Int32) (hB : okB a) (x : Int32) : Met l yX5_reserve wsX5_reserve ({ frames := 2, cells := 0, slots := 0, locals := 43 } : Room) (va_Pc [.ref h0, .int x] (pcW dC dI [(cI, .int), (cF, .float), (cZ, .boolean)] (WM cI cF cZ h0 q a th) sz)) (va_Qi (fun (r : Int32) (_ : Unit) => (kSel a x = 0 → r = sHsum a (nn x) (nn (a 0 3)))) (fun _ t => atM dC dI cI cF cZ (va_A (WM cI cF cZ h0 q a th) sz) h0 q (a) (nI (kSel a x)) t) (va_A (WM cI cF cZ h0 q a th) sz)) 0 0 (va_A (WM cI cF cZ h0 q a th) sz) := by
  refine Met.ofW (cc := cX5_reserve) (maxL := 4) (ret := (some .int)) (by decide) rfl ?_
  intro p e s m args below meth c s₁ B hml hv
  obtain ⟨rfl, hsz, hP, hK, hD0⟩ := hv
  have hx := B.exec
  have hb := B.bytes
  have hr := B.returns
  have hts := atoms_spec (ws := wsX5_reserve) B.pre
  have hown : s.vm.findClass RX5 = some m.cls := findClass_of_methodNamed B.named
  have hlocks := B.notSynchronized
  subst hsz
  have hD := hD0.self (sz := s.heap.size)
  generalize hAe : va_A [(h0, .inr (5, [.int th, .int (a 0 0), .int (a 0 1), .ref (q 1), .ref (q 2), .ref (q 3), .ref (q 4), .ref (q 5), .ref (q 6), .ref (q 7), .ref (q 8), .ref (q 9), .int (a 0 2), .int (a 0 3), .ref (q 10), .ref (q 11), .ref (q 12), .ref (q 13), .ref (q 14), .ref (q 15), .ref (q 16), .ref (q 17), .ref (q 18), .int (a 0 4), .ref (q 19), .ref (q 20), .ref (q 21), .int (a 0 5), .int (a 0 6), .int (a 0 7), .int (a 0 8)])), (q 1, .inl (cI, 8, .inl (a 1))), (q 2, .inl (cI, 8, .inl (a 2))), (q 3, .inl (cI, 8, .inl (a 3))), (q 4, .inl (cI, 8, .inl (a 4))), (q 5, .inl (cI, 8, .inl (a 5))), (q 6, .inl (cI, 8, .inl (a 6))), (q 7, .inl (cI, 8, .inl (a 7))), (q 8, .inl (cI, 8, .inl (a 8))), (q 9, .inl (cF, 4, .inr (.inr (.inl (fun j => shF (a 9 j)))))), (q 10, .inl (cI, 100, .inl (a 10))), (q 11, .inl (cI, 100, .inl (a 11))), (q 12, .inl (cI, 100, .inl (a 12))), (q 13, .inl (cF, 100, .inr (.inr (.inl (fun j => shF (a 13 j)))))), (q 14, .inl (cI, 100, .inl (a 14))), (q 15, .inl (cI, 100, .inl (a 15))), (q 16, .inl (cI, 100, .inl (a 16))), (q 17, .inl (cI, 100, .inl (a 17))), (q 18, .inl (cI, 100, .inl (a 18))), (q 19, .inl (cI, 2000, .inl (a 19))), (q 20, .inl (cI, 2000, .inl (a 20))), (q 21, .inl (cZ, 2000, .inl (a 21)))] s.heap.size = A at hD ⊢
  have hA : ∀ q : Nat, s.heap.size ≤ q → A q := fun q h => by rw [← hAe]; exact Or.inr h
  have hS : va_S A s.heap s.heap [] := va_S.rf
  have hl := lv_entry ([.ref h0, .int x]) (n := 4) (Nat.le_of_ble_eq_true rfl)
  rw [lg_entry_eq]
  generalize (lg_sl ([.ref h0, .int x]) ++ List.replicate (4 - (lg_sl ([.ref h0, .int x])).length) Slot.unset).toArray = ls at hl ⊢
  have hl : lv_has ls 4 [(0, .ref h0), (1, .int x)] := hl
  have hiX5 : ∀ w ∈ wsX50, w ∈ wsX5_reserve := fun w h => List.mem_cons_of_mem _ (List.mem_append_right _ h)
  have hP : va_P (dC, dI) vwCl [(h0, .inr (5, [.int th, .int (a 0 0), .int (a 0 1), .ref (q 1), .ref (q 2), .ref (q 3), .ref (q 4), .ref (q 5), .ref (q 6), .ref (q 7), .ref (q 8), .ref (q 9), .int (a 0 2), .int (a 0 3), .ref (q 10), .ref (q 11), .ref (q 12), .ref (q 13), .ref (q 14), .ref (q 15), .ref (q 16), .ref (q 17), .ref (q 18), .int (a 0 4), .ref (q 19), .ref (q 20), .ref (q 21), .int (a 0 5), .int (a 0 6), .int (a 0 7), .int (a 0 8)])), (q 1, .inl (cI, 8, .inl (a 1))), (q 2, .inl (cI, 8, .inl (a 2))), (q 3, .inl (cI, 8, .inl (a 3))), (q 4, .inl (cI, 8, .inl (a 4))), (q 5, .inl (cI, 8, .inl (a 5))), (q 6, .inl (cI, 8, .inl (a 6))), (q 7, .inl (cI, 8, .inl (a 7))), (q 8, .inl (cI, 8, .inl (a 8))), (q 9, .inl (cF, 4, .inr (.inr (.inl (fun j => shF (a 9 j)))))), (q 10, .inl (cI, 100, .inl (a 10))), (q 11, .inl (cI, 100, .inl (a 11))), (q 12, .inl (cI, 100, .inl (a 12))), (q 13, .inl (cF, 100, .inr (.inr (.inl (fun j => shF (a 13 j)))))), (q 14, .inl (cI, 100, .inl (a 14))), (q 15, .inl (cI, 100, .inl (a 15))), (q 16, .inl (cI, 100, .inl (a 16))), (q 17, .inl (cI, 100, .inl (a 17))), (q 18, .inl (cI, 100, .inl (a 18))), (q 19, .inl (cI, 2000, .inl (a 19))), (q 20, .inl (cI, 2000, .inl (a 20))), (q 21, .inl (cZ, 2000, .inl (a 21)))] s.heap := hP
  refine y_enter (A := A) hP (fun H hP hS => ?_)
  have hBk := hB
  refine lv_aload_n hx hb dX5_reserve_0 rfl (lv_at hl 0 rfl) ?_
  refine lv_aload_n hx hb dX5_reserve_1 rfl (lv_at hl 0 rfl) ?_
  refine lv_iload_n hx hb dX5_reserve_2 rfl (lv_at hl 1 rfl) ?_
  have hFc := y_free hD hS hA
  refine va_calli (va_runV (As := [.int x]) (rest := [.ref h0]) ⟨hx, hb, hml, hown, hts⟩ (c_X5_isSeller l dC dI cI cF cZ h0 q H.size a th hB x) (cwV 1 hts gX5_reserve_X5_isSeller rfl rfl rfl (by decide +kernel) ⟨Nat.le_of_ble_eq_true rfl, Nat.le_of_ble_eq_true rfl⟩) ⟨pcW_blind, va_recv hK hP (ci := 5) (q0 := 0) rfl rfl, fun U hU hW => pcW_pre hP hD hK hU hW⟩ rfl rfl hl.1 rfl (lv_room (Nat.le_of_ble_eq_true rfl)) dX5_reserve_3 ⟨Nat.zero_le _, Nat.zero_le _⟩) hS (fun q _ h => hFc q h) hFc (fun r u t H1 locs ht hvm hw hB1 hz1 hk1 hS => ?_)
  obtain ⟨hP, hK1, hD1⟩ := hB1
  rw [ht] at hP
  have hD := hD1.weaken (fun kk qq _ h => hFc qq.1 h)
  generalize H1 = H at hP hS ⊢
  have hP : va_P (dC, dI) vwCl (WM cI cF cZ h0 q a th) H := hP
  have hD : va_D A (WM cI cF cZ h0 q a th) := hD
  have hw1 := hw
  refine y_topi (y := bI (selOK a x)) hw1 ?_
  refine lv_if_eq (tgt := 13) hx hb dX5_reserve_6 (by decide) (fun c_2 => ?_) (fun c_2 => ?_)
  · have hc_2 : ¬ (selOK a x) := bI_f c_2
    have e1 : kSel a x = 1 := if_neg hc_2
    refine lv_iconst (v := 1) hx hb dX5_reserve_13 (by decide) ?_
    have hFc := y_free hD hS hA
    refine va_calli (va_runV (As := [.int 1]) (rest := []) ⟨hx, hb, hml, hown, hts⟩ (c_X5_holds l dC dI cI cF cZ h0 q H.size a th hB 1) (cwV 1 hts gX5_reserve_X5_holds rfl rfl rfl (by decide +kernel) ⟨Nat.le_of_ble_eq_true rfl, Nat.le_of_ble_eq_true rfl⟩) ⟨pcW_blind, va_recv hK hP (ci := 5) (q0 := 0) rfl rfl, fun U hU hW => pcW_pre hP hD hK hU hW⟩ rfl rfl hl.1 rfl (lv_room (Nat.le_of_ble_eq_true rfl)) dX5_reserve_14 ⟨Nat.zero_le _, Nat.zero_le _⟩) hS (fun q _ h => hFc q h) hFc (fun r u t H1 locs ht hvm hw hB1 hz1 hk1 hS => ?_)
    obtain ⟨hP, hK1, hD1⟩ := hB1
    rw [ht] at hP
    have hD := hD1.weaken (fun kk qq _ h => hFc qq.1 h)
    generalize H1 = H at hP hS ⊢
    have hP : va_P (dC, dI) vwCl (WM cI cF cZ h0 q a 1) H := hP
    have hD : va_D A (WM cI cF cZ h0 q a 1) := hD
    have hw3 := hw
    refine y_topi (y := 0) (hw3.trans (if_neg (by decide))) ?_
    refine lv_if_ne (tgt := 22) hx hb dX5_reserve_17 (by decide) (fun c_4 => ?_) (fun c_4 => ?_)
    · exact absurd c_4 (by decide)
    · refine lv_iconst (v := 0) hx hb dX5_reserve_20 (by decide) ?_
      have hP9 := hP
      have hD9 := hD
      have hK9 := hK
      exact W.iret (v := 0) hx hb hr (fun t ht hW => ⟨⟨0, (), rfl, (fun h9 => absurd (e1.symm.trans h9) (by decide)), (by rw [e1]; exact atW_end hP9 hD9 hK9 ht hW)⟩, hS.F ht⟩) hS.2.2 dX5_reserve_21
  · have hc_2 : selOK a x := bI_t c_2
    have e0 : kSel a x = 0 := if_pos hc_2
    refine lv_iconst (v := 0) hx hb dX5_reserve_9 (by decide) ?_
    refine lv_goto (tgt := 14) hx hb dX5_reserve_10 (by decide) ?_
    have hFc := y_free hD hS hA
    refine va_calli (va_runV (As := [.int 0]) (rest := []) ⟨hx, hb, hml, hown, hts⟩ (c_X5_holds l dC dI cI cF cZ h0 q H.size a th hB 0) (cwV 1 hts gX5_reserve_X5_holds rfl rfl rfl (by decide +kernel) ⟨Nat.le_of_ble_eq_true rfl, Nat.le_of_ble_eq_true rfl⟩) ⟨pcW_blind, va_recv hK hP (ci := 5) (q0 := 0) rfl rfl, fun U hU hW => pcW_pre hP hD hK hU hW⟩ rfl rfl hl.1 rfl (lv_room (Nat.le_of_ble_eq_true rfl)) dX5_reserve_14 ⟨Nat.zero_le _, Nat.zero_le _⟩) hS (fun q _ h => hFc q h) hFc (fun r u t H1 locs ht hvm hw hB1 hz1 hk1 hS => ?_)
    obtain ⟨hP, hK1, hD1⟩ := hB1
    rw [ht] at hP
    have hD := hD1.weaken (fun kk qq _ h => hFc qq.1 h)
    generalize H1 = H at hP hS ⊢
    have hP : va_P (dC, dI) vwCl (WM cI cF cZ h0 q a 0) H := hP
    have hD : va_D A (WM cI cF cZ h0 q a 0) := hD
    have hw5 := hw
    refine y_topi (y := 1) (hw5.trans (if_pos rfl)) ?_
    refine lv_if_ne (tgt := 22) hx hb dX5_reserve_17 (by decide) (fun c_6 => ?_) (fun c_6 => ?_)
    · have hx1 := nat_of (hB 0 0 8 rfl) (by decide) hc_2.1 hc_2.2
      have hx8 : nn x < 8 := Nat.lt_of_lt_of_le hx1.2 (hB 0 0 8 rfl).2
      have hn := hB 0 3 100 rfl
      have hn2 := hn.2
      refine lv_iconst (v := 0) hx hb dX5_reserve_22 (by decide) ?_
      refine lv_istore_n (lv' := [(2, .int 0), (0, .ref h0), (1, .int x)]) hx hb dX5_reserve_23 rfl hl (by decide) rfl (fun ls hl => ?_)
      refine lv_iconst (v := 0) hx hb dX5_reserve_24 (by decide) ?_
      refine lv_istore_n (lv' := [(3, .int 0), (2, .int 0), (0, .ref h0), (1, .int x)]) hx hb dX5_reserve_25 rfl hl (by decide) rfl (fun ls hl => ?_)
      refine y_loop (fun k9 H locs ls => ∃ (i : Nat), k9 + i = nn (a 0 3) ∧ va_P (dC, dI) vwCl [(h0, .inr (5, [.int 0, .int (a 0 0), .int (a 0 1), .ref (q 1), .ref (q 2), .ref (q 3), .ref (q 4), .ref (q 5), .ref (q 6), .ref (q 7), .ref (q 8), .ref (q 9), .int (a 0 2), .int (a 0 3), .ref (q 10), .ref (q 11), .ref (q 12), .ref (q 13), .ref (q 14), .ref (q 15), .ref (q 16), .ref (q 17), .ref (q 18), .int (a 0 4), .ref (q 19), .ref (q 20), .ref (q 21), .int (a 0 5), .int (a 0 6), .int (a 0 7), .int (a 0 8)])), (q 1, .inl (cI, 8, .inl (a 1))), (q 2, .inl (cI, 8, .inl (a 2))), (q 3, .inl (cI, 8, .inl (a 3))), (q 4, .inl (cI, 8, .inl (a 4))), (q 5, .inl (cI, 8, .inl (a 5))), (q 6, .inl (cI, 8, .inl (a 6))), (q 7, .inl (cI, 8, .inl (a 7))), (q 8, .inl (cI, 8, .inl (a 8))), (q 9, .inl (cF, 4, .inr (.inr (.inl (fun j => shF (a 9 j)))))), (q 10, .inl (cI, 100, .inl (a 10))), (q 11, .inl (cI, 100, .inl (a 11))), (q 12, .inl (cI, 100, .inl (a 12))), (q 13, .inl (cF, 100, .inr (.inr (.inl (fun j => shF (a 13 j)))))), (q 14, .inl (cI, 100, .inl (a 14))), (q 15, .inl (cI, 100, .inl (a 15))), (q 16, .inl (cI, 100, .inl (a 16))), (q 17, .inl (cI, 100, .inl (a 17))), (q 18, .inl (cI, 100, .inl (a 18))), (q 19, .inl (cI, 2000, .inl (a 19))), (q 20, .inl (cI, 2000, .inl (a 20))), (q 21, .inl (cZ, 2000, .inl (a 21)))] H ∧ va_D A [(h0, .inr (5, [.int 0, .int (a 0 0), .int (a 0 1), .ref (q 1), .ref (q 2), .ref (q 3), .ref (q 4), .ref (q 5), .ref (q 6), .ref (q 7), .ref (q 8), .ref (q 9), .int (a 0 2), .int (a 0 3), .ref (q 10), .ref (q 11), .ref (q 12), .ref (q 13), .ref (q 14), .ref (q 15), .ref (q 16), .ref (q 17), .ref (q 18), .int (a 0 4), .ref (q 19), .ref (q 20), .ref (q 21), .int (a 0 5), .int (a 0 6), .int (a 0 7), .int (a 0 8)])), (q 1, .inl (cI, 8, .inl (a 1))), (q 2, .inl (cI, 8, .inl (a 2))), (q 3, .inl (cI, 8, .inl (a 3))), (q 4, .inl (cI, 8, .inl (a 4))), (q 5, .inl (cI, 8, .inl (a 5))), (q 6, .inl (cI, 8, .inl (a 6))), (q 7, .inl (cI, 8, .inl (a 7))), (q 8, .inl (cI, 8, .inl (a 8))), (q 9, .inl (cF, 4, .inr (.inr (.inl (fun j => shF (a 9 j)))))), (q 10, .inl (cI, 100, .inl (a 10))), (q 11, .inl (cI, 100, .inl (a 11))), (q 12, .inl (cI, 100, .inl (a 12))), (q 13, .inl (cF, 100, .inr (.inr (.inl (fun j => shF (a 13 j)))))), (q 14, .inl (cI, 100, .inl (a 14))), (q 15, .inl (cI, 100, .inl (a 15))), (q 16, .inl (cI, 100, .inl (a 16))), (q 17, .inl (cI, 100, .inl (a 17))), (q 18, .inl (cI, 100, .inl (a 18))), (q 19, .inl (cI, 2000, .inl (a 19))), (q 20, .inl (cI, 2000, .inl (a 20))), (q 21, .inl (cZ, 2000, .inl (a 21)))] ∧ va_S A s.heap H locs ∧ lv_has ls 4 [(3, .int (nI i)), (2, .int (hsm (a 10) (a 17) (nn x) i)), (1, .int x), (0, .ref h0)]) (nn (a 0 3)) ⟨0, by omega, hP, hD, hS, lv_sub hl [0, 1, 3, 2] rfl⟩ (fun k9 H locs ls hI ih => ?_)
      obtain ⟨i, hf0, hP, hD, hS, hl⟩ := hI
      refine lv_iload_n hx hb dX5_reserve_26 rfl (lv_at hl 0 rfl) ?_
      refine lv_aload_n hx hb dX5_reserve_27 rfl (lv_at hl 3 rfl) ?_
      refine va_get (D := (dC, dI)) (ci := 5) (v := .int (a 0 3)) (C := RX5) (T := TX5) (N := 31) hx hb hts hiX5 hown hK hP 0 rfl rfl 13 (by decide) (hts (.fieldLink RX5 114 "PayoutnetModel" "sales" "I") (List.mem_of_getElem? (i := 1) rfl)) (fun _ h9 => h9) rfl dX5_reserve_28 ?_
      refine y_topi (y := nI (nn (a 0 3))) hn.1 ?_
      refine lv_icmp_ge (tgt := 63) hx hb dX5_reserve_31 (by decide) (fun c_7 => ?_) (fun c_7 => ?_)
      · have hik : i = nn (a 0 3) := by have := (nI_leI (a := nn (a 0 3)) (b := i) (by omega) (by omega)).mp c_7; omega
        refine lv_iload_n hx hb dX5_reserve_63 rfl (lv_at hl 1 rfl) ?_
        have hP9 := hP
        have hD9 := hD
        have hK9 := hK
        exact W.iret (v := hsm (a 10) (a 17) (nn x) i) hx hb hr (fun t ht hW => ⟨⟨hsm (a 10) (a 17) (nn x) i, (), rfl, (fun _ => by rw [hik]; rfl), (by rw [e0]; exact atW_end hP9 hD9 hK9 ht hW)⟩, hS.F ht⟩) hS.2.2 dX5_reserve_64
      · have hik : i < nn (a 0 3) := Nat.lt_of_not_le (fun h => c_7 ((nI_leI (a := nn (a 0 3)) (b := i) (by omega) (by omega)).mpr h))
        refine lv_iload_n hx hb dX5_reserve_34 rfl (lv_at hl 1 rfl) ?_
        refine lv_aload_n hx hb dX5_reserve_35 rfl (lv_at hl 3 rfl) ?_
        refine va_get (D := (dC, dI)) (ci := 5) (v := .ref (q 10)) (C := RX5) (T := TX5) (N := 31) hx hb hts hiX5 hown hK hP 0 rfl rfl 14 (by decide) (hts (.fieldLink RX5 38 "PayoutnetModel" "saleSellers" "[I") (List.mem_of_getElem? (i := 2) rfl)) (fun _ h9 => h9) rfl dX5_reserve_36 ?_
        refine lv_iload_n hx hb dX5_reserve_39 rfl (lv_at hl 0 rfl) ?_
        refine y_ild hx hb hK hP 10 0 rfl rfl (t := i) (by omega) (Nat.le_of_ble_eq_true rfl) dX5_reserve_40 ?_
        refine lv_iload_n hx hb dX5_reserve_41 rfl (lv_at hl 2 rfl) ?_
        refine y_topi (y := nI (nn x)) hx1.1 ?_
        refine lv_icmp_ne (tgt := 54) hx hb dX5_reserve_42 (by decide) (fun c_8 => ?_) (fun c_8 => ?_)
        · have e9 : hsm (a 10) (a 17) (nn x) (i + 1) = hsm (a 10) (a 17) (nn x) i := if_neg c_8
          refine lv_iconst (v := 0) hx hb dX5_reserve_54 (by decide) ?_
          refine lv_iadd hx hb dX5_reserve_55 ?_
          refine y_topi (y := hsm (a 10) (a 17) (nn x) (i + 1)) (by rw [Int32.add_zero]; exact e9.symm) ?_
          refine lv_istore_n (lv' := [(2, .int (hsm (a 10) (a 17) (nn x) (i + 1))), (3, .int (nI i)), (1, .int x), (0, .ref h0)]) hx hb dX5_reserve_56 rfl hl (by decide) rfl (fun ls hl => ?_)
          refine lv_iinc (v := nI (i + 1)) (lv' := [(3, .int (nI (i + 1))), (2, .int (hsm (a 10) (a 17) (nn x) (i + 1))), (1, .int x), (0, .ref h0)]) hx hb dX5_reserve_57 hl (k := 1) rfl (nI_1 i) (by decide) rfl (fun ls hl => ?_)
          refine lv_goto (tgt := 26) hx hb dX5_reserve_60 (by decide) ?_
          exact ih (k9 - 1) H locs ls (by omega) ⟨i + 1, by omega, hP, hD, hS, lv_sub hl [0, 1, 2, 3] rfl⟩
        · have e9 : hsm (a 10) (a 17) (nn x) (i + 1) = hsm (a 10) (a 17) (nn x) i + a 17 i := if_pos c_8
          refine lv_aload_n hx hb dX5_reserve_45 rfl (lv_at hl 3 rfl) ?_
          refine va_get (D := (dC, dI)) (ci := 5) (v := .ref (q 17)) (C := RX5) (T := TX5) (N := 31) hx hb hts hiX5 hown hK hP 0 rfl rfl 21 (by decide) (hts (.fieldLink RX5 59 "PayoutnetModel" "held" "[I") (List.mem_of_getElem? (i := 3) rfl)) (fun _ h9 => h9) rfl dX5_reserve_46 ?_
          refine lv_iload_n hx hb dX5_reserve_49 rfl (lv_at hl 0 rfl) ?_
          refine y_ild hx hb hK hP 17 0 rfl rfl (t := i) (by omega) (Nat.le_of_ble_eq_true rfl) dX5_reserve_50 ?_
          refine lv_goto (tgt := 55) hx hb dX5_reserve_51 (by decide) ?_
          refine lv_iadd hx hb dX5_reserve_55 ?_
          refine y_topi (y := hsm (a 10) (a 17) (nn x) (i + 1)) e9.symm ?_
          refine lv_istore_n (lv' := [(2, .int (hsm (a 10) (a 17) (nn x) (i + 1))), (3, .int (nI i)), (1, .int x), (0, .ref h0)]) hx hb dX5_reserve_56 rfl hl (by decide) rfl (fun ls hl => ?_)
          refine lv_iinc (v := nI (i + 1)) (lv' := [(3, .int (nI (i + 1))), (2, .int (hsm (a 10) (a 17) (nn x) (i + 1))), (1, .int x), (0, .ref h0)]) hx hb dX5_reserve_57 hl (k := 1) rfl (nI_1 i) (by decide) rfl (fun ls hl => ?_)
          refine lv_goto (tgt := 26) hx hb dX5_reserve_60 (by decide) ?_
          exact ih (k9 - 1) H locs ls (by omega) ⟨i + 1, by omega, hP, hD, hS, lv_sub hl [0, 1, 2, 3] rfl⟩
    · exact absurd c_6 (by decide)
