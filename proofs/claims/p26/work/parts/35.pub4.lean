def bcA (x : Int32) : Int32 := x - (((x).toUInt32 >>> ((1 : Int32).toUInt32 &&& Int32.toUInt32 31)).toInt32 &&& 1431655765)
def bcB (x : Int32) : Int32 := (x &&& 858993459) + (((x).toUInt32 >>> ((2 : Int32).toUInt32 &&& Int32.toUInt32 31)).toInt32 &&& 858993459)
def bcC (x : Int32) : Int32 := (x + ((x).toUInt32 >>> ((4 : Int32).toUInt32 &&& Int32.toUInt32 31)).toInt32) &&& 252645135
def bcD (x : Int32) : Int32 := x + ((x).toUInt32 >>> ((8 : Int32).toUInt32 &&& Int32.toUInt32 31)).toInt32
def bcE (x : Int32) : Int32 := x + ((x).toUInt32 >>> ((16 : Int32).toUInt32 &&& Int32.toUInt32 31)).toInt32
theorem bc_all : ∀ set, set < 256 → bcE (bcD (bcC (bcB (bcA (nI set))))) &&& 63 = nI (cntB set 8) := by decide +kernel
set_option maxHeartbeats 4000000 in
set_option maxRecDepth 100000 in
theorem c_J6_bitCount_0f7a4 (l : Launch) (set : Nat) (hset : set < 256) : Met l yJ6_bitCount_0f7a4 wsJ6_bitCount_0f7a4 ({ frames := 0, cells := 0, slots := 0, locals := 0 } : Room) (va_Pc [.int (nI set)] (fun _ => True)) (va_Qi (fun (r : Int32) (_ : Unit) => r = nI (cntB set 8)) (fun _ _ => True) (fun _ => False)) 0 0 (fun _ => False) := by
  refine Met.ofW (cc := cJ6_bitCount_0f7a4) (maxL := 1) (ret := (some .int)) (by decide) rfl ?_
  intro p e s m args below meth c s₁ B hml hv
  obtain ⟨rfl, -⟩ := hv
  have hx := B.exec
  have hb := B.bytes
  have hr := B.returns
  have hts := atoms_spec (ws := wsJ6_bitCount_0f7a4) B.pre
  have hown : s.vm.findClass RJ6 = some m.cls := findClass_of_methodNamed B.named
  have hlocks := B.notSynchronized
  have hS : va_S (fun _ => False) s.heap s.heap [] := va_S.rf
  have hl := lv_entry ([.int (nI set)]) (n := 1) (Nat.le_of_ble_eq_true rfl)
  rw [lg_entry_eq]
  generalize (lg_sl ([.int (nI set)]) ++ List.replicate (1 - (lg_sl ([.int (nI set)])).length) Slot.unset).toArray = ls at hl ⊢
  have hl : lv_has ls 1 [(0, .int (nI set))] := hl
  refine lv_iload_n hx hb dJ6_bitCount_0f7a4_0 rfl (lv_at hl 0 rfl) ?_
  refine lv_iload_n hx hb dJ6_bitCount_0f7a4_1 rfl (lv_at hl 0 rfl) ?_
  refine lv_iconst (v := 1) hx hb dJ6_bitCount_0f7a4_2 (by decide) ?_
  refine lv_iushr (v := ((nI set).toUInt32 >>> ((1 : Int32).toUInt32 &&& Int32.toUInt32 31)).toInt32) hx hb dJ6_bitCount_0f7a4_3 rfl ?_
  refine lv_ldcw hx hb hown (hts (.constant RJ6 265 (1431655765)) (List.mem_of_getElem? (i := 1) rfl)) dJ6_bitCount_0f7a4_4 ?_
  refine lv_iand hx hb dJ6_bitCount_0f7a4_7 ?_
  refine lv_isub hx hb dJ6_bitCount_0f7a4_8 ?_
  refine y_topi (y := bcA (nI set)) rfl ?_
  refine lv_istore_n (lv' := [(0, .int (bcA (nI set)))]) hx hb dJ6_bitCount_0f7a4_9 rfl hl (by decide) rfl (fun ls hl => ?_)
  refine lv_iload_n hx hb dJ6_bitCount_0f7a4_10 rfl (lv_at hl 0 rfl) ?_
  refine lv_ldcw hx hb hown (hts (.constant RJ6 266 (858993459)) (List.mem_of_getElem? (i := 2) rfl)) dJ6_bitCount_0f7a4_11 ?_
  refine lv_iand hx hb dJ6_bitCount_0f7a4_14 ?_
  refine lv_iload_n hx hb dJ6_bitCount_0f7a4_15 rfl (lv_at hl 0 rfl) ?_
  refine lv_iconst (v := 2) hx hb dJ6_bitCount_0f7a4_16 (by decide) ?_
  refine lv_iushr (v := ((bcA (nI set)).toUInt32 >>> ((2 : Int32).toUInt32 &&& Int32.toUInt32 31)).toInt32) hx hb dJ6_bitCount_0f7a4_17 rfl ?_
  refine lv_ldcw hx hb hown (hts (.constant RJ6 266 (858993459)) (List.mem_of_getElem? (i := 2) rfl)) dJ6_bitCount_0f7a4_18 ?_
  refine lv_iand hx hb dJ6_bitCount_0f7a4_21 ?_
  refine lv_iadd hx hb dJ6_bitCount_0f7a4_22 ?_
  refine y_topi (y := bcB (bcA (nI set))) rfl ?_
  refine lv_istore_n (lv' := [(0, .int (bcB (bcA (nI set))))]) hx hb dJ6_bitCount_0f7a4_23 rfl hl (by decide) rfl (fun ls hl => ?_)
  refine lv_iload_n hx hb dJ6_bitCount_0f7a4_24 rfl (lv_at hl 0 rfl) ?_
  refine lv_iload_n hx hb dJ6_bitCount_0f7a4_25 rfl (lv_at hl 0 rfl) ?_
  refine lv_iconst (v := 4) hx hb dJ6_bitCount_0f7a4_26 (by decide) ?_
  refine lv_iushr (v := ((bcB (bcA (nI set))).toUInt32 >>> ((4 : Int32).toUInt32 &&& Int32.toUInt32 31)).toInt32) hx hb dJ6_bitCount_0f7a4_27 rfl ?_
  refine lv_iadd hx hb dJ6_bitCount_0f7a4_28 ?_
  refine lv_ldcw hx hb hown (hts (.constant RJ6 267 (252645135)) (List.mem_of_getElem? (i := 3) rfl)) dJ6_bitCount_0f7a4_29 ?_
  refine lv_iand hx hb dJ6_bitCount_0f7a4_32 ?_
  refine y_topi (y := bcC (bcB (bcA (nI set)))) rfl ?_
  refine lv_istore_n (lv' := [(0, .int (bcC (bcB (bcA (nI set)))))]) hx hb dJ6_bitCount_0f7a4_33 rfl hl (by decide) rfl (fun ls hl => ?_)
  refine lv_iload_n hx hb dJ6_bitCount_0f7a4_34 rfl (lv_at hl 0 rfl) ?_
  refine lv_iload_n hx hb dJ6_bitCount_0f7a4_35 rfl (lv_at hl 0 rfl) ?_
  refine lv_bipush (v := 8) hx hb dJ6_bitCount_0f7a4_36 (by decide) ?_
  refine lv_iushr (v := ((bcC (bcB (bcA (nI set)))).toUInt32 >>> ((8 : Int32).toUInt32 &&& Int32.toUInt32 31)).toInt32) hx hb dJ6_bitCount_0f7a4_38 rfl ?_
  refine lv_iadd hx hb dJ6_bitCount_0f7a4_39 ?_
  refine y_topi (y := bcD (bcC (bcB (bcA (nI set))))) rfl ?_
  refine lv_istore_n (lv' := [(0, .int (bcD (bcC (bcB (bcA (nI set))))))]) hx hb dJ6_bitCount_0f7a4_40 rfl hl (by decide) rfl (fun ls hl => ?_)
  refine lv_iload_n hx hb dJ6_bitCount_0f7a4_41 rfl (lv_at hl 0 rfl) ?_
  refine lv_iload_n hx hb dJ6_bitCount_0f7a4_42 rfl (lv_at hl 0 rfl) ?_
  refine lv_bipush (v := 16) hx hb dJ6_bitCount_0f7a4_43 (by decide) ?_
  refine lv_iushr (v := ((bcD (bcC (bcB (bcA (nI set))))).toUInt32 >>> ((16 : Int32).toUInt32 &&& Int32.toUInt32 31)).toInt32) hx hb dJ6_bitCount_0f7a4_45 rfl ?_
  refine lv_iadd hx hb dJ6_bitCount_0f7a4_46 ?_
  refine y_topi (y := bcE (bcD (bcC (bcB (bcA (nI set)))))) rfl ?_
  refine lv_istore_n (lv' := [(0, .int (bcE (bcD (bcC (bcB (bcA (nI set)))))))]) hx hb dJ6_bitCount_0f7a4_47 rfl hl (by decide) rfl (fun ls hl => ?_)
  refine lv_iload_n hx hb dJ6_bitCount_0f7a4_48 rfl (lv_at hl 0 rfl) ?_
  refine lv_bipush (v := 63) hx hb dJ6_bitCount_0f7a4_49 (by decide) ?_
  refine lv_iand hx hb dJ6_bitCount_0f7a4_51 ?_
  exact W.iret (v := (bcE (bcD (bcC (bcB (bcA (nI set)))))) &&& 63) hx hb hr (fun t ht hW => ⟨⟨(bcE (bcD (bcC (bcB (bcA (nI set)))))) &&& 63, (), rfl, (bc_all set hset), trivial⟩, hS.F ht⟩) hS.2.2 dJ6_bitCount_0f7a4_52
def kOrd (a : yA) (x kd am : Int32) : Nat := if bw kd 0 3 then if bw x 1 255 ∧ bw am 1 1000000 then if nn x < 2 ^ nn (a 0 0) ∧ nn (a 0 3) + min (cntB (nn x) 8) (nn am) ≤ 100 then 0 else 3 else 2 else 1
def sOrder (a : yA) (x kd am : Int32) : yA := sOrd a (nn x) (nn kd) (nn am / cntB (nn x) 8) (nn am % cntB (nn x) 8) (nn (a 0 0))
theorem cntB_1 : ∀ set, set < 256 → (1 ≤ cntB set 8 ↔ 1 ≤ set) := by decide +kernel
theorem shr_0 : ∀ n, n < 9 → ∀ set, set < 256 → (nI set >>> (nI n &&& 31) = 0 ↔ set < 2 ^ n) := by decide +kernel
theorem cntB_hi {set n : Nat} (h : set < 2 ^ n) : ∀ z, n ≤ z → cntB set z = cntB set n := by
  intro z
  induction z with
  | zero => intro hz; rw [show n = 0 by omega]
  | succ z ih =>
    intro hz
    by_cases e : n = z + 1
    · rw [e]
    · have hb : set.testBit z = false := Nat.testBit_lt_two_pow (Nat.lt_of_lt_of_le h (Nat.pow_le_pow_right (by decide) (by omega)))
      show cntB set z + (if set.testBit z = true then 1 else 0) = _
      rw [hb, ih (by omega)]
      rfl
theorem cntP_1 {set ev rm : Nat} (h : 1 ≤ ev) : ∀ z, cntP set ev rm z = cntB set z := by
  intro z
  induction z with
  | zero => rfl
  | succ z ih =>
    have hp : 0 < ptN set ev rm z := by unfold ptN; split <;> omega
    show cntP set ev rm z + (if set.testBit z = true ∧ 0 < ptN set ev rm z then 1 else 0) = cntB set z + (if set.testBit z = true then 1 else 0)
    rw [ih]
    by_cases hb : set.testBit z = true
    · rw [if_pos ⟨hb, hp⟩, if_pos hb]
    · rw [if_neg (fun q => hb q.1), if_neg hb]
theorem cntP_0 {set rm : Nat} : ∀ z, cntP set 0 rm z = min (cntB set z) rm := by
  intro z
  induction z with
  | zero => exact (Nat.zero_min _).symm
  | succ z ih =>
    show cntP set 0 rm z + (if set.testBit z = true ∧ 0 < ptN set 0 rm z then 1 else 0) = min (cntB set z + (if set.testBit z = true then 1 else 0)) rm
    rw [ih]
    by_cases hb : set.testBit z = true
    · rw [if_pos hb]
      by_cases hc : cntB set z < rm
      · rw [if_pos ⟨hb, by unfold ptN; rw [if_pos hc]; omega⟩]; omega
      · rw [if_neg (fun q => by have h9 := q.2; unfold ptN at h9; rw [if_neg hc] at h9; omega)]; omega
    · rw [if_neg (fun q => hb q.1), if_neg hb]; rfl
theorem cntP_all {set am n : Nat} (hs : set < 2 ^ n) (hn : n ≤ 8) (h1 : 1 ≤ cntB set 8) : cntP set (am / cntB set 8) (am % cntB set 8) n = min (cntB set 8) am := by
  have e8 := cntB_hi hs 8 hn
  by_cases hev : 1 ≤ am / cntB set 8
  · rw [cntP_1 hev, ← e8]
    have : cntB set 8 ≤ am := by
      have h := Nat.div_mul_le_self am (cntB set 8)
      have h2 : 1 * cntB set 8 ≤ am / cntB set 8 * cntB set 8 := Nat.mul_le_mul_right _ hev
      omega
    omega
  · have e0 : am / cntB set 8 = 0 := Nat.lt_one_iff.mp (Nat.lt_of_not_le hev)
    have hlt : am < cntB set 8 := by
      rcases (Nat.div_eq_zero_iff).mp e0 with h | h
      · omega
      · exact h
    rw [e0, cntP_0, ← e8, Nat.mod_eq_of_lt hlt]
theorem imin_nI {x y : Nat} (hx : x < 2 ^ 31) (hy : y < 2 ^ 31) : imin (nI x) (nI y) = nI (min x y) := by
  unfold imin
  by_cases h : y < x
  · rw [if_pos ((nI_ltI hy hx).mpr h), Nat.min_eq_right (by omega)]
  · rw [if_neg (fun q => h ((nI_ltI hy hx).mp q)), Nat.min_eq_left (by omega)]
theorem room_back {x : Int32} (h : lim x 100) (n : Nat) (hn : n ≤ 1000000) (h2 : nn x + n ≤ 100) : x + nI n ≤ 100 := by
  rw [h.1, nI_add]
  exact (nI_leI (b := 100) (by have := h.2; omega) (by decide)).mpr h2
set_option maxHeartbeats 4000000 in
set_option maxRecDepth 100000 in
theorem c_X4_order (l : Launch) (dC : Nat → ClassId) (dI : Nat → Nat → Nat) (cI cF : ClassId) (h0 : Nat) (q : Nat → Nat) (sz : Nat) (a : yA) (jc js jv : Nat → Int32) (k : Nat) (hst : l.stackTraces = false)  (hC : okC a jc js jv k) (hB : okB a) (hY : okY a) (x kd am : Int32) : vx_Met l yX4_order wsX4_order ({ frames := 7, cells := 4, slots := 24, locals := 121 } : Room) (va_Pc [.ref h0, .int x, .int kd, .int am] (pcV dC dI [(cI, .int), (cF, .float)] (WC cI cF h0 q a jc js jv k (capOf (nn (a 0 4)))) sz)) (va_Qi (fun (r : Int32) (_ : Unit) => kOrd a x kd am = 0 ∧ r = nI (min (cntB (nn x) 8) (nn am))) (fun _ t => atC dC dI cI cF (va_A (WC cI cF h0 q a jc js jv k (capOf (nn (a 0 4)))) sz) h0 (sOrder a x kd am) t) (va_A (WC cI cF h0 q a jc js jv k (capOf (nn (a 0 4)))) sz)) (vx_X (fun _ : Unit => kOrd a x kd am ≠ 0) (fun E _ t => E = eIAS (kOrd a x kd am) ∧ atC dC dI cI cF (va_A (WC cI cF h0 q a jc js jv k (capOf (nn (a 0 4)))) sz) h0 a t) (va_A (WC cI cF h0 q a jc js jv k (capOf (nn (a 0 4)))) sz)) (4) (24) (va_A (WC cI cF h0 q a jc js jv k (capOf (nn (a 0 4)))) sz) := by
  refine vx_ofW (cc := cX4_order) (maxL := 6) (ret := (some .int)) (by decide) rfl ?_
  intro p e s m args below meth c s₁ B hml htab hv
  obtain ⟨rfl, ⟨hsz, hP, hK, hD0⟩, hV⟩ := hv
  have hx := B.exec
  have hb := B.bytes
  have hr := B.returns
  have hts := atoms_spec (ws := wsX4_order) B.pre
  have hown : s.vm.findClass RX4 = some m.cls := findClass_of_methodNamed B.named
  have hlocks := B.notSynchronized
  subst hsz
  have hD := hD0.self (sz := s.heap.size)
  generalize hAe : va_A [(h0, .inr (4, [.ref (q 1), .ref (q 10), .ref (q 18), .ref (q 22), .ref (q 26), .int (a 0 2), .int (a 0 1), .int (a 0 5), .int (a 0 6), .int (a 0 7), .int (a 0 8)])), (q 1, .inr (3, [.ref (q 2), .ref (q 3), .ref (q 4), .ref (q 5), .ref (q 6), .ref (q 7), .ref (q 8), .ref (q 9), .int (a 0 0)])), (q 2, .inl (cI, 8, .inl (a 1))), (q 3, .inl (cI, 8, .inl (a 2))), (q 4, .inl (cI, 8, .inl (a 3))), (q 5, .inl (cI, 8, .inl (a 4))), (q 6, .inl (cI, 8, .inl (a 5))), (q 7, .inl (cI, 8, .inl (a 6))), (q 8, .inl (cI, 8, .inl (a 7))), (q 9, .inl (cI, 8, .inl (a 8))), (q 10, .inr (2, [.ref (q 11), .ref (q 12), .ref (q 13), .ref (q 14), .ref (q 15), .ref (q 16), .ref (q 17), .int (a 0 3)])), (q 11, .inl (cI, 100, .inl (a 10))), (q 12, .inl (cF, 100, .inr (.inr (.inl (fun j => shF (a 13 j)))))), (q 13, .inl (cI, 100, .inl (a 14))), (q 14, .inl (cI, 100, .inl (fun j => a 11 j - a 12 j))), (q 15, .inl (cI, 100, .inl (fun j => a 15 j - a 16 j))), (q 16, .inl (cI, 100, .inl (a 17))), (q 17, .inl (cI, 100, .inl (a 18))), (q 18, .inr (1, [.ref (q 19), .ref (q 20), .ref (q 21), .int (a 0 4)])), (q 19, .inl (cI, capOf (nn (a 0 4)), .inl (a 20))), (q 20, .inl (cI, capOf (nn (a 0 4)), .inl (a 19))), (q 21, .inl (cI, capOf (nn (a 0 4)), .inl (a 21))), (q 22, .inr (0, [.ref (q 23), .ref (q 24), .ref (q 25), .int (nI k)])), (q 23, .inl (cI, 8, .inl (jc))), (q 24, .inl (cI, 256, .inl (js))), (q 25, .inl (cI, 256, .inl (jv))), (q 26, .inl (cF, 4, .inr (.inr (.inl (fun j => shF (a 9 j))))))] s.heap.size = A at hD hV ⊢
  have hA : ∀ q : Nat, s.heap.size ≤ q → A q := fun q h => by rw [← hAe]; exact Or.inr h
  have hS : va_S A s.heap s.heap [] := va_S.rf
  have hl := lv_entry ([.ref h0, .int x, .int kd, .int am]) (n := 6) (Nat.le_of_ble_eq_true rfl)
  rw [lg_entry_eq]
  generalize (lg_sl ([.ref h0, .int x, .int kd, .int am]) ++ List.replicate (6 - (lg_sl ([.ref h0, .int x, .int kd, .int am])).length) Slot.unset).toArray = ls at hl ⊢
  have hl : lv_has ls 6 [(0, .ref h0), (1, .int x), (2, .int kd), (3, .int am)] := hl
  have hiX4 : ∀ w ∈ wsX40, w ∈ wsX4_order := fun w h => List.mem_cons_of_mem _ (List.mem_append_left _ (List.mem_append_left _ (List.mem_append_left _ (List.mem_append_left _ (List.mem_append_left _ (List.mem_append_left _ (List.mem_append_right _ h)))))))
  have hiX3 : ∀ w ∈ wsX30, w ∈ wsX4_order := fun w h => List.mem_cons_of_mem _ (List.mem_append_left _ (List.mem_append_left _ (List.mem_append_left _ (List.mem_append_left _ (List.mem_append_left _ (List.mem_append_right _ h))))))
  have hP : va_P (dC, dI) vwCl [(h0, .inr (4, [.ref (q 1), .ref (q 10), .ref (q 18), .ref (q 22), .ref (q 26), .int (a 0 2), .int (a 0 1), .int (a 0 5), .int (a 0 6), .int (a 0 7), .int (a 0 8)])), (q 1, .inr (3, [.ref (q 2), .ref (q 3), .ref (q 4), .ref (q 5), .ref (q 6), .ref (q 7), .ref (q 8), .ref (q 9), .int (a 0 0)])), (q 2, .inl (cI, 8, .inl (a 1))), (q 3, .inl (cI, 8, .inl (a 2))), (q 4, .inl (cI, 8, .inl (a 3))), (q 5, .inl (cI, 8, .inl (a 4))), (q 6, .inl (cI, 8, .inl (a 5))), (q 7, .inl (cI, 8, .inl (a 6))), (q 8, .inl (cI, 8, .inl (a 7))), (q 9, .inl (cI, 8, .inl (a 8))), (q 10, .inr (2, [.ref (q 11), .ref (q 12), .ref (q 13), .ref (q 14), .ref (q 15), .ref (q 16), .ref (q 17), .int (a 0 3)])), (q 11, .inl (cI, 100, .inl (a 10))), (q 12, .inl (cF, 100, .inr (.inr (.inl (fun j => shF (a 13 j)))))), (q 13, .inl (cI, 100, .inl (a 14))), (q 14, .inl (cI, 100, .inl (fun j => a 11 j - a 12 j))), (q 15, .inl (cI, 100, .inl (fun j => a 15 j - a 16 j))), (q 16, .inl (cI, 100, .inl (a 17))), (q 17, .inl (cI, 100, .inl (a 18))), (q 18, .inr (1, [.ref (q 19), .ref (q 20), .ref (q 21), .int (a 0 4)])), (q 19, .inl (cI, capOf (nn (a 0 4)), .inl (a 20))), (q 20, .inl (cI, capOf (nn (a 0 4)), .inl (a 19))), (q 21, .inl (cI, capOf (nn (a 0 4)), .inl (a 21))), (q 22, .inr (0, [.ref (q 23), .ref (q 24), .ref (q 25), .int (nI k)])), (q 23, .inl (cI, 8, .inl (jc))), (q 24, .inl (cI, 256, .inl (js))), (q 25, .inl (cI, 256, .inl (jv))), (q 26, .inl (cF, 4, .inr (.inr (.inl (fun j => shF (a 9 j))))))] s.heap := hP
  refine y_enter (A := A) hP (fun H hP hS => ?_)
  have hBk := hB
  refine lv_iload_n hx hb dX4_order_0 rfl (lv_at hl 2 rfl) ?_
  have e1 : ¬ bw kd 0 3 → kOrd a x kd am = 1 := fun h9 => if_neg h9
  have hFc := y_freeE hS hA
  have hK0 := hK.sub (tys' := []) [] rfl
  refine vx_callv (vx_runS (As := [.int kd]) (rest := []) ⟨hx, hb, hml, hown, hts⟩ (c_X4_requireKind l dC dI H.size hst kd) (va_cwS 1 hts gX4_order_X4_requireKind rfl rfl rfl (by decide +kernel) ⟨Nat.le_of_ble_eq_true rfl, Nat.le_of_ble_eq_true rfl⟩) ⟨pcV_blind, fun U hU hW => pcV_pre va_P_nil (va_D_nil (A := A)) hK0 hV hS hFc hU hW⟩ rfl rfl hl.1 rfl (lv_room (Nat.le_of_ble_eq_true rfl)) dX4_order_1 ⟨Nat.le_of_ble_eq_true rfl, Nat.le_of_ble_eq_true rfl⟩) hS (fun q _ h => hFc q h) hFc (fun q _ h => hFc q h) (fun E ce q9 u t H1 locs ht hvm hw hBx hz1 hk1 hS hce hcv hcl => ?_) (fun u t H1 locs ht hvm hw hB1 hz1 hk1 hS => ?_)
  · have hE := hBx.1
    have hPx := y_keptE hP hk1
    exact vx_out (fun x hx9 => (htab x hx9).elim) hlocks hce hcv hcl (fun t9 ht9 hvm9 => ⟨(), (by rw [e1 hw]; decide), ⟨(by rw [e1 hw]; exact hE), atC_in hC (⟨by rw [ht9]; exact hPx, va_K.moved hvm9 hK, hD⟩)⟩, hS.F ht9⟩) hS.2.2 (Nat.le_of_ble_eq_true rfl) (Nat.le_of_ble_eq_true rfl)
  · have hP := y_keptE hP hk1
    generalize H1 = H at hP hS ⊢
    have hw1 := hw
    have hwk := hw1
    refine lv_iload_n hx hb dX4_order_4 rfl (lv_at hl 1 rfl) ?_
    refine lv_iconst (v := 0) hx hb dX4_order_5 (by decide) ?_
    refine lv_sipush (v := 255) hx hb dX4_order_6 (by decide) ?_
    have e2 : ¬ bw x 0 255 → kOrd a x kd am = 2 := fun h9 => by unfold kOrd; rw [if_pos hwk, if_neg (fun h8 => h9 ⟨Int32.le_trans (by decide) h8.1.1, h8.1.2⟩)]
    have hFc := y_freeE hS hA
    have hK0 := hK.sub (tys' := []) [] rfl
    refine vx_callv (vx_runS (As := [.int x, .int 0, .int 255]) (rest := []) ⟨hx, hb, hml, hown, hts⟩ (c_X4_requireBetween l dC dI H.size hst x 0 255) (va_cwS 3 hts gX4_order_X4_requireBetween rfl rfl rfl (by decide +kernel) ⟨Nat.le_of_ble_eq_true rfl, Nat.le_of_ble_eq_true rfl⟩) ⟨pcV_blind, fun U hU hW => pcV_pre va_P_nil (va_D_nil (A := A)) hK0 hV hS hFc hU hW⟩ rfl rfl hl.1 rfl (lv_room (Nat.le_of_ble_eq_true rfl)) dX4_order_9 ⟨Nat.le_of_ble_eq_true rfl, Nat.le_of_ble_eq_true rfl⟩) hS (fun q _ h => hFc q h) hFc (fun q _ h => hFc q h) (fun E ce q9 u t H1 locs ht hvm hw hBx hz1 hk1 hS hce hcv hcl => ?_) (fun u t H1 locs ht hvm hw hB1 hz1 hk1 hS => ?_)
    · have hE := hBx.1
      have hPx := y_keptE hP hk1
      exact vx_out (fun x hx9 => (htab x hx9).elim) hlocks hce hcv hcl (fun t9 ht9 hvm9 => ⟨(), (by rw [e2 hw]; decide), ⟨(by rw [e2 hw]; exact hE), atC_in hC (⟨by rw [ht9]; exact hPx, va_K.moved hvm9 hK, hD⟩)⟩, hS.F ht9⟩) hS.2.2 (Nat.le_of_ble_eq_true rfl) (Nat.le_of_ble_eq_true rfl)
    · have hP := y_keptE hP hk1
      generalize H1 = H at hP hS ⊢
      have hw2 := hw
      have hwx := hw2
      refine lv_iload_n hx hb dX4_order_12 rfl (lv_at hl 3 rfl) ?_
      refine lv_iconst (v := 1) hx hb dX4_order_13 (by decide) ?_
      refine lv_ldc hx hb hown (hts (.constant RX4 77 (1000000)) (List.mem_of_getElem? (i := 5) rfl)) dX4_order_14 ?_
      have e3 : ¬ bw am 1 1000000 → kOrd a x kd am = 2 := fun h9 => by unfold kOrd; rw [if_pos hwk, if_neg (fun h8 => h9 h8.2)]
      have hFc := y_freeE hS hA
      have hK0 := hK.sub (tys' := []) [] rfl
      refine vx_callv (vx_runS (As := [.int am, .int 1, .int 1000000]) (rest := []) ⟨hx, hb, hml, hown, hts⟩ (c_X4_requireBetween l dC dI H.size hst am 1 1000000) (va_cwS 3 hts gX4_order_X4_requireBetween rfl rfl rfl (by decide +kernel) ⟨Nat.le_of_ble_eq_true rfl, Nat.le_of_ble_eq_true rfl⟩) ⟨pcV_blind, fun U hU hW => pcV_pre va_P_nil (va_D_nil (A := A)) hK0 hV hS hFc hU hW⟩ rfl rfl hl.1 rfl (lv_room (Nat.le_of_ble_eq_true rfl)) dX4_order_16 ⟨Nat.le_of_ble_eq_true rfl, Nat.le_of_ble_eq_true rfl⟩) hS (fun q _ h => hFc q h) hFc (fun q _ h => hFc q h) (fun E ce q9 u t H1 locs ht hvm hw hBx hz1 hk1 hS hce hcv hcl => ?_) (fun u t H1 locs ht hvm hw hB1 hz1 hk1 hS => ?_)
      · have hE := hBx.1
        have hPx := y_keptE hP hk1
        exact vx_out (fun x hx9 => (htab x hx9).elim) hlocks hce hcv hcl (fun t9 ht9 hvm9 => ⟨(), (by rw [e3 hw]; decide), ⟨(by rw [e3 hw]; exact hE), atC_in hC (⟨by rw [ht9]; exact hPx, va_K.moved hvm9 hK, hD⟩)⟩, hS.F ht9⟩) hS.2.2 (Nat.le_of_ble_eq_true rfl) (Nat.le_of_ble_eq_true rfl)
      · have hP := y_keptE hP hk1
        generalize H1 = H at hP hS ⊢
        have hw3 := hw
        have hwa := hw3
        have hx1 := nat_le (b := 255) (by decide) hwx.1 hwx.2
        have hkd1 := nat_le (b := 3) (by decide) hwk.1 hwk.2
        have ha1 := am_nat hwa
        have hxs : nn x < 256 := Nat.lt_succ_of_le hx1.2
        obtain ⟨hd, ehd⟩ : ∃ z, z = cntB (nn x) 8 := ⟨_, rfl⟩
        have hd8 : hd ≤ 8 := by rw [ehd]; exact cntB_le _ _
        refine lv_iload_n hx hb dX4_order_19 rfl (lv_at hl 1 rfl) ?_
        refine y_topi (y := nI (nn x)) hx1.1 ?_
        refine va_calli (va_runS (As := [.int (nI (nn x))]) (rest := []) ⟨hx, hb, hml, hown, hts⟩ (c_J6_bitCount_0f7a4 l (nn x) hxs) (va_cwS 1 hts gX4_order_J6_bitCount_0f7a4 rfl rfl rfl (by decide +kernel) ⟨Nat.le_of_ble_eq_true rfl, Nat.le_of_ble_eq_true rfl⟩) ⟨pcT_blind, fun U hU hW => pcT_pre⟩ rfl rfl hl.1 rfl (lv_room (Nat.le_of_ble_eq_true rfl)) dX4_order_20 ⟨Nat.le_of_ble_eq_true rfl, Nat.le_of_ble_eq_true rfl⟩) hS (fun q _ h => h.elim) (fun q h => h.elim) (fun r u t H1 locs ht hvm hw hB1 hz1 hk1 hS => ?_)
        have hP := y_keptP hP hk1
        generalize H1 = H at hP hS ⊢
        refine y_topi (y := nI hd) (by rw [hw, ehd]) ?_
        refine lv_istore (lv' := [(4, .int (nI hd)), (0, .ref h0), (1, .int x), (2, .int kd), (3, .int am)]) hx hb dX4_order_23 hl (by decide) rfl (fun ls hl => ?_)
        refine lv_iload hx hb dX4_order_25 (lv_at hl 0 rfl) ?_
        refine lv_iconst (v := 1) hx hb dX4_order_27 (by decide) ?_
        refine lv_icmp_ge (tgt := 41) hx hb dX4_order_28 (by decide) (fun c_4 => ?_) (fun c_4 => ?_)
        · have hd1 : 1 ≤ hd := (nI_leI (a := 1) (b := hd) (by decide) (by omega)).mp c_4
          have hx0 : 1 ≤ nn x := (cntB_1 (nn x) hxs).mp (by rw [← ehd]; exact hd1)
          have hbx : bw x 1 255 := ⟨by rw [hx1.1]; exact (nI_leI (a := 1) (by decide) (by omega)).mpr hx0, hwx.2⟩
          have hns := hB 0 0 8 rfl
          refine lv_iload_n hx hb dX4_order_41 rfl (lv_at hl 2 rfl) ?_
          refine y_topi (y := nI (nn x)) hx1.1 ?_
          refine lv_aload_n hx hb dX4_order_42 rfl (lv_at hl 1 rfl) ?_
          refine va_get (D := (dC, dI)) (ci := 4) (v := .ref (q 1)) (C := RX4) (T := TX4) (N := 11) hx hb hts hiX4 hown hK hP 0 rfl rfl 0 (by decide) (hts (.fieldLink RX4 10 "Payoutnet" "shops" "LPayoutnet$Shops;") (List.mem_of_getElem? (i := 6) rfl)) (fun _ h9 => h9) rfl dX4_order_43 ?_
          refine va_get (D := (dC, dI)) (ci := 3) (v := .int (a 0 0)) (C := RX3) (T := TX3) (N := 9) hx hb hts hiX3 hown hK hP 1 rfl rfl 8 (by decide) (hts (.fieldLink RX4 52 "Payoutnet$Shops" "count" "I") (List.mem_of_getElem? (i := 7) rfl)) (fun _ h9 => h9) rfl dX4_order_46 ?_
          refine y_topi (y := nI (nn (a 0 0))) hns.1 ?_
          refine lv_ishr hx hb dX4_order_49 ?_
          refine lv_if_eq (tgt := 63) hx hb dX4_order_50 (by decide) (fun c_5 => ?_) (fun c_5 => ?_)
          · have hlt : nn x < 2 ^ nn (a 0 0) := (shr_0 (nn (a 0 0)) (Nat.lt_succ_of_le hns.2) (nn x) hxs).mp c_5
            refine lv_iload hx hb dX4_order_63 (lv_at hl 0 rfl) ?_
            refine lv_iload_n hx hb dX4_order_65 rfl (lv_at hl 4 rfl) ?_
            refine y_topi (y := nI (nn am)) ha1.1 ?_
            refine va_mmin hx hb (hml.trans hl.1.symm) hown (hts (.methodLink RX4 119 Lib.Math.min.name) (List.mem_of_getElem? (i := 8) rfl)) (hts (.static Lib.Math.min.name) (List.mem_of_getElem? (i := 9) rfl)) (hts (.initialized "java/lang/Math") (List.mem_of_getElem? (i := 10) rfl)) (hts (.code Lib.Math.min.name Lib.Math.min.code 2 (some .int)) (List.mem_of_getElem? (i := 11) rfl)) (Nat.le_of_ble_eq_true rfl) (Nat.le_of_ble_eq_true rfl) (Nat.le_of_ble_eq_true rfl) (Nat.le_of_ble_eq_true rfl) dX4_order_66 ?_
            refine y_topi (y := nI (min hd (nn am))) (imin_nI (by omega) (by omega)) ?_
            have hmn : min hd (nn am) ≤ 8 := Nat.le_trans (Nat.min_le_left _ _) hd8
            have e4 : ¬ (a 0 3 + nI (min hd (nn am)) ≤ 100) → kOrd a x kd am = 3 := fun h9 => by unfold kOrd; rw [if_pos hwk, if_pos ⟨hbx, hwa⟩, if_neg (fun h8 => h9 (room_back (hB 0 3 100 rfl) _ (by omega) (by rw [ehd]; exact h8.2)))]
            refine lv_istore (lv' := [(5, .int (nI (min hd (nn am)))), (4, .int (nI hd)), (0, .ref h0), (1, .int x), (2, .int kd), (3, .int am)]) hx hb dX4_order_69 hl (by decide) rfl (fun ls hl => ?_)
            refine lv_aload_n hx hb dX4_order_71 rfl (lv_at hl 2 rfl) ?_
            refine lv_iload hx hb dX4_order_72 (lv_at hl 0 rfl) ?_
            have hFc := y_free hD hS hA
            refine vx_callv (vx_runV (As := [.int (nI (min hd (nn am)))]) (rest := []) ⟨hx, hb, hml, hown, hts⟩ (c_X4_requireRoomForSales l dC dI cI cF h0 q H.size a jc js jv k hst hC hB (nI (min hd (nn am)))) (cwV 1 hts gX4_order_X4_requireRoomForSales rfl rfl rfl (by decide +kernel) ⟨Nat.le_of_ble_eq_true rfl, Nat.le_of_ble_eq_true rfl⟩) ⟨pcV_blind, va_recv hK hP (ci := 4) (q0 := 0) rfl rfl, fun U hU hW => pcV_pre hP hD hK hV hS hFc hU hW⟩ rfl rfl hl.1 rfl (lv_room (Nat.le_of_ble_eq_true rfl)) dX4_order_74 ⟨Nat.le_of_ble_eq_true rfl, Nat.le_of_ble_eq_true rfl⟩) hS (fun q _ h => hFc q h) hFc (fun q _ h => hFc q h) (fun E ce q9 u t H1 locs ht hvm hw hBx hz1 hk1 hS hce hcv hcl => ?_) (fun u t H1 locs ht hvm hw hB1 hz1 hk1 hS => ?_)
            · obtain ⟨hE, qx, jcx, jsx, jvx, kx, hCx, hPx, hKx, hDx⟩ := hBx
              rw [ht] at hPx
              exact vx_out (fun x hx9 => (htab x hx9).elim) hlocks hce hcv hcl (fun t9 ht9 hvm9 => ⟨(), (by rw [e4 hw]; decide), ⟨(by rw [e4 hw]; exact hE), atC_in hCx (⟨by rw [ht9]; exact hPx, va_K.moved hvm9 hK, hDx.weaken (fun kk qq _ h => hFc qq.1 h)⟩)⟩, hS.F ht9⟩) hS.2.2 (Nat.le_of_ble_eq_true rfl) (Nat.le_of_ble_eq_true rfl)
            · obtain ⟨q6, jc6, js6, jv6, k6, hC6, hP, hK1, hD1⟩ := hB1
              rw [ht] at hP
              have hD := hD1.weaken (fun kk qq _ h => hFc qq.1 h)
              generalize H1 = H at hP hS ⊢
              have hC6 : okC (a) jc6 js6 jv6 k6 := hC6
              have hP : va_P (dC, dI) vwCl (WC cI cF h0 q6 a jc6 js6 jv6 k6 (capOf (nn (a 0 4)))) H := hP
              have hD : va_D A (WC cI cF h0 q6 a jc6 js6 jv6 k6 (capOf (nn (a 0 4)))) := hD
              have hw6 := hw
              have hr1 := room_nat (hB 0 3 100 rfl) (min hd (nn am)) (by omega) hw6
              have e0 : kOrd a x kd am = 0 := by unfold kOrd; rw [if_pos hwk, if_pos ⟨hbx, hwa⟩, if_pos ⟨hlt, by rw [← ehd]; exact hr1⟩]
              refine lv_aload_n hx hb dX4_order_77 rfl (lv_at hl 2 rfl) ?_
              refine lv_iload_n hx hb dX4_order_78 rfl (lv_at hl 3 rfl) ?_
              refine y_topi (y := nI (nn x)) hx1.1 ?_
              refine lv_iload_n hx hb dX4_order_79 rfl (lv_at hl 4 rfl) ?_
              refine y_topi (y := nI (nn kd)) hkd1.1 ?_
              refine lv_iload_n hx hb dX4_order_80 rfl (lv_at hl 5 rfl) ?_
              refine y_topi (y := nI (nn am)) ha1.1 ?_
              refine lv_iload hx hb dX4_order_81 (lv_at hl 1 rfl) ?_
              refine lv_idiv hx hb dX4_order_83 (nI_ne0 (by omega) (by omega)) ?_
              refine y_topi (y := nI (nn am / hd)) (pk_div (by omega) (by omega) (by omega)) ?_
              refine lv_iload_n hx hb dX4_order_84 rfl (lv_at hl 5 rfl) ?_
              refine y_topi (y := nI (nn am)) ha1.1 ?_
              refine lv_iload hx hb dX4_order_85 (lv_at hl 1 rfl) ?_
              refine lv_irem hx hb dX4_order_87 (nI_ne0 (by omega) (by omega)) ?_
              refine y_topi (y := nI (nn am % hd)) (pk_rem (by omega) (by omega) (by omega)) ?_
              have hrm := Nat.mod_lt (nn am) (show 0 < hd by omega)
              have hdv : nn am / hd ≤ nn am := Nat.div_le_self _ _
              have hdv2 : 0 < nn am % hd → nn am / hd + 1 ≤ 1000000 := fun h9 => by have h8 : nn am / hd ≤ nn am / 2 := Nat.div_le_div_left (by omega) (by decide); omega
              have hcp : nn (a 0 3) + cntP (nn x) (nn am / hd) (nn am % hd) (nn (a 0 0)) ≤ 100 := by rw [ehd, cntP_all hlt hns.2 (by rw [← ehd]; exact hd1), ← ehd]; exact hr1
              have hFc := y_free hD hS hA
              refine va_callv (va_runV (As := [.int (nI (nn x)), .int (nI (nn kd)), .int (nI (nn am / hd)), .int (nI (nn am % hd))]) (rest := []) ⟨hx, hb, hml, hown, hts⟩ (c_X4_settleParts l dC dI cI cF h0 q6 H.size a jc6 js6 jv6 k6 hC6 hB hY (nn x) (nn kd) (nn am / hd) (nn am % hd) hxs (Nat.lt_succ_of_le hkd1.2) (by omega) hdv2 (by omega) hcp) (cwV 4 hts gX4_order_X4_settleParts rfl rfl rfl (by decide +kernel) ⟨Nat.le_of_ble_eq_true rfl, Nat.le_of_ble_eq_true rfl⟩) ⟨pcW_blind, va_recv hK hP (ci := 4) (q0 := 0) rfl rfl, fun U hU hW => pcW_pre hP hD hK hU hW⟩ rfl rfl hl.1 rfl (lv_room (Nat.le_of_ble_eq_true rfl)) dX4_order_88 ⟨Nat.le_of_ble_eq_true rfl, Nat.le_of_ble_eq_true rfl⟩) hS (fun q _ h => hFc q h) hFc (fun u t H1 locs ht hvm hw hB1 hz1 hk1 hS => ?_)
              obtain ⟨q7, jc7, js7, jv7, k7, hC7, hP, hK1, hD1⟩ := hB1
              rw [ht] at hP
              have hD := hD1.weaken (fun kk qq _ h => hFc qq.1 h)
              generalize H1 = H at hP hS ⊢
              have hC7 : okC (sOrd a (nn x) (nn kd) (nn am / hd) (nn am % hd) (nn (a 0 0))) jc7 js7 jv7 k7 := hC7
              have hP : va_P (dC, dI) vwCl (WC cI cF h0 q7 (sOrd a (nn x) (nn kd) (nn am / hd) (nn am % hd) (nn (a 0 0))) jc7 js7 jv7 k7 (capOf (nn ((sOrd a (nn x) (nn kd) (nn am / hd) (nn am % hd) (nn (a 0 0))) 0 4)))) H := hP
              have hD : va_D A (WC cI cF h0 q7 (sOrd a (nn x) (nn kd) (nn am / hd) (nn am % hd) (nn (a 0 0))) jc7 js7 jv7 k7 (capOf (nn ((sOrd a (nn x) (nn kd) (nn am / hd) (nn am % hd) (nn (a 0 0))) 0 4)))) := hD
              have e5 : sOrd a (nn x) (nn kd) (nn am / hd) (nn am % hd) (nn (a 0 0)) = sOrder a x kd am := by rw [ehd]; rfl
              rw [e5] at hP hD hC7
              refine lv_iload hx hb dX4_order_91 (lv_at hl 0 rfl) ?_
              refine W.widen (k := 4) (n := 24) (Nat.le_of_ble_eq_true rfl) (Nat.le_of_ble_eq_true rfl) ?_
              have hP9 := hP
              have hD9 := hD
              have hK9 := hK
              refine vx_ret ?_
              exact W.iret (v := nI (min hd (nn am))) hx hb hr (fun t ht hW => ⟨⟨nI (min hd (nn am)), (), rfl, ⟨e0, by rw [ehd]⟩, atC_in hC7 (atW_end hP9 hD9 hK9 ht hW)⟩, hS.F ht⟩) hS.2.2 dX4_order_93
          · have e6 : kOrd a x kd am = 3 := by unfold kOrd; rw [if_pos hwk, if_pos ⟨hbx, hwa⟩, if_neg (fun h9 => c_5 ((shr_0 (nn (a 0 0)) (Nat.lt_succ_of_le hns.2) (nn x) hxs).mpr h9.1))]
            obtain ⟨sa, hstr⟩ := hV.2.2.2 (117, "a seller of the set is not there") (by decide +kernel)
            have hat : ∀ w ∈ vx_atS RX4 60 exS exN, w.before _ s = true := vx_hat (B := vB) (fun w h => hts w (List.mem_cons_of_mem _ (List.mem_append_left _ (List.mem_append_right _ h)))) (by decide +kernel) (okV_use hV)
            exact vx_throwS (cls := exS) (text := "a seller of the set is not there") (names := exN) (A := A) (sa := sa) hx hb hst hown (by decide +kernel) (by decide +kernel) (hts (.classLink RX4 56 "java/lang/IllegalStateException") (List.mem_of_getElem? (i := 3) rfl)) (hts (.initialized "java/lang/IllegalStateException") (List.mem_of_getElem? (i := 4) rfl)) hstr hat (by decide +kernel) hV.1 hV.2.1 hS (hl.1.trans hml.symm) dX4_order_53 dX4_order_56 dX4_order_57 dX4_order_59 dX4_order_62 (fun x hx9 => (htab x hx9).elim) (Nat.le_of_ble_eq_true rfl) (Nat.le_of_ble_eq_true rfl) (Nat.le_of_ble_eq_true rfl) (Nat.le_of_ble_eq_true rfl) hlocks (fun t hvm9 hz9 hk9 => ⟨(), (by rw [e6]; decide), ⟨(by rw [e6]; exact rfl), atC_in hC (atW_thr hP hD hK hvm9 hk9)⟩, y_F_thr hS hz9 hk9⟩) hS.2.2 (Nat.le_of_ble_eq_true rfl) (Nat.le_of_ble_eq_true rfl)
        · have hd0 : ¬ 1 ≤ hd := fun h9 => c_4 ((nI_leI (a := 1) (b := hd) (by decide) (by omega)).mpr h9)
          have e7 : kOrd a x kd am = 2 := by unfold kOrd; rw [if_pos hwk, if_neg (fun h9 => hd0 (by rw [ehd]; exact (cntB_1 (nn x) hxs).mpr (by have h8 := h9.1.1; rw [hx1.1] at h8; exact (nI_leI (a := 1) (by decide) (by omega)).mp h8)))]
          obtain ⟨sa, hstr⟩ := hV.2.2.2 (114, "no seller in the set") (by decide +kernel)
          have hat : ∀ w ∈ vx_atS RX4 116 exA exN, w.before _ s = true := vx_hat (B := vB) (fun w h => hts w (List.mem_cons_of_mem _ (List.mem_append_left _ (List.mem_append_left _ (List.mem_append_right _ h))))) (by decide +kernel) (okV_use hV)
          exact vx_throwS (cls := exA) (text := "no seller in the set") (names := exN) (A := A) (sa := sa) hx hb hst hown (by decide +kernel) (by decide +kernel) (hts (.classLink RX4 112 "java/lang/IllegalArgumentException") (List.mem_of_getElem? (i := 1) rfl)) (hts (.initialized "java/lang/IllegalArgumentException") (List.mem_of_getElem? (i := 2) rfl)) hstr hat (by decide +kernel) hV.1 hV.2.1 hS (hl.1.trans hml.symm) dX4_order_31 dX4_order_34 dX4_order_35 dX4_order_37 dX4_order_40 (fun x hx9 => (htab x hx9).elim) (Nat.le_of_ble_eq_true rfl) (Nat.le_of_ble_eq_true rfl) (Nat.le_of_ble_eq_true rfl) (Nat.le_of_ble_eq_true rfl) hlocks (fun t hvm9 hz9 hk9 => ⟨(), (by rw [e7]; decide), ⟨(by rw [e7]; exact rfl), atC_in hC (atW_thr hP hD hK hvm9 hk9)⟩, y_F_thr hS hz9 hk9⟩) hS.2.2 (Nat.le_of_ble_eq_true rfl) (Nat.le_of_ble_eq_true rfl)
