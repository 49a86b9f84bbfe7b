/-! what the law does by a number -/
theorem y_cut {p : Program} {l : Launch} {e : Env} {R : Room} {s : State} {m : MethodId} {args : Array Value} {below : List Frame} {meth : Method} {c : Code} {H0 : Heap} {locs0 : List Loc} {cells slots : Nat} {Q : State → Prop} {g : JFrame} (fin : Nat) (ls : Array Slot) (rest : List Value) (I : Heap → List Loc → Int32 → Prop)
    (k : ∀ (H : Heap) (locs : List Loc) (b : Int32), I H locs b → W p l e R s m args below meth c H locs cells slots Q (F0 m fin ls (.int b :: rest)))
    (h : (∀ (H : Heap) (locs : List Loc) (b : Int32), I H locs b → W p l e R s m args below meth c H locs cells slots Q (F0 m fin ls (.int b :: rest))) → W p l e R s m args below meth c H0 locs0 cells slots Q g) : W p l e R s m args below meth c H0 locs0 cells slots Q g := h k
def aOdd (v : Int32) : Int32 := if lowI (v >>> (24 &&& 31)) 8 = 0 then 1 else 0
def aHow (v : Int32) : Int32 := lowI v 32
def aSel (v : Int32) : Int32 := lowI (v >>> (5 &&& 31)) (if aOdd v = 0 then 4 else 10)
def aOwn (v : Int32) : Int32 := if aOdd v = 0 then lowI (v >>> (5 &&& 31)) 2 else lowI (v >>> (5 &&& 31)) 6 - 1
def aWhat (v : Int32) : Int32 := if aHow v < 5 then 1 else aHow v - 3
def aB (v w : Int32) : Int32 := if w = 1 then lowI (v >>> (9 &&& 31)) (if aOdd v = 0 then 3 else 5) else if w = 2 then lowI (v >>> (9 &&& 31)) (if aOdd v = 0 then 7 else 9) else lowI (v >>> (9 &&& 31)) (if aOdd v = 0 then 500 else 1100)
def aC (v w : Int32) : Int32 := if w = 2 then (1 : Int32) + lowI (v >>> (11 &&& 31)) (if aOdd v = 0 then 20000 else 1100000) else if aOdd v = 0 then (1 : Int32) + lowI (v >>> (11 &&& 31)) 14 else lowI (v >>> (11 &&& 31)) 200
def aX (v w : Int32) : Int32 := if w = 4 then (v >>> (5 &&& 31)) &&& 3 else if w = 5 then lowI (v >>> (9 &&& 31)) (if aOdd v = 0 then 300 else 600) else aSel v
def aAm (v : Int32) : Int32 := if aOdd v = 0 then (1 : Int32) + lowI (v >>> (8 &&& 31)) (if (v >>> (18 &&& 31)) &&& 1 = 0 then 1000000 else 30000) else lowI (v >>> (8 &&& 31)) 1100000
def aKd (v : Int32) : Int32 := if aOdd v = 0 then (v >>> (6 &&& 31)) &&& 3 else lowI (v >>> (6 &&& 31)) 6 - 1
def aSet (v : Int32) : Int32 := if aOdd v = 0 then (1 : Int32) + lowI (v >>> (5 &&& 31)) 7 else lowI (v >>> (5 &&& 31)) 300
def aSal (v : Int32) : Int32 := lowI (v >>> (5 &&& 31)) (if aOdd v = 0 then 10 else 40)
def aRm (v : Int32) : Int32 := if aOdd v = 0 then (1 : Int32) + lowI (v >>> (8 &&& 31)) (if (v >>> (18 &&& 31)) &&& 1 = 0 then 200000 else 9000) else lowI (v >>> (8 &&& 31)) 1100000
def aFb (v : Int32) : Int32 := if (v >>> (7 &&& 31)) &&& 1 = 0 then 1 else 0
def aPay (v : Int32) : Int32 := lowI (v >>> (5 &&& 31)) (if aOdd v = 0 then 8 else 20)
def aDay (v : Int32) : Int32 := if aOdd v = 0 then (1 : Int32) + lowI (v >>> (5 &&& 31)) (if (v >>> (14 &&& 31)) &&& 3 = 0 then 35 else 6) else lowI (v >>> (5 &&& 31)) 120
def actA (a : yA) (v : Int32) : Int32 := if aHow v < 2 then dA a 0 (aOwn v) 0 0 else if aHow v < 9 then dA a (aWhat v) (aX v (aWhat v)) (aB v (aWhat v)) (aC v (aWhat v)) else if aHow v < 17 then (if aHow v < 14 then dA a 6 (aSel v) (aKd v) (aAm v) else dA a 7 (aSet v) ((v >>> (6 &&& 31)) &&& 3) (aAm v)) else if aHow v < 23 then rA a (aSal v) (aRm v) (aFb v) else if aHow v < 26 then dA a 9 (aPay v) 0 0 else dA a 8 (aDay v) 0 0
def actT (a : yA) (v : Int32) : yA := if aHow v < 2 then dT a 0 (aOwn v) 0 0 else if aHow v < 9 then dT a (aWhat v) (aX v (aWhat v)) (aB v (aWhat v)) (aC v (aWhat v)) else if aHow v < 17 then (if aHow v < 14 then dT a 6 (aSel v) (aKd v) (aAm v) else dT a 7 (aSet v) ((v >>> (6 &&& 31)) &&& 3) (aAm v)) else if aHow v < 23 then rT a (aSal v) (aRm v) (aFb v) else if aHow v < 26 then dT a 9 (aPay v) 0 0 else dT a 8 (aDay v) 0 0
set_option maxHeartbeats 4000000 in
set_option maxRecDepth 100000 in
theorem c_L_act (l : Launch) (dC : Nat → ClassId) (dI : Nat → Nat → Nat) (cI cF : ClassId) (h0 : Nat) (q : Nat → Nat) (sz : Nat) (a : yA) (jc js jv : Nat → Int32) (k : Nat) (hst : l.stackTraces = false) (hC : okC a jc js jv k) {n : Nat} (hI : okA a n) (hn : n < 512) (v : Int32) : Met l yL_act wsL_act ({ frames := 10, cells := 1026, slots := 6156, locals := 196 } : Room) (va_Pc [.ref h0, .int v] (pcH dC dI [(cI, .int), (cF, .float)] (WC cI cF h0 q a jc js jv k (capOf (nn (a 0 4)))) sz)) (va_Qi (fun (r : Int32) (_ : Unit) => r = actA a v) (fun _ t => atC dC dI cI cF (va_A (WC cI cF h0 q a jc js jv k (capOf (nn (a 0 4)))) sz) h0 (actT a v) t) (va_A (WC cI cF h0 q a jc js jv k (capOf (nn (a 0 4)))) sz)) (1026) (6156) (va_A (WC cI cF h0 q a jc js jv k (capOf (nn (a 0 4)))) sz) := by
  refine Met.ofW (cc := cL_act) (maxL := 8) (ret := (some .int)) (by decide) rfl ?_
  intro p e s m args below meth c s₁ B hml hv
  obtain ⟨rfl, ⟨⟨hsz, hP, hK, hD0⟩, hV⟩, hN⟩ := hv
  have hx := B.exec
  have hb := B.bytes
  have hr := B.returns
  have hts := atoms_spec (ws := wsL_act) B.pre
  have hown : s.vm.findClass RL = some m.cls := findClass_of_methodNamed B.named
  have hlocks := B.notSynchronized
  subst hsz
  have hD := hD0.self (sz := s.heap.size)
  generalize hAe : va_A [(h0, .inr (4, [.ref (q 1), .ref (q 10), .ref (q 18), .ref (q 22), .ref (q 26), .int (a 0 2), .int (a 0 1), .int (a 0 5), .int (a 0 6), .int (a 0 7), .int (a 0 8)])), (q 1, .inr (3, [.ref (q 2), .ref (q 3), .ref (q 4), .ref (q 5), .ref (q 6), .ref (q 7), .ref (q 8), .ref (q 9), .int (a 0 0)])), (q 2, .inl (cI, 8, .inl (a 1))), (q 3, .inl (cI, 8, .inl (a 2))), (q 4, .inl (cI, 8, .inl (a 3))), (q 5, .inl (cI, 8, .inl (a 4))), (q 6, .inl (cI, 8, .inl (a 5))), (q 7, .inl (cI, 8, .inl (a 6))), (q 8, .inl (cI, 8, .inl (a 7))), (q 9, .inl (cI, 8, .inl (a 8))), (q 10, .inr (2, [.ref (q 11), .ref (q 12), .ref (q 13), .ref (q 14), .ref (q 15), .ref (q 16), .ref (q 17), .int (a 0 3)])), (q 11, .inl (cI, 100, .inl (a 10))), (q 12, .inl (cF, 100, .inr (.inr (.inl (fun j => shF (a 13 j)))))), (q 13, .inl (cI, 100, .inl (a 14))), (q 14, .inl (cI, 100, .inl (fun j => a 11 j - a 12 j))), (q 15, .inl (cI, 100, .inl (fun j => a 15 j - a 16 j))), (q 16, .inl (cI, 100, .inl (a 17))), (q 17, .inl (cI, 100, .inl (a 18))), (q 18, .inr (1, [.ref (q 19), .ref (q 20), .ref (q 21), .int (a 0 4)])), (q 19, .inl (cI, capOf (nn (a 0 4)), .inl (a 20))), (q 20, .inl (cI, capOf (nn (a 0 4)), .inl (a 19))), (q 21, .inl (cI, capOf (nn (a 0 4)), .inl (a 21))), (q 22, .inr (0, [.ref (q 23), .ref (q 24), .ref (q 25), .int (nI k)])), (q 23, .inl (cI, 8, .inl (jc))), (q 24, .inl (cI, 256, .inl (js))), (q 25, .inl (cI, 256, .inl (jv))), (q 26, .inl (cF, 4, .inr (.inr (.inl (fun j => shF (a 9 j))))))] s.heap.size = A at hD hV ⊢
  have hA : ∀ q : Nat, s.heap.size ≤ q → A q := fun q h => by rw [← hAe]; exact Or.inr h
  have hS : va_S A s.heap s.heap [] := va_S.rf
  have hl := lv_entry ([.ref h0, .int v]) (n := 8) (Nat.le_of_ble_eq_true rfl)
  rw [lg_entry_eq]
  generalize (lg_sl ([.ref h0, .int v]) ++ List.replicate (8 - (lg_sl ([.ref h0, .int v])).length) Slot.unset).toArray = ls at hl ⊢
  have hl : lv_has ls 8 [(0, .ref h0), (1, .int v)] := hl
  have hP : va_P (dC, dI) vwCl [(h0, .inr (4, [.ref (q 1), .ref (q 10), .ref (q 18), .ref (q 22), .ref (q 26), .int (a 0 2), .int (a 0 1), .int (a 0 5), .int (a 0 6), .int (a 0 7), .int (a 0 8)])), (q 1, .inr (3, [.ref (q 2), .ref (q 3), .ref (q 4), .ref (q 5), .ref (q 6), .ref (q 7), .ref (q 8), .ref (q 9), .int (a 0 0)])), (q 2, .inl (cI, 8, .inl (a 1))), (q 3, .inl (cI, 8, .inl (a 2))), (q 4, .inl (cI, 8, .inl (a 3))), (q 5, .inl (cI, 8, .inl (a 4))), (q 6, .inl (cI, 8, .inl (a 5))), (q 7, .inl (cI, 8, .inl (a 6))), (q 8, .inl (cI, 8, .inl (a 7))), (q 9, .inl (cI, 8, .inl (a 8))), (q 10, .inr (2, [.ref (q 11), .ref (q 12), .ref (q 13), .ref (q 14), .ref (q 15), .ref (q 16), .ref (q 17), .int (a 0 3)])), (q 11, .inl (cI, 100, .inl (a 10))), (q 12, .inl (cF, 100, .inr (.inr (.inl (fun j => shF (a 13 j)))))), (q 13, .inl (cI, 100, .inl (a 14))), (q 14, .inl (cI, 100, .inl (fun j => a 11 j - a 12 j))), (q 15, .inl (cI, 100, .inl (fun j => a 15 j - a 16 j))), (q 16, .inl (cI, 100, .inl (a 17))), (q 17, .inl (cI, 100, .inl (a 18))), (q 18, .inr (1, [.ref (q 19), .ref (q 20), .ref (q 21), .int (a 0 4)])), (q 19, .inl (cI, capOf (nn (a 0 4)), .inl (a 20))), (q 20, .inl (cI, capOf (nn (a 0 4)), .inl (a 19))), (q 21, .inl (cI, capOf (nn (a 0 4)), .inl (a 21))), (q 22, .inr (0, [.ref (q 23), .ref (q 24), .ref (q 25), .int (nI k)])), (q 23, .inl (cI, 8, .inl (jc))), (q 24, .inl (cI, 256, .inl (js))), (q 25, .inl (cI, 256, .inl (jv))), (q 26, .inl (cF, 4, .inr (.inr (.inl (fun j => shF (a 9 j))))))] s.heap := hP
  refine y_enter (A := A) hP (fun H hP hS => ?_)
  have hB := okA_B hI
  refine lv_iload_n hx hb dL_act_0 rfl (lv_at hl 1 rfl) ?_
  refine lv_bipush (v := 24) hx hb dL_act_1 (by decide) ?_
  refine lv_ishr hx hb dL_act_3 ?_
  refine lv_bipush (v := 8) hx hb dL_act_4 (by decide) ?_
  refine va_calli (va_runS (As := [.int (v >>> (24 &&& 31)), .int 8]) (rest := []) ⟨hx, hb, hml, hown, hts⟩ (c_L_low l (v >>> (24 &&& 31)) 8 (by decide)) (va_cwS 2 hts gL_act_L_low rfl rfl rfl (by decide +kernel) ⟨Nat.le_of_ble_eq_true rfl, Nat.le_of_ble_eq_true rfl⟩) ⟨pcT_blind, fun U hU hW => pcT_pre⟩ rfl rfl hl.1 rfl (lv_room (Nat.le_of_ble_eq_true rfl)) dL_act_6 ⟨(Nat.zero_le _), (Nat.zero_le _)⟩) hS (fun q _ h => h.elim) (fun q h => h.elim) (fun r u t H1 locs ht hvm hw hB1 hz1 hk1 hS => ?_)
  have hP := y_keptP hP hk1
  generalize H1 = H at hP hS ⊢
  refine y_topi (y := lowI (v >>> (24 &&& 31)) 8) hw ?_
  refine y_cut 17 ls [] (fun H locs b => b = aOdd v ∧ va_P (dC, dI) vwCl (WC cI cF h0 q a jc js jv k (capOf (nn (a 0 4)))) H ∧ va_S A s.heap H locs) (fun H locs b hI9 => ?_) (fun K17 => ?_)
  · obtain ⟨rfl, hP, hS⟩ := hI9
    refine lv_istore_n (lv' := [(2, .int (aOdd v)), (0, .ref h0), (1, .int v)]) hx hb dL_act_17 rfl hl (by decide) rfl (fun ls hl => ?_)
    refine lv_iload_n hx hb dL_act_18 rfl (lv_at hl 2 rfl) ?_
    refine lv_bipush (v := 32) hx hb dL_act_19 (by decide) ?_
    refine va_calli (va_runS (As := [.int v, .int 32]) (rest := []) ⟨hx, hb, hml, hown, hts⟩ (c_L_low l v 32 (by decide)) (va_cwS 2 hts gL_act_L_low rfl rfl rfl (by decide +kernel) ⟨Nat.le_of_ble_eq_true rfl, Nat.le_of_ble_eq_true rfl⟩) ⟨pcT_blind, fun U hU hW => pcT_pre⟩ rfl rfl hl.1 rfl (lv_room (Nat.le_of_ble_eq_true rfl)) dL_act_21 ⟨(Nat.zero_le _), (Nat.zero_le _)⟩) hS (fun q _ h => h.elim) (fun q h => h.elim) (fun r u t H1 locs ht hvm hw hB1 hz1 hk1 hS => ?_)
    have hP := y_keptP hP hk1
    generalize H1 = H at hP hS ⊢
    refine y_topi (y := lowI v 32) hw ?_
    refine y_topi (y := aHow v) rfl ?_
    refine lv_istore_n (lv' := [(3, .int (aHow v)), (2, .int (aOdd v)), (0, .ref h0), (1, .int v)]) hx hb dL_act_24 rfl hl (by decide) rfl (fun ls hl => ?_)
    refine lv_iload_n hx hb dL_act_25 rfl (lv_at hl 3 rfl) ?_
    refine lv_iconst (v := 5) hx hb dL_act_26 (by decide) ?_
    refine lv_ishr hx hb dL_act_27 ?_
    refine lv_iload_n hx hb dL_act_28 rfl (lv_at hl 1 rfl) ?_
    refine y_cut 38 ls [.int (v >>> (5 &&& 31))] (fun H locs b => b = (if aOdd v = 0 then 4 else 10) ∧ va_P (dC, dI) vwCl (WC cI cF h0 q a jc js jv k (capOf (nn (a 0 4)))) H ∧ va_S A s.heap H locs) (fun H locs b hI9 => ?_) (fun K38 => ?_)
    · obtain ⟨rfl, hP, hS⟩ := hI9
      refine va_calli (va_runS (As := [.int (v >>> (5 &&& 31)), .int (if aOdd v = 0 then 4 else 10)]) (rest := []) ⟨hx, hb, hml, hown, hts⟩ (c_L_low l (v >>> (5 &&& 31)) (if aOdd v = 0 then 4 else 10) (by split <;> decide)) (va_cwS 2 hts gL_act_L_low rfl rfl rfl (by decide +kernel) ⟨Nat.le_of_ble_eq_true rfl, Nat.le_of_ble_eq_true rfl⟩) ⟨pcT_blind, fun U hU hW => pcT_pre⟩ rfl rfl hl.1 rfl (lv_room (Nat.le_of_ble_eq_true rfl)) dL_act_38 ⟨(Nat.zero_le _), (Nat.zero_le _)⟩) hS (fun q _ h => h.elim) (fun q h => h.elim) (fun r u t H1 locs ht hvm hw hB1 hz1 hk1 hS => ?_)
      have hP := y_keptP hP hk1
      generalize H1 = H at hP hS ⊢
      refine y_topi (y := lowI (v >>> (5 &&& 31)) (if aOdd v = 0 then 4 else 10)) hw ?_
      refine y_topi (y := aSel v) rfl ?_
      refine lv_istore (lv' := [(4, .int (aSel v)), (3, .int (aHow v)), (2, .int (aOdd v)), (0, .ref h0), (1, .int v)]) hx hb dL_act_41 hl (by decide) rfl (fun ls hl => ?_)
      refine lv_iload_n hx hb dL_act_43 rfl (lv_at hl 1 rfl) ?_
      refine lv_iconst (v := 2) hx hb dL_act_44 (by decide) ?_
      refine lv_icmp_ge (tgt := 80) hx hb dL_act_45 (by decide) (fun c_1 => ?_) (fun c_1 => ?_)
      · refine lv_iload_n hx hb dL_act_80 rfl (lv_at hl 1 rfl) ?_
        refine lv_bipush (v := 9) hx hb dL_act_81 (by decide) ?_
        refine lv_icmp_ge (tgt := 290) hx hb dL_act_83 (by decide) (fun c_2 => ?_) (fun c_2 => ?_)
        · refine lv_iload_n hx hb dL_act_290 rfl (lv_at hl 1 rfl) ?_
          refine lv_bipush (v := 17) hx hb dL_act_291 (by decide) ?_
          refine lv_icmp_ge (tgt := 424) hx hb dL_act_293 (by decide) (fun c_3 => ?_) (fun c_3 => ?_)
          · refine lv_iload_n hx hb dL_act_424 rfl (lv_at hl 1 rfl) ?_
            refine lv_bipush (v := 23) hx hb dL_act_425 (by decide) ?_
            refine lv_icmp_ge (tgt := 508) hx hb dL_act_427 (by decide) (fun c_4 => ?_) (fun c_4 => ?_)
            · refine lv_iload_n hx hb dL_act_508 rfl (lv_at hl 1 rfl) ?_
              refine lv_bipush (v := 26) hx hb dL_act_509 (by decide) ?_
              refine lv_icmp_ge (tgt := 542) hx hb dL_act_511 (by decide) (fun c_5 => ?_) (fun c_5 => ?_)
              · refine lv_aload_n hx hb dL_act_542 rfl (lv_at hl 3 rfl) ?_
                refine lv_bipush (v := 8) hx hb dL_act_543 (by decide) ?_
                refine lv_iload_n hx hb dL_act_545 rfl (lv_at hl 2 rfl) ?_
                refine y_cut 584 ls [.int 8, .ref h0] (fun H locs b => b = aDay v ∧ va_P (dC, dI) vwCl (WC cI cF h0 q a jc js jv k (capOf (nn (a 0 4)))) H ∧ va_S A s.heap H locs) (fun H locs b hI9 => ?_) (fun K584 => ?_)
                · obtain ⟨rfl, hP, hS⟩ := hI9
                  refine lv_iconst (v := 0) hx hb dL_act_584 (by decide) ?_
                  refine lv_iconst (v := 0) hx hb dL_act_585 (by decide) ?_
                  have hP : va_P (dC, dI) vwCl (WC cI cF h0 q a jc js jv k (capOf (nn (a 0 4)))) H := hP
                  have hD : va_D A (WC cI cF h0 q a jc js jv k (capOf (nn (a 0 4)))) := hD
                  have hFc := y_free hD hS hA
                  refine va_calli (vx_runSW (As := [.ref h0, .int 8, .int (aDay v), .int 0, .int 0]) (rest := []) ⟨hx, hb, hml, hown, hts⟩ (c_L_does l dC dI cI cF h0 q H.size a jc js jv k hst hC hI hn 8 (aDay v) 0 0) (vx_cwSW 5 hts gL_act_L_does rfl rfl rfl (by decide +kernel) ⟨Nat.le_of_ble_eq_true rfl, Nat.le_of_ble_eq_true rfl⟩) ⟨pcH_blind, fun U hU hW => pcH_pre hP hD hK hV hN hS hFc hU hW⟩ rfl rfl hl.1 rfl (lv_room (Nat.le_of_ble_eq_true rfl)) dL_act_586 ⟨Nat.le_of_ble_eq_true rfl, Nat.le_of_ble_eq_true rfl⟩) hS (fun q _ h => hFc q h) hFc (fun r u t H1 locs ht hvm hw hB1 hz1 hk1 hS => ?_)
                  obtain ⟨qy, jcy, jsy, jvy, ky, hCy, hPy, hKy, hDy⟩ := hB1
                  rw [ht] at hPy
                  have hP : va_P (dC, dI) vwCl (WC cI cF h0 qy (dT a 8 (aDay v) 0 0) jcy jsy jvy ky (capOf (nn ((dT a 8 (aDay v) 0 0) 0 4)))) _ := hPy
                  have hD : va_D A (WC cI cF h0 qy (dT a 8 (aDay v) 0 0) jcy jsy jvy ky (capOf (nn ((dT a 8 (aDay v) 0 0) 0 4)))) := hDy.weaken (fun kk qq _ h => hFc qq.1 h)
                  generalize H1 = H at hP hS ⊢
                  have eA : actA a v = dA a 8 (aDay v) 0 0 := by unfold actA; rw [if_neg (Int32.not_lt.mpr c_1), if_neg (Int32.not_lt.mpr c_2), if_neg (Int32.not_lt.mpr c_3), if_neg (Int32.not_lt.mpr c_4), if_neg (Int32.not_lt.mpr c_5)]
                  have eT : actT a v = dT a 8 (aDay v) 0 0 := by unfold actT; rw [if_neg (Int32.not_lt.mpr c_1), if_neg (Int32.not_lt.mpr c_2), if_neg (Int32.not_lt.mpr c_3), if_neg (Int32.not_lt.mpr c_4), if_neg (Int32.not_lt.mpr c_5)]
                  refine W.widen (k := 1026) (n := 6156) (Nat.le_of_ble_eq_true rfl) (Nat.le_of_ble_eq_true rfl) ?_
                  have hP9 := hP
                  have hD9 := hD
                  have hK9 := hK
                  exact W.iret (v := r) hx hb hr (fun t ht hW => ⟨⟨r, (), rfl, hw.trans eA.symm, atC_e eT hCy (atW_end hP9 hD9 hK9 ht hW)⟩, hS.F ht⟩) hS.2.2 dL_act_589
                · refine lv_if_eq (tgt := 560) hx hb dL_act_546 (by decide) (fun c_6 => ?_) (fun c_6 => ?_)
                  · refine lv_iconst (v := 1) hx hb dL_act_560 (by decide) ?_
                    refine lv_iload_n hx hb dL_act_561 rfl (lv_at hl 4 rfl) ?_
                    refine lv_iconst (v := 5) hx hb dL_act_562 (by decide) ?_
                    refine lv_ishr hx hb dL_act_563 ?_
                    refine lv_iload_n hx hb dL_act_564 rfl (lv_at hl 4 rfl) ?_
                    refine lv_bipush (v := 14) hx hb dL_act_565 (by decide) ?_
                    refine lv_ishr hx hb dL_act_567 ?_
                    refine lv_iconst (v := 3) hx hb dL_act_568 (by decide) ?_
                    refine lv_iand hx hb dL_act_569 ?_
                    refine y_cut 580 ls [.int (v >>> (5 &&& 31)), .int 1, .int 8, .ref h0] (fun H locs b => b = (if (v >>> (14 &&& 31)) &&& 3 = 0 then 35 else 6) ∧ va_P (dC, dI) vwCl (WC cI cF h0 q a jc js jv k (capOf (nn (a 0 4)))) H ∧ va_S A s.heap H locs) (fun H locs b hI9 => ?_) (fun K580 => ?_)
                    · obtain ⟨rfl, hP, hS⟩ := hI9
                      refine va_calli (va_runS (As := [.int (v >>> (5 &&& 31)), .int (if (v >>> (14 &&& 31)) &&& 3 = 0 then 35 else 6)]) (rest := [.int 1, .int 8, .ref h0]) ⟨hx, hb, hml, hown, hts⟩ (c_L_low l (v >>> (5 &&& 31)) (if (v >>> (14 &&& 31)) &&& 3 = 0 then 35 else 6) (by split <;> decide)) (va_cwS 2 hts gL_act_L_low rfl rfl rfl (by decide +kernel) ⟨Nat.le_of_ble_eq_true rfl, Nat.le_of_ble_eq_true rfl⟩) ⟨pcT_blind, fun U hU hW => pcT_pre⟩ rfl rfl hl.1 rfl (lv_room (Nat.le_of_ble_eq_true rfl)) dL_act_580 ⟨(Nat.zero_le _), (Nat.zero_le _)⟩) hS (fun q _ h => h.elim) (fun q h => h.elim) (fun r u t H1 locs ht hvm hw hB1 hz1 hk1 hS => ?_)
                      have hP := y_keptP hP hk1
                      generalize H1 = H at hP hS ⊢
                      refine y_topi (y := lowI (v >>> (5 &&& 31)) (if (v >>> (14 &&& 31)) &&& 3 = 0 then 35 else 6)) hw ?_
                      refine lv_iadd hx hb dL_act_583 ?_
                      exact K584 H locs _ ⟨(by unfold aDay; rw [if_pos c_6]), hP, hS⟩
                    · refine lv_if_ne (tgt := 578) hx hb dL_act_570 (by decide) (fun c_7 => ?_) (fun c_7 => ?_)
                      · refine lv_bipush (v := 6) hx hb dL_act_578 (by decide) ?_
                        exact K580 H locs _ ⟨(by rw [if_neg c_7]), hP, hS⟩
                      · refine lv_bipush (v := 35) hx hb dL_act_573 (by decide) ?_
                        refine lv_goto (tgt := 580) hx hb dL_act_575 (by decide) ?_
                        exact K580 H locs _ ⟨(by rw [if_pos c_7]), hP, hS⟩
                  · refine lv_iload_n hx hb dL_act_549 rfl (lv_at hl 4 rfl) ?_
                    refine lv_iconst (v := 5) hx hb dL_act_550 (by decide) ?_
                    refine lv_ishr hx hb dL_act_551 ?_
                    refine lv_bipush (v := 120) hx hb dL_act_552 (by decide) ?_
                    refine va_calli (va_runS (As := [.int (v >>> (5 &&& 31)), .int 120]) (rest := [.int 8, .ref h0]) ⟨hx, hb, hml, hown, hts⟩ (c_L_low l (v >>> (5 &&& 31)) 120 (by decide)) (va_cwS 2 hts gL_act_L_low rfl rfl rfl (by decide +kernel) ⟨Nat.le_of_ble_eq_true rfl, Nat.le_of_ble_eq_true rfl⟩) ⟨pcT_blind, fun U hU hW => pcT_pre⟩ rfl rfl hl.1 rfl (lv_room (Nat.le_of_ble_eq_true rfl)) dL_act_554 ⟨(Nat.zero_le _), (Nat.zero_le _)⟩) hS (fun q _ h => h.elim) (fun q h => h.elim) (fun r u t H1 locs ht hvm hw hB1 hz1 hk1 hS => ?_)
                    have hP := y_keptP hP hk1
                    generalize H1 = H at hP hS ⊢
                    refine y_topi (y := lowI (v >>> (5 &&& 31)) 120) hw ?_
                    refine lv_goto (tgt := 584) hx hb dL_act_557 (by decide) ?_
                    exact K584 H locs _ ⟨(by unfold aDay; rw [if_neg c_6]), hP, hS⟩
              · refine lv_aload_n hx hb dL_act_514 rfl (lv_at hl 3 rfl) ?_
                refine lv_bipush (v := 9) hx hb dL_act_515 (by decide) ?_
                refine lv_iload_n hx hb dL_act_517 rfl (lv_at hl 4 rfl) ?_
                refine lv_iconst (v := 5) hx hb dL_act_518 (by decide) ?_
                refine lv_ishr hx hb dL_act_519 ?_
                refine lv_iload_n hx hb dL_act_520 rfl (lv_at hl 2 rfl) ?_
                refine y_cut 531 ls [.int (v >>> (5 &&& 31)), .int 9, .ref h0] (fun H locs b => b = (if aOdd v = 0 then 8 else 20) ∧ va_P (dC, dI) vwCl (WC cI cF h0 q a jc js jv k (capOf (nn (a 0 4)))) H ∧ va_S A s.heap H locs) (fun H locs b hI9 => ?_) (fun K531 => ?_)
                · obtain ⟨rfl, hP, hS⟩ := hI9
                  refine va_calli (va_runS (As := [.int (v >>> (5 &&& 31)), .int (if aOdd v = 0 then 8 else 20)]) (rest := [.int 9, .ref h0]) ⟨hx, hb, hml, hown, hts⟩ (c_L_low l (v >>> (5 &&& 31)) (if aOdd v = 0 then 8 else 20) (by split <;> decide)) (va_cwS 2 hts gL_act_L_low rfl rfl rfl (by decide +kernel) ⟨Nat.le_of_ble_eq_true rfl, Nat.le_of_ble_eq_true rfl⟩) ⟨pcT_blind, fun U hU hW => pcT_pre⟩ rfl rfl hl.1 rfl (lv_room (Nat.le_of_ble_eq_true rfl)) dL_act_531 ⟨(Nat.zero_le _), (Nat.zero_le _)⟩) hS (fun q _ h => h.elim) (fun q h => h.elim) (fun r u t H1 locs ht hvm hw hB1 hz1 hk1 hS => ?_)
                  have hP := y_keptP hP hk1
                  generalize H1 = H at hP hS ⊢
                  refine y_topi (y := lowI (v >>> (5 &&& 31)) (if aOdd v = 0 then 8 else 20)) hw ?_
                  refine y_topi (y := aPay v) rfl ?_
                  refine lv_iconst (v := 0) hx hb dL_act_534 (by decide) ?_
                  refine lv_iconst (v := 0) hx hb dL_act_535 (by decide) ?_
                  have hP : va_P (dC, dI) vwCl (WC cI cF h0 q a jc js jv k (capOf (nn (a 0 4)))) H := hP
                  have hD : va_D A (WC cI cF h0 q a jc js jv k (capOf (nn (a 0 4)))) := hD
                  have hFc := y_free hD hS hA
                  refine va_calli (vx_runSW (As := [.ref h0, .int 9, .int (aPay v), .int 0, .int 0]) (rest := []) ⟨hx, hb, hml, hown, hts⟩ (c_L_does l dC dI cI cF h0 q H.size a jc js jv k hst hC hI hn 9 (aPay v) 0 0) (vx_cwSW 5 hts gL_act_L_does rfl rfl rfl (by decide +kernel) ⟨Nat.le_of_ble_eq_true rfl, Nat.le_of_ble_eq_true rfl⟩) ⟨pcH_blind, fun U hU hW => pcH_pre hP hD hK hV hN hS hFc hU hW⟩ rfl rfl hl.1 rfl (lv_room (Nat.le_of_ble_eq_true rfl)) dL_act_536 ⟨Nat.le_of_ble_eq_true rfl, Nat.le_of_ble_eq_true rfl⟩) hS (fun q _ h => hFc q h) hFc (fun r u t H1 locs ht hvm hw hB1 hz1 hk1 hS => ?_)
                  obtain ⟨qy, jcy, jsy, jvy, ky, hCy, hPy, hKy, hDy⟩ := hB1
                  rw [ht] at hPy
                  have hP : va_P (dC, dI) vwCl (WC cI cF h0 qy (dT a 9 (aPay v) 0 0) jcy jsy jvy ky (capOf (nn ((dT a 9 (aPay v) 0 0) 0 4)))) _ := hPy
                  have hD : va_D A (WC cI cF h0 qy (dT a 9 (aPay v) 0 0) jcy jsy jvy ky (capOf (nn ((dT a 9 (aPay v) 0 0) 0 4)))) := hDy.weaken (fun kk qq _ h => hFc qq.1 h)
                  generalize H1 = H at hP hS ⊢
                  have eA : actA a v = dA a 9 (aPay v) 0 0 := by unfold actA; rw [if_neg (Int32.not_lt.mpr c_1), if_neg (Int32.not_lt.mpr c_2), if_neg (Int32.not_lt.mpr c_3), if_neg (Int32.not_lt.mpr c_4), if_pos (Int32.not_le.mp c_5)]
                  have eT : actT a v = dT a 9 (aPay v) 0 0 := by unfold actT; rw [if_neg (Int32.not_lt.mpr c_1), if_neg (Int32.not_lt.mpr c_2), if_neg (Int32.not_lt.mpr c_3), if_neg (Int32.not_lt.mpr c_4), if_pos (Int32.not_le.mp c_5)]
                  refine lv_goto (tgt := 589) hx hb dL_act_539 (by decide) ?_
                  refine W.widen (k := 1026) (n := 6156) (Nat.le_of_ble_eq_true rfl) (Nat.le_of_ble_eq_true rfl) ?_
                  have hP9 := hP
                  have hD9 := hD
                  have hK9 := hK
                  exact W.iret (v := r) hx hb hr (fun t ht hW => ⟨⟨r, (), rfl, hw.trans eA.symm, atC_e eT hCy (atW_end hP9 hD9 hK9 ht hW)⟩, hS.F ht⟩) hS.2.2 dL_act_589
                · refine lv_if_eq (tgt := 529) hx hb dL_act_521 (by decide) (fun c_8 => ?_) (fun c_8 => ?_)
                  · refine lv_bipush (v := 8) hx hb dL_act_529 (by decide) ?_
                    exact K531 H locs _ ⟨(by rw [if_pos c_8]), hP, hS⟩
                  · refine lv_bipush (v := 20) hx hb dL_act_524 (by decide) ?_
                    refine lv_goto (tgt := 531) hx hb dL_act_526 (by decide) ?_
                    exact K531 H locs _ ⟨(by rw [if_neg c_8]), hP, hS⟩
            · refine lv_aload_n hx hb dL_act_430 rfl (lv_at hl 3 rfl) ?_
              refine lv_iload_n hx hb dL_act_431 rfl (lv_at hl 4 rfl) ?_
              refine lv_iconst (v := 5) hx hb dL_act_432 (by decide) ?_
              refine lv_ishr hx hb dL_act_433 ?_
              refine lv_iload_n hx hb dL_act_434 rfl (lv_at hl 2 rfl) ?_
              refine y_cut 445 ls [.int (v >>> (5 &&& 31)), .ref h0] (fun H locs b => b = (if aOdd v = 0 then 10 else 40) ∧ va_P (dC, dI) vwCl (WC cI cF h0 q a jc js jv k (capOf (nn (a 0 4)))) H ∧ va_S A s.heap H locs) (fun H locs b hI9 => ?_) (fun K445 => ?_)
              · obtain ⟨rfl, hP, hS⟩ := hI9
                refine va_calli (va_runS (As := [.int (v >>> (5 &&& 31)), .int (if aOdd v = 0 then 10 else 40)]) (rest := [.ref h0]) ⟨hx, hb, hml, hown, hts⟩ (c_L_low l (v >>> (5 &&& 31)) (if aOdd v = 0 then 10 else 40) (by split <;> decide)) (va_cwS 2 hts gL_act_L_low rfl rfl rfl (by decide +kernel) ⟨Nat.le_of_ble_eq_true rfl, Nat.le_of_ble_eq_true rfl⟩) ⟨pcT_blind, fun U hU hW => pcT_pre⟩ rfl rfl hl.1 rfl (lv_room (Nat.le_of_ble_eq_true rfl)) dL_act_445 ⟨(Nat.zero_le _), (Nat.zero_le _)⟩) hS (fun q _ h => h.elim) (fun q h => h.elim) (fun r u t H1 locs ht hvm hw hB1 hz1 hk1 hS => ?_)
                have hP := y_keptP hP hk1
                generalize H1 = H at hP hS ⊢
                refine y_topi (y := lowI (v >>> (5 &&& 31)) (if aOdd v = 0 then 10 else 40)) hw ?_
                refine y_topi (y := aSal v) rfl ?_
                refine lv_iload_n hx hb dL_act_448 rfl (lv_at hl 2 rfl) ?_
                refine y_cut 490 ls [.int (aSal v), .ref h0] (fun H locs b => b = aRm v ∧ va_P (dC, dI) vwCl (WC cI cF h0 q a jc js jv k (capOf (nn (a 0 4)))) H ∧ va_S A s.heap H locs) (fun H locs b hI9 => ?_) (fun K490 => ?_)
                · obtain ⟨rfl, hP, hS⟩ := hI9
                  refine lv_iload_n hx hb dL_act_490 rfl (lv_at hl 4 rfl) ?_
                  refine lv_bipush (v := 7) hx hb dL_act_491 (by decide) ?_
                  refine lv_ishr hx hb dL_act_493 ?_
                  refine lv_iconst (v := 1) hx hb dL_act_494 (by decide) ?_
                  refine lv_iand hx hb dL_act_495 ?_
                  refine y_cut 504 ls [.int (aRm v), .int (aSal v), .ref h0] (fun H locs b => b = aFb v ∧ va_P (dC, dI) vwCl (WC cI cF h0 q a jc js jv k (capOf (nn (a 0 4)))) H ∧ va_S A s.heap H locs) (fun H locs b hI9 => ?_) (fun K504 => ?_)
                  · obtain ⟨rfl, hP, hS⟩ := hI9
                    have hP : va_P (dC, dI) vwCl (WC cI cF h0 q a jc js jv k (capOf (nn (a 0 4)))) H := hP
                    have hD : va_D A (WC cI cF h0 q a jc js jv k (capOf (nn (a 0 4)))) := hD
                    have hFc := y_free hD hS hA
                    refine va_calli (vx_runSW (As := [.ref h0, .int (aSal v), .int (aRm v), .int (aFb v)]) (rest := []) ⟨hx, hb, hml, hown, hts⟩ (c_L_refund l dC dI cI cF h0 q H.size a jc js jv k hst hC hB (aSal v) (aRm v) (aFb v)) (vx_cwSW 4 hts gL_act_L_refund rfl rfl rfl (by decide +kernel) ⟨Nat.le_of_ble_eq_true rfl, Nat.le_of_ble_eq_true rfl⟩) ⟨pcH_blind, fun U hU hW => pcH_pre hP hD hK hV hN hS hFc hU hW⟩ rfl rfl hl.1 rfl (lv_room (Nat.le_of_ble_eq_true rfl)) dL_act_504 ⟨Nat.le_of_ble_eq_true rfl, Nat.le_of_ble_eq_true rfl⟩) hS (fun q _ h => hFc q h) hFc (fun r u t H1 locs ht hvm hw hB1 hz1 hk1 hS => ?_)
                    obtain ⟨qy, jcy, jsy, jvy, ky, hCy, hPy, hKy, hDy⟩ := hB1
                    rw [ht] at hPy
                    have hP : va_P (dC, dI) vwCl (WC cI cF h0 qy (rT a (aSal v) (aRm v) (aFb v)) jcy jsy jvy ky (capOf (nn ((rT a (aSal v) (aRm v) (aFb v)) 0 4)))) _ := hPy
                    have hD : va_D A (WC cI cF h0 qy (rT a (aSal v) (aRm v) (aFb v)) jcy jsy jvy ky (capOf (nn ((rT a (aSal v) (aRm v) (aFb v)) 0 4)))) := hDy.weaken (fun kk qq _ h => hFc qq.1 h)
                    generalize H1 = H at hP hS ⊢
                    have eA : actA a v = rA a (aSal v) (aRm v) (aFb v) := by unfold actA; rw [if_neg (Int32.not_lt.mpr c_1), if_neg (Int32.not_lt.mpr c_2), if_neg (Int32.not_lt.mpr c_3), if_pos (Int32.not_le.mp c_4)]
                    have eT : actT a v = rT a (aSal v) (aRm v) (aFb v) := by unfold actT; rw [if_neg (Int32.not_lt.mpr c_1), if_neg (Int32.not_lt.mpr c_2), if_neg (Int32.not_lt.mpr c_3), if_pos (Int32.not_le.mp c_4)]
                    refine W.widen (k := 1026) (n := 6156) (Nat.le_of_ble_eq_true rfl) (Nat.le_of_ble_eq_true rfl) ?_
                    have hP9 := hP
                    have hD9 := hD
                    have hK9 := hK
                    exact W.iret (v := r) hx hb hr (fun t ht hW => ⟨⟨r, (), rfl, hw.trans eA.symm, atC_e eT hCy (atW_end hP9 hD9 hK9 ht hW)⟩, hS.F ht⟩) hS.2.2 dL_act_507
                  · refine lv_if_ne (tgt := 503) hx hb dL_act_496 (by decide) (fun c_9 => ?_) (fun c_9 => ?_)
                    · refine lv_iconst (v := 0) hx hb dL_act_503 (by decide) ?_
                      exact K504 H locs _ ⟨(by unfold aFb; rw [if_neg c_9]), hP, hS⟩
                    · refine lv_iconst (v := 1) hx hb dL_act_499 (by decide) ?_
                      refine lv_goto (tgt := 504) hx hb dL_act_500 (by decide) ?_
                      exact K504 H locs _ ⟨(by unfold aFb; rw [if_pos c_9]), hP, hS⟩
                · refine lv_if_eq (tgt := 464) hx hb dL_act_449 (by decide) (fun c_10 => ?_) (fun c_10 => ?_)
                  · refine lv_iconst (v := 1) hx hb dL_act_464 (by decide) ?_
                    refine lv_iload_n hx hb dL_act_465 rfl (lv_at hl 4 rfl) ?_
                    refine lv_bipush (v := 8) hx hb dL_act_466 (by decide) ?_
                    refine lv_ishr hx hb dL_act_468 ?_
                    refine lv_iload_n hx hb dL_act_469 rfl (lv_at hl 4 rfl) ?_
                    refine lv_bipush (v := 18) hx hb dL_act_470 (by decide) ?_
                    refine lv_ishr hx hb dL_act_472 ?_
                    refine lv_iconst (v := 1) hx hb dL_act_473 (by decide) ?_
                    refine lv_iand hx hb dL_act_474 ?_
                    refine y_cut 486 ls [.int (v >>> (8 &&& 31)), .int 1, .int (aSal v), .ref h0] (fun H locs b => b = (if (v >>> (18 &&& 31)) &&& 1 = 0 then 200000 else 9000) ∧ va_P (dC, dI) vwCl (WC cI cF h0 q a jc js jv k (capOf (nn (a 0 4)))) H ∧ va_S A s.heap H locs) (fun H locs b hI9 => ?_) (fun K486 => ?_)
                    · obtain ⟨rfl, hP, hS⟩ := hI9
                      refine va_calli (va_runS (As := [.int (v >>> (8 &&& 31)), .int (if (v >>> (18 &&& 31)) &&& 1 = 0 then 200000 else 9000)]) (rest := [.int 1, .int (aSal v), .ref h0]) ⟨hx, hb, hml, hown, hts⟩ (c_L_low l (v >>> (8 &&& 31)) (if (v >>> (18 &&& 31)) &&& 1 = 0 then 200000 else 9000) (by split <;> decide)) (va_cwS 2 hts gL_act_L_low rfl rfl rfl (by decide +kernel) ⟨Nat.le_of_ble_eq_true rfl, Nat.le_of_ble_eq_true rfl⟩) ⟨pcT_blind, fun U hU hW => pcT_pre⟩ rfl rfl hl.1 rfl (lv_room (Nat.le_of_ble_eq_true rfl)) dL_act_486 ⟨(Nat.zero_le _), (Nat.zero_le _)⟩) hS (fun q _ h => h.elim) (fun q h => h.elim) (fun r u t H1 locs ht hvm hw hB1 hz1 hk1 hS => ?_)
                      have hP := y_keptP hP hk1
                      generalize H1 = H at hP hS ⊢
                      refine y_topi (y := lowI (v >>> (8 &&& 31)) (if (v >>> (18 &&& 31)) &&& 1 = 0 then 200000 else 9000)) hw ?_
                      refine lv_iadd hx hb dL_act_489 ?_
                      exact K490 H locs _ ⟨(by unfold aRm; rw [if_pos c_10]), hP, hS⟩
                    · refine lv_if_ne (tgt := 483) hx hb dL_act_475 (by decide) (fun c_11 => ?_) (fun c_11 => ?_)
                      · refine lv_sipush (v := 9000) hx hb dL_act_483 (by decide) ?_
                        exact K486 H locs _ ⟨(by rw [if_neg c_11]), hP, hS⟩
                      · refine lv_ldc hx hb hown (hts (.constant RL 73 (200000)) (List.mem_of_getElem? (i := 3) rfl)) dL_act_478 ?_
                        refine lv_goto (tgt := 486) hx hb dL_act_480 (by decide) ?_
                        exact K486 H locs _ ⟨(by rw [if_pos c_11]), hP, hS⟩
                  · refine lv_iload_n hx hb dL_act_452 rfl (lv_at hl 4 rfl) ?_
                    refine lv_bipush (v := 8) hx hb dL_act_453 (by decide) ?_
                    refine lv_ishr hx hb dL_act_455 ?_
                    refine lv_ldc hx hb hown (hts (.constant RL 71 (1100000)) (List.mem_of_getElem? (i := 1) rfl)) dL_act_456 ?_
                    refine va_calli (va_runS (As := [.int (v >>> (8 &&& 31)), .int 1100000]) (rest := [.int (aSal v), .ref h0]) ⟨hx, hb, hml, hown, hts⟩ (c_L_low l (v >>> (8 &&& 31)) 1100000 (by decide)) (va_cwS 2 hts gL_act_L_low rfl rfl rfl (by decide +kernel) ⟨Nat.le_of_ble_eq_true rfl, Nat.le_of_ble_eq_true rfl⟩) ⟨pcT_blind, fun U hU hW => pcT_pre⟩ rfl rfl hl.1 rfl (lv_room (Nat.le_of_ble_eq_true rfl)) dL_act_458 ⟨(Nat.zero_le _), (Nat.zero_le _)⟩) hS (fun q _ h => h.elim) (fun q h => h.elim) (fun r u t H1 locs ht hvm hw hB1 hz1 hk1 hS => ?_)
                    have hP := y_keptP hP hk1
                    generalize H1 = H at hP hS ⊢
                    refine y_topi (y := lowI (v >>> (8 &&& 31)) 1100000) hw ?_
                    refine lv_goto (tgt := 490) hx hb dL_act_461 (by decide) ?_
                    exact K490 H locs _ ⟨(by unfold aRm; rw [if_neg c_10]), hP, hS⟩
              · refine lv_if_eq (tgt := 443) hx hb dL_act_435 (by decide) (fun c_12 => ?_) (fun c_12 => ?_)
                · refine lv_bipush (v := 10) hx hb dL_act_443 (by decide) ?_
                  exact K445 H locs _ ⟨(by rw [if_pos c_12]), hP, hS⟩
                · refine lv_bipush (v := 40) hx hb dL_act_438 (by decide) ?_
                  refine lv_goto (tgt := 445) hx hb dL_act_440 (by decide) ?_
                  exact K445 H locs _ ⟨(by rw [if_neg c_12]), hP, hS⟩
          · refine lv_iload_n hx hb dL_act_296 rfl (lv_at hl 2 rfl) ?_
            refine y_cut 338 ls [] (fun H locs b => b = aAm v ∧ va_P (dC, dI) vwCl (WC cI cF h0 q a jc js jv k (capOf (nn (a 0 4)))) H ∧ va_S A s.heap H locs) (fun H locs b hI9 => ?_) (fun K338 => ?_)
            · obtain ⟨rfl, hP, hS⟩ := hI9
              refine lv_istore (lv' := [(5, .int (aAm v)), (4, .int (aSel v)), (3, .int (aHow v)), (2, .int (aOdd v)), (0, .ref h0), (1, .int v)]) hx hb dL_act_338 hl (by decide) rfl (fun ls hl => ?_)
              refine lv_iload_n hx hb dL_act_340 rfl (lv_at hl 2 rfl) ?_
              refine lv_bipush (v := 14) hx hb dL_act_341 (by decide) ?_
              refine lv_icmp_ge (tgt := 383) hx hb dL_act_343 (by decide) (fun c_13 => ?_) (fun c_13 => ?_)
              · refine lv_aload_n hx hb dL_act_383 rfl (lv_at hl 4 rfl) ?_
                refine lv_bipush (v := 7) hx hb dL_act_384 (by decide) ?_
                refine lv_iload_n hx hb dL_act_386 rfl (lv_at hl 3 rfl) ?_
                refine y_cut 412 ls [.int 7, .ref h0] (fun H locs b => b = aSet v ∧ va_P (dC, dI) vwCl (WC cI cF h0 q a jc js jv k (capOf (nn (a 0 4)))) H ∧ va_S A s.heap H locs) (fun H locs b hI9 => ?_) (fun K412 => ?_)
                · obtain ⟨rfl, hP, hS⟩ := hI9
                  refine lv_iload_n hx hb dL_act_412 rfl (lv_at hl 5 rfl) ?_
                  refine lv_bipush (v := 6) hx hb dL_act_413 (by decide) ?_
                  refine lv_ishr hx hb dL_act_415 ?_
                  refine lv_iconst (v := 3) hx hb dL_act_416 (by decide) ?_
                  refine lv_iand hx hb dL_act_417 ?_
                  refine lv_iload hx hb dL_act_418 (lv_at hl 0 rfl) ?_
                  have hP : va_P (dC, dI) vwCl (WC cI cF h0 q a jc js jv k (capOf (nn (a 0 4)))) H := hP
                  have hD : va_D A (WC cI cF h0 q a jc js jv k (capOf (nn (a 0 4)))) := hD
                  have hFc := y_free hD hS hA
                  refine va_calli (vx_runSW (As := [.ref h0, .int 7, .int (aSet v), .int ((v >>> (6 &&& 31)) &&& 3), .int (aAm v)]) (rest := []) ⟨hx, hb, hml, hown, hts⟩ (c_L_does l dC dI cI cF h0 q H.size a jc js jv k hst hC hI hn 7 (aSet v) ((v >>> (6 &&& 31)) &&& 3) (aAm v)) (vx_cwSW 5 hts gL_act_L_does rfl rfl rfl (by decide +kernel) ⟨Nat.le_of_ble_eq_true rfl, Nat.le_of_ble_eq_true rfl⟩) ⟨pcH_blind, fun U hU hW => pcH_pre hP hD hK hV hN hS hFc hU hW⟩ rfl rfl hl.1 rfl (lv_room (Nat.le_of_ble_eq_true rfl)) dL_act_420 ⟨Nat.le_of_ble_eq_true rfl, Nat.le_of_ble_eq_true rfl⟩) hS (fun q _ h => hFc q h) hFc (fun r u t H1 locs ht hvm hw hB1 hz1 hk1 hS => ?_)
                  obtain ⟨qy, jcy, jsy, jvy, ky, hCy, hPy, hKy, hDy⟩ := hB1
                  rw [ht] at hPy
                  have hP : va_P (dC, dI) vwCl (WC cI cF h0 qy (dT a 7 (aSet v) ((v >>> (6 &&& 31)) &&& 3) (aAm v)) jcy jsy jvy ky (capOf (nn ((dT a 7 (aSet v) ((v >>> (6 &&& 31)) &&& 3) (aAm v)) 0 4)))) _ := hPy
                  have hD : va_D A (WC cI cF h0 qy (dT a 7 (aSet v) ((v >>> (6 &&& 31)) &&& 3) (aAm v)) jcy jsy jvy ky (capOf (nn ((dT a 7 (aSet v) ((v >>> (6 &&& 31)) &&& 3) (aAm v)) 0 4)))) := hDy.weaken (fun kk qq _ h => hFc qq.1 h)
                  generalize H1 = H at hP hS ⊢
                  have eA : actA a v = dA a 7 (aSet v) ((v >>> (6 &&& 31)) &&& 3) (aAm v) := by unfold actA; rw [if_neg (Int32.not_lt.mpr c_1), if_neg (Int32.not_lt.mpr c_2), if_pos (Int32.not_le.mp c_3), if_neg (Int32.not_lt.mpr c_13)]
                  have eT : actT a v = dT a 7 (aSet v) ((v >>> (6 &&& 31)) &&& 3) (aAm v) := by unfold actT; rw [if_neg (Int32.not_lt.mpr c_1), if_neg (Int32.not_lt.mpr c_2), if_pos (Int32.not_le.mp c_3), if_neg (Int32.not_lt.mpr c_13)]
                  refine W.widen (k := 1026) (n := 6156) (Nat.le_of_ble_eq_true rfl) (Nat.le_of_ble_eq_true rfl) ?_
                  have hP9 := hP
                  have hD9 := hD
                  have hK9 := hK
                  exact W.iret (v := r) hx hb hr (fun t ht hW => ⟨⟨r, (), rfl, hw.trans eA.symm, atC_e eT hCy (atW_end hP9 hD9 hK9 ht hW)⟩, hS.F ht⟩) hS.2.2 dL_act_423
                · refine lv_if_eq (tgt := 402) hx hb dL_act_387 (by decide) (fun c_14 => ?_) (fun c_14 => ?_)
                  · refine lv_iconst (v := 1) hx hb dL_act_402 (by decide) ?_
                    refine lv_iload_n hx hb dL_act_403 rfl (lv_at hl 5 rfl) ?_
                    refine lv_iconst (v := 5) hx hb dL_act_404 (by decide) ?_
                    refine lv_ishr hx hb dL_act_405 ?_
                    refine lv_bipush (v := 7) hx hb dL_act_406 (by decide) ?_
                    refine va_calli (va_runS (As := [.int (v >>> (5 &&& 31)), .int 7]) (rest := [.int 1, .int 7, .ref h0]) ⟨hx, hb, hml, hown, hts⟩ (c_L_low l (v >>> (5 &&& 31)) 7 (by decide)) (va_cwS 2 hts gL_act_L_low rfl rfl rfl (by decide +kernel) ⟨Nat.le_of_ble_eq_true rfl, Nat.le_of_ble_eq_true rfl⟩) ⟨pcT_blind, fun U hU hW => pcT_pre⟩ rfl rfl hl.1 rfl (lv_room (Nat.le_of_ble_eq_true rfl)) dL_act_408 ⟨(Nat.zero_le _), (Nat.zero_le _)⟩) hS (fun q _ h => h.elim) (fun q h => h.elim) (fun r u t H1 locs ht hvm hw hB1 hz1 hk1 hS => ?_)
                    have hP := y_keptP hP hk1
                    generalize H1 = H at hP hS ⊢
                    refine y_topi (y := lowI (v >>> (5 &&& 31)) 7) hw ?_
                    refine lv_iadd hx hb dL_act_411 ?_
                    exact K412 H locs _ ⟨(by unfold aSet; rw [if_pos c_14]), hP, hS⟩
                  · refine lv_iload_n hx hb dL_act_390 rfl (lv_at hl 5 rfl) ?_
                    refine lv_iconst (v := 5) hx hb dL_act_391 (by decide) ?_
                    refine lv_ishr hx hb dL_act_392 ?_
                    refine lv_sipush (v := 300) hx hb dL_act_393 (by decide) ?_
                    refine va_calli (va_runS (As := [.int (v >>> (5 &&& 31)), .int 300]) (rest := [.int 7, .ref h0]) ⟨hx, hb, hml, hown, hts⟩ (c_L_low l (v >>> (5 &&& 31)) 300 (by decide)) (va_cwS 2 hts gL_act_L_low rfl rfl rfl (by decide +kernel) ⟨Nat.le_of_ble_eq_true rfl, Nat.le_of_ble_eq_true rfl⟩) ⟨pcT_blind, fun U hU hW => pcT_pre⟩ rfl rfl hl.1 rfl (lv_room (Nat.le_of_ble_eq_true rfl)) dL_act_396 ⟨(Nat.zero_le _), (Nat.zero_le _)⟩) hS (fun q _ h => h.elim) (fun q h => h.elim) (fun r u t H1 locs ht hvm hw hB1 hz1 hk1 hS => ?_)
                    have hP := y_keptP hP hk1
                    generalize H1 = H at hP hS ⊢
                    refine y_topi (y := lowI (v >>> (5 &&& 31)) 300) hw ?_
                    refine lv_goto (tgt := 412) hx hb dL_act_399 (by decide) ?_
                    exact K412 H locs _ ⟨(by unfold aSet; rw [if_neg c_14]), hP, hS⟩
              · refine lv_aload_n hx hb dL_act_346 rfl (lv_at hl 4 rfl) ?_
                refine lv_bipush (v := 6) hx hb dL_act_347 (by decide) ?_
                refine lv_iload hx hb dL_act_349 (lv_at hl 1 rfl) ?_
                refine lv_iload_n hx hb dL_act_351 rfl (lv_at hl 3 rfl) ?_
                refine y_cut 375 ls [.int (aSel v), .int 6, .ref h0] (fun H locs b => b = aKd v ∧ va_P (dC, dI) vwCl (WC cI cF h0 q a jc js jv k (capOf (nn (a 0 4)))) H ∧ va_S A s.heap H locs) (fun H locs b hI9 => ?_) (fun K375 => ?_)
                · obtain ⟨rfl, hP, hS⟩ := hI9
                  refine lv_iload hx hb dL_act_375 (lv_at hl 0 rfl) ?_
                  have hP : va_P (dC, dI) vwCl (WC cI cF h0 q a jc js jv k (capOf (nn (a 0 4)))) H := hP
                  have hD : va_D A (WC cI cF h0 q a jc js jv k (capOf (nn (a 0 4)))) := hD
                  have hFc := y_free hD hS hA
                  refine va_calli (vx_runSW (As := [.ref h0, .int 6, .int (aSel v), .int (aKd v), .int (aAm v)]) (rest := []) ⟨hx, hb, hml, hown, hts⟩ (c_L_does l dC dI cI cF h0 q H.size a jc js jv k hst hC hI hn 6 (aSel v) (aKd v) (aAm v)) (vx_cwSW 5 hts gL_act_L_does rfl rfl rfl (by decide +kernel) ⟨Nat.le_of_ble_eq_true rfl, Nat.le_of_ble_eq_true rfl⟩) ⟨pcH_blind, fun U hU hW => pcH_pre hP hD hK hV hN hS hFc hU hW⟩ rfl rfl hl.1 rfl (lv_room (Nat.le_of_ble_eq_true rfl)) dL_act_377 ⟨Nat.le_of_ble_eq_true rfl, Nat.le_of_ble_eq_true rfl⟩) hS (fun q _ h => hFc q h) hFc (fun r u t H1 locs ht hvm hw hB1 hz1 hk1 hS => ?_)
                  obtain ⟨qy, jcy, jsy, jvy, ky, hCy, hPy, hKy, hDy⟩ := hB1
                  rw [ht] at hPy
                  have hP : va_P (dC, dI) vwCl (WC cI cF h0 qy (dT a 6 (aSel v) (aKd v) (aAm v)) jcy jsy jvy ky (capOf (nn ((dT a 6 (aSel v) (aKd v) (aAm v)) 0 4)))) _ := hPy
                  have hD : va_D A (WC cI cF h0 qy (dT a 6 (aSel v) (aKd v) (aAm v)) jcy jsy jvy ky (capOf (nn ((dT a 6 (aSel v) (aKd v) (aAm v)) 0 4)))) := hDy.weaken (fun kk qq _ h => hFc qq.1 h)
                  generalize H1 = H at hP hS ⊢
                  have eA : actA a v = dA a 6 (aSel v) (aKd v) (aAm v) := by unfold actA; rw [if_neg (Int32.not_lt.mpr c_1), if_neg (Int32.not_lt.mpr c_2), if_pos (Int32.not_le.mp c_3), if_pos (Int32.not_le.mp c_13)]
                  have eT : actT a v = dT a 6 (aSel v) (aKd v) (aAm v) := by unfold actT; rw [if_neg (Int32.not_lt.mpr c_1), if_neg (Int32.not_lt.mpr c_2), if_pos (Int32.not_le.mp c_3), if_pos (Int32.not_le.mp c_13)]
                  refine lv_goto (tgt := 423) hx hb dL_act_380 (by decide) ?_
                  refine W.widen (k := 1026) (n := 6156) (Nat.le_of_ble_eq_true rfl) (Nat.le_of_ble_eq_true rfl) ?_
                  have hP9 := hP
                  have hD9 := hD
                  have hK9 := hK
                  exact W.iret (v := r) hx hb hr (fun t ht hW => ⟨⟨r, (), rfl, hw.trans eA.symm, atC_e eT hCy (atW_end hP9 hD9 hK9 ht hW)⟩, hS.F ht⟩) hS.2.2 dL_act_423
                · refine lv_if_eq (tgt := 369) hx hb dL_act_352 (by decide) (fun c_15 => ?_) (fun c_15 => ?_)
                  · refine lv_iload_n hx hb dL_act_369 rfl (lv_at hl 5 rfl) ?_
                    refine lv_bipush (v := 6) hx hb dL_act_370 (by decide) ?_
                    refine lv_ishr hx hb dL_act_372 ?_
                    refine lv_iconst (v := 3) hx hb dL_act_373 (by decide) ?_
                    refine lv_iand hx hb dL_act_374 ?_
                    exact K375 H locs _ ⟨(by unfold aKd; rw [if_pos c_15]), hP, hS⟩
                  · refine lv_iload_n hx hb dL_act_355 rfl (lv_at hl 5 rfl) ?_
                    refine lv_bipush (v := 6) hx hb dL_act_356 (by decide) ?_
                    refine lv_ishr hx hb dL_act_358 ?_
                    refine lv_bipush (v := 6) hx hb dL_act_359 (by decide) ?_
                    refine va_calli (va_runS (As := [.int (v >>> (6 &&& 31)), .int 6]) (rest := [.int (aSel v), .int 6, .ref h0]) ⟨hx, hb, hml, hown, hts⟩ (c_L_low l (v >>> (6 &&& 31)) 6 (by decide)) (va_cwS 2 hts gL_act_L_low rfl rfl rfl (by decide +kernel) ⟨Nat.le_of_ble_eq_true rfl, Nat.le_of_ble_eq_true rfl⟩) ⟨pcT_blind, fun U hU hW => pcT_pre⟩ rfl rfl hl.1 rfl (lv_room (Nat.le_of_ble_eq_true rfl)) dL_act_361 ⟨(Nat.zero_le _), (Nat.zero_le _)⟩) hS (fun q _ h => h.elim) (fun q h => h.elim) (fun r u t H1 locs ht hvm hw hB1 hz1 hk1 hS => ?_)
                    have hP := y_keptP hP hk1
                    generalize H1 = H at hP hS ⊢
                    refine y_topi (y := lowI (v >>> (6 &&& 31)) 6) hw ?_
                    refine lv_iconst (v := 1) hx hb dL_act_364 (by decide) ?_
                    refine lv_isub hx hb dL_act_365 ?_
                    refine lv_goto (tgt := 375) hx hb dL_act_366 (by decide) ?_
                    exact K375 H locs _ ⟨(by unfold aKd; rw [if_neg c_15]), hP, hS⟩
            · refine lv_if_eq (tgt := 312) hx hb dL_act_297 (by decide) (fun c_16 => ?_) (fun c_16 => ?_)
              · refine lv_iconst (v := 1) hx hb dL_act_312 (by decide) ?_
                refine lv_iload_n hx hb dL_act_313 rfl (lv_at hl 4 rfl) ?_
                refine lv_bipush (v := 8) hx hb dL_act_314 (by decide) ?_
                refine lv_ishr hx hb dL_act_316 ?_
                refine lv_iload_n hx hb dL_act_317 rfl (lv_at hl 4 rfl) ?_
                refine lv_bipush (v := 18) hx hb dL_act_318 (by decide) ?_
                refine lv_ishr hx hb dL_act_320 ?_
                refine lv_iconst (v := 1) hx hb dL_act_321 (by decide) ?_
                refine lv_iand hx hb dL_act_322 ?_
                refine y_cut 334 ls [.int (v >>> (8 &&& 31)), .int 1] (fun H locs b => b = (if (v >>> (18 &&& 31)) &&& 1 = 0 then 1000000 else 30000) ∧ va_P (dC, dI) vwCl (WC cI cF h0 q a jc js jv k (capOf (nn (a 0 4)))) H ∧ va_S A s.heap H locs) (fun H locs b hI9 => ?_) (fun K334 => ?_)
                · obtain ⟨rfl, hP, hS⟩ := hI9
                  refine va_calli (va_runS (As := [.int (v >>> (8 &&& 31)), .int (if (v >>> (18 &&& 31)) &&& 1 = 0 then 1000000 else 30000)]) (rest := [.int 1]) ⟨hx, hb, hml, hown, hts⟩ (c_L_low l (v >>> (8 &&& 31)) (if (v >>> (18 &&& 31)) &&& 1 = 0 then 1000000 else 30000) (by split <;> decide)) (va_cwS 2 hts gL_act_L_low rfl rfl rfl (by decide +kernel) ⟨Nat.le_of_ble_eq_true rfl, Nat.le_of_ble_eq_true rfl⟩) ⟨pcT_blind, fun U hU hW => pcT_pre⟩ rfl rfl hl.1 rfl (lv_room (Nat.le_of_ble_eq_true rfl)) dL_act_334 ⟨(Nat.zero_le _), (Nat.zero_le _)⟩) hS (fun q _ h => h.elim) (fun q h => h.elim) (fun r u t H1 locs ht hvm hw hB1 hz1 hk1 hS => ?_)
                  have hP := y_keptP hP hk1
                  generalize H1 = H at hP hS ⊢
                  refine y_topi (y := lowI (v >>> (8 &&& 31)) (if (v >>> (18 &&& 31)) &&& 1 = 0 then 1000000 else 30000)) hw ?_
                  refine lv_iadd hx hb dL_act_337 ?_
                  exact K338 H locs _ ⟨(by unfold aAm; rw [if_pos c_16]), hP, hS⟩
                · refine lv_if_ne (tgt := 331) hx hb dL_act_323 (by decide) (fun c_17 => ?_) (fun c_17 => ?_)
                  · refine lv_sipush (v := 30000) hx hb dL_act_331 (by decide) ?_
                    exact K334 H locs _ ⟨(by rw [if_neg c_17]), hP, hS⟩
                  · refine lv_ldc hx hb hown (hts (.constant RL 72 (1000000)) (List.mem_of_getElem? (i := 2) rfl)) dL_act_326 ?_
                    refine lv_goto (tgt := 334) hx hb dL_act_328 (by decide) ?_
                    exact K334 H locs _ ⟨(by rw [if_pos c_17]), hP, hS⟩
              · refine lv_iload_n hx hb dL_act_300 rfl (lv_at hl 4 rfl) ?_
                refine lv_bipush (v := 8) hx hb dL_act_301 (by decide) ?_
                refine lv_ishr hx hb dL_act_303 ?_
                refine lv_ldc hx hb hown (hts (.constant RL 71 (1100000)) (List.mem_of_getElem? (i := 1) rfl)) dL_act_304 ?_
                refine va_calli (va_runS (As := [.int (v >>> (8 &&& 31)), .int 1100000]) (rest := []) ⟨hx, hb, hml, hown, hts⟩ (c_L_low l (v >>> (8 &&& 31)) 1100000 (by decide)) (va_cwS 2 hts gL_act_L_low rfl rfl rfl (by decide +kernel) ⟨Nat.le_of_ble_eq_true rfl, Nat.le_of_ble_eq_true rfl⟩) ⟨pcT_blind, fun U hU hW => pcT_pre⟩ rfl rfl hl.1 rfl (lv_room (Nat.le_of_ble_eq_true rfl)) dL_act_306 ⟨(Nat.zero_le _), (Nat.zero_le _)⟩) hS (fun q _ h => h.elim) (fun q h => h.elim) (fun r u t H1 locs ht hvm hw hB1 hz1 hk1 hS => ?_)
                have hP := y_keptP hP hk1
                generalize H1 = H at hP hS ⊢
                refine y_topi (y := lowI (v >>> (8 &&& 31)) 1100000) hw ?_
                refine lv_goto (tgt := 338) hx hb dL_act_309 (by decide) ?_
                exact K338 H locs _ ⟨(by unfold aAm; rw [if_neg c_16]), hP, hS⟩
        · refine lv_iload_n hx hb dL_act_86 rfl (lv_at hl 1 rfl) ?_
          refine lv_iconst (v := 5) hx hb dL_act_87 (by decide) ?_
          refine y_cut 98 ls [] (fun H locs b => b = aWhat v ∧ va_P (dC, dI) vwCl (WC cI cF h0 q a jc js jv k (capOf (nn (a 0 4)))) H ∧ va_S A s.heap H locs) (fun H locs b hI9 => ?_) (fun K98 => ?_)
          · obtain ⟨rfl, hP, hS⟩ := hI9
            refine lv_istore (lv' := [(5, .int (aWhat v)), (4, .int (aSel v)), (3, .int (aHow v)), (2, .int (aOdd v)), (0, .ref h0), (1, .int v)]) hx hb dL_act_98 hl (by decide) rfl (fun ls hl => ?_)
            refine lv_iload hx hb dL_act_100 (lv_at hl 0 rfl) ?_
            refine lv_iconst (v := 1) hx hb dL_act_102 (by decide) ?_
            refine y_cut 172 ls [] (fun H locs b => b = aB v (aWhat v) ∧ va_P (dC, dI) vwCl (WC cI cF h0 q a jc js jv k (capOf (nn (a 0 4)))) H ∧ va_S A s.heap H locs) (fun H locs b hI9 => ?_) (fun K172 => ?_)
            · obtain ⟨rfl, hP, hS⟩ := hI9
              refine lv_istore (lv' := [(6, .int (aB v (aWhat v))), (5, .int (aWhat v)), (4, .int (aSel v)), (3, .int (aHow v)), (2, .int (aOdd v)), (0, .ref h0), (1, .int v)]) hx hb dL_act_172 hl (by decide) rfl (fun ls hl => ?_)
              refine lv_iload hx hb dL_act_174 (lv_at hl 1 rfl) ?_
              refine lv_iconst (v := 2) hx hb dL_act_176 (by decide) ?_
              refine y_cut 232 ls [] (fun H locs b => b = aC v (aWhat v) ∧ va_P (dC, dI) vwCl (WC cI cF h0 q a jc js jv k (capOf (nn (a 0 4)))) H ∧ va_S A s.heap H locs) (fun H locs b hI9 => ?_) (fun K232 => ?_)
              · obtain ⟨rfl, hP, hS⟩ := hI9
                refine lv_istore (lv' := [(7, .int (aC v (aWhat v))), (6, .int (aB v (aWhat v))), (5, .int (aWhat v)), (4, .int (aSel v)), (3, .int (aHow v)), (2, .int (aOdd v)), (0, .ref h0), (1, .int v)]) hx hb dL_act_232 hl (by decide) rfl (fun ls hl => ?_)
                refine lv_aload_n hx hb dL_act_234 rfl (lv_at hl 6 rfl) ?_
                refine lv_iload hx hb dL_act_235 (lv_at hl 2 rfl) ?_
                refine lv_iload hx hb dL_act_237 (lv_at hl 2 rfl) ?_
                refine lv_iconst (v := 4) hx hb dL_act_239 (by decide) ?_
                refine y_cut 282 ls [.int (aWhat v), .ref h0] (fun H locs b => b = aX v (aWhat v) ∧ va_P (dC, dI) vwCl (WC cI cF h0 q a jc js jv k (capOf (nn (a 0 4)))) H ∧ va_S A s.heap H locs) (fun H locs b hI9 => ?_) (fun K282 => ?_)
                · obtain ⟨rfl, hP, hS⟩ := hI9
                  refine lv_iload hx hb dL_act_282 (lv_at hl 1 rfl) ?_
                  refine lv_iload hx hb dL_act_284 (lv_at hl 0 rfl) ?_
                  have hP : va_P (dC, dI) vwCl (WC cI cF h0 q a jc js jv k (capOf (nn (a 0 4)))) H := hP
                  have hD : va_D A (WC cI cF h0 q a jc js jv k (capOf (nn (a 0 4)))) := hD
                  have hFc := y_free hD hS hA
                  refine va_calli (vx_runSW (As := [.ref h0, .int (aWhat v), .int (aX v (aWhat v)), .int (aB v (aWhat v)), .int (aC v (aWhat v))]) (rest := []) ⟨hx, hb, hml, hown, hts⟩ (c_L_does l dC dI cI cF h0 q H.size a jc js jv k hst hC hI hn (aWhat v) (aX v (aWhat v)) (aB v (aWhat v)) (aC v (aWhat v))) (vx_cwSW 5 hts gL_act_L_does rfl rfl rfl (by decide +kernel) ⟨Nat.le_of_ble_eq_true rfl, Nat.le_of_ble_eq_true rfl⟩) ⟨pcH_blind, fun U hU hW => pcH_pre hP hD hK hV hN hS hFc hU hW⟩ rfl rfl hl.1 rfl (lv_room (Nat.le_of_ble_eq_true rfl)) dL_act_286 ⟨Nat.le_of_ble_eq_true rfl, Nat.le_of_ble_eq_true rfl⟩) hS (fun q _ h => hFc q h) hFc (fun r u t H1 locs ht hvm hw hB1 hz1 hk1 hS => ?_)
                  obtain ⟨qy, jcy, jsy, jvy, ky, hCy, hPy, hKy, hDy⟩ := hB1
                  rw [ht] at hPy
                  have hP : va_P (dC, dI) vwCl (WC cI cF h0 qy (dT a (aWhat v) (aX v (aWhat v)) (aB v (aWhat v)) (aC v (aWhat v))) jcy jsy jvy ky (capOf (nn ((dT a (aWhat v) (aX v (aWhat v)) (aB v (aWhat v)) (aC v (aWhat v))) 0 4)))) _ := hPy
                  have hD : va_D A (WC cI cF h0 qy (dT a (aWhat v) (aX v (aWhat v)) (aB v (aWhat v)) (aC v (aWhat v))) jcy jsy jvy ky (capOf (nn ((dT a (aWhat v) (aX v (aWhat v)) (aB v (aWhat v)) (aC v (aWhat v))) 0 4)))) := hDy.weaken (fun kk qq _ h => hFc qq.1 h)
                  generalize H1 = H at hP hS ⊢
                  have eA : actA a v = dA a (aWhat v) (aX v (aWhat v)) (aB v (aWhat v)) (aC v (aWhat v)) := by unfold actA; rw [if_neg (Int32.not_lt.mpr c_1), if_pos (Int32.not_le.mp c_2)]
                  have eT : actT a v = dT a (aWhat v) (aX v (aWhat v)) (aB v (aWhat v)) (aC v (aWhat v)) := by unfold actT; rw [if_neg (Int32.not_lt.mpr c_1), if_pos (Int32.not_le.mp c_2)]
                  refine W.widen (k := 1026) (n := 6156) (Nat.le_of_ble_eq_true rfl) (Nat.le_of_ble_eq_true rfl) ?_
                  have hP9 := hP
                  have hD9 := hD
                  have hK9 := hK
                  exact W.iret (v := r) hx hb hr (fun t ht hW => ⟨⟨r, (), rfl, hw.trans eA.symm, atC_e eT hCy (atW_end hP9 hD9 hK9 ht hW)⟩, hS.F ht⟩) hS.2.2 dL_act_289
                · refine lv_icmp_ne (tgt := 251) hx hb dL_act_240 (by decide) (fun c_18 => ?_) (fun c_18 => ?_)
                  · refine lv_iload hx hb dL_act_251 (lv_at hl 2 rfl) ?_
                    refine lv_iconst (v := 5) hx hb dL_act_253 (by decide) ?_
                    refine lv_icmp_ne (tgt := 280) hx hb dL_act_254 (by decide) (fun c_19 => ?_) (fun c_19 => ?_)
                    · refine lv_iload hx hb dL_act_280 (lv_at hl 3 rfl) ?_
                      exact K282 H locs _ ⟨(by unfold aX; rw [if_neg c_18, if_neg c_19]), hP, hS⟩
                    · refine lv_iload_n hx hb dL_act_257 rfl (lv_at hl 7 rfl) ?_
                      refine lv_bipush (v := 9) hx hb dL_act_258 (by decide) ?_
                      refine lv_ishr hx hb dL_act_260 ?_
                      refine lv_iload_n hx hb dL_act_261 rfl (lv_at hl 5 rfl) ?_
                      refine y_cut 274 ls [.int (v >>> (9 &&& 31)), .int (aWhat v), .ref h0] (fun H locs b => b = (if aOdd v = 0 then 300 else 600) ∧ va_P (dC, dI) vwCl (WC cI cF h0 q a jc js jv k (capOf (nn (a 0 4)))) H ∧ va_S A s.heap H locs) (fun H locs b hI9 => ?_) (fun K274 => ?_)
                      · obtain ⟨rfl, hP, hS⟩ := hI9
                        refine va_calli (va_runS (As := [.int (v >>> (9 &&& 31)), .int (if aOdd v = 0 then 300 else 600)]) (rest := [.int (aWhat v), .ref h0]) ⟨hx, hb, hml, hown, hts⟩ (c_L_low l (v >>> (9 &&& 31)) (if aOdd v = 0 then 300 else 600) (by split <;> decide)) (va_cwS 2 hts gL_act_L_low rfl rfl rfl (by decide +kernel) ⟨Nat.le_of_ble_eq_true rfl, Nat.le_of_ble_eq_true rfl⟩) ⟨pcT_blind, fun U hU hW => pcT_pre⟩ rfl rfl hl.1 rfl (lv_room (Nat.le_of_ble_eq_true rfl)) dL_act_274 ⟨(Nat.zero_le _), (Nat.zero_le _)⟩) hS (fun q _ h => h.elim) (fun q h => h.elim) (fun r u t H1 locs ht hvm hw hB1 hz1 hk1 hS => ?_)
                        have hP := y_keptP hP hk1
                        generalize H1 = H at hP hS ⊢
                        refine y_topi (y := lowI (v >>> (9 &&& 31)) (if aOdd v = 0 then 300 else 600)) hw ?_
                        refine lv_goto (tgt := 282) hx hb dL_act_277 (by decide) ?_
                        exact K282 H locs _ ⟨(by unfold aX; rw [if_neg c_18, if_pos c_19]), hP, hS⟩
                      · refine lv_if_eq (tgt := 271) hx hb dL_act_262 (by decide) (fun c_20 => ?_) (fun c_20 => ?_)
                        · refine lv_sipush (v := 300) hx hb dL_act_271 (by decide) ?_
                          exact K274 H locs _ ⟨(by rw [if_pos c_20]), hP, hS⟩
                        · refine lv_sipush (v := 600) hx hb dL_act_265 (by decide) ?_
                          refine lv_goto (tgt := 274) hx hb dL_act_268 (by decide) ?_
                          exact K274 H locs _ ⟨(by rw [if_neg c_20]), hP, hS⟩
                  · refine lv_iload_n hx hb dL_act_243 rfl (lv_at hl 7 rfl) ?_
                    refine lv_iconst (v := 5) hx hb dL_act_244 (by decide) ?_
                    refine lv_ishr hx hb dL_act_245 ?_
                    refine lv_iconst (v := 3) hx hb dL_act_246 (by decide) ?_
                    refine lv_iand hx hb dL_act_247 ?_
                    refine lv_goto (tgt := 282) hx hb dL_act_248 (by decide) ?_
                    exact K282 H locs _ ⟨(by unfold aX; rw [if_pos c_18]), hP, hS⟩
              · refine lv_icmp_ne (tgt := 204) hx hb dL_act_177 (by decide) (fun c_21 => ?_) (fun c_21 => ?_)
                · refine lv_iload_n hx hb dL_act_204 rfl (lv_at hl 4 rfl) ?_
                  refine lv_if_eq (tgt := 221) hx hb dL_act_205 (by decide) (fun c_22 => ?_) (fun c_22 => ?_)
                  · refine lv_iconst (v := 1) hx hb dL_act_221 (by decide) ?_
                    refine lv_iload_n hx hb dL_act_222 rfl (lv_at hl 6 rfl) ?_
                    refine lv_bipush (v := 11) hx hb dL_act_223 (by decide) ?_
                    refine lv_ishr hx hb dL_act_225 ?_
                    refine lv_bipush (v := 14) hx hb dL_act_226 (by decide) ?_
                    refine va_calli (va_runS (As := [.int (v >>> (11 &&& 31)), .int 14]) (rest := [.int 1]) ⟨hx, hb, hml, hown, hts⟩ (c_L_low l (v >>> (11 &&& 31)) 14 (by decide)) (va_cwS 2 hts gL_act_L_low rfl rfl rfl (by decide +kernel) ⟨Nat.le_of_ble_eq_true rfl, Nat.le_of_ble_eq_true rfl⟩) ⟨pcT_blind, fun U hU hW => pcT_pre⟩ rfl rfl hl.1 rfl (lv_room (Nat.le_of_ble_eq_true rfl)) dL_act_228 ⟨(Nat.zero_le _), (Nat.zero_le _)⟩) hS (fun q _ h => h.elim) (fun q h => h.elim) (fun r u t H1 locs ht hvm hw hB1 hz1 hk1 hS => ?_)
                    have hP := y_keptP hP hk1
                    generalize H1 = H at hP hS ⊢
                    refine y_topi (y := lowI (v >>> (11 &&& 31)) 14) hw ?_
                    refine lv_iadd hx hb dL_act_231 ?_
                    exact K232 H locs _ ⟨(by unfold aC; rw [if_neg c_21, if_pos c_22]), hP, hS⟩
                  · refine lv_iload_n hx hb dL_act_208 rfl (lv_at hl 6 rfl) ?_
                    refine lv_bipush (v := 11) hx hb dL_act_209 (by decide) ?_
                    refine lv_ishr hx hb dL_act_211 ?_
                    refine lv_sipush (v := 200) hx hb dL_act_212 (by decide) ?_
                    refine va_calli (va_runS (As := [.int (v >>> (11 &&& 31)), .int 200]) (rest := []) ⟨hx, hb, hml, hown, hts⟩ (c_L_low l (v >>> (11 &&& 31)) 200 (by decide)) (va_cwS 2 hts gL_act_L_low rfl rfl rfl (by decide +kernel) ⟨Nat.le_of_ble_eq_true rfl, Nat.le_of_ble_eq_true rfl⟩) ⟨pcT_blind, fun U hU hW => pcT_pre⟩ rfl rfl hl.1 rfl (lv_room (Nat.le_of_ble_eq_true rfl)) dL_act_215 ⟨(Nat.zero_le _), (Nat.zero_le _)⟩) hS (fun q _ h => h.elim) (fun q h => h.elim) (fun r u t H1 locs ht hvm hw hB1 hz1 hk1 hS => ?_)
                    have hP := y_keptP hP hk1
                    generalize H1 = H at hP hS ⊢
                    refine y_topi (y := lowI (v >>> (11 &&& 31)) 200) hw ?_
                    refine lv_goto (tgt := 232) hx hb dL_act_218 (by decide) ?_
                    exact K232 H locs _ ⟨(by unfold aC; rw [if_neg c_21, if_neg c_22]), hP, hS⟩
                · refine lv_iconst (v := 1) hx hb dL_act_180 (by decide) ?_
                  refine lv_iload_n hx hb dL_act_181 rfl (lv_at hl 6 rfl) ?_
                  refine lv_bipush (v := 11) hx hb dL_act_182 (by decide) ?_
                  refine lv_ishr hx hb dL_act_184 ?_
                  refine lv_iload_n hx hb dL_act_185 rfl (lv_at hl 4 rfl) ?_
                  refine y_cut 197 ls [.int (v >>> (11 &&& 31)), .int 1] (fun H locs b => b = (if aOdd v = 0 then 20000 else 1100000) ∧ va_P (dC, dI) vwCl (WC cI cF h0 q a jc js jv k (capOf (nn (a 0 4)))) H ∧ va_S A s.heap H locs) (fun H locs b hI9 => ?_) (fun K197 => ?_)
                  · obtain ⟨rfl, hP, hS⟩ := hI9
                    refine va_calli (va_runS (As := [.int (v >>> (11 &&& 31)), .int (if aOdd v = 0 then 20000 else 1100000)]) (rest := [.int 1]) ⟨hx, hb, hml, hown, hts⟩ (c_L_low l (v >>> (11 &&& 31)) (if aOdd v = 0 then 20000 else 1100000) (by split <;> decide)) (va_cwS 2 hts gL_act_L_low rfl rfl rfl (by decide +kernel) ⟨Nat.le_of_ble_eq_true rfl, Nat.le_of_ble_eq_true rfl⟩) ⟨pcT_blind, fun U hU hW => pcT_pre⟩ rfl rfl hl.1 rfl (lv_room (Nat.le_of_ble_eq_true rfl)) dL_act_197 ⟨(Nat.zero_le _), (Nat.zero_le _)⟩) hS (fun q _ h => h.elim) (fun q h => h.elim) (fun r u t H1 locs ht hvm hw hB1 hz1 hk1 hS => ?_)
                    have hP := y_keptP hP hk1
                    generalize H1 = H at hP hS ⊢
                    refine y_topi (y := lowI (v >>> (11 &&& 31)) (if aOdd v = 0 then 20000 else 1100000)) hw ?_
                    refine lv_iadd hx hb dL_act_200 ?_
                    refine lv_goto (tgt := 232) hx hb dL_act_201 (by decide) ?_
                    exact K232 H locs _ ⟨(by unfold aC; rw [if_pos c_21]), hP, hS⟩
                  · refine lv_if_eq (tgt := 194) hx hb dL_act_186 (by decide) (fun c_23 => ?_) (fun c_23 => ?_)
                    · refine lv_sipush (v := 20000) hx hb dL_act_194 (by decide) ?_
                      exact K197 H locs _ ⟨(by rw [if_pos c_23]), hP, hS⟩
                    · refine lv_ldc hx hb hown (hts (.constant RL 71 (1100000)) (List.mem_of_getElem? (i := 1) rfl)) dL_act_189 ?_
                      refine lv_goto (tgt := 197) hx hb dL_act_191 (by decide) ?_
                      exact K197 H locs _ ⟨(by rw [if_neg c_23]), hP, hS⟩
            · refine lv_icmp_ne (tgt := 125) hx hb dL_act_103 (by decide) (fun c_24 => ?_) (fun c_24 => ?_)
              · refine lv_iload hx hb dL_act_125 (lv_at hl 0 rfl) ?_
                refine lv_iconst (v := 2) hx hb dL_act_127 (by decide) ?_
                refine lv_icmp_ne (tgt := 152) hx hb dL_act_128 (by decide) (fun c_25 => ?_) (fun c_25 => ?_)
                · refine lv_iload_n hx hb dL_act_152 rfl (lv_at hl 5 rfl) ?_
                  refine lv_bipush (v := 9) hx hb dL_act_153 (by decide) ?_
                  refine lv_ishr hx hb dL_act_155 ?_
                  refine lv_iload_n hx hb dL_act_156 rfl (lv_at hl 3 rfl) ?_
                  refine y_cut 169 ls [.int (v >>> (9 &&& 31))] (fun H locs b => b = (if aOdd v = 0 then 500 else 1100) ∧ va_P (dC, dI) vwCl (WC cI cF h0 q a jc js jv k (capOf (nn (a 0 4)))) H ∧ va_S A s.heap H locs) (fun H locs b hI9 => ?_) (fun K169 => ?_)
                  · obtain ⟨rfl, hP, hS⟩ := hI9
                    refine va_calli (va_runS (As := [.int (v >>> (9 &&& 31)), .int (if aOdd v = 0 then 500 else 1100)]) (rest := []) ⟨hx, hb, hml, hown, hts⟩ (c_L_low l (v >>> (9 &&& 31)) (if aOdd v = 0 then 500 else 1100) (by split <;> decide)) (va_cwS 2 hts gL_act_L_low rfl rfl rfl (by decide +kernel) ⟨Nat.le_of_ble_eq_true rfl, Nat.le_of_ble_eq_true rfl⟩) ⟨pcT_blind, fun U hU hW => pcT_pre⟩ rfl rfl hl.1 rfl (lv_room (Nat.le_of_ble_eq_true rfl)) dL_act_169 ⟨(Nat.zero_le _), (Nat.zero_le _)⟩) hS (fun q _ h => h.elim) (fun q h => h.elim) (fun r u t H1 locs ht hvm hw hB1 hz1 hk1 hS => ?_)
                    have hP := y_keptP hP hk1
                    generalize H1 = H at hP hS ⊢
                    refine y_topi (y := lowI (v >>> (9 &&& 31)) (if aOdd v = 0 then 500 else 1100)) hw ?_
                    exact K172 H locs _ ⟨(by unfold aB; rw [if_neg c_24, if_neg c_25]), hP, hS⟩
                  · refine lv_if_eq (tgt := 166) hx hb dL_act_157 (by decide) (fun c_26 => ?_) (fun c_26 => ?_)
                    · refine lv_sipush (v := 500) hx hb dL_act_166 (by decide) ?_
                      exact K169 H locs _ ⟨(by rw [if_pos c_26]), hP, hS⟩
                    · refine lv_sipush (v := 1100) hx hb dL_act_160 (by decide) ?_
                      refine lv_goto (tgt := 169) hx hb dL_act_163 (by decide) ?_
                      exact K169 H locs _ ⟨(by rw [if_neg c_26]), hP, hS⟩
                · refine lv_iload_n hx hb dL_act_131 rfl (lv_at hl 5 rfl) ?_
                  refine lv_bipush (v := 9) hx hb dL_act_132 (by decide) ?_
                  refine lv_ishr hx hb dL_act_134 ?_
                  refine lv_iload_n hx hb dL_act_135 rfl (lv_at hl 3 rfl) ?_
                  refine y_cut 146 ls [.int (v >>> (9 &&& 31))] (fun H locs b => b = (if aOdd v = 0 then 7 else 9) ∧ va_P (dC, dI) vwCl (WC cI cF h0 q a jc js jv k (capOf (nn (a 0 4)))) H ∧ va_S A s.heap H locs) (fun H locs b hI9 => ?_) (fun K146 => ?_)
                  · obtain ⟨rfl, hP, hS⟩ := hI9
                    refine va_calli (va_runS (As := [.int (v >>> (9 &&& 31)), .int (if aOdd v = 0 then 7 else 9)]) (rest := []) ⟨hx, hb, hml, hown, hts⟩ (c_L_low l (v >>> (9 &&& 31)) (if aOdd v = 0 then 7 else 9) (by split <;> decide)) (va_cwS 2 hts gL_act_L_low rfl rfl rfl (by decide +kernel) ⟨Nat.le_of_ble_eq_true rfl, Nat.le_of_ble_eq_true rfl⟩) ⟨pcT_blind, fun U hU hW => pcT_pre⟩ rfl rfl hl.1 rfl (lv_room (Nat.le_of_ble_eq_true rfl)) dL_act_146 ⟨(Nat.zero_le _), (Nat.zero_le _)⟩) hS (fun q _ h => h.elim) (fun q h => h.elim) (fun r u t H1 locs ht hvm hw hB1 hz1 hk1 hS => ?_)
                    have hP := y_keptP hP hk1
                    generalize H1 = H at hP hS ⊢
                    refine y_topi (y := lowI (v >>> (9 &&& 31)) (if aOdd v = 0 then 7 else 9)) hw ?_
                    refine lv_goto (tgt := 172) hx hb dL_act_149 (by decide) ?_
                    exact K172 H locs _ ⟨(by unfold aB; rw [if_neg c_24, if_pos c_25]), hP, hS⟩
                  · refine lv_if_eq (tgt := 144) hx hb dL_act_136 (by decide) (fun c_27 => ?_) (fun c_27 => ?_)
                    · refine lv_bipush (v := 7) hx hb dL_act_144 (by decide) ?_
                      exact K146 H locs _ ⟨(by rw [if_pos c_27]), hP, hS⟩
                    · refine lv_bipush (v := 9) hx hb dL_act_139 (by decide) ?_
                      refine lv_goto (tgt := 146) hx hb dL_act_141 (by decide) ?_
                      exact K146 H locs _ ⟨(by rw [if_neg c_27]), hP, hS⟩
              · refine lv_iload_n hx hb dL_act_106 rfl (lv_at hl 5 rfl) ?_
                refine lv_bipush (v := 9) hx hb dL_act_107 (by decide) ?_
                refine lv_ishr hx hb dL_act_109 ?_
                refine lv_iload_n hx hb dL_act_110 rfl (lv_at hl 3 rfl) ?_
                refine y_cut 119 ls [.int (v >>> (9 &&& 31))] (fun H locs b => b = (if aOdd v = 0 then 3 else 5) ∧ va_P (dC, dI) vwCl (WC cI cF h0 q a jc js jv k (capOf (nn (a 0 4)))) H ∧ va_S A s.heap H locs) (fun H locs b hI9 => ?_) (fun K119 => ?_)
                · obtain ⟨rfl, hP, hS⟩ := hI9
                  refine va_calli (va_runS (As := [.int (v >>> (9 &&& 31)), .int (if aOdd v = 0 then 3 else 5)]) (rest := []) ⟨hx, hb, hml, hown, hts⟩ (c_L_low l (v >>> (9 &&& 31)) (if aOdd v = 0 then 3 else 5) (by split <;> decide)) (va_cwS 2 hts gL_act_L_low rfl rfl rfl (by decide +kernel) ⟨Nat.le_of_ble_eq_true rfl, Nat.le_of_ble_eq_true rfl⟩) ⟨pcT_blind, fun U hU hW => pcT_pre⟩ rfl rfl hl.1 rfl (lv_room (Nat.le_of_ble_eq_true rfl)) dL_act_119 ⟨(Nat.zero_le _), (Nat.zero_le _)⟩) hS (fun q _ h => h.elim) (fun q h => h.elim) (fun r u t H1 locs ht hvm hw hB1 hz1 hk1 hS => ?_)
                  have hP := y_keptP hP hk1
                  generalize H1 = H at hP hS ⊢
                  refine y_topi (y := lowI (v >>> (9 &&& 31)) (if aOdd v = 0 then 3 else 5)) hw ?_
                  refine lv_goto (tgt := 172) hx hb dL_act_122 (by decide) ?_
                  exact K172 H locs _ ⟨(by unfold aB; rw [if_pos c_24]), hP, hS⟩
                · refine lv_if_eq (tgt := 118) hx hb dL_act_111 (by decide) (fun c_28 => ?_) (fun c_28 => ?_)
                  · refine lv_iconst (v := 3) hx hb dL_act_118 (by decide) ?_
                    exact K119 H locs _ ⟨(by rw [if_pos c_28]), hP, hS⟩
                  · refine lv_iconst (v := 5) hx hb dL_act_114 (by decide) ?_
                    refine lv_goto (tgt := 119) hx hb dL_act_115 (by decide) ?_
                    exact K119 H locs _ ⟨(by rw [if_neg c_28]), hP, hS⟩
          · refine lv_icmp_ge (tgt := 95) hx hb dL_act_88 (by decide) (fun c_29 => ?_) (fun c_29 => ?_)
            · refine lv_iload_n hx hb dL_act_95 rfl (lv_at hl 1 rfl) ?_
              refine lv_iconst (v := 3) hx hb dL_act_96 (by decide) ?_
              refine lv_isub hx hb dL_act_97 ?_
              exact K98 H locs _ ⟨(by unfold aWhat; rw [if_neg (Int32.not_lt.mpr c_29)]), hP, hS⟩
            · refine lv_iconst (v := 1) hx hb dL_act_91 (by decide) ?_
              refine lv_goto (tgt := 98) hx hb dL_act_92 (by decide) ?_
              exact K98 H locs _ ⟨(by unfold aWhat; rw [if_pos (Int32.not_le.mp c_29)]), hP, hS⟩
      · refine lv_aload_n hx hb dL_act_48 rfl (lv_at hl 3 rfl) ?_
        refine lv_iconst (v := 0) hx hb dL_act_49 (by decide) ?_
        refine lv_iload_n hx hb dL_act_50 rfl (lv_at hl 2 rfl) ?_
        refine y_cut 74 ls [.int 0, .ref h0] (fun H locs b => b = aOwn v ∧ va_P (dC, dI) vwCl (WC cI cF h0 q a jc js jv k (capOf (nn (a 0 4)))) H ∧ va_S A s.heap H locs) (fun H locs b hI9 => ?_) (fun K74 => ?_)
        · obtain ⟨rfl, hP, hS⟩ := hI9
          refine lv_iconst (v := 0) hx hb dL_act_74 (by decide) ?_
          refine lv_iconst (v := 0) hx hb dL_act_75 (by decide) ?_
          have hP : va_P (dC, dI) vwCl (WC cI cF h0 q a jc js jv k (capOf (nn (a 0 4)))) H := hP
          have hD : va_D A (WC cI cF h0 q a jc js jv k (capOf (nn (a 0 4)))) := hD
          have hFc := y_free hD hS hA
          refine va_calli (vx_runSW (As := [.ref h0, .int 0, .int (aOwn v), .int 0, .int 0]) (rest := []) ⟨hx, hb, hml, hown, hts⟩ (c_L_does l dC dI cI cF h0 q H.size a jc js jv k hst hC hI hn 0 (aOwn v) 0 0) (vx_cwSW 5 hts gL_act_L_does rfl rfl rfl (by decide +kernel) ⟨Nat.le_of_ble_eq_true rfl, Nat.le_of_ble_eq_true rfl⟩) ⟨pcH_blind, fun U hU hW => pcH_pre hP hD hK hV hN hS hFc hU hW⟩ rfl rfl hl.1 rfl (lv_room (Nat.le_of_ble_eq_true rfl)) dL_act_76 ⟨Nat.le_of_ble_eq_true rfl, Nat.le_of_ble_eq_true rfl⟩) hS (fun q _ h => hFc q h) hFc (fun r u t H1 locs ht hvm hw hB1 hz1 hk1 hS => ?_)
          obtain ⟨qy, jcy, jsy, jvy, ky, hCy, hPy, hKy, hDy⟩ := hB1
          rw [ht] at hPy
          have hP : va_P (dC, dI) vwCl (WC cI cF h0 qy (dT a 0 (aOwn v) 0 0) jcy jsy jvy ky (capOf (nn ((dT a 0 (aOwn v) 0 0) 0 4)))) _ := hPy
          have hD : va_D A (WC cI cF h0 qy (dT a 0 (aOwn v) 0 0) jcy jsy jvy ky (capOf (nn ((dT a 0 (aOwn v) 0 0) 0 4)))) := hDy.weaken (fun kk qq _ h => hFc qq.1 h)
          generalize H1 = H at hP hS ⊢
          have eA : actA a v = dA a 0 (aOwn v) 0 0 := by unfold actA; rw [if_pos (Int32.not_le.mp c_1)]
          have eT : actT a v = dT a 0 (aOwn v) 0 0 := by unfold actT; rw [if_pos (Int32.not_le.mp c_1)]
          refine W.widen (k := 1026) (n := 6156) (Nat.le_of_ble_eq_true rfl) (Nat.le_of_ble_eq_true rfl) ?_
          have hP9 := hP
          have hD9 := hD
          have hK9 := hK
          exact W.iret (v := r) hx hb hr (fun t ht hW => ⟨⟨r, (), rfl, hw.trans eA.symm, atC_e eT hCy (atW_end hP9 hD9 hK9 ht hW)⟩, hS.F ht⟩) hS.2.2 dL_act_79
        · refine lv_if_eq (tgt := 67) hx hb dL_act_51 (by decide) (fun c_30 => ?_) (fun c_30 => ?_)
          · refine lv_iload_n hx hb dL_act_67 rfl (lv_at hl 4 rfl) ?_
            refine lv_iconst (v := 5) hx hb dL_act_68 (by decide) ?_
            refine lv_ishr hx hb dL_act_69 ?_
            refine lv_iconst (v := 2) hx hb dL_act_70 (by decide) ?_
            refine va_calli (va_runS (As := [.int (v >>> (5 &&& 31)), .int 2]) (rest := [.int 0, .ref h0]) ⟨hx, hb, hml, hown, hts⟩ (c_L_low l (v >>> (5 &&& 31)) 2 (by decide)) (va_cwS 2 hts gL_act_L_low rfl rfl rfl (by decide +kernel) ⟨Nat.le_of_ble_eq_true rfl, Nat.le_of_ble_eq_true rfl⟩) ⟨pcT_blind, fun U hU hW => pcT_pre⟩ rfl rfl hl.1 rfl (lv_room (Nat.le_of_ble_eq_true rfl)) dL_act_71 ⟨(Nat.zero_le _), (Nat.zero_le _)⟩) hS (fun q _ h => h.elim) (fun q h => h.elim) (fun r u t H1 locs ht hvm hw hB1 hz1 hk1 hS => ?_)
            have hP := y_keptP hP hk1
            generalize H1 = H at hP hS ⊢
            refine y_topi (y := lowI (v >>> (5 &&& 31)) 2) hw ?_
            exact K74 H locs _ ⟨(by unfold aOwn; rw [if_pos c_30]), hP, hS⟩
          · refine lv_iload_n hx hb dL_act_54 rfl (lv_at hl 4 rfl) ?_
            refine lv_iconst (v := 5) hx hb dL_act_55 (by decide) ?_
            refine lv_ishr hx hb dL_act_56 ?_
            refine lv_bipush (v := 6) hx hb dL_act_57 (by decide) ?_
            refine va_calli (va_runS (As := [.int (v >>> (5 &&& 31)), .int 6]) (rest := [.int 0, .ref h0]) ⟨hx, hb, hml, hown, hts⟩ (c_L_low l (v >>> (5 &&& 31)) 6 (by decide)) (va_cwS 2 hts gL_act_L_low rfl rfl rfl (by decide +kernel) ⟨Nat.le_of_ble_eq_true rfl, Nat.le_of_ble_eq_true rfl⟩) ⟨pcT_blind, fun U hU hW => pcT_pre⟩ rfl rfl hl.1 rfl (lv_room (Nat.le_of_ble_eq_true rfl)) dL_act_59 ⟨(Nat.zero_le _), (Nat.zero_le _)⟩) hS (fun q _ h => h.elim) (fun q h => h.elim) (fun r u t H1 locs ht hvm hw hB1 hz1 hk1 hS => ?_)
            have hP := y_keptP hP hk1
            generalize H1 = H at hP hS ⊢
            refine y_topi (y := lowI (v >>> (5 &&& 31)) 6) hw ?_
            refine lv_iconst (v := 1) hx hb dL_act_62 (by decide) ?_
            refine lv_isub hx hb dL_act_63 ?_
            refine lv_goto (tgt := 74) hx hb dL_act_64 (by decide) ?_
            exact K74 H locs _ ⟨(by unfold aOwn; rw [if_neg c_30]), hP, hS⟩
    · refine lv_if_eq (tgt := 37) hx hb dL_act_29 (by decide) (fun c_31 => ?_) (fun c_31 => ?_)
      · refine lv_iconst (v := 4) hx hb dL_act_37 (by decide) ?_
        exact K38 H locs _ ⟨(by rw [if_pos c_31]), hP, hS⟩
      · refine lv_bipush (v := 10) hx hb dL_act_32 (by decide) ?_
        refine lv_goto (tgt := 38) hx hb dL_act_34 (by decide) ?_
        exact K38 H locs _ ⟨(by rw [if_neg c_31]), hP, hS⟩
  · refine lv_if_ne (tgt := 16) hx hb dL_act_9 (by decide) (fun c_32 => ?_) (fun c_32 => ?_)
    · refine lv_iconst (v := 0) hx hb dL_act_16 (by decide) ?_
      exact K17 H locs _ ⟨(by unfold aOdd; rw [if_neg c_32]), hP, hS⟩
    · refine lv_iconst (v := 1) hx hb dL_act_12 (by decide) ?_
      refine lv_goto (tgt := 17) hx hb dL_act_13 (by decide) ?_
      exact K17 H locs _ ⟨(by unfold aOdd; rw [if_pos c_32]), hP, hS⟩
