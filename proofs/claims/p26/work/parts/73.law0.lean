/-! what the law's steps keep -/
theorem okX_mono {a : yA} {n : Nat} {m t m' t' : Int} (h : okX a n m t) (hm : m ≤ m') (ht : t ≤ t') : okX a n m' t' := by
  obtain ⟨g1, g2, f, s, h1, h2, h3, h4, h5⟩ := h
  refine ⟨g1, g2, f, s, h1, h2, by omega, by omega, Int.le_trans h5 (Int.mul_le_mul_of_nonneg_left (by omega) h1)⟩
theorem okX_dT {a : yA} {n : Nat} {m t : Int} (h : okX a n m t) (hn : n < 512) (how x y z : Int32) : okX (dT a how x y z) (n + 1) (m + 1) t := by
  by_cases hk : dK a how x y z = 0
  · rw [dT_y hk]; exact okX_do h hn hk
  · rw [dT_n hk]; exact okX_up h hn (by omega)
theorem okX_rT {a : yA} {n : Nat} {m t : Int} (h : okX a n m t) (hn : n < 512) (x am fb : Int32) : okX (rT a x am fb) (n + 1) (m + 1) t := by
  by_cases hk : kRef a x am = 0
  · rw [rT_y hk]; exact okX_ref h hn _ hk (by omega)
  · rw [rT_n hk]; exact okX_up h hn (by omega)
theorem dA_s {a : yA} {n : Nat} {m t : Int} (h : okX a n m t) (hn : n < 512) {how x y z : Int32} (e : dA a how x y z = -2000000001) : dT a how x y z = a := by
  by_cases hk : dK a how x y z = 0
  · rw [dA_y hk] at e; exact absurd e (dV_ne h hn hk)
  · exact dT_n hk
theorem rA_s {a : yA} {n : Nat} {m t : Int} (h : okX a n m t) (hn : n < 512) {x am fb : Int32} (e : rA a x am fb = -2000000001) : rT a x am fb = a := by
  by_cases hk : kRef a x am = 0
  · rw [rA_y hk] at e; exact absurd e (rV_ne h hn _ hk)
  · exact rT_n hk
theorem okX_act {a : yA} {n : Nat} {m t : Int} (h : okX a n m t) (hn : n < 512) (v : Int32) : okX (actT a v) (n + 1) (m + 1) t := by
  unfold actT
  repeat' split
  all_goals first | exact okX_dT h hn _ _ _ _ | exact okX_rT h hn _ _ _
theorem act_s {a : yA} {n : Nat} {m t : Int} (h : okX a n m t) (hn : n < 512) {v : Int32} (e : actA a v = -2000000001) : actT a v = a := by
  unfold actA at e
  unfold actT
  repeat' split at e
  all_goals simp only [*, if_true, if_false, if_pos, if_neg, not_false_eq_true, ite_true, ite_false]
  all_goals first | exact dA_s h hn e | exact rA_s h hn e
theorem okX_dayT {a : yA} {n : Nat} {m t : Int} (h : okX a n m t) (hn : n < 512) : okX (dT a 8 1 0 0) (n + 1) m t := by
  by_cases hk : dK a 8 1 0 0 = 0
  · rw [dT_y hk, dS8]
    rw [dK8] at hk
    obtain ⟨k1, k2, k3, k4, k5, k6⟩ := passA_all h.1 h.2.1 hn hk (nn 1) (Nat.le_refl _)
    exact okX_same h (okA_up k1 hn) k2 (sca_of k5) k6 (Int.le_refl _)
  · rw [dT_n hk]; exact okX_up h hn (Int.le_refl _)
theorem okX_zT {a : yA} {n : Nat} {m t : Int} (h : okX a n m t) (hn : n + 3 < 512) {x kd am : Int32} (ham : nn am ≤ 100000) : okX (zT a x kd am) (n + 3) m (t + 1) := by
  have up : okX a (n + 3) m (t + 1) := okX_mono (okX_up (okX_up (okX_up h (by omega) (Int.le_refl _)) (by omega) (Int.le_refl _)) (by omega) (Int.le_refl _)) (Int.le_refl _) (by omega)
  unfold zT
  split
  · split
    · next hk =>
      obtain ⟨f1, f2, -, f6, -⟩ := whole_ref h hn hk ham
      have hXb := okX_sell1 h (by omega) hk ham
      exact okX_up (okX_ref hXb (by omega) true f6 (Int.le_refl m)) (by omega) (Int.le_refl _)
    · exact up
  · exact up
theorem okX_addS {a : yA} {n : Nat} {m t : Int} (h : okX a n m t) (hn : n < 512) {x : Int32} (hk : kAdd a x = 0) : okX (sAdd a x) (n + 1) m t :=
  okX_same h (okA_add h.1 hn hk) (okP_add h.1 h.2.1 hk) rfl rfl (Int.le_refl _)
theorem and_N (x : Int32) (N : Nat) (hN : N < 2 ^ 31) : ∃ j, j ≤ N ∧ x &&& nI N = nI j := by
  have e2 : (nI N).toBitVec.toNat = N := by
    show N % 2 ^ 32 = N
    exact Nat.mod_eq_of_lt (by omega)
  have h : (x &&& nI N).toUInt32.toNat ≤ N := by
    show (x.toBitVec &&& (nI N).toBitVec).toNat ≤ N
    rw [BitVec.toNat_and, e2]
    exact Nat.and_le_right
  refine ⟨(x &&& nI N).toUInt32.toNat, h, ?_⟩
  apply Int32.toBitVec_inj.mp
  apply BitVec.eq_of_toNat_eq
  show (x &&& nI N).toBitVec.toNat = (nI _).toBitVec.toNat
  have e : (nI (x &&& nI N).toUInt32.toNat).toBitVec.toNat = (x &&& nI N).toUInt32.toNat % 2 ^ 32 := rfl
  rw [e, Nat.mod_eq_of_lt (by omega)]
  rfl
theorem low_b (x : Int32) {N : Nat} (h0 : 0 < N) (hN : N < 2 ^ 31) : ∃ j, j < N ∧ lowI x (nI N) = nI j := by
  obtain ⟨i, hi, ei⟩ := and_N x 2147483647 (by decide)
  refine ⟨i % N, Nat.mod_lt _ h0, ?_⟩
  unfold lowI
  rw [show (2147483647 : Int32) = nI 2147483647 from rfl, ei]
  exact pk_rem (by omega) h0 hN
theorem low_am (x : Int32) : nn (1 + lowI x 100000) ≤ 100000 := by
  obtain ⟨j, hj, ej⟩ := low_b x (N := 100000) (by decide) (by decide)
  have ej : lowI x 100000 = nI j := ej
  rw [ej, show (1 : Int32) = nI 1 from rfl, nI_add, nn_nI (by omega)]
  omega
theorem dK0 (a : yA) (x y z : Int32) : dK a 0 x y z = kAdd a x := if_pos rfl
theorem dV0 (a : yA) (x y z : Int32) : dV a 0 x y z = a 0 0 := if_pos rfl
theorem dS0 (a : yA) (x y z : Int32) : dS a 0 x y z = sAdd a x := if_pos rfl
/-- a seller of the first three -/
theorem add_ok {a : yA} {k : Nat} (h : okX a k 0 0) (h0 : a 0 0 = nI k) (hk : k < 3) (y : Int32) : dA a 0 (y &&& 1) 0 0 = nI k ∧ okX (dT a 0 (y &&& 1) 0 0) (k + 1) 0 0 ∧ dT a 0 (y &&& 1) 0 0 0 0 = nI (k + 1) := by
  obtain ⟨j, hj, ej⟩ := and_N y 1 (by decide)
  have ej : y &&& 1 = nI j := ej
  have hkA : kAdd a (y &&& 1) = 0 := by
    unfold kAdd
    rw [if_pos (show bw (y &&& 1) 0 3 from by
      rw [ej]
      exact ⟨(nI_leI (a := 0) (by decide) (by omega)).mpr (Nat.zero_le _), (nI_leI (b := 3) (by omega) (by decide)).mpr (by omega)⟩), if_pos]
    rw [h0]
    exact (nI_ltI (b := 8) (by omega) (by decide)).mpr (by omega)
  have hd : dK a 0 (y &&& 1) 0 0 = 0 := (dK0 _ _ _ _).trans hkA
  rw [dA_y hd, dT_y hd, dV0, dS0]
  refine ⟨h0, okX_addS h (by omega) hkA, ?_⟩
  show a 0 0 + 1 = _
  rw [h0]
  exact nI_1 k
theorem pcX_blind {b L : Nat} {xs : Nat → Int32} {As : List Value} : FrameBlind (va_Pc As (fun U => va_X b L xs U U.heap ∧ b < U.heap.size)) := fun a U g mk h => ⟨h.1, va_X.moved (u := U) (U := U.calling g mk a) (Vm.Alike.refl U.vm) h.2.1, h.2.2⟩
theorem pcX_pre {b L : Nat} {xs : Nat → Int32} {s U : State} {H : Heap} {A : Nat → Prop} {locs : List Loc} {As : List Value} (hX : va_X b L xs s s.heap) (hbl : b < s.heap.size) (hbA : ¬ A b) (hS : va_S A s.heap H locs) (hU : U.heap = H) (hW : s.WarmedH U.vm) : va_Pc As (fun U => va_X b L xs U U.heap ∧ b < U.heap.size) As.toArray U := ⟨rfl, va_X_pre hX hbl hbA hS hU hW⟩
