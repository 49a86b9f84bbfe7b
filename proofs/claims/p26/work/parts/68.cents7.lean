/-! what every call keeps -/
/-- n calls, m of them acts, t sales that were refunded at once -/
def okX (a : yA) (n : Nat) (m t : Int) : Prop := okA a n ∧ okP a ∧ ∃ f s : Int, 0 ≤ f ∧ 0 ≤ s ∧ f + s ≤ m ∧ sca a 5 ≤ 1000000 * s + 100000 * t ∧ sm (ded a) 1024 ≤ f * (1000000 * s + 100000 * t)
theorem okX_same {a b : yA} {n n' : Nat} {m t m' : Int} (h : okX a n m t) (hA : okA b n') (hP : okP b) (e5 : sca b 5 = sca a 5) (ed : ded b = ded a) (hm : m ≤ m') : okX b n' m' t := by
  obtain ⟨-, -, f, s, h1, h2, h3, h4, h5⟩ := h
  exact ⟨hA, hP, f, s, h1, h2, by omega, by rw [e5]; exact h4, by rw [ed]; exact h5⟩
theorem okX_up {a : yA} {n : Nat} {m t m' : Int} (h : okX a n m t) (hn : n < 512) (hm : m ≤ m') : okX a (n + 1) m' t := okX_same h (okA_up h.1 hn) h.2.1 rfl rfl hm
theorem okX_sale {a b : yA} {n n' : Nat} {m t : Int} (h : okX a n m t) (hA : okA b n') (hP : okP b) (e5 : sca b 5 ≤ sca a 5 + 1000000) (ed : ded b = ded a) : okX b n' (m + 1) t := by
  obtain ⟨-, -, f, s, h1, h2, h3, h4, h5⟩ := h
  refine ⟨hA, hP, f, s + 1, h1, by omega, by omega, by omega, ?_⟩
  rw [ed]
  refine Int.le_trans h5 (Int.mul_le_mul_of_nonneg_left ?_ h1)
  omega
theorem okX_sale1 {a b : yA} {n n' : Nat} {m t : Int} (h : okX a n m t) (hA : okA b n') (hP : okP b) (e5 : sca b 5 ≤ sca a 5 + 100000) (ed : ded b = ded a) : okX b n' m (t + 1) := by
  obtain ⟨-, -, f, s, h1, h2, h3, h4, h5⟩ := h
  refine ⟨hA, hP, f, s, h1, by omega, by omega, by omega, ?_⟩
  rw [ed]
  refine Int.le_trans h5 (Int.mul_le_mul_of_nonneg_left ?_ h1)
  omega
theorem okX_fail {a b : yA} {n n' : Nat} {m t : Int} (h : okX a n m t) (hA : okA b n') (hP : okP b) (e5 : sca b 5 = sca a 5) (ed : sm (ded b) 1024 ≤ sm (ded a) 1024 + sca a 5) : okX b n' (m + 1) t := by
  obtain ⟨-, -, f, s, h1, h2, h3, h4, h5⟩ := h
  refine ⟨hA, hP, f + 1, s, by omega, h2, by omega, by rw [e5]; exact h4, ?_⟩
  rw [Int.add_mul, Int.one_mul]
  omega
def dK (a : yA) (how x y z : Int32) : Nat := if how = 0 then kAdd a x else if how = 1 then kVer a x y else if how = 2 then kPO a x y z else if how = 3 then kRes a x y z else if how = 4 then kShr x y else if how = 5 then kTax x else if how = 6 then kSell a x y z else if how = 7 then kOrd a x y z else if how = 8 then kPass a x else kFail a x
def dV (a : yA) (how x y z : Int32) : Int32 := if how = 0 then a 0 0 else if how = 1 then a 2 (nn x) else if how = 2 then 0 else if how = 3 then 0 else if how = 4 then shB (nn y) else if how = 5 then a 0 2 else if how = 6 then a 0 3 else if how = 7 then nI (min (cntB (nn x) 8) (nn z)) else if how = 8 then sPass a (nn x) 0 4 - a 0 4 else sFail a (nn x) 7 (nn (a 20 (nn x)))
def dS (a : yA) (how x y z : Int32) : yA := if how = 0 then sAdd a x else if how = 1 then sVer a x y else if how = 2 then sPO a x y z else if how = 3 then sRes a x y z else if how = 4 then sShr a x y else if how = 5 then sTaxS a x else if how = 6 then sSell a x y z else if how = 7 then sOrder a x y z else if how = 8 then sPass a (nn x) else sFail a (nn x)
theorem okX_do {a : yA} {n : Nat} {m t : Int} (h : okX a n m t) (hn : n < 512) {how x y z : Int32} (hk : dK a how x y z = 0) : okX (dS a how x y z) (n + 1) (m + 1) t := by
  have hA := h.1
  have hP := h.2.1
  unfold dK at hk
  unfold dS
  by_cases e0 : how = 0
  · rw [if_pos e0] at hk ⊢
    exact okX_same h (okA_add hA hn hk) (okP_add hA hP hk) rfl rfl (by omega)
  rw [if_neg e0] at hk ⊢
  by_cases e1 : how = 1
  · rw [if_pos e1] at hk ⊢
    exact okX_same h (okA_ver hA hn hk) (okP_ver hP _ _) rfl rfl (by omega)
  rw [if_neg e1] at hk ⊢
  by_cases e2 : how = 2
  · rw [if_pos e2] at hk ⊢
    exact okX_same h (okA_po hA hn) (okP_po hP _ _ _) rfl rfl (by omega)
  rw [if_neg e2] at hk ⊢
  by_cases e3 : how = 3
  · rw [if_pos e3] at hk ⊢
    exact okX_same h (okA_res hA hn hk) (okP_res hP _ _ _) rfl rfl (by omega)
  rw [if_neg e3] at hk ⊢
  by_cases e4 : how = 4
  · rw [if_pos e4] at hk ⊢
    exact okX_same h (okA_shr hA hn hk) (okP_shr hP _ _) rfl rfl (by omega)
  rw [if_neg e4] at hk ⊢
  by_cases e5 : how = 5
  · rw [if_pos e5] at hk ⊢
    exact okX_same h (okA_tax hA hn hk) (okP_tax hP _) rfl rfl (by omega)
  rw [if_neg e5] at hk ⊢
  by_cases e6 : how = 6
  · rw [if_pos e6] at hk ⊢
    obtain ⟨k1, k2, k3⟩ := okP_sell hA hP hn hk
    have ha : nn z ≤ 1000000 := by
      unfold kSell at hk
      split at hk
      · split at hk
        · next q => exact (am_nat q).2.2
        · cases hk
      · cases hk
    exact okX_sale h (okA_sell hA hn hk) k1 (by omega) k3
  rw [if_neg e6] at hk ⊢
  by_cases e7 : how = 7
  · rw [if_pos e7] at hk ⊢
    obtain ⟨k1, k2, k3, k4⟩ := okP_order hA hP hn hk
    exact okX_sale h (okA_order hA hn hk) k1 k2 k4
  rw [if_neg e7] at hk ⊢
  by_cases e8 : how = 8
  · rw [if_pos e8] at hk ⊢
    obtain ⟨k1, k2, k3, k4, k5, k6⟩ := passA_all hA hP hn hk (nn x) (Nat.le_refl _)
    exact okX_same h (okA_up k1 hn) k2 (sca_of k5) k6 (by omega)
  rw [if_neg e8] at hk ⊢
  obtain ⟨k1, k2, k3⟩ := okP_fail hA hP hn hk
  exact okX_fail h (okA_fail hA hn hk) k1 k2 k3
theorem okX_ref {a : yA} {n : Nat} {m t m' : Int} (h : okX a n m t) (hn : n < 512) {x am : Int32} (fb : Bool) (hk : kRef a x am = 0) (hm : m ≤ m') : okX (sRefund a (nn x) am fb) (n + 1) m' t := by
  obtain ⟨k1, k2, k3⟩ := okP_refund h.1 h.2.1 hn fb hk
  exact okX_same h (okA_refund h.1 hn fb hk) k1 k2 k3 hm
theorem okX_sell1 {a : yA} {n : Nat} {m t : Int} (h : okX a n m t) (hn : n < 512) {x kd am : Int32} (hk : kSell a x kd am = 0) (ha : nn am ≤ 100000) : okX (sSell a x kd am) (n + 1) m (t + 1) := by
  obtain ⟨k1, k2, k3⟩ := okP_sell h.1 h.2.1 hn hk
  exact okX_sale1 h (okA_sell h.1 hn hk) k1 (by omega) k3
theorem okX_b {a : yA} {n : Nat} {m t : Int} (h : okX a n m t) :
    0 ≤ sca a 7 ∧ 0 ≤ sca a 8 ∧ 0 ≤ sca a 6 ∧ sca a 6 ≤ sca a 5 ∧ sca a 5 ≤ 100000000 ∧ sca a 7 ≤ sca a 5 ∧ sca a 8 ≤ sca a 5 ∧ (∀ z, z < 8 → 0 ≤ pai a z ∧ pai a z ≤ sca a 5) ∧ (∀ z, z < 8 → bal a z ≤ sca a 5 ∧ -(sca a 5) ≤ bal a z) ∧ sm (hld a) 100 ≤ sca a 5 ∧ 0 ≤ sm (pai a) 8 ∧ sm (pai a) 8 ≤ sca a 5 :=
  okP_b h.2.1 h.1.1.1 h.1.2.2.1 h.1.1.2.1.1 h.1.1.2.1.2.1
/-- no answer is the sign of an exception -/
theorem ne_sent {x : Int32} (h : -1000000000 ≤ x.toInt) : x ≠ -2000000001 := fun e => by rw [e] at h; exact absurd h (by decide)
theorem ne_lim {x : Int32} {b : Nat} (h : lim x b) (hb : b < 2 ^ 30) : x ≠ -2000000001 := ne_sent (by rw [lim_i h hb]; omega)
theorem shB_all : ∀ k, k < 1000 → shB k ≠ -2000000001 := by decide +kernel
theorem dV_ne {a : yA} {n : Nat} {m t : Int} (h : okX a n m t) (hn : n < 512) {how x y z : Int32} (hk : dK a how x y z = 0) : dV a how x y z ≠ -2000000001 := by
  have hB := h.1.1.1
  have hX := okX_do h hn hk
  unfold dK at hk
  unfold dS at hX
  unfold dV
  by_cases e0 : how = 0
  · rw [if_pos e0]
    exact ne_lim (hB 0 0 8 rfl) (by decide)
  rw [if_neg e0] at hk hX ⊢
  by_cases e1 : how = 1
  · rw [if_pos e1]
    exact ne_lim (hB 2 (nn x) 2 rfl) (by decide)
  rw [if_neg e1] at hk hX ⊢
  by_cases e2 : how = 2
  · rw [if_pos e2]; decide
  rw [if_neg e2] at hk hX ⊢
  by_cases e3 : how = 3
  · rw [if_pos e3]; decide
  rw [if_neg e3] at hk hX ⊢
  by_cases e4 : how = 4
  · rw [if_pos e4] at hk ⊢
    have hy : nn y ≤ 999 := by
      unfold kShr at hk
      split at hk
      · split at hk
        · next q => exact (nat_le (b := 999) (by decide) q.1 q.2).2
        · cases hk
      · cases hk
    exact shB_all _ (Nat.lt_succ_of_le hy)
  rw [if_neg e4] at hk hX ⊢
  by_cases e5 : how = 5
  · rw [if_pos e5]
    exact ne_lim (hB 0 2 500 rfl) (by decide)
  rw [if_neg e5] at hk hX ⊢
  by_cases e6 : how = 6
  · rw [if_pos e6]
    exact ne_lim (hB 0 3 100 rfl) (by decide)
  rw [if_neg e6] at hk hX ⊢
  by_cases e7 : how = 7
  · rw [if_pos e7]
    have c := cntB_le (nn x) 8
    exact ne_sent (by rw [nI_i (by omega)]; omega)
  rw [if_neg e7] at hk hX ⊢
  by_cases e8 : how = 8
  · rw [if_pos e8] at hX ⊢
    have l1 := hX.1.1.1 0 4 1024 rfl
    have l2 := hB 0 4 1024 rfl
    have l12 := l1.2
    have l22 := l2.2
    refine ne_sent ?_
    rw [i_sub (by rw [lim_i l1 (by decide), lim_i l2 (by decide)]; omega) (by rw [lim_i l1 (by decide), lim_i l2 (by decide)]; omega), lim_i l1 (by decide), lim_i l2 (by decide)]
    omega
  rw [if_neg e8] at hk hX ⊢
  obtain ⟨b1, b2, b3, b4, b5, b6, b7, b8, b9, b10, b11, b12⟩ := okX_b hX
  have k := b9 (nn (a 20 (nn x))) (Nat.lt_succ_of_le (hB 20 _ 7 rfl).2)
  unfold bal at k
  exact ne_sent (by omega)
theorem rV_ne {a : yA} {n : Nat} {m t : Int} (h : okX a n m t) (hn : n < 512) {x am : Int32} (fb : Bool) (hk : kRef a x am = 0) : sRefund a (nn x) am fb 7 (slr a (nn x)) ≠ -2000000001 := by
  have hX := okX_ref h hn fb hk (Int.le_refl m)
  obtain ⟨b1, b2, b3, b4, b5, b6, b7, b8, b9, b10, b11, b12⟩ := okX_b hX
  have k := b9 (slr a (nn x)) (slr_lt h.1.1.1 _)
  unfold bal at k
  exact ne_sent (by omega)
