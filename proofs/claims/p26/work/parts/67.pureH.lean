/-! a failed payout, and the start -/
theorem okA_fail {a : yA} {n : Nat} (h : okA a n) (hn : n < 512) {x : Int32} (hk : kFail a x = 0) : okA (sFail a (nn x)) (n + 1) := by
  obtain ⟨hs, hf⟩ : payOKn a x ∧ a 21 (nn x) = 0 := by
    unfold kFail at hk
    split at hk
    · split at hk
      · exact ⟨‹_›, ‹_›⟩
      · cases hk
    · cases hk
  have hB := okA_B h
  have h3 := okA_3 h
  have hx1 := nat_of (hB 0 4 1024 rfl) (by decide) hs.1 hs.2
  obtain ⟨i, hi⟩ : ∃ i, i = nn x := ⟨_, rfl⟩
  rw [← hi] at hx1 hf ⊢
  have h4 := (hB 0 4 1024 rfl).2
  obtain ⟨⟨-, hI, hZ, hU⟩, hY, hF, hp⟩ := h
  have hz : nn (a 20 i) < 8 := Nat.lt_succ_of_le (hB 20 i 7 rfl).2
  have eb7 := sFail_7 a i
  have eb21 : sFail a i 21 = upd (a 21) i 1 := rfl
  have eb8 : sFail a i 8 = upd (a 8) (nn (a 20 i)) (a 8 (nn (a 20 i)) - a 19 i) := rfl
  obtain ⟨k1, k2⟩ := okI_b hI hz
  have hI' := hI
  obtain ⟨i1, i2, i3, i4, i5⟩ := hI'
  have n1 := sm_nn i1 100
  have la : liv a i = cen a i := if_pos hf
  have n2 := sm_ge (liv_nn i2) 1024 (show i < 1024 by omega)
  have n3 := i2 i
  have ez : bal (sFail a i) (nn (a 20 i)) = bal a (nn (a 20 i)) + cen a i := by
    show (sFail a i 7 (nn (a 20 i))).toInt = _
    rw [eb7, upd_eq]
    exact i_add (by unfold bal cen at *; omega) (by unfold bal cen at *; omega)
  have eo : ∀ j, j ≠ nn (a 20 i) → bal (sFail a i) j = bal a j := fun j hj => by
    show (sFail a i 7 j).toInt = _
    rw [eb7, upd_ne _ hj]; rfl
  have lb : liv (sFail a i) i = 0 := by
    unfold liv
    rw [eb21, upd_eq]
    exact if_neg (by decide)
  have lo : ∀ j, j ≠ i → liv (sFail a i) j = liv a j := fun j hj => by
    unfold liv
    rw [eb21, upd_ne _ hj]; rfl
  have e3 : nn (sFail a i 0 3) = nn (a 0 3) := rfl
  refine ⟨⟨okB_post (okB_free (okB_free hB rfl) rfl) _ _, ⟨i1, i2, ?_, ?_, ?_⟩, fun j hj => ?_, okU_of hU rfl rfl rfl rfl⟩, okY_of hY rfl rfl rfl (fun _ _ => rfl), okF_of hF rfl rfl, ?_⟩
  · unfold Ns at i3 ⊢
    have e1 := sm_at (f := ngt a) (g := ngt (sFail a i)) (t := nn (a 20 i)) (fun j hj => ngt_of (eo j hj)) 8 hz
    have e2 : ngt (sFail a i) (nn (a 20 i)) ≤ ngt a (nn (a 20 i)) := ngt_dn (by rw [ez]; omega)
    omega
  · unfold Gs at i4 ⊢
    have e1 := sm_at eo 8 hz
    have e2 : sm (hld (sFail a i)) 100 = sm (hld a) 100 := sm_congr 100 (fun j _ => hld_oth rfl j)
    have e4 := sm_at lo 1024 (show i < 1024 by omega)
    rw [e1, e2, e4, ez, lb, la, e3]
    omega
  · rw [e3]
    omega
  · have hj2 : nn (a 0 4) ≤ j := hj
    obtain ⟨z1, z2, z3⟩ := hZ j hj2
    exact ⟨z1, z2, by rw [eb21, upd_ne _ (by omega)]; exact z3⟩
  · have := phi_one (a := a) (b := sFail a i) (t := nn (a 20 i)) rfl rfl rfl rfl (fun j hj => hot_of rfl rfl (by rw [eb7, upd_ne _ hj]) (by rw [eb8, upd_ne _ hj]))
    rw [e3]
    omega
theorem sm_0 {f : Nat → Int} (h : ∀ i, f i = 0) (n : Nat) : sm f n = 0 := by
  induction n with
  | zero => rfl
  | succ n ih =>
    show sm f n + f n = 0
    rw [ih, h n]; rfl
theorem ct_0 {f : Nat → Bool} (h : ∀ i, f i = false) (n : Nat) : ct f n = 0 := by
  induction n with
  | zero => rfl
  | succ n ih =>
    show ct f n + _ = 0
    rw [ih, h n]; rfl
theorem a0_at {i j : Nat} (h : i ≠ 9) : a0 i j = 0 := by
  unfold a0
  rw [if_neg h]
theorem okA_0 : okA a0 0 := by
  have e0 : nn (0 : Int32) = 0 := nn_nI (n := 0) (by decide)
  have b0 : ∀ i, bal a0 i = 0 := fun i => by unfold bal; rw [a0_at (by decide)]; rfl
  have h0 : ∀ i, hld a0 i = 0 := fun i => by unfold hld; rw [a0_at (by decide)]; rfl
  have c0 : ∀ i, cen a0 i = 0 := fun i => by unfold cen; rw [a0_at (by decide)]; rfl
  have l0 : ∀ i, liv a0 i = 0 := fun i => by unfold liv; rw [c0]; split <;> rfl
  have n0 : ∀ i, ngt a0 i = 0 := fun i => by unfold ngt; rw [b0]; rfl
  have t0 : ∀ i, hotB a0 i = false := fun i => hot_neg (by rw [b0]; exact Int.le_refl 0)
  have q3 : nn (a0 0 3) = 0 := e0
  have q4 : nn (a0 0 4) = 0 := e0
  refine ⟨⟨fun i j b hb => ?_, ⟨fun j => by rw [h0]; exact Int.le_refl 0, fun j => by rw [c0]; exact Int.le_refl 0, ?_, ?_, ?_⟩, fun i _ => ⟨rfl, rfl, rfl⟩, fun j hj _ => by rw [q3] at hj; omega⟩, fun j _ => ⟨rfl, rfl, rfl⟩, fun j => ?_, ?_⟩
  · by_cases e : i = 9
    · subst e
      cases hb
      show lim (if j < 4 then 100 else 0) 999
      split
      · exact lim_nI (n := 100) (by decide) (by decide)
      · exact lim_nI (n := 0) (by decide) (by decide)
    · rw [a0_at e]
      exact ⟨by rw [e0]; rfl, by rw [e0]; exact Nat.zero_le _⟩
  · unfold Ns
    rw [sm_0 n0]
    decide
  · unfold Gs
    rw [sm_0 b0, sm_0 h0, sm_0 l0, q3]
    decide
  · rw [q3]
    decide
  · have e : lim (0 : Int32) 1000000 := lim_nI (n := 0) (by decide) (by decide)
    exact ⟨e, e, Nat.le_refl _⟩
  · unfold phi
    rw [q3, q4, ct_0 t0]
    exact Nat.le_refl _
