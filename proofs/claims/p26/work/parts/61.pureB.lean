/-! counts, and who may be paid -/
def ct (f : Nat → Bool) : Nat → Nat
  | 0 => 0
  | n + 1 => ct f n + (if f n = true then 1 else 0)
theorem ct_le {f g : Nat → Bool} : ∀ n, (∀ i, i < n → g i = true → f i = true) → ct g n ≤ ct f n := by
  intro n
  induction n with
  | zero => exact fun _ => Nat.le_refl _
  | succ n ih =>
    intro h
    have h1 := ih (fun i hi => h i (by omega))
    show ct g n + _ ≤ ct f n + _
    by_cases e : g n = true
    · rw [if_pos e, if_pos (h n (by omega) e)]; omega
    · rw [if_neg e]; omega
theorem ct_at {f g : Nat → Bool} {t : Nat} : ∀ n, (∀ i, i < n → i ≠ t → g i = true → f i = true) → ct g n ≤ ct f n + 1 := by
  intro n
  induction n with
  | zero => exact fun _ => Nat.zero_le _
  | succ n ih =>
    intro h
    show ct g n + _ ≤ ct f n + _ + 1
    by_cases e : n = t
    · have h1 := ct_le (f := f) (g := g) n (fun i hi => h i (by omega) (by omega))
      split <;> omega
    · have h1 := ih (fun i hi => h i (by omega))
      by_cases e2 : g n = true
      · rw [if_pos e2, if_pos (h n (by omega) e e2)]; omega
      · rw [if_neg e2]; omega
theorem ct_drop {f g : Nat → Bool} {t : Nat} (hf : f t = true) (hg : g t = false) : ∀ n, t < n → (∀ i, i < n → i ≠ t → g i = true → f i = true) → ct g n + 1 ≤ ct f n := by
  intro n
  induction n with
  | zero => intro ht; omega
  | succ n ih =>
    intro ht h
    show ct g n + _ + 1 ≤ ct f n + _
    by_cases e : t = n
    · subst e
      have h1 := ct_le (f := f) (g := g) t (fun i hi => h i (by omega) (by omega))
      rw [hg, hf]
      simp only [Bool.false_eq_true, if_false, if_true]
      omega
    · have h1 := ih (by omega) (fun i hi => h i (by omega))
      by_cases e2 : g n = true
      · rw [if_pos e2, if_pos (h n (by omega) (fun q => e q.symm) e2)]; omega
      · rw [if_neg e2]; omega
theorem ct_pos {f : Nat → Bool} {t : Nat} (hf : f t = true) : ∀ n, t < n → 1 ≤ ct f n := by
  intro n
  induction n with
  | zero => intro ht; omega
  | succ n ih =>
    intro ht
    show 1 ≤ ct f n + _
    by_cases e : t = n
    · subst e; rw [if_pos hf]; omega
    · have := ih (by omega); omega
def hotB (a : yA) (z : Nat) : Bool := decide (0 < sDue a z)
theorem imin_pos {x y : Int32} : 0 < imin x y ↔ 0 < x ∧ 0 < y := by
  rw [Int32.lt_iff_toInt_lt, Int32.lt_iff_toInt_lt, Int32.lt_iff_toInt_lt, i_min]
  show (0 : Int) < _ ↔ (0 : Int) < _ ∧ (0 : Int) < _
  split <;> omega
theorem due_ch (a : yA) (z : Nat) : 0 < sDue a z ↔ ¬ a 2 z = 0 ∧ ¬ a 7 z < a 4 z ∧ 0 < a 7 z ∧ (a 2 z = 1 → 0 < 100000 - a 8 z) := by
  unfold sDue
  by_cases h1 : a 2 z = 0
  · rw [if_pos (Or.inl h1)]
    exact ⟨fun h => absurd h (by decide), fun h => absurd h1 h.1⟩
  · by_cases h2 : a 7 z < a 4 z
    · rw [if_pos (Or.inr h2)]
      exact ⟨fun h => absurd h (by decide), fun h => absurd h2 h.2.1⟩
    · rw [if_neg (fun q => q.elim h1 h2)]
      by_cases h3 : a 2 z = 1
      · rw [if_pos h3, imin_pos]
        exact ⟨fun h => ⟨h1, h2, h.1, fun _ => h.2⟩, fun h => ⟨h.2.2.1, h.2.2.2 h3⟩⟩
      · rw [if_neg h3]
        exact ⟨fun h => ⟨h1, h2, h, fun q => absurd q h3⟩, fun h => h.2.2.1⟩
theorem hot_of {a b : yA} {z : Nat} (h2 : b 2 z = a 2 z) (h4 : b 4 z = a 4 z) (h7 : b 7 z = a 7 z) (h8 : b 8 z = a 8 z) : hotB b z = hotB a z := by
  unfold hotB sDue
  rw [h2, h4, h7, h8]
theorem hot_dn {a b : yA} {z : Nat} (h2 : b 2 z = a 2 z) (h4 : b 4 z = a 4 z) (h8 : b 8 z = a 8 z) (h7 : bal b z ≤ bal a z) (h : hotB b z = true) : hotB a z = true := by
  have h9 := (due_ch b z).mp (of_decide_eq_true h)
  refine decide_eq_true ((due_ch a z).mpr ⟨by rw [← h2]; exact h9.1, ?_, ?_, by rw [← h2, ← h8]; exact h9.2.2.2⟩)
  · have k := h9.2.1
    rw [Int32.lt_iff_toInt_lt, h4] at k
    rw [Int32.lt_iff_toInt_lt]
    unfold bal at h7
    omega
  · have k := h9.2.2.1
    rw [Int32.lt_iff_toInt_lt] at k ⊢
    unfold bal at h7
    omega
theorem hot_neg {a : yA} {z : Nat} (h : bal a z ≤ 0) : hotB a z = false := by
  refine decide_eq_false (fun q => ?_)
  have k := ((due_ch a z).mp q).2.2.1
  rw [Int32.lt_iff_toInt_lt] at k
  unfold bal at h
  have e0 : (0 : Int32).toInt = 0 := rfl
  omega
theorem due_bal {a : yA} {z : Nat} (h : 0 < sDue a z) : 0 ≤ (sDue a z).toInt ∧ (sDue a z).toInt ≤ bal a z := by
  have h9 := (due_ch a z).mp h
  have k : 0 ≤ (sDue a z).toInt := by
    rw [Int32.lt_iff_toInt_lt] at h
    have e0 : (0 : Int32).toInt = 0 := rfl
    omega
  refine ⟨k, ?_⟩
  unfold sDue bal
  rw [if_neg (fun q => q.elim h9.1 h9.2.1)]
  split
  · rw [i_min]; split <;> omega
  · exact Int.le_refl _
theorem sPayC_bal (a : yA) (z : Nat) (c : Int32) : sPayC a z c 7 = upd (a 7) z (a 7 z + -c) := by
  unfold sPayC sPost
  rw [put_row, put_oth _ _ _ (by decide), sEnt_oth _ _ _ (by decide) (by decide) (by decide)]
theorem sPayC_paid (a : yA) (z : Nat) (c : Int32) : sPayC a z c 8 = upd (a 8) z (a 8 z + c) := by
  unfold sPayC
  rw [sPost_oth _ _ _ (by decide), put_row, sEnt_oth _ _ _ (by decide) (by decide) (by decide)]
theorem sPayC_cen (a : yA) (z : Nat) (c : Int32) : sPayC a z c 19 = upd (a 19) (nn (a 0 4)) c := by
  unfold sPayC sEnt
  rw [sPost_oth _ _ _ (by decide), put_oth _ _ _ (by decide), put_oth _ _ _ (by decide), put_row, put_oth _ _ _ (by decide)]
theorem i_cancel (b : Int32) : b + -b = 0 := by rw [← Int32.sub_eq_add_neg, Int32.sub_self]
/-- who has been paid isn't to be paid any more -/
theorem hot_paid (a : yA) (z : Nat) : hotB (sPayC a z (sDue a z)) z = false := by
  refine decide_eq_false (fun q => ?_)
  have h9 := (due_ch _ z).mp q
  have e2 : sPayC a z (sDue a z) 2 = a 2 := sPayC_oth _ _ _ (by decide) (by decide) (by decide) (by decide) (by decide)
  have e4 : sPayC a z (sDue a z) 4 = a 4 := sPayC_oth _ _ _ (by decide) (by decide) (by decide) (by decide) (by decide)
  rw [e2, e4, sPayC_bal, sPayC_paid, show upd (a 7) z (a 7 z + -sDue a z) z = a 7 z + -sDue a z by simp [upd], show upd (a 8) z (a 8 z + sDue a z) z = a 8 z + sDue a z by simp [upd]] at h9
  obtain ⟨k1, k2, k3, k4⟩ := h9
  by_cases h2 : a 7 z < a 4 z
  · have e : sDue a z = 0 := by unfold sDue; rw [if_pos (Or.inr h2)]
    rw [e] at k2
    exact k2 (by rw [show a 7 z + -0 = a 7 z by rw [show (-0 : Int32) = 0 from rfl, Int32.add_zero]]; exact h2)
  · have e : sDue a z = if a 2 z = 1 then imin (a 7 z) (100000 - a 8 z) else a 7 z := by
      unfold sDue
      rw [if_neg (fun q9 => q9.elim k1 h2)]
    by_cases h3 : a 2 z = 1
    · rw [if_pos h3] at e
      have k5 := k4 h3
      unfold imin at e
      split at e
      · rw [e] at k5
        rw [show 100000 - (a 8 z + (100000 - a 8 z)) = 0 by
          rw [show a 8 z + (100000 - a 8 z) = 100000 by rw [Int32.sub_eq_add_neg, Int32.add_comm (100000 : Int32), ← Int32.add_assoc, i_cancel, Int32.zero_add], Int32.sub_self]] at k5
        exact absurd k5 (by decide)
      · rw [e, i_cancel] at k3
        exact absurd k3 (by decide)
    · rw [if_neg h3] at e
      rw [e, i_cancel] at k3
      exact absurd k3 (by decide)
theorem hot_other {a : yA} {z i : Nat} (c : Int32) (h : i ≠ z) : hotB (sPayC a z c) i = hotB a i := by
  refine hot_of ?_ ?_ ?_ ?_
  · rw [sPayC_oth _ _ _ (by decide) (by decide) (by decide) (by decide) (by decide)]
  · rw [sPayC_oth _ _ _ (by decide) (by decide) (by decide) (by decide) (by decide)]
  · rw [sPayC_bal]; simp [upd, h]
  · rw [sPayC_paid]; simp [upd, h]
