/-! facts of the state, first written beside the reference -/
/-- a fee given back is one that was taken -/
def okF (a : yA) : Prop := ∀ j, lim (a 15 j) 1000000 ∧ lim (a 16 j) 1000000 ∧ nn (a 16 j) ≤ nn (a 15 j)
theorem tax_nat {x t : Nat} (hx : x ≤ 1000000) (ht : t ≤ 1000) : nI x * nI t / 1000 = nI (x * t / 1000) ∧ x * t / 1000 ≤ x := by
  have h1 : x * t ≤ 1000000 * 1000 := Nat.mul_le_mul hx ht
  refine ⟨?_, ?_⟩
  · rw [pk_mul, show (1000 : Int32) = nI 1000 from rfl, pk_div (by omega) (by decide) (by decide)]
  · have h2 : x * t ≤ x * 1000 := Nat.mul_le_mul_left _ ht
    omega
theorem tax_half {x t : Nat} (ht : t ≤ 500) : 2 * (x * t / 1000) ≤ x := by
  have h2 : x * t ≤ x * 500 := Nat.mul_le_mul_left _ ht
  omega
theorem fee_nat {a : yA} (hB : okB a) {k x : Nat} (h0 : 1 ≤ x) (h1 : x ≤ 1000000) : ∃ f tx : Nat, feeI (nI x) (a 9 k) = nI f ∧ f ≤ x ∧ sTax a (nI x) = nI tx ∧ 2 * tx ≤ x := by
  have h9 := hB 9 k 999 rfl
  have h2 := hB 0 2 500 rfl
  obtain ⟨-, f, hf, ef⟩ := fp_mul h0 h1 h9.2
  refine ⟨f, x * nn (a 0 2) / 1000, by rw [h9.1]; exact ef, hf, ?_, tax_half h2.2⟩
  unfold sTax
  rw [h2.1, nn_nI (by have := h2.2; omega)]
  exact (tax_nat h1 (Nat.le_trans h2.2 (by decide))).1
theorem sFee_nat {a : yA} {k x f tx : Nat} (h1 : x ≤ 1000000) (ef : feeI (nI x) (a 9 k) = nI f) (hf : f ≤ x) (et : sTax a (nI x) = nI tx) (ht : 2 * tx ≤ x) : sFee a k (nI x) = nI (min f (x - tx)) := by
  unfold sFee
  rw [ef, et, pk_sub (by omega), imin_nI (by omega) (by omega)]
theorem sLeft_nat {a : yA} {k x f tx : Nat} (h1 : x ≤ 1000000) (ef : feeI (nI x) (a 9 k) = nI f) (hf : f ≤ x) (et : sTax a (nI x) = nI tx) (ht : 2 * tx ≤ x) : sLeft a k (nI x) = nI (x - tx - min f (x - tx)) := by
  unfold sLeft
  rw [sFee_nat h1 ef hf et ht, et, pk_sub (by omega), pk_sub (by omega)]
/-- what was held of a sale whose day is over has been given -/
def okU (a : yA) : Prop := ∀ j, j < nn (a 0 3) → a 18 j < a 0 1 → a 17 j = 0
theorem sRel_17 (a : yA) (j i : Nat) (c : Int32) (h : i ≠ j) : sRel a j c 17 i = a 17 i := by
  unfold sRel
  rw [sPost_oth _ _ _ (by decide), put_ne _ _ _ h]
theorem sRels_17 (a : yA) : ∀ n i, n ≤ i → sRels a n 17 i = a 17 i := by
  intro n
  induction n with
  | zero => exact fun _ _ => rfl
  | succ n ih =>
    intro i hi
    show (if _ then _ else _ : yA) 17 i = a 17 i
    split
    · rw [sRel_17 _ _ _ _ (by omega), ih i (by omega)]
    · exact ih i (by omega)
theorem sFail_7 (a : yA) (i : Nat) : sFail a i 7 = upd (a 7) (nn (a 20 i)) (a 7 (nn (a 20 i)) + a 19 i) := by
  unfold sFail sPost
  rw [put_row, put_oth _ _ _ (by decide), put_oth _ _ _ (by decide)]
