/-! floats: a fee is a whole number from 0 to the sum -/
theorem fp_tails : FP.Core.Fmt.tails FP.Core.b32 = 8388608 := by decide +kernel
theorem fp_exps : FP.Core.Fmt.exps FP.Core.b32 = 256 := by decide +kernel
theorem fp_qmin : FP.Core.Fmt.qmin FP.Core.b32 = -149 := by decide +kernel
theorem fp_qmax : FP.Core.Fmt.qmax FP.Core.b32 = 104 := by decide +kernel
theorem fp_de {k : Nat} {q : Int} (h1 : k < 16777216) (h2 : -149 ≤ q) (h3 : q ≤ 100) (h4 : q = -149 ∨ 8388608 ≤ k) :
    FP.Core.encode FP.Core.b32 (.fin false k q) < 2130706432 ∧ FP.Core.decode FP.Core.b32 (FP.Core.encode FP.Core.b32 (.fin false k q)) = .fin false k q := by
  unfold FP.Core.encode FP.Core.decode FP.Core.fieldE FP.Core.fieldT FP.Core.fieldS FP.Core.assemble
  simp only [fp_tails, fp_exps, fp_qmin, Bool.toNat_false]
  by_cases hk : k < 8388608
  · rw [if_pos hk]
    have hq : q = -149 := by omega
    subst hq
    refine ⟨by omega, ?_⟩
    rw [if_neg (by omega), if_pos (by omega)]
    have e1 : ((0 * 256 + 0) * 8388608 + k) % 8388608 = k := by omega
    have e2 : ((0 * 256 + 0) * 8388608 + k) / 8388608 / 256 % 2 = 0 := by omega
    rw [e1, e2]
    rfl
  · rw [if_neg hk]
    obtain ⟨n, hn⟩ : ∃ n : Nat, q = -149 + (n : Int) := ⟨(q + 149).toNat, by omega⟩
    subst hn
    have e0 : (-149 + (n : Int) - -149).toNat = n := by omega
    rw [e0]
    have hn2 : n ≤ 249 := by omega
    refine ⟨by omega, ?_⟩
    have e1 : ((0 * 256 + (n + 1)) * 8388608 + (k - 8388608)) % 8388608 = k - 8388608 := by omega
    have e2 : ((0 * 256 + (n + 1)) * 8388608 + (k - 8388608)) / 8388608 % 256 = n + 1 := by omega
    have e3 : ((0 * 256 + (n + 1)) * 8388608 + (k - 8388608)) / 8388608 / 256 % 2 = 0 := by omega
    rw [e1, e2, e3, if_neg (by omega), if_neg (by omega)]
    have e4 : 8388608 + (k - 8388608) = k := by omega
    have e5 : (-149 : Int) + (((n + 1 : Nat) : Int) - 1) = -149 + (n : Int) := by omega
    rw [e4, e5]
    rfl
theorem fp_n32 {n : Nat} (h : n < 2130706432) : vf_n32 (UInt32.ofNat n) := by
  unfold vf_n32
  rw [UInt32.le_iff_toNat_le, UInt32.toNat_and]
  have e : (UInt32.ofNat n).toNat = n := by simp; omega
  rw [e]
  exact Nat.le_trans Nat.and_le_left (by show n ≤ 2139095040; omega)
theorem fp_near {u v b : Nat} (hv : 0 < v) (h : u ≤ b * v) : FP.Core.nearest u v ≤ b := by
  have hm := Nat.div_add_mod u v
  have hl := Nat.mod_lt u hv
  have h1 : u / v ≤ b := (Nat.div_le_iff_le_mul_add_pred hv).mpr (by have := Nat.mul_comm b v; omega)
  have h2 : 0 < u % v → u / v + 1 ≤ b := by
    intro hp
    have : u / v < b := by
      apply Nat.lt_of_mul_lt_mul_left (a := v)
      have : v * b = b * v := Nat.mul_comm _ _
      omega
    exact this
  unfold FP.Core.nearest
  split
  · exact h1
  · split
    · exact h2 (by omega)
    · have : u / v % 2 < 2 := Nat.mod_lt _ (by decide)
      by_cases hz : u % v = 0
      · exfalso; omega
      · have := h2 (by omega); omega
theorem fp_nearge {u v b : Nat} (hv : 0 < v) (h : b * v ≤ u) : b ≤ FP.Core.nearest u v := by
  have h1 : b ≤ u / v := (Nat.le_div_iff_mul_le hv).mpr h
  unfold FP.Core.nearest
  split
  · exact h1
  · split <;> omega
theorem fp_lead {n : Nat} (h : n ≠ 0) : FP.Core.leading n 1 = (n.log2 : Int) := by
  unfold FP.Core.leading
  have h1 : Nat.log2 1 = 0 := by decide +kernel
  rw [h1]
  have h2 : 2 ^ n.log2 ≤ n := Nat.log2_self_le h
  have e1 : ((n.log2 : Int) - ((0 : Nat) : Int)).toNat = n.log2 := by omega
  have e2 : (-((n.log2 : Int) - ((0 : Nat) : Int))).toNat = 0 := by omega
  simp only [e1, e2]
  rw [if_pos (by omega)]
  omega
/-- a whole number below 2^20, as a float -/
theorem fp_i2f {x : Nat} (h0 : 1 ≤ x) (h1 : x ≤ 1000000) : ∃ s : Nat, 4 ≤ s ∧ s ≤ 23 ∧ x * 2 ^ s < 16777216 ∧ FP.Core.decode FP.Core.b32 (FP.i2f (nI x)).toNat = .fin false (x * 2 ^ s) (-(s : Int)) := by
  have hx : x ≠ 0 := by omega
  have hl : 2 ^ x.log2 ≤ x := Nat.log2_self_le hx
  have hu : x < 2 ^ (x.log2 + 1) := Nat.lt_log2_self
  have h19 : x.log2 ≤ 19 := by
    apply Nat.le_of_not_lt
    intro hc
    have : 2 ^ 20 ≤ 2 ^ x.log2 := Nat.pow_le_pow_right (by decide) hc
    omega
  obtain ⟨s, hs⟩ : ∃ s : Nat, s = 23 - x.log2 := ⟨_, rfl⟩
  have es : x.log2 + s = 23 := by omega
  have hb1 : x * 2 ^ s < 16777216 := by
    have : x * 2 ^ s < 2 ^ (x.log2 + 1) * 2 ^ s := Nat.mul_lt_mul_of_pos_right hu (Nat.two_pow_pos s)
    rw [← Nat.pow_add, show x.log2 + 1 + s = 24 by omega] at this
    exact this
  have hb2 : 8388608 ≤ x * 2 ^ s := by
    have : 2 ^ x.log2 * 2 ^ s ≤ x * 2 ^ s := Nat.mul_le_mul_right _ hl
    rw [← Nat.pow_add, es] at this
    exact this
  refine ⟨s, by omega, by omega, hb1, ?_⟩
  have hi : (nI x).toInt = (x : Int) := nI_toInt (by omega)
  have hr : FP.Core.round FP.Core.b32 (FP.Core.ofInt (nI x).toInt) = .fin false (x * 2 ^ s) (-(s : Int)) := by
    rw [hi]
    have e0 : FP.Core.ofInt (x : Int) = .fin false x 0 := by
      unfold FP.Core.ofInt
      rw [show decide ((x : Int) < 0) = false from decide_eq_false (by omega), Int.natAbs_natCast]
    rw [e0]
    show FP.Core.roundRatio FP.Core.b32 false x 1 0 = _
    unfold FP.Core.roundRatio FP.Core.roundAt
    rw [if_neg hx]
    have eq : FP.Core.quantum FP.Core.b32 x 1 0 = -(s : Int) := by
      unfold FP.Core.quantum
      rw [fp_lead hx, fp_qmin]
      show max (-149 : Int) ((x.log2 : Int) + 0 - ((24 : Nat) - 1 : Int)) = _
      omega
    rw [eq]
    have eu : FP.Core.unitsNum x 0 (-(s : Int)) = x * 2 ^ s := by
      unfold FP.Core.unitsNum
      rw [show ((0 : Int) - -(s : Int)).toNat = s by omega]
    have ev : FP.Core.unitsDen 1 0 (-(s : Int)) = 1 := by
      unfold FP.Core.unitsDen
      rw [show (-(s : Int) - 0).toNat = 0 by omega]
    rw [eu, ev]
    have en : FP.Core.nearest (x * 2 ^ s) 1 = x * 2 ^ s := by
      unfold FP.Core.nearest
      rw [if_pos (by omega), Nat.div_one]
    rw [en]
    unfold FP.Core.settle FP.Core.bound
    rw [if_pos (by show x * 2 ^ s < 2 ^ 24; omega), fp_qmax, if_pos (by omega)]
  show FP.Core.decode FP.Core.b32 (UInt32.ofNat (FP.Core.encode FP.Core.b32 (FP.Core.round FP.Core.b32 (FP.Core.ofInt (nI x).toInt)))).toNat = _
  rw [hr]
  obtain ⟨d1, d2⟩ := fp_de (k := x * 2 ^ s) (q := -(s : Int)) hb1 (by omega) (by omega) (Or.inr hb2)
  rw [show (UInt32.ofNat (FP.Core.encode FP.Core.b32 (.fin false (x * 2 ^ s) (-(s : Int))))).toNat = FP.Core.encode FP.Core.b32 (.fin false (x * 2 ^ s) (-(s : Int))) by simp; omega]
  exact d2
/-- the shares: below 1, not below 0 -/
def fp_okS (k : Nat) : Bool := match FP.Core.decode FP.Core.b32 (shF (nI k)).toNat with
  | .fin false c q => decide (c < 16777216) && decide (q ≤ -24) && decide (-149 ≤ q)
  | _ => false
theorem fp_shares : ∀ k, k < 1000 → fp_okS k = true := by decide +kernel
theorem fp_sh {k : Nat} (h : k ≤ 999) : ∃ (c r : Nat), c < 16777216 ∧ 24 ≤ r ∧ r ≤ 149 ∧ FP.Core.decode FP.Core.b32 (shF (nI k)).toNat = .fin false c (-(r : Int)) := by
  have h1 := fp_shares k (by omega)
  unfold fp_okS at h1
  split at h1
  · next c q e =>
    simp only [Bool.and_eq_true, decide_eq_true_eq] at h1
    exact ⟨c, (-q).toNat, h1.1.1, by omega, by omega, by rw [e, show -(((-q).toNat : Nat) : Int) = q by omega]⟩
  · cases h1
theorem shF_n {k : Nat} (h : k ≤ 999) : vf_n32 (shF (nI k)) := by
  have : ∀ k, k < 1000 → shF (nI k) &&& 0x7fffffff ≤ 0x7f800000 := by decide +kernel
  exact this k (by omega)
theorem fp_mul {x k : Nat} (h0 : 1 ≤ x) (h1 : x ≤ 1000000) (hk : k ≤ 999) : vf_n32 (FP.fmul (FP.i2f (nI x)) (shF (nI k))) ∧ ∃ f : Nat, f ≤ x ∧ feeI (nI x) (nI k) = nI f := by
  obtain ⟨s, hs1, hs2, hs3, hd1⟩ := fp_i2f h0 h1
  obtain ⟨d, r, hd, hr1, hr2, hd2⟩ := fp_sh hk
  have key : ∃ (M t : Nat), FP.Core.round FP.Core.b32 (FP.Core.exactProduct (.fin false (x * 2 ^ s) (-(s : Int))) (.fin false d (-(r : Int)))) = .fin false M (-(t : Int)) ∧ M < 16777216 ∧ t ≤ 149 ∧ (t = 149 ∨ 8388608 ≤ M) ∧ M ≤ x * 2 ^ t := by
    show ∃ (M t : Nat), FP.Core.roundRatio FP.Core.b32 (false != false) (x * 2 ^ s * d) 1 (-(s : Int) + -(r : Int)) = .fin false M (-(t : Int)) ∧ _
    unfold FP.Core.roundRatio
    by_cases hz : x * 2 ^ s * d = 0
    · rw [if_pos hz, fp_qmin]
      exact ⟨0, 149, rfl, by omega, by omega, Or.inl rfl, Nat.zero_le _⟩
    · rw [if_neg hz]
      unfold FP.Core.roundAt
      obtain ⟨N, hN⟩ : ∃ N, N = x * 2 ^ s * d := ⟨_, rfl⟩
      rw [← hN] at hz ⊢
      have hNu : N < 2 ^ 48 := by
        rw [hN]
        have := Nat.mul_lt_mul_of_le_of_lt (Nat.le_of_lt hs3) hd (by decide : 0 < 16777216)
        calc x * 2 ^ s * d < 16777216 * 16777216 := this
          _ = 2 ^ 48 := by decide
      have hl : 2 ^ N.log2 ≤ N := Nat.log2_self_le hz
      have hL : N.log2 ≤ 47 := by
        apply Nat.le_of_not_lt
        intro hc
        have : 2 ^ 48 ≤ 2 ^ N.log2 := Nat.pow_le_pow_right (by decide) hc
        omega
      obtain ⟨t, ht⟩ : ∃ t : Nat, FP.Core.quantum FP.Core.b32 N 1 (-(s : Int) + -(r : Int)) = -(t : Int) ∧ t ≤ 149 ∧ 4 ≤ t ∧ (t = 149 ∨ (t : Int) = (s : Int) + r + 23 - N.log2) ∧ (s : Int) + r + 23 - N.log2 ≥ t := by
        unfold FP.Core.quantum
        rw [fp_lead hz, fp_qmin]
        show ∃ t : Nat, max (-149 : Int) ((N.log2 : Int) + (-(s : Int) + -(r : Int)) - ((24 : Nat) - 1 : Int)) = -(t : Int) ∧ _
        by_cases hc : (N.log2 : Int) + (-(s : Int) + -(r : Int)) - 23 ≤ -149
        · exact ⟨149, by omega, by omega, by omega, Or.inl rfl, by omega⟩
        · refine ⟨((s : Int) + r + 23 - N.log2).toNat, by omega, by omega, by omega, Or.inr (by omega), by omega⟩
      obtain ⟨ht0, ht1, ht2, ht3, ht4⟩ := ht
      rw [ht0]
      have hv : 0 < FP.Core.unitsDen 1 (-(s : Int) + -(r : Int)) (-(t : Int)) := by
        unfold FP.Core.unitsDen
        rw [Nat.one_mul]
        exact Nat.two_pow_pos _
      have hdr : d ≤ 2 ^ r := Nat.le_trans (Nat.le_of_lt hd) (by show 2 ^ 24 ≤ 2 ^ r; exact Nat.pow_le_pow_right (by decide) hr1)
      have hle : FP.Core.unitsNum N (-(s : Int) + -(r : Int)) (-(t : Int)) ≤ x * 2 ^ t * FP.Core.unitsDen 1 (-(s : Int) + -(r : Int)) (-(t : Int)) := by
        unfold FP.Core.unitsNum FP.Core.unitsDen
        rw [Nat.one_mul]
        have hN2 : N ≤ x * 2 ^ (s + r) := by
          rw [hN, Nat.pow_add, ← Nat.mul_assoc]
          exact Nat.mul_le_mul_left _ hdr
        by_cases hc : s + r ≤ t
        · rw [show (-(t : Int) - (-(s : Int) + -(r : Int))).toNat = 0 by omega, show (-(s : Int) + -(r : Int) - -(t : Int)).toNat = t - (s + r) by omega, Nat.pow_zero, Nat.mul_one]
          calc N * 2 ^ (t - (s + r)) ≤ x * 2 ^ (s + r) * 2 ^ (t - (s + r)) := Nat.mul_le_mul_right _ hN2
            _ = x * 2 ^ t := by rw [Nat.mul_assoc, ← Nat.pow_add, show s + r + (t - (s + r)) = t by omega]
        · rw [show (-(t : Int) - (-(s : Int) + -(r : Int))).toNat = s + r - t by omega, show (-(s : Int) + -(r : Int) - -(t : Int)).toNat = 0 by omega, Nat.pow_zero, Nat.mul_one]
          calc N ≤ x * 2 ^ (s + r) := hN2
            _ = x * 2 ^ t * 2 ^ (s + r - t) := by rw [Nat.mul_assoc, ← Nat.pow_add, show t + (s + r - t) = s + r by omega]
      have hge : t = 149 ∨ 8388608 * FP.Core.unitsDen 1 (-(s : Int) + -(r : Int)) (-(t : Int)) ≤ FP.Core.unitsNum N (-(s : Int) + -(r : Int)) (-(t : Int)) := by
        rcases ht3 with h | h
        · exact Or.inl h
        · right
          unfold FP.Core.unitsNum FP.Core.unitsDen
          rw [Nat.one_mul]
          by_cases hc : s + r ≤ t
          · rw [show (-(t : Int) - (-(s : Int) + -(r : Int))).toNat = 0 by omega, show (-(s : Int) + -(r : Int) - -(t : Int)).toNat = 23 - N.log2 by omega, Nat.pow_zero, Nat.mul_one]
            calc 8388608 = 2 ^ N.log2 * 2 ^ (23 - N.log2) := by rw [← Nat.pow_add, show N.log2 + (23 - N.log2) = 23 by omega]
              _ ≤ N * 2 ^ (23 - N.log2) := Nat.mul_le_mul_right _ hl
          · rw [show (-(t : Int) - (-(s : Int) + -(r : Int))).toNat = N.log2 - 23 by omega, show (-(s : Int) + -(r : Int) - -(t : Int)).toNat = 0 by omega, Nat.pow_zero, Nat.mul_one]
            calc 8388608 * 2 ^ (N.log2 - 23) = 2 ^ N.log2 := by rw [show (8388608 : Nat) = 2 ^ 23 from rfl, ← Nat.pow_add, show 23 + (N.log2 - 23) = N.log2 by omega]
              _ ≤ N := hl
      have hup : FP.Core.unitsNum N (-(s : Int) + -(r : Int)) (-(t : Int)) ≤ 16777216 * FP.Core.unitsDen 1 (-(s : Int) + -(r : Int)) (-(t : Int)) := by
        have hu : N < 2 ^ (N.log2 + 1) := Nat.lt_log2_self
        unfold FP.Core.unitsNum FP.Core.unitsDen
        rw [Nat.one_mul]
        by_cases hc : s + r ≤ t
        · rw [show (-(t : Int) - (-(s : Int) + -(r : Int))).toNat = 0 by omega, show (-(s : Int) + -(r : Int) - -(t : Int)).toNat = t - (s + r) by omega, Nat.pow_zero, Nat.mul_one]
          calc N * 2 ^ (t - (s + r)) ≤ 2 ^ (N.log2 + 1) * 2 ^ (t - (s + r)) := Nat.mul_le_mul_right _ (Nat.le_of_lt hu)
            _ = 2 ^ (N.log2 + 1 + (t - (s + r))) := by rw [← Nat.pow_add]
            _ ≤ 2 ^ 24 := Nat.pow_le_pow_right (by decide) (by omega)
        · rw [show (-(t : Int) - (-(s : Int) + -(r : Int))).toNat = s + r - t by omega, show (-(s : Int) + -(r : Int) - -(t : Int)).toNat = 0 by omega, Nat.pow_zero, Nat.mul_one]
          calc N ≤ 2 ^ (N.log2 + 1) := Nat.le_of_lt hu
            _ ≤ 2 ^ (24 + (s + r - t)) := Nat.pow_le_pow_right (by decide) (by omega)
            _ = 16777216 * 2 ^ (s + r - t) := by rw [Nat.pow_add]
      have hM1 := fp_near hv hle
      have hM2 := fp_near hv hup
      obtain ⟨M, hM⟩ : ∃ M, M = FP.Core.nearest (FP.Core.unitsNum N (-(s : Int) + -(r : Int)) (-(t : Int))) (FP.Core.unitsDen 1 (-(s : Int) + -(r : Int)) (-(t : Int))) := ⟨_, rfl⟩
      rw [← hM] at hM1 hM2 ⊢
      have hMg : t = 149 ∨ 8388608 ≤ M := by
        rcases hge with h | h
        · exact Or.inl h
        · right; rw [hM]; exact fp_nearge hv h
      unfold FP.Core.settle FP.Core.bound
      rw [fp_qmax]
      by_cases hc : M < 16777216
      · rw [if_pos (by show M < 2 ^ 24; omega), if_pos (by omega)]
        exact ⟨M, t, rfl, hc, ht1, hMg, hM1⟩
      · rw [if_neg (by show ¬ M < 2 ^ 24; omega), if_pos (by omega)]
        have hM3 : M = 16777216 := by omega
        refine ⟨8388608, t - 1, by rw [fp_tails, show (-(t : Int) + 1) = -((t - 1 : Nat) : Int) by omega]; rfl, by omega, by omega, Or.inr (by omega), ?_⟩
        have : x * 2 ^ t = x * 2 ^ (t - 1) * 2 := by rw [Nat.mul_assoc, ← Nat.pow_succ, show (t - 1).succ = t by omega]
        omega
  obtain ⟨M, t, e, hM, ht, hMt, hMx⟩ := key
  obtain ⟨d1, d2⟩ := fp_de (k := M) (q := -(t : Int)) hM (by omega) (by omega) (hMt.imp (fun h => by omega) id)
  have em : FP.fmul (FP.i2f (nI x)) (shF (nI k)) = UInt32.ofNat (FP.Core.encode FP.Core.b32 (.fin false M (-(t : Int)))) := by
    show UInt32.ofNat (FP.Core.encode FP.Core.b32 (FP.Core.round FP.Core.b32 (FP.Core.exactProduct (FP.Core.decode FP.Core.b32 (FP.i2f (nI x)).toNat) (FP.Core.decode FP.Core.b32 (shF (nI k)).toNat)))) = _
    rw [hd1, hd2, e]
  refine ⟨by rw [em]; exact fp_n32 d1, M / 2 ^ t, ?_, ?_⟩
  · exact Nat.div_le_of_le_mul (by rw [Nat.mul_comm]; exact hMx)
  · unfold feeI
    rw [em]
    show FP.Core.toI (FP.Core.decode FP.Core.b32 (UInt32.ofNat _).toNat) = _
    rw [show (UInt32.ofNat (FP.Core.encode FP.Core.b32 (.fin false M (-(t : Int))))).toNat = FP.Core.encode FP.Core.b32 (.fin false M (-(t : Int))) by simp; omega, d2]
    have hle : M / 2 ^ t ≤ x := Nat.div_le_of_le_mul (by rw [Nat.mul_comm]; exact hMx)
    show Int32.ofInt (max (-2 ^ 31) (min (2 ^ 31 - 1) (FP.Core.truncate false M (-(t : Int))))) = _
    have et : FP.Core.truncate false M (-(t : Int)) = ((M / 2 ^ t : Nat) : Int) := by
      unfold FP.Core.truncate FP.Core.signed
      rw [show (-(t : Int)).toNat = 0 by omega, show (- -(t : Int)).toNat = t by omega, Nat.pow_zero, Nat.mul_one]
      rfl
    obtain ⟨w, hw⟩ : ∃ w, w = M / 2 ^ t := ⟨_, rfl⟩
    rw [← hw] at hle
    rw [et, ← hw]
    have hw2 : (w : Int) ≤ 2147483647 := by omega
    rw [show min ((2 : Int) ^ 31 - 1) (w : Int) = w from Int.min_eq_right hw2, show max (-(2 : Int) ^ 31) (w : Int) = w from Int.max_eq_right (by show (-2147483648 : Int) ≤ w; omega)]
    rfl
