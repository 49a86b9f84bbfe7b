/-! what a day's end leaves -/
theorem ded_payC {a : yA} (hZ : okZ a) (z : Nat) (c : Int32) : ded (sPayC a z c) = ded a := by
  have e21 : sPayC a z c 21 = a 21 := sPayC_oth a z c (by decide) (by decide) (by decide) (by decide) (by decide)
  funext i
  unfold ded
  rw [e21]
  by_cases e : i = nn (a 0 4)
  · rw [e, (hZ _ (Nat.le_refl _)).2.2, if_pos rfl, if_pos rfl]
  · unfold cen
    rw [sPayC_cen, upd_ne _ e]
theorem ded_pays {b : yA} {G n : Int} (hB : okB b) (hI : okI b G n) (hZ : okZ b) (hM : nn (b 0 4) + ct (hotB b) 8 ≤ 1024) : ∀ k, k ≤ 8 → ded (sPays b k) = ded b := by
  intro k
  induction k with
  | zero => exact fun _ => rfl
  | succ k ih =>
    intro hk
    have h9 := ih (by omega)
    obtain ⟨h1, h2, h3, h4, h5⟩ := pays_ok hB hI hZ hM k (by omega)
    show ded (if _ then _ else _) = _
    split
    · unfold sPay
      split
      · rw [ded_payC h3]; exact h9
      · exact h9
    · exact h9
theorem ded_day {a : yA} {G n : Int} (h : okD a G n) (hP : okP a) (hF : okF a) (hphi : phi a ≤ 1024) : ded (sDay a) = ded a := by
  obtain ⟨-, -, -, -, -, -, p1, p2, p3, p4, p5, p6⟩ := day_st h hP hF hphi
  have hS := (h.1 0 0 8 rfl).2
  have e1 : ded (sDay a) = ded (sD4 a) := ded_of rfl rfl
  have e2 : ded (sD4 a) = ded (sD3 a) := ded_pays p2 p3 p4 p6 _ hS
  have e3 : ded (sD3 a) = ded a := ded_of (sD3_oth a (by decide) (by decide)) (sD3_oth a (by decide) (by decide))
  rw [e1, e2, e3]
theorem pays_new {b : yA} {G n : Int} (hB : okB b) (hI : okI b G n) (hZ : okZ b) (hM : nn (b 0 4) + ct (hotB b) 8 ≤ 1024) : ∀ k, k ≤ 8 →
    nn (b 0 4) ≤ nn (sPays b k 0 4) ∧ nn (sPays b k 0 4) ≤ nn (b 0 4) + k ∧ (∀ i, nn (b 0 4) ≤ i → i < nn (sPays b k 0 4) → nn (sPays b k 20 i) < k) ∧ ∀ i, nn (b 0 4) < i → i < nn (sPays b k 0 4) → nn (sPays b k 20 (i - 1)) < nn (sPays b k 20 i) := by
  intro k
  induction k with
  | zero => exact fun _ => ⟨Nat.le_refl _, Nat.le_refl _, fun i h1 h2 => absurd h2 (by show ¬ i < nn (b 0 4); omega), fun i h1 h2 => absurd h2 (by show ¬ i < nn (b 0 4); omega)⟩
  | succ k ih =>
    intro hk
    obtain ⟨i1, i2, i3, i4⟩ := ih (by omega)
    obtain ⟨h1, h2, h3, h4, h5⟩ := pays_ok hB hI hZ hM k (by omega)
    have same : nn (b 0 4) ≤ nn (sPays b k 0 4) ∧ nn (sPays b k 0 4) ≤ nn (b 0 4) + (k + 1) ∧ (∀ i, nn (b 0 4) ≤ i → i < nn (sPays b k 0 4) → nn (sPays b k 20 i) < k + 1) ∧ ∀ i, nn (b 0 4) < i → i < nn (sPays b k 0 4) → nn (sPays b k 20 (i - 1)) < nn (sPays b k 20 i) :=
      ⟨i1, by omega, fun i q1 q2 => Nat.lt_succ_of_lt (i3 i q1 q2), i4⟩
    have es : sPays b (k + 1) = if sPays b k 3 k = dow (sPays b k 0 1) then sPay (sPays b k) k else sPays b k := rfl
    rw [es]
    by_cases hw : sPays b k 3 k = dow (sPays b k 0 1)
    · rw [if_pos hw]
      unfold sPay
      by_cases hd : 0 < sDue (sPays b k) k
      · rw [if_pos hd]
        have hr := ct_pos (f := hotB (sPays b k)) (decide_eq_true hd) 8 (show k < 8 by omega)
        rw [sPayC_04, nn_inc (h1 0 4 1024 rfl) (by omega), sPayC_20]
        refine ⟨by omega, by omega, fun i q1 q2 => ?_, fun i q1 q2 => ?_⟩
        · by_cases e : i = nn (sPays b k 0 4)
          · rw [e, upd_eq, nn_nI (by omega)]; omega
          · rw [upd_ne _ e]
            exact Nat.lt_succ_of_lt (i3 i q1 (by omega))
        · by_cases e : i = nn (sPays b k 0 4)
          · rw [upd_ne (i := i - 1) _ (by omega), e, upd_eq, nn_nI (by omega)]
            have := i3 (nn (sPays b k 0 4) - 1) (by omega) (by omega)
            exact this
          · rw [upd_ne (i := i - 1) _ (by omega), upd_ne _ e]
            exact i4 i q1 (by omega)
      · rw [if_neg hd]
        exact same
    · rw [if_neg hw]
      exact same
/-- the payouts of a day are new ones, one a seller at most, in the sellers' order -/
theorem day_new {a : yA} {G n : Int} (h : okD a G n) (hP : okP a) (hF : okF a) (hphi : phi a ≤ 1024) :
    nn (a 0 4) ≤ nn (sDay a 0 4) ∧ nn (sDay a 0 4) ≤ nn (a 0 4) + 8 ∧ ∀ i, nn (a 0 4) < i → i < nn (sDay a 0 4) → nn (sDay a 20 (i - 1)) < nn (sDay a 20 i) := by
  obtain ⟨-, -, -, -, -, -, p1, p2, p3, p4, p5, p6⟩ := day_st h hP hF hphi
  have hS := (h.1 0 0 8 rfl).2
  have e3 : sD3 a 0 = a 0 := sD3_oth a (by decide) (by decide)
  obtain ⟨k1, k2, k3, k4⟩ := pays_new p2 p3 p4 p6 (nn (a 0 0)) hS
  rw [e3] at k1 k2 k4
  have e04 : sDay a 0 4 = sPays (sD3 a) (nn (a 0 0)) 0 4 := by rw [sDay_eq]; unfold sNext; rw [put_ne _ _ _ (by decide)]; rfl
  have e20 : sDay a 20 = sPays (sD3 a) (nn (a 0 0)) 20 := rfl
  rw [e04, e20]
  exact ⟨k1, by omega, k4⟩
theorem covR_off {b : yA} {z : Nat} (hz : z < 8) : ∀ k, (∀ i, i ≠ z → sCovR b z k 7 i = b 7 i) ∧ ∀ j, b 10 j ≠ nI z → sCovR b z k 17 j = b 17 j := by
  intro k
  induction k with
  | zero => exact ⟨fun _ _ => rfl, fun _ _ => rfl⟩
  | succ k ih =>
    obtain ⟨i1, i2⟩ := ih
    have es : sCovR b z (k + 1) = if sCovR b z k 7 z < 0 ∧ sCovR b z k 10 k = nI z then sRel (sCovR b z k) k (imin (sCovR b z k 17 k) (-(sCovR b z k 7 z))) else sCovR b z k := rfl
    rw [es]
    by_cases hc : sCovR b z k 7 z < 0 ∧ sCovR b z k 10 k = nI z
    · rw [if_pos hc]
      have hs : slr (sCovR b z k) k = z := by show nn _ = z; rw [hc.2]; exact nn_nI (by omega)
      refine ⟨fun i hi => ?_, fun j hj => ?_⟩
      · rw [sRel_bal, hs, upd_ne _ hi]; exact i1 i hi
      · have hne : j ≠ k := fun q => hj (by rw [q, ← hc.2, sCovR_oth _ _ _ (by decide) (by decide)])
        rw [sRel_hld, upd_ne _ hne]; exact i2 j hj
    · rw [if_neg hc]
      exact ⟨i1, i2⟩
theorem covR_zero {b : yA} {G n : Int} (hB : okB b) (hI : okI b G n) {z : Nat} (hz : z < 8) : ∀ k, k ≤ 100 → bal (sCovR b z k) z < 0 → ∀ j, j < k → b 10 j = nI z → hld (sCovR b z k) j = 0 := by
  intro k
  induction k with
  | zero => exact fun _ _ j hj => absurd hj (Nat.not_lt_zero j)
  | succ k ih =>
    intro hk
    obtain ⟨qB, qI, -, -⟩ := stQ_covR (stQ_in hB hI) hz k (by omega)
    have h10 : sCovR b z k 10 = b 10 := sCovR_oth b z k (by decide) (by decide)
    have es : sCovR b z (k + 1) = if sCovR b z k 7 z < 0 ∧ sCovR b z k 10 k = nI z then sRel (sCovR b z k) k (imin (sCovR b z k 17 k) (-(sCovR b z k 7 z))) else sCovR b z k := rfl
    rw [es]
    by_cases hc : sCovR b z k 7 z < 0 ∧ sCovR b z k 10 k = nI z
    · rw [if_pos hc]
      have hs : slr (sCovR b z k) k = z := by show nn _ = z; rw [hc.2]; exact nn_nI (by omega)
      obtain ⟨d1, d2, d3⟩ := cov_c qI hz hc.1 (qI.1 k)
      obtain ⟨r1, r2, r3⟩ := okI_rel qI (show k < 100 by omega) (slr_lt qB k) d1 d2
      rw [hs] at r2
      intro hneg j hj h9
      have hn0 : bal (sCovR b z k) z < 0 := Int32.lt_iff_toInt_lt.mp hc.1
      by_cases e : j = k
      · rw [e, r3]
        rw [r2] at hneg
        have kb := neg_bnd qI hz
        rw [i_min, i_neg (by unfold bal at kb; omega)] at hneg ⊢
        have e1 : hld (sCovR b z k) k = (sCovR b z k 17 k).toInt := rfl
        have e2 : bal (sCovR b z k) z = (sCovR b z k 7 z).toInt := rfl
        split at hneg <;> split <;> omega
      · have q := ih (by omega) hn0 j (by omega) h9
        show (sRel _ _ _ 17 j).toInt = 0
        rw [sRel_17 _ _ _ _ e]; exact q
    · rw [if_neg hc]
      intro hneg j hj h9
      have hn0 : sCovR b z k 7 z < 0 := Int32.lt_iff_toInt_lt.mpr hneg
      by_cases e : j = k
      · exact absurd ⟨hn0, by rw [h10, ← e]; exact h9⟩ hc
      · exact ih (by omega) hneg j (by omega) h9
theorem covRs_zero {b : yA} {G n : Int} (hB : okB b) (hI : okI b G n) {N : Nat} (hN : N ≤ 100) : ∀ Z, Z ≤ 8 → ∀ z, z < Z → bal (sCovRs b N Z) z < 0 → ∀ j, j < N → b 10 j = nI z → hld (sCovRs b N Z) j = 0 := by
  intro Z
  induction Z with
  | zero => exact fun _ z hz => absurd hz (Nat.not_lt_zero z)
  | succ Z ih =>
    intro hZ z hz hneg j hj h9
    obtain ⟨qB, qI, -, -⟩ := stQ_covRs (stQ_in hB hI) hN Z (by omega)
    have e10 : sCovRs b N Z 10 = b 10 := sCovRs_oth b N Z (by decide) (by decide)
    have es : sCovRs b N (Z + 1) = sCovR (sCovRs b N Z) Z N := rfl
    rw [es] at hneg ⊢
    by_cases e : z = Z
    · rw [e] at hneg h9
      exact covR_zero qB qI (show Z < 8 by omega) N hN hneg j hj (by rw [e10]; exact h9)
    · obtain ⟨o1, o2⟩ := covR_off (b := sCovRs b N Z) (show Z < 8 by omega) N
      have q1 : bal (sCovR (sCovRs b N Z) Z N) z = bal (sCovRs b N Z) z := by unfold bal; rw [o1 z e]
      have q2 : hld (sCovR (sCovRs b N Z) Z N) j = hld (sCovRs b N Z) j := by
        unfold hld
        rw [o2 j (by rw [e10, h9]; exact fun q => e ((nI_eq (by omega) (by omega)).mp q))]
      rw [q1] at hneg
      rw [q2]
      exact ih (by omega) z (by omega) hneg j hj h9
theorem covO_neg {b : yA} {G n : Int} (hB : okB b) (hI : okI b G n) {z : Nat} (hz : z < 8) : ∀ k, k ≤ 8 → ∀ i, bal (sCovO b z k) i < 0 → bal b i < 0 := by
  intro k
  induction k with
  | zero => exact fun _ _ h => h
  | succ k ih =>
    intro hk i
    obtain ⟨qB, qI, -, -⟩ := stQ_covO (stQ_in hB hI) hz k (by omega)
    have es : sCovO b z (k + 1) = if sCovO b z k 7 z < 0 ∧ sCovO b z k 1 k = sCovO b z k 1 z ∧ 0 < sCovO b z k 7 k then sGive (sCovO b z k) k z (imin (sCovO b z k 7 k) (-(sCovO b z k 7 z))) else sCovO b z k := rfl
    rw [es]
    by_cases hc : sCovO b z k 7 z < 0 ∧ sCovO b z k 1 k = sCovO b z k 1 z ∧ 0 < sCovO b z k 7 k
    · rw [if_pos hc]
      obtain ⟨c1, -, c3⟩ := hc
      have hg0 : 0 < bal (sCovO b z k) k := Int32.lt_iff_toInt_lt.mp c3
      have hz0 : bal (sCovO b z k) z < 0 := Int32.lt_iff_toInt_lt.mp c1
      have hne : z ≠ k := fun q => by
        have q2 : bal (sCovO b z k) z = bal (sCovO b z k) k := congrArg _ q
        omega
      obtain ⟨d1, d2, d3⟩ := cov_c qI hz c1 (Int.le_of_lt hg0)
      obtain ⟨r1, r2, r3⟩ := okI_give qI (show k < 8 by omega) hz hne d1 d2 d3
      intro hneg
      refine ih (by omega) i ?_
      by_cases e1 : i = z
      · rw [e1]; exact hz0
      · by_cases e2 : i = k
        · rw [e2, r2] at hneg
          have : bal (sCovO b z k) k = (sCovO b z k 7 k).toInt := rfl
          omega
        · have q : bal (sGive (sCovO b z k) k z (imin (sCovO b z k 7 k) (-(sCovO b z k 7 z)))) i = bal (sCovO b z k) i := by
            unfold bal
            rw [sGive_bal _ _ hne, upd_ne _ e1, upd_ne _ e2]
          rw [q] at hneg
          exact hneg
    · rw [if_neg hc]
      exact ih (by omega) i
theorem covOs_neg {b : yA} {G n : Int} (hB : okB b) (hI : okI b G n) {N : Nat} (hN : N ≤ 8) : ∀ Z, Z ≤ 8 → ∀ i, bal (sCovOs b N Z) i < 0 → bal b i < 0 := by
  intro Z
  induction Z with
  | zero => exact fun _ _ h => h
  | succ Z ih =>
    intro hZ i h
    obtain ⟨qB, qI, -, -⟩ := stQ_covOs (stQ_in hB hI) hN Z (by omega)
    exact ih (by omega) i (covO_neg qB qI (show Z < 8 by omega) N hN i h)
theorem payC_neg {a : yA} {z : Nat} {c : Int32} (h0 : 0 ≤ c.toInt) (hc : c.toInt ≤ bal a z) (i : Nat) (h : bal (sPayC a z c) i < 0) : bal a i < 0 := by
  by_cases e : i = z
  · have hl := Int32.toInt_lt (a 7 z)
    have eb : bal (sPayC a z c) z = bal a z - c.toInt := by
      unfold bal at *
      rw [sPayC_bal, upd_eq, ← Int32.sub_eq_add_neg, i_sub (by omega) (by omega)]
    rw [e, eb] at h
    omega
  · have q : bal (sPayC a z c) i = bal a i := by unfold bal; rw [sPayC_bal, upd_ne _ e]
    rw [q] at h
    exact h
theorem pays_neg {b : yA} : ∀ k, ∀ i, bal (sPays b k) i < 0 → bal b i < 0 := by
  intro k
  induction k with
  | zero => exact fun _ h => h
  | succ k ih =>
    intro i
    have es : sPays b (k + 1) = if sPays b k 3 k = dow (sPays b k 0 1) then sPay (sPays b k) k else sPays b k := rfl
    rw [es]
    split
    · unfold sPay
      split
      · next hd => exact fun h => ih i (payC_neg (due_bal hd).1 (due_bal hd).2 i h)
      · exact ih i
    · exact ih i
theorem hsm_0 {f g : Nat → Int32} {z : Nat} : ∀ n, (∀ j, j < n → f j = nI z → g j = 0) → hsm f g z n = 0 := by
  intro n
  induction n with
  | zero => exact fun _ => rfl
  | succ n ih =>
    intro h
    show (if f n = nI z then hsm f g z n + g n else hsm f g z n) = 0
    rw [ih (fun j hj => h j (by omega))]
    split
    · next e => rw [h n (by omega) e]; rfl
    · rfl
/-- a seller whose balance is below 0 at a day's end has nothing in reserve -/
theorem day_neg {a : yA} {G n : Int} (h : okD a G n) (hP : okP a) (hF : okF a) (hphi : phi a ≤ 1024) {z : Nat} (hz : z < nn (a 0 0)) (hneg : bal (sDay a) z < 0) : sHsum (sDay a) z (nn (a 0 3)) = 0 := by
  obtain ⟨p1, p1B, p1I, p2, p2B, p2I, p3, p3B, p3I, -, -, -⟩ := day_st h hP hF hphi
  have hN := (h.1 0 3 100 rfl).2
  have hS := (h.1 0 0 8 rfl).2
  have n3 : bal (sD3 a) z < 0 := pays_neg (nn (a 0 0)) z (by rw [← bal_oth (a := sPays (sD3 a) (nn (a 0 0))) (b := sDay a) rfl z]; exact hneg)
  have n2 : bal (sD2 a) z < 0 := covOs_neg p2B p2I hS (nn (a 0 0)) hS z n3
  have e10 : sDay a 10 = sD1 a 10 := by
    rw [sDay_oth _ (by decide) (by decide) (by decide) (by decide) (by decide) (by decide)]
    exact (sRels_oth a _ (by decide) (by decide)).symm
  have e17 : sDay a 17 = sD2 a 17 := by
    rw [sDay_17]
    exact sCovOs_oth _ _ _ (by decide)
  refine hsm_0 _ (fun j hj h9 => ?_)
  rw [e10] at h9
  have q := covRs_zero p1B p1I hN (nn (a 0 0)) hS z hz n2 j hj h9
  rw [e17]
  exact Int32.toInt_inj.mp q
/-- every day of a pass -/
theorem passA_all {a : yA} {n : Nat} (h : okA a n) (hP : okP a) (hn : n < 512) {d : Int32} (hk : kPass a d = 0) : ∀ k, k ≤ nn d → okA (sPass a k) n ∧ okP (sPass a k) ∧ nn (sPass a k 0 1) = nn (a 0 1) + k ∧ nn (sPass a k 0 3) = nn (a 0 3) ∧ sPass a k 0 5 = a 0 5 ∧ ded (sPass a k) = ded a := by
  have h3 := okA_3 h
  obtain ⟨h8, h9⟩ : bw d 1 100 ∧ a 0 1 + d ≤ 5000 := by
    unfold kPass at hk
    split at hk
    · split at hk
      · exact ⟨‹_›, ‹_›⟩
      · cases hk
    · cases hk
  have hd := nat_le (b := 100) (by decide) (Int32.le_trans (by decide) h8.1) h8.2
  have ht0 := (okA_B h) 0 1 5000 rfl
  have ht2 := ht0.2
  have hd2 := hd.2
  have hsum : nn (a 0 1) + nn d ≤ 5000 := by
    rw [ht0.1, hd.1, nI_add] at h9
    exact (nI_leI (by omega) (by decide)).mp h9
  intro k
  induction k with
  | zero => exact fun _ => ⟨h, hP, rfl, rfl, rfl, rfl⟩
  | succ k ih =>
    intro hk9
    obtain ⟨⟨hD, hY, hF, hp⟩, hP9, e1, e3, e5, ed⟩ := ih (by omega)
    obtain ⟨g1, g2, g3⟩ := day_ok hD (by omega) (by omega)
    have hP10 := okP_day hD hP9 hF (by omega)
    have hd10 := ded_day hD hP9 hF (by omega)
    have e03 : sDay (sPass a k) 0 3 = sPass a k 0 3 := sDay_0 _ (by decide) (by decide)
    have e05 : sDay (sPass a k) 0 5 = sPass a k 0 5 := sDay_0 _ (by decide) (by decide)
    show okA (sDay (sPass a k)) n ∧ okP (sDay (sPass a k)) ∧ nn (sDay (sPass a k) 0 1) = _ ∧ nn (sDay (sPass a k) 0 3) = _ ∧ sDay (sPass a k) 0 5 = _ ∧ ded (sDay (sPass a k)) = _
    refine ⟨⟨by rw [e03]; exact g2, okY_of hY e03 (sDay_oth _ (by decide) (by decide) (by decide) (by decide) (by decide) (by decide)) (sDay_oth _ (by decide) (by decide) (by decide) (by decide) (by decide) (by decide)) (fun j hj => by rw [sDay_17, sD3_17 _ hj]), okF_of hF (sDay_oth _ (by decide) (by decide) (by decide) (by decide) (by decide) (by decide)) (sDay_oth _ (by decide) (by decide) (by decide) (by decide) (by decide) (by decide)), by rw [e03]; omega⟩, hP10, ?_, by rw [e03]; exact e3, by rw [e05]; exact e5, by rw [hd10]; exact ed⟩
    rw [sDay_01, nn_inc (hD.1 0 1 5000 rfl) (by decide)]
    omega
