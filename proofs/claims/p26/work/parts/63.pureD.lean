/-! a day's end, and days -/
def dueB (a : yA) (j : Nat) : Bool := decide (a 18 j = a 0 1)
def pndB (a : yA) (j : Nat) : Bool := decide (¬ a 18 j < a 0 1)
def phi (a : yA) : Nat := nn (a 0 4) + ct (hotB a) 8 + ct (pndB a) (nn (a 0 3))
theorem ct_sum {f g h : Nat → Bool} : ∀ n, (∀ i, i < n → (f i = true → h i = true) ∧ (g i = true → h i = true) ∧ ¬ (f i = true ∧ g i = true)) → ct f n + ct g n ≤ ct h n := by
  intro n
  induction n with
  | zero => exact fun _ => Nat.le_refl _
  | succ n ih =>
    intro H
    have h1 := ih (fun i hi => H i (by omega))
    obtain ⟨k1, k2, k3⟩ := H n (by omega)
    show ct f n + _ + (ct g n + _) ≤ ct h n + _
    by_cases e : f n = true
    · rw [if_pos e, if_pos (k1 e), if_neg (fun q => k3 ⟨e, q⟩)]; omega
    · rw [if_neg e]
      by_cases e2 : g n = true
      · rw [if_pos e2, if_pos (k2 e2)]; omega
      · rw [if_neg e2]; omega
theorem rels_ok {a : yA} {G n : Int} (hB : okB a) (hI : okI a G n) (hU : okU a) : ∀ k, k ≤ nn (a 0 3) →
    okI (sRels a k) G n ∧ ct (hotB (sRels a k)) 8 ≤ ct (hotB a) 8 + ct (dueB a) k ∧ ∀ j, j < k → ¬ a 0 1 < a 18 j → hld (sRels a k) j = 0 := by
  intro k
  induction k with
  | zero => exact fun _ => ⟨hI, Nat.le_refl _, fun j hj => absurd hj (Nat.not_lt_zero j)⟩
  | succ k ih =>
    intro hk
    obtain ⟨h1, h2, h3⟩ := ih (by omega)
    have hN := (hB 0 3 100 rfl).2
    have e18 : sRels a k 18 = a 18 := sRels_oth a k (by decide) (by decide)
    have e01 : sRels a k 0 = a 0 := sRels_oth a k (by decide) (by decide)
    have es : sRels a (k + 1) = if sRels a k 18 k = sRels a k 0 1 then sRel (sRels a k) k (sRels a k 17 k) else sRels a k := rfl
    have ec : ct (dueB a) (k + 1) = ct (dueB a) k + (if dueB a k = true then 1 else 0) := rfl
    rw [es, ec, e18, e01]
    by_cases hq : a 18 k = a 0 1
    · rw [if_pos hq, if_pos (show dueB a k = true from decide_eq_true hq)]
      have hBk := okB_rels hB k
      obtain ⟨r1, r2, r3⟩ := okI_rel h1 (show k < 100 by omega) (slr_lt hBk k) (c := sRels a k 17 k) (h1.1 k) (Int.le_refl _)
      refine ⟨r1, ?_, fun j hj hd => ?_⟩
      · have := ct_at (f := hotB (sRels a k)) (g := hotB (sRel (sRels a k) k (sRels a k 17 k))) (t := slr (sRels a k) k) 8 (fun i _ hi h => by rw [rel_hot hi] at h; exact h)
        omega
      · by_cases e : j = k
        · rw [e, r3]
          show (sRels a k 17 k).toInt - (sRels a k 17 k).toInt = 0
          omega
        · show (sRel _ _ _ 17 j).toInt = 0
          rw [sRel_17 _ _ _ _ e]; exact h3 j (by omega) hd
    · rw [if_neg hq]
      refine ⟨h1, by omega, fun j hj hd => ?_⟩
      by_cases e : j = k
      · subst e
        show (sRels a j 17 j).toInt = 0
        rw [sRels_17 a j j (Nat.le_refl _), hU j (by omega) (Int32.lt_of_le_of_ne (Int32.not_lt.mp hd) hq)]; rfl
      · exact h3 j (by omega) hd
theorem pays_ok {b : yA} {G n : Int} (hB : okB b) (hI : okI b G n) (hZ : okZ b) (hM : nn (b 0 4) + ct (hotB b) 8 ≤ 1024) : ∀ k, k ≤ 8 →
    okB (sPays b k) ∧ okI (sPays b k) G n ∧ okZ (sPays b k) ∧ nn (sPays b k 0 4) + ct (hotB (sPays b k)) 8 ≤ nn (b 0 4) + ct (hotB b) 8 ∧ payOK b k := by
  intro k
  induction k with
  | zero => exact fun _ => ⟨hB, hI, hZ, Nat.le_refl _, fun z hz => absurd hz (Nat.not_lt_zero z)⟩
  | succ k ih =>
    intro hk
    obtain ⟨h1, h2, h3, h4, h5⟩ := ih (by omega)
    have room : 0 < sDue (sPays b k) k → nn (sPays b k 0 4) + 1 ≤ 1024 := fun hd => by
      have := ct_pos (f := hotB (sPays b k)) (decide_eq_true hd) 8 (show k < 8 by omega)
      omega
    have hp : payOK b (k + 1) := fun z hz hw hd => by
      by_cases e : z = k
      · subst e; exact room hd
      · exact h5 z (by omega) hw hd
    show okB (if _ then _ else _) ∧ okI (if _ then _ else _) G n ∧ okZ (if _ then _ else _) ∧ nn ((if _ then _ else _ : yA) 0 4) + ct (hotB (if _ then _ else _)) 8 ≤ _ ∧ _
    by_cases hw : sPays b k 3 k = dow (sPays b k 0 1)
    · rw [if_pos hw]
      unfold sPay
      by_cases hd : 0 < sDue (sPays b k) k
      · rw [if_pos hd]
        have hr := room hd
        obtain ⟨d1, d2⟩ := due_bal hd
        refine ⟨okB_payC h1 (by omega) _ hr, okI_payC h2 h1 h3 (by omega) hr d1 d2, okZ_payC h3 h1 _ _, ?_, hp⟩
        have := ct_drop (f := hotB (sPays b k)) (g := hotB (sPayC (sPays b k) k (sDue (sPays b k) k))) (t := k) (decide_eq_true hd) (hot_paid _ _) 8 (by omega) (fun i _ hi h => by rw [hot_other _ hi] at h; exact h)
        rw [sPayC_04, nn_inc (h1 0 4 1024 rfl) (by omega)]
        omega
      · rw [if_neg hd]
        exact ⟨h1, h2, h3, h4, hp⟩
    · rw [if_neg hw]
      exact ⟨h1, h2, h3, h4, hp⟩
theorem sCovR_17 (a : yA) (z : Nat) : ∀ n i, n ≤ i → sCovR a z n 17 i = a 17 i := by
  intro n
  induction n with
  | zero => exact fun _ _ => rfl
  | succ n ih =>
    intro i hi
    show (if _ then _ else _ : yA) 17 i = a 17 i
    split
    · rw [sRel_17 _ _ _ _ (by omega), ih i (by omega)]
    · exact ih i (by omega)
theorem sCovRs_17 (a : yA) (N i : Nat) (h : N ≤ i) : ∀ z, sCovRs a N z 17 i = a 17 i := by
  intro z
  induction z with
  | zero => rfl
  | succ z ih =>
    show sCovR _ _ _ 17 i = _
    rw [sCovR_17 _ _ _ _ h, ih]
theorem sD3_17 (a : yA) {i : Nat} (h : nn (a 0 3) ≤ i) : sD3 a 17 i = a 17 i := by
  unfold sD3 sD2 sD1
  rw [sCovOs_oth _ _ _ (by decide), sCovRs_17 _ _ _ h, sRels_17 _ _ _ h]
theorem sDay_oth (a : yA) {i : Nat} (h0 : i ≠ 0) (h7 : i ≠ 7) (h8 : i ≠ 8) (h1 : i ≠ 19) (h2 : i ≠ 20) (h3 : i ≠ 17) : sDay a i = a i := by
  rw [sDay_eq]
  unfold sNext sD4
  rw [put_oth _ _ _ h0, sPays_oth _ _ h0 h7 h8 h1 h2, sD3_oth _ h7 h3]
theorem sDay_17 (a : yA) : sDay a 17 = sD3 a 17 := by
  rw [sDay_eq]
  unfold sNext sD4
  rw [put_oth _ _ _ (by decide), sPays_oth _ _ (by decide) (by decide) (by decide) (by decide) (by decide)]
theorem sDay_0 (a : yA) {j : Nat} (h4 : j ≠ 4) (h1 : j ≠ 1) : sDay a 0 j = a 0 j := by
  rw [sDay_eq]
  unfold sNext sD4
  rw [put_ne _ _ _ h1, sPays_0 _ _ h4, sD3_oth _ (by decide) (by decide)]
theorem sDay_01 (a : yA) : sDay a 0 1 = a 0 1 + 1 := by
  rw [sDay_eq]
  unfold sNext sD4
  rw [put_at, sPays_0 _ _ (by decide), sD3_oth _ (by decide) (by decide)]
theorem day_toInt {x : Int32} {b : Nat} (h : lim x b) (hb : b < 2 ^ 30) : x.toInt = (nn x : Int) ∧ (x + 1).toInt = (nn x : Int) + 1 := by
  have h2 := h.2
  have e : x.toInt = (nn x : Int) := by
    have e9 := h.1
    rw [e9, nn_nI (by omega)]
    exact nI_toInt (by omega)
  refine ⟨e, ?_⟩
  have e1 : (1 : Int32).toInt = 1 := rfl
  rw [i_add (by omega) (by omega), e, e1]
/-- what holds between the calls -/
def okD (a : yA) (G n : Int) : Prop := okB a ∧ okI a G n ∧ okZ a ∧ okU a
theorem day_ok {a : yA} {G n : Int} (h : okD a G n) (hphi : phi a ≤ 1024) (ht : nn (a 0 1) + 1 ≤ 5000) : dayOK a ∧ okD (sDay a) G n ∧ phi (sDay a) ≤ phi a := by
  obtain ⟨hB, hI, hZ, hU⟩ := h
  have hN := (hB 0 3 100 rfl).2
  have hS := (hB 0 0 8 rfl).2
  obtain ⟨r1, r2, r3⟩ := rels_ok hB hI hU (nn (a 0 3)) (Nat.le_refl _)
  have q1 : stQ (sD1 a) G n (fun j => j < nn (a 0 3) ∧ ¬ a 0 1 < a 18 j) (ct (hotB a) 8 + ct (dueB a) (nn (a 0 3))) := ⟨okB_rels hB _, r1, fun j _ hj => r3 j hj.1 hj.2, r2⟩
  obtain ⟨q2, q3, q4, q5⟩ : stQ (sD3 a) G n (fun j => j < nn (a 0 3) ∧ ¬ a 0 1 < a 18 j) (ct (hotB a) 8 + ct (dueB a) (nn (a 0 3))) := stQ_covOs (stQ_covRs q1 hN _ hS) hS _ hS
  have e3 : sD3 a 0 = a 0 := sD3_oth a (by decide) (by decide)
  obtain ⟨t1, t2⟩ := day_toInt (hB 0 1 5000 rfl) (by decide)
  have hp : ct (dueB a) (nn (a 0 3)) + ct (pndB (sDay a)) (nn (a 0 3)) ≤ ct (pndB a) (nn (a 0 3)) := by
    refine ct_sum _ (fun i hi => ⟨fun q => ?_, fun q => ?_, fun q => ?_⟩)
    · refine decide_eq_true (fun k => ?_)
      have e := of_decide_eq_true q
      rw [e] at k
      exact Int32.lt_irrefl k
    · refine decide_eq_true (fun k => (of_decide_eq_true q) ?_)
      rw [sDay_01, sDay_oth _ (by decide) (by decide) (by decide) (by decide) (by decide) (by decide), Int32.lt_iff_toInt_lt, t2]
      rw [Int32.lt_iff_toInt_lt, t1] at k
      omega
    · have e := of_decide_eq_true q.1
      refine (of_decide_eq_true q.2) ?_
      rw [sDay_01, sDay_oth _ (by decide) (by decide) (by decide) (by decide) (by decide) (by decide), Int32.lt_iff_toInt_lt, t2, e, t1]
      omega
  have hM : nn (sD3 a 0 4) + ct (hotB (sD3 a)) 8 ≤ 1024 := by
    rw [e3]
    unfold phi at hphi
    omega
  obtain ⟨p1, p2, p3, p4, p5⟩ := pays_ok q2 q3 (okZ_D3 hZ) hM (nn (a 0 0)) hS
  have hd : dayOK a := ⟨p5, ht⟩
  have hBd := (okB_day hB hd).1
  have e03 : sDay a 0 3 = a 0 3 := sDay_0 a (by decide) (by decide)
  refine ⟨hd, ⟨hBd, okI_of (a := sD4 a) p2 rfl rfl rfl rfl, okZ_day hZ hB p5, fun j hj hlt => ?_⟩, ?_⟩
  · rw [e03] at hj
    rw [sDay_01, sDay_oth _ (by decide) (by decide) (by decide) (by decide) (by decide) (by decide), Int32.lt_iff_toInt_lt, t2] at hlt
    have hz := q4 j (by omega) ⟨hj, fun k => by rw [Int32.lt_iff_toInt_lt, t1] at k; omega⟩
    rw [sDay_17]
    exact Int32.toInt_inj.mp hz
  · have e04 : sDay a 0 4 = sD4 a 0 4 := by rw [sDay_eq]; unfold sNext; rw [put_ne _ _ _ (by decide)]
    have eh : ct (hotB (sDay a)) 8 ≤ ct (hotB (sD4 a)) 8 := ct_le 8 (fun i _ hi => by rw [hot_of (a := sD4 a) (b := sDay a) rfl rfl rfl rfl] at hi; exact hi)
    unfold phi
    rw [e03, e04]
    rw [e3] at p4
    have p9 : nn (sD4 a 0 4) + ct (hotB (sD4 a)) 8 ≤ nn (a 0 4) + ct (hotB (sD3 a)) 8 := p4
    omega
