/-! where every cent is: a day -/
theorem okP_rels {a : yA} {G n : Int} (h : okP a) (hB : okB a) (hI : okI a G n) (hU : okU a) : ∀ k, k ≤ nn (a 0 3) → okP (sRels a k) := by
  intro k
  induction k with
  | zero => exact fun _ => h
  | succ k ih =>
    intro hk
    have h9 := ih (by omega)
    have hI9 := (rels_ok hB hI hU k (by omega)).1
    have e01 : sRels a k 0 = a 0 := sRels_oth a k (by decide) (by decide)
    have hN := (hB 0 3 100 rfl).2
    show okP (if _ then _ else _)
    split
    · exact okP_rel hI9 (okB_rels hB k) h9 (show k < 100 by omega) (by rw [e01]; omega) (hI9.1 k) (Int.le_refl _)
    · exact h9
theorem stQ_in {b : yA} {G n : Int} (hB : okB b) (hI : okI b G n) : stQ b G n (fun _ => False) (ct (hotB b) 8) := ⟨hB, hI, fun _ _ h => h.elim, Nat.le_refl _⟩
theorem okP_covR {b : yA} {G n : Int} (h : okP b) (hB : okB b) (hI : okI b G n) {z : Nat} (hz : z < 8) : ∀ k, k ≤ nn (b 0 3) → okP (sCovR b z k) := by
  intro k
  induction k with
  | zero => exact fun _ => h
  | succ k ih =>
    intro hk
    have h9 := ih (by omega)
    have hN := (hB 0 3 100 rfl).2
    obtain ⟨qB, qI, -, -⟩ := stQ_covR (stQ_in hB hI) hz k (by omega)
    have e01 : sCovR b z k 0 = b 0 := sCovR_oth b z k (by decide) (by decide)
    show okP (if _ then _ else _)
    split
    · next hc =>
      obtain ⟨d1, d2, d3⟩ := cov_c qI hz hc.1 (qI.1 k)
      exact okP_rel qI qB h9 (show k < 100 by omega) (by rw [e01]; omega) d1 d2
    · exact h9
theorem okP_covRs {b : yA} {G n : Int} (h : okP b) (hB : okB b) (hI : okI b G n) : ∀ z, z ≤ 8 → okP (sCovRs b (nn (b 0 3)) z) := by
  intro z
  induction z with
  | zero => exact fun _ => h
  | succ z ih =>
    intro hz
    have hN := (hB 0 3 100 rfl).2
    obtain ⟨qB, qI, -, -⟩ := stQ_covRs (stQ_in hB hI) hN z (by omega)
    have e01 : sCovRs b (nn (b 0 3)) z 0 = b 0 := sCovRs_oth b _ z (by decide) (by decide)
    exact okP_covR (ih (by omega)) qB qI (show z < 8 by omega) _ (by rw [e01]; exact Nat.le_refl _)
theorem okP_covO {b : yA} {G n : Int} (h : okP b) (hB : okB b) (hI : okI b G n) {z : Nat} (hz : z < nn (b 0 0)) : ∀ k, k ≤ nn (b 0 0) → okP (sCovO b z k) := by
  intro k
  induction k with
  | zero => exact fun _ => h
  | succ k ih =>
    intro hk
    have h9 := ih (by omega)
    have hS := (hB 0 0 8 rfl).2
    obtain ⟨qB, qI, -, -⟩ := stQ_covO (stQ_in hB hI) (show z < 8 by omega) k (by omega)
    have e01 : sCovO b z k 0 = b 0 := sCovO_oth b z k (by decide)
    show okP (if _ then _ else _)
    split
    · next hc =>
      obtain ⟨c1, -, c3⟩ := hc
      have hg0 : 0 < bal (sCovO b z k) k := Int32.lt_iff_toInt_lt.mp c3
      have hz0 : bal (sCovO b z k) z < 0 := Int32.lt_iff_toInt_lt.mp c1
      have hne : z ≠ k := fun q => by
        have q2 : bal (sCovO b z k) z = bal (sCovO b z k) k := congrArg _ q
        omega
      obtain ⟨d1, d2, d3⟩ := cov_c qI (show z < 8 by omega) c1 (Int.le_of_lt hg0)
      exact okP_give qI h9 (show k < 8 by omega) (show z < 8 by omega) (by rw [e01]; omega) (by rw [e01]; omega) hne d1 d2 d3
    · exact h9
theorem okP_covOs {b : yA} {G n : Int} (h : okP b) (hB : okB b) (hI : okI b G n) : ∀ z, z ≤ nn (b 0 0) → okP (sCovOs b (nn (b 0 0)) z) := by
  intro z
  induction z with
  | zero => exact fun _ => h
  | succ z ih =>
    intro hz
    have hS := (hB 0 0 8 rfl).2
    obtain ⟨qB, qI, -, -⟩ := stQ_covOs (stQ_in hB hI) hS z (by omega)
    have e01 : sCovOs b (nn (b 0 0)) z 0 = b 0 := sCovOs_oth b _ z (by decide)
    exact okP_covO (ih (by omega)) qB qI (show z < _ by rw [e01]; omega) _ (by rw [e01]; exact Nat.le_refl _)
theorem okP_pays {b : yA} {G n : Int} (h : okP b) (hB : okB b) (hI : okI b G n) (hZ : okZ b) (hF : okF b) (hM : nn (b 0 4) + ct (hotB b) 8 ≤ 1024) : ∀ k, k ≤ nn (b 0 0) → okP (sPays b k) := by
  intro k
  induction k with
  | zero => exact fun _ => h
  | succ k ih =>
    intro hk
    have h9 := ih (by omega)
    have hS := (hB 0 0 8 rfl).2
    obtain ⟨h1, h2, h3, h4, h5⟩ := pays_ok hB hI hZ hM k (by omega)
    have e00 : sPays b k 0 0 = b 0 0 := sPays_0 b k (by decide)
    have hF9 : okF (sPays b k) := okF_of hF (sPays_oth b k (by decide) (by decide) (by decide) (by decide) (by decide)) (sPays_oth b k (by decide) (by decide) (by decide) (by decide) (by decide))
    show okP (if _ then _ else _)
    split
    · unfold sPay
      split
      · next hd =>
        have := ct_pos (f := hotB (sPays b k)) (decide_eq_true hd) 8 (show k < 8 by omega)
        exact okP_payC h9 h2 h1 h3 hF9 (show k < 8 by omega) (by rw [e00]; omega) (by omega) (Int32.lt_iff_toInt_lt.mp hd) (due_bal hd).2
      · exact h9
    · exact h9
/-- the stages of a day, with what holds of each -/
theorem day_st {a : yA} {G n : Int} (h : okD a G n) (hP : okP a) (hF : okF a) (hphi : phi a ≤ 1024) :
    okP (sD1 a) ∧ okB (sD1 a) ∧ okI (sD1 a) G n ∧ okP (sD2 a) ∧ okB (sD2 a) ∧ okI (sD2 a) G n ∧ okP (sD3 a) ∧ okB (sD3 a) ∧ okI (sD3 a) G n ∧ okZ (sD3 a) ∧ okF (sD3 a) ∧ nn (sD3 a 0 4) + ct (hotB (sD3 a)) 8 ≤ 1024 := by
  obtain ⟨hB, hI, hZ, hU⟩ := h
  have hN := (hB 0 3 100 rfl).2
  have hS := (hB 0 0 8 rfl).2
  obtain ⟨r1, r2, r3⟩ := rels_ok hB hI hU (nn (a 0 3)) (Nat.le_refl _)
  have hP1 : okP (sD1 a) := okP_rels hP hB hI hU _ (Nat.le_refl _)
  have q1 : stQ (sD1 a) G n (fun j => j < nn (a 0 3) ∧ ¬ a 0 1 < a 18 j) (ct (hotB a) 8 + ct (dueB a) (nn (a 0 3))) := ⟨okB_rels hB _, r1, fun j _ hj => r3 j hj.1 hj.2, r2⟩
  have e1 : sD1 a 0 = a 0 := sRels_oth a _ (by decide) (by decide)
  have q2 := stQ_covRs q1 hN (nn (a 0 0)) hS
  have hP2 : okP (sD2 a) := by
    have q := okP_covRs hP1 q1.1 q1.2.1 (nn (a 0 0)) hS
    rw [e1] at q
    exact q
  have e2 : sD2 a 0 = a 0 := by unfold sD2; rw [sCovRs_oth _ _ _ (by decide) (by decide), e1]
  have hP3 : okP (sD3 a) := by
    have q := okP_covOs hP2 q2.1 q2.2.1 (nn (a 0 0)) (by rw [e2]; exact Nat.le_refl _)
    rw [e2] at q
    exact q
  obtain ⟨k2, k3, k4, k5⟩ : stQ (sD3 a) G n (fun j => j < nn (a 0 3) ∧ ¬ a 0 1 < a 18 j) (ct (hotB a) 8 + ct (dueB a) (nn (a 0 3))) := stQ_covOs q2 hS _ hS
  have e3 : sD3 a 0 = a 0 := sD3_oth a (by decide) (by decide)
  have hp : ct (dueB a) (nn (a 0 3)) ≤ ct (pndB a) (nn (a 0 3)) := ct_le _ (fun i _ q => by
    refine decide_eq_true (fun k => ?_)
    have e := of_decide_eq_true q
    rw [e] at k
    exact Int32.lt_irrefl k)
  refine ⟨hP1, q1.1, q1.2.1, hP2, q2.1, q2.2.1, hP3, k2, k3, okZ_D3 hZ, okF_of hF (sD3_oth a (by decide) (by decide)) (sD3_oth a (by decide) (by decide)), ?_⟩
  rw [e3]
  unfold phi at hphi
  omega
theorem okP_day {a : yA} {G n : Int} (h : okD a G n) (hP : okP a) (hF : okF a) (hphi : phi a ≤ 1024) : okP (sDay a) := by
  obtain ⟨-, -, -, -, -, -, p1, p2, p3, p4, p5, p6⟩ := day_st h hP hF hphi
  have e3 : sD3 a 0 = a 0 := sD3_oth a (by decide) (by decide)
  have q : okP (sD4 a) := okP_pays p1 p2 p3 p4 p5 p6 (nn (a 0 0)) (by rw [e3]; exact Nat.le_refl _)
  obtain ⟨q1, q2, q3⟩ := q
  have e : ∀ j, j ≠ 1 → sDay a 0 j = sD4 a 0 j := fun j hj => by rw [sDay_eq]; unfold sNext; rw [put_ne _ _ _ hj]
  exact ⟨okS_of q1 (fun j h1 _ _ => e j h1) rfl rfl rfl rfl rfl rfl, okM_of q2 (fun j h1 _ _ _ => e j h1) rfl rfl rfl, okO_of q3 (e 0 (by decide)) (e 4 (by decide)) (e 5 (by decide)) rfl rfl rfl rfl⟩
