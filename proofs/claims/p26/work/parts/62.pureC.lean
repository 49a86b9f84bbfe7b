/-! a day keeps the bounds -/
theorem upd_eq (f : Nat → Int32) (t : Nat) (v : Int32) : upd f t v t = v := by simp [upd]
theorem upd_ne {f : Nat → Int32} {t i : Nat} (v : Int32) (h : i ≠ t) : upd f t v i = f i := by simp [upd, h]
theorem sm_le {f g : Nat → Int} (h : ∀ i, g i ≤ f i) (n : Nat) : sm g n ≤ sm f n := by
  induction n with
  | zero => exact Int.le_refl 0
  | succ n ih =>
    show sm g n + g n ≤ sm f n + f n
    have := h n
    omega
theorem sGive_bal (a : yA) {g z : Nat} (c : Int32) (h : z ≠ g) : sGive a g z c 7 = upd (upd (a 7) g (a 7 g + -c)) z (a 7 z + c) := by
  unfold sGive sPost
  rw [put_row, put_row, upd_ne _ h]
theorem okI_give {a : yA} {G n : Int} (h : okI a G n) {g z : Nat} (hg : g < 8) (hz : z < 8) (hne : z ≠ g) {c : Int32} (h0 : 0 ≤ c.toInt) (hc : c.toInt ≤ bal a g) (hn : bal a z + c.toInt ≤ 0) :
    okI (sGive a g z c) G n ∧ bal (sGive a g z c) g = bal a g - c.toInt ∧ bal (sGive a g z c) z = bal a z + c.toInt := by
  obtain ⟨k1, k2⟩ := okI_b h hz
  obtain ⟨m1, m2⟩ := okI_b h hg
  have h' := h
  obtain ⟨h1, h2, h3, h4, h5⟩ := h'
  have hl := Int32.toInt_lt (a 7 g)
  have k0 := sm_nn (ngt_nn a) 8
  unfold Ns at h3
  have ez : bal (sGive a g z c) z = bal a z + c.toInt := by
    show (sGive a g z c 7 z).toInt = _
    rw [sGive_bal a c hne, upd_eq]
    exact i_add (by unfold bal at *; omega) (by unfold bal at *; omega)
  have eg : bal (sGive a g z c) g = bal a g - c.toInt := by
    show (sGive a g z c 7 g).toInt = _
    rw [sGive_bal a c hne, upd_ne _ (fun q => hne q.symm), upd_eq, ← Int32.sub_eq_add_neg]
    exact i_sub (by unfold bal at *; omega) (by unfold bal at *; omega)
  have eo : ∀ i, i ≠ z → i ≠ g → bal (sGive a g z c) i = bal a i := fun i hi hj => by
    show (sGive a g z c 7 i).toInt = _
    rw [sGive_bal a c hne, upd_ne _ hi, upd_ne _ hj]; rfl
  have e17 : sGive a g z c 17 = a 17 := sGive_oth a g z c (by decide)
  have e19 : sGive a g z c 19 = a 19 := sGive_oth a g z c (by decide)
  have e21 : sGive a g z c 21 = a 21 := sGive_oth a g z c (by decide)
  refine ⟨⟨fun i => by rw [hld_oth e17]; exact h1 i, fun i => by rw [cen_oth e19]; exact h2 i, ?_, ?_, h5⟩, eg, ez⟩
  · unfold Ns
    refine Int.le_trans ?_ h3
    have key : ∀ i, ngt (sGive a g z c) i ≤ ngt a i := fun i => by
      by_cases e : i = z
      · rw [e]; exact ngt_dn (by rw [ez]; omega)
      · by_cases e2 : i = g
        · rw [e2, ngt_0 (by rw [eg]; omega)]; exact ngt_nn a g
        · exact Int.le_of_eq (ngt_of (eo i e e2))
    exact sm_le key 8
  · unfold Gs at h4 ⊢
    obtain ⟨F, hF⟩ : ∃ F : Nat → Int, F = fun i => if i = g then bal a g - c.toInt else bal a i := ⟨_, rfl⟩
    have F1 : F g = bal a g - c.toInt := by rw [hF]; exact if_pos rfl
    have F2 : ∀ i, i ≠ g → F i = bal a i := fun i hi => by rw [hF]; exact if_neg hi
    have e1 := sm_at (f := bal a) (g := F) (t := g) F2 8 hg
    have e2 := sm_at (f := F) (g := bal (sGive a g z c)) (t := z) (fun i hi => by
      by_cases q : i = g
      · rw [q, eg, F1]
      · rw [eo i hi q, F2 i q]) 8 hz
    have e3 := sm_congr (f := hld a) (g := hld (sGive a g z c)) 100 (fun i _ => hld_oth e17 i)
    have e4 := sm_congr (f := liv a) (g := liv (sGive a g z c)) 1024 (fun i _ => liv_oth e19 e21 i)
    rw [F1] at e1
    rw [F2 z hne, ez] at e2
    rw [e2, e1, e3, e4]
    omega
theorem okI_payC {a : yA} {G n : Int} (h : okI a G n) (hB : okB a) (hZ : okZ a) {z : Nat} (hz : z < 8) (hm : nn (a 0 4) + 1 ≤ 1024) {c : Int32} (h0 : 0 ≤ c.toInt) (hc : c.toInt ≤ bal a z) :
    okI (sPayC a z c) G n := by
  obtain ⟨k1, k2⟩ := okI_b h hz
  have h' := h
  obtain ⟨h1, h2, h3, h4, h5⟩ := h'
  obtain ⟨z1, z2, z3⟩ := hZ (nn (a 0 4)) (Nat.le_refl _)
  have hl := Int32.toInt_lt (a 7 z)
  have ez : bal (sPayC a z c) z = bal a z - c.toInt := by
    show (sPayC a z c 7 z).toInt = _
    rw [sPayC_bal, upd_eq, ← Int32.sub_eq_add_neg]
    exact i_sub (by unfold bal at *; omega) (by unfold bal at *; omega)
  have eo : ∀ i, i ≠ z → bal (sPayC a z c) i = bal a i := fun i hi => by
    show (sPayC a z c 7 i).toInt = _
    rw [sPayC_bal, upd_ne _ hi]; rfl
  have e17 : sPayC a z c 17 = a 17 := sPayC_oth _ _ _ (by decide) (by decide) (by decide) (by decide) (by decide)
  have e21 : sPayC a z c 21 = a 21 := sPayC_oth _ _ _ (by decide) (by decide) (by decide) (by decide) (by decide)
  have ec : cen (sPayC a z c) (nn (a 0 4)) = c.toInt := by
    show (sPayC a z c 19 _).toInt = _
    rw [sPayC_cen, upd_eq]
  have eco : ∀ i, i ≠ nn (a 0 4) → cen (sPayC a z c) i = cen a i := fun i hi => by
    show (sPayC a z c 19 i).toInt = _
    rw [sPayC_cen, upd_ne _ hi]; rfl
  have elo : ∀ i, i ≠ nn (a 0 4) → liv (sPayC a z c) i = liv a i := fun i hi => by
    unfold liv
    rw [eco i hi, e21]
  refine ⟨fun i => by rw [hld_oth e17]; exact h1 i, fun i => ?_, ?_, ?_, h5⟩
  · by_cases e : i = nn (a 0 4)
    · rw [e, ec]; exact h0
    · rw [eco i e]; exact h2 i
  · unfold Ns at h3 ⊢
    have e1 := sm_at (f := ngt a) (g := ngt (sPayC a z c)) (t := z) (fun i hi => ngt_of (eo i hi)) 8 hz
    have e2 := ngt_0 (b := sPayC a z c) (z := z) (by rw [ez]; omega)
    have e3 := ngt_nn a z
    omega
  · unfold Gs at h4 ⊢
    have e1 := sm_at eo 8 hz
    have e2 := sm_at elo 1024 (show nn (a 0 4) < 1024 by omega)
    have e3 : liv (sPayC a z c) (nn (a 0 4)) = c.toInt := by
      unfold liv
      rw [ec, e21, if_pos z3]
    have e4 : liv a (nn (a 0 4)) = 0 := by
      unfold liv cen
      rw [if_pos z3, z2]; rfl
    rw [e1, e2, e3, e4, ez, sm_congr 100 (fun i _ => hld_oth e17 i)]
    omega
/-- what the stages before the payouts keep: D: whose day is over or is now; M: how many may be paid -/
def stQ (b : yA) (G n : Int) (D : Nat → Prop) (M : Nat) : Prop := okB b ∧ okI b G n ∧ (∀ j, j < 100 → D j → hld b j = 0) ∧ ct (hotB b) 8 ≤ M
theorem slr_lt {b : yA} (hB : okB b) (j : Nat) : slr b j < 8 := Nat.lt_succ_of_le (hB 10 j 7 rfl).2
theorem neg_bnd {a : yA} {G n : Int} (h : okI a G n) {z : Nat} (hz : z < 8) : -2000000000 ≤ bal a z := by
  have := (okI_b h hz).2
  obtain ⟨h1, h2, h3, h4, h5⟩ := h
  omega
theorem cov_c {b : yA} {G n : Int} (h : okI b G n) {z : Nat} (hz : z < 8) (hneg : b 7 z < 0) {x : Int32} (hx : 0 ≤ x.toInt) :
    0 ≤ (imin x (-(b 7 z))).toInt ∧ (imin x (-(b 7 z))).toInt ≤ x.toInt ∧ bal b z + (imin x (-(b 7 z))).toInt ≤ 0 := by
  have k := neg_bnd h hz
  have k2 : bal b z < 0 := Int32.lt_iff_toInt_lt.mp hneg
  rw [i_min, i_neg (by unfold bal at k; omega)]
  unfold bal at *
  split <;> omega
theorem rel_hot {b : yA} {j : Nat} {c : Int32} {i : Nat} (h : i ≠ slr b j) : hotB (sRel b j c) i = hotB b i := by
  refine hot_of ?_ ?_ ?_ ?_
  · rw [sRel_oth _ _ _ (by decide) (by decide)]
  · rw [sRel_oth _ _ _ (by decide) (by decide)]
  · rw [sRel_bal, upd_ne _ h]
  · rw [sRel_oth _ _ _ (by decide) (by decide)]
theorem stQ_covR {b : yA} {G n : Int} {D : Nat → Prop} {M : Nat} (h : stQ b G n D M) {z : Nat} (hz : z < 8) : ∀ k, k ≤ 100 → stQ (sCovR b z k) G n D M := by
  intro k
  induction k with
  | zero => exact fun _ => h
  | succ k ih =>
    intro hk
    have h9 := ih (by omega)
    show stQ (if _ then _ else _) G n D M
    split
    · next hc =>
      obtain ⟨hB, hI, hD, hM⟩ := h9
      obtain ⟨c1, c2⟩ := hc
      have hs : slr (sCovR b z k) k = z := by show nn _ = z; rw [c2]; exact nn_nI (by omega)
      obtain ⟨d1, d2, d3⟩ := cov_c hI hz c1 (hI.1 k)
      obtain ⟨r1, r2, r3⟩ := okI_rel hI (show k < 100 by omega) (slr_lt hB k) d1 d2
      refine ⟨okB_rel hB _ _, r1, fun j hj hDj => ?_, Nat.le_trans (ct_le 8 (fun i _ hi => ?_)) hM⟩
      · have e0 := hD j hj hDj
        by_cases e : j = k
        · subst e
          rw [r3]
          have : hld (sCovR b z j) j = (sCovR b z j 17 j).toInt := rfl
          omega
        · show (sRel _ _ _ 17 j).toInt = 0
          rw [sRel_17 _ _ _ _ e]; exact e0
      · by_cases e : i = z
        · have q := hot_neg (show bal (sRel (sCovR b z k) k (imin (sCovR b z k 17 k) (-(sCovR b z k 7 z)))) (slr (sCovR b z k) k) ≤ 0 by rw [r2, hs]; exact d3)
          rw [hs] at q
          rw [e, q] at hi
          cases hi
        · rw [rel_hot (by rw [hs]; exact e)] at hi
          exact hi
    · exact h9
theorem stQ_covRs {b : yA} {G n : Int} {D : Nat → Prop} {M N : Nat} (h : stQ b G n D M) (hN : N ≤ 100) : ∀ z, z ≤ 8 → stQ (sCovRs b N z) G n D M := by
  intro z
  induction z with
  | zero => exact fun _ => h
  | succ z ih => exact fun hz => stQ_covR (ih (by omega)) (by omega) N hN
theorem stQ_covO {b : yA} {G n : Int} {D : Nat → Prop} {M : Nat} (h : stQ b G n D M) {z : Nat} (hz : z < 8) : ∀ k, k ≤ 8 → stQ (sCovO b z k) G n D M := by
  intro k
  induction k with
  | zero => exact fun _ => h
  | succ k ih =>
    intro hk
    have h9 := ih (by omega)
    show stQ (if _ then _ else _) G n D M
    split
    · next hc =>
      obtain ⟨hB, hI, hD, hM⟩ := h9
      obtain ⟨c1, -, c3⟩ := hc
      have hg0 : 0 < bal (sCovO b z k) k := Int32.lt_iff_toInt_lt.mp c3
      have hz0 : bal (sCovO b z k) z < 0 := Int32.lt_iff_toInt_lt.mp c1
      have hne : z ≠ k := fun q => by
        have q2 : bal (sCovO b z k) z = bal (sCovO b z k) k := congrArg _ q
        omega
      obtain ⟨d1, d2, d3⟩ := cov_c hI hz c1 (Int.le_of_lt hg0)
      obtain ⟨r1, r2, r3⟩ := okI_give hI (show k < 8 by omega) hz hne d1 d2 d3
      refine ⟨okB_post (okB_post hB _ _) _ _, r1, fun j hj hDj => ?_, Nat.le_trans (ct_le 8 (fun i _ hi => ?_)) hM⟩
      · rw [hld_oth (sGive_oth _ _ _ _ (by decide))]; exact hD j hj hDj
      · by_cases e : i = z
        · rw [e, hot_neg (by rw [r3]; exact d3)] at hi
          cases hi
        · refine hot_dn ?_ ?_ ?_ ?_ hi
          · rw [sGive_oth _ _ _ _ (by decide)]
          · rw [sGive_oth _ _ _ _ (by decide)]
          · rw [sGive_oth _ _ _ _ (by decide)]
          · by_cases e2 : i = k
            · rw [e2, r2]; omega
            · show (sGive _ _ _ _ 7 i).toInt ≤ _
              rw [sGive_bal _ _ hne, upd_ne _ e, upd_ne _ e2]; exact Int.le_refl _
    · exact h9
theorem stQ_covOs {b : yA} {G n : Int} {D : Nat → Prop} {M N : Nat} (h : stQ b G n D M) (hN : N ≤ 8) : ∀ z, z ≤ 8 → stQ (sCovOs b N z) G n D M := by
  intro z
  induction z with
  | zero => exact fun _ => h
  | succ z ih => exact fun hz => stQ_covO (ih (by omega)) (by omega) N hN
