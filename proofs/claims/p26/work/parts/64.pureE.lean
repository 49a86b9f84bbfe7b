/-! what holds behind n calls -/
def okA (a : yA) (n : Nat) : Prop := okD a (1000000 * ((n : Int) + (nn (a 0 3) : Int))) (1000000 * (n : Int)) ∧ okY a ∧ okF a ∧ phi a ≤ 2 * nn (a 0 3) + n
theorem okA_B {a : yA} {n : Nat} (h : okA a n) : okB a := h.1.1
theorem okA_3 {a : yA} {n : Nat} (h : okA a n) : nn (a 0 3) ≤ 100 := (h.1.1 0 3 100 rfl).2
theorem okA_up {a : yA} {n : Nat} (h : okA a n) (hn : n < 512) : okA a (n + 1) := by
  have h3 := okA_3 h
  obtain ⟨⟨hB, hI, hZ, hU⟩, hY, hF, hp⟩ := h
  exact ⟨⟨hB, okI_up hI (by omega) (by omega) (by omega), hZ, hU⟩, hY, hF, by omega⟩
theorem phi_one {a b : yA} {t : Nat} (e3 : b 0 3 = a 0 3) (e4 : b 0 4 = a 0 4) (e1 : b 0 1 = a 0 1) (h18 : b 18 = a 18) (hh : ∀ i, i ≠ t → hotB b i = hotB a i) : phi b ≤ phi a + 1 := by
  have h1 := ct_at (f := hotB a) (g := hotB b) (t := t) 8 (fun i _ hi h => by rw [← hh i hi]; exact h)
  have h2 := ct_le (f := pndB a) (g := pndB b) (nn (a 0 3)) (fun i _ h => by unfold pndB at h ⊢; rw [h18, e1] at h; exact h)
  unfold phi
  rw [e3, e4]
  omega
theorem okU_of {a b : yA} (h : okU a) (e3 : b 0 3 = a 0 3) (e1 : b 0 1 = a 0 1) (h17 : b 17 = a 17) (h18 : b 18 = a 18) : okU b := by
  intro j hj hl
  rw [e3] at hj
  rw [h18, e1] at hl
  rw [h17]
  exact h j hj hl
theorem okY_of {a b : yA} (h : okY a) (e3 : b 0 3 = a 0 3) (h12 : b 12 = a 12) (h16 : b 16 = a 16) (h17 : ∀ j, nn (a 0 3) ≤ j → b 17 j = a 17 j) : okY b := by
  intro j hj
  rw [e3] at hj
  rw [h12, h16, h17 j hj]
  exact h j hj
theorem okF_of {a b : yA} (h : okF a) (h15 : b 15 = a 15) (h16 : b 16 = a 16) : okF b := by
  intro j
  rw [h15, h16]
  exact h j
/-- a call that sets what belongs to one seller -/
theorem okA_set {a b : yA} {n : Nat} (h : okA a n) (hn : n < 512) (t : Nat) (hB : okB b) (h7 : b 7 = a 7) (h12 : b 12 = a 12) (h15 : b 15 = a 15) (h16 : b 16 = a 16) (h17 : b 17 = a 17) (h18 : b 18 = a 18) (h19 : b 19 = a 19) (h20 : b 20 = a 20) (h21 : b 21 = a 21)
    (e1 : b 0 1 = a 0 1) (e3 : b 0 3 = a 0 3) (e4 : b 0 4 = a 0 4) (hh : ∀ i, i ≠ t → hotB b i = hotB a i) : okA b (n + 1) := by
  have h3 := okA_3 h
  obtain ⟨⟨-, hI, hZ, hU⟩, hY, hF, hp⟩ := h
  refine ⟨⟨hB, ?_, okZ_of hZ e4 h20 h19 h21, okU_of hU e3 e1 h17 h18⟩, okY_of hY e3 h12 h16 (fun j _ => by rw [h17]), okF_of hF h15 h16, ?_⟩
  · rw [e3]
    exact okI_up (okI_of hI h7 h17 h19 h21) (by omega) (by omega) (by omega)
  · have := phi_one e3 e4 e1 h18 hh
    rw [e3]
    omega
theorem lim_bw {x : Int32} {b : Nat} (hb : b < 2 ^ 31) (h0 : 0 ≤ x) (h1 : x ≤ nI b) : lim x b := nat_le hb h0 h1
theorem okA_add {a : yA} {n : Nat} (h : okA a n) (hn : n < 512) {o : Int32} (hk : kAdd a o = 0) : okA (sAdd a o) (n + 1) := by
  have hB := okA_B h
  have h8 : a 0 0 < 8 := by
    unfold kAdd at hk
    split at hk
    · split at hk
      · assumption
      · cases hk
    · cases hk
  have hs := hB 0 0 8 rfl
  have hs2 := hs.2
  have hlt : nn (a 0 0) < 8 := by
    rw [hs.1] at h8
    exact (nI_ltI (b := 8) (by omega) (by decide)).mp h8
  refine okA_set h hn (nn (a 0 0)) ?_ rfl rfl rfl rfl rfl rfl rfl rfl rfl rfl rfl rfl (fun i hi => ?_)
  · refine okB_put (okB_put (okB_free (okB_free hB rfl) rfl) fun b hb => ?_) fun b hb => ?_
    · cases hb; exact lim_nI (n := 30) (by decide) (by decide)
    · cases hb; exact lim_inc hs (by omega) (by decide)
  · refine hot_of rfl ?_ rfl rfl
    show upd (a 4) (nn (a 0 0)) 1 i = a 4 i
    exact upd_ne _ hi
theorem okA_ver {a : yA} {n : Nat} (h : okA a n) (hn : n < 512) {x st : Int32} (hk : kVer a x st = 0) : okA (sVer a x st) (n + 1) := by
  have h8 : bw st 0 2 := by
    unfold kVer at hk
    split at hk
    · split at hk
      · assumption
      · cases hk
    · cases hk
  refine okA_set h hn (nn x) (okB_put (okA_B h) fun b hb => ?_) rfl rfl rfl rfl rfl rfl rfl rfl rfl rfl rfl rfl (fun i hi => ?_)
  · cases hb; exact lim_bw (b := 2) (by decide) h8.1 h8.2
  · refine hot_of ?_ rfl rfl rfl
    show upd (a 2) (nn x) st i = a 2 i
    exact upd_ne _ hi
theorem okA_po {a : yA} {n : Nat} (h : okA a n) (hn : n < 512) {x y v : Int32} : okA (sPO a x y v) (n + 1) := by
  refine okA_set h hn (nn x) (okB_free (okB_free (okA_B h) rfl) rfl) rfl rfl rfl rfl rfl rfl rfl rfl rfl rfl rfl rfl (fun i hi => ?_)
  refine hot_of rfl ?_ rfl rfl
  show upd (a 4) (nn x) v i = a 4 i
  exact upd_ne _ hi
theorem okA_res {a : yA} {n : Nat} (h : okA a n) (hn : n < 512) {x y v : Int32} (hk : kRes a x y v = 0) : okA (sRes a x y v) (n + 1) := by
  have h8 : bw y 0 1000 ∧ bw v 1 180 := by
    unfold kRes at hk
    split at hk
    · split at hk
      · assumption
      · cases hk
    · cases hk
  refine okA_set h hn (nn x) (okB_put (okB_put (okA_B h) fun b hb => ?_) fun b hb => ?_) rfl rfl rfl rfl rfl rfl rfl rfl rfl rfl rfl rfl (fun i hi => hot_of rfl rfl rfl rfl)
  · cases hb; exact lim_bw (b := 1000) (by decide) h8.1.1 h8.1.2
  · cases hb; exact lim_bw (b := 180) (by decide) (Int32.le_trans (by decide) h8.2.1) h8.2.2
theorem okA_shr {a : yA} {n : Nat} (h : okA a n) (hn : n < 512) {kd th : Int32} (hk : kShr kd th = 0) : okA (sShr a kd th) (n + 1) := by
  have h8 : bw th 0 999 := by
    unfold kShr at hk
    split at hk
    · split at hk
      · assumption
      · cases hk
    · cases hk
  refine okA_set h hn 0 (okB_put (okA_B h) fun b hb => ?_) rfl rfl rfl rfl rfl rfl rfl rfl rfl rfl rfl rfl (fun i hi => hot_of rfl rfl rfl rfl)
  cases hb; exact lim_bw (b := 999) (by decide) h8.1 h8.2
theorem okA_tax {a : yA} {n : Nat} (h : okA a n) (hn : n < 512) {th : Int32} (hk : kTax th = 0) : okA (sTaxS a th) (n + 1) := by
  have h8 : bw th 0 500 := by
    unfold kTax at hk
    split at hk
    · assumption
    · cases hk
  refine okA_set h hn 0 (okB_put (okA_B h) fun b hb => ?_) rfl rfl rfl rfl rfl rfl rfl rfl rfl rfl rfl rfl (fun i hi => hot_of rfl rfl rfl rfl)
  cases hb; exact lim_bw (b := 500) (by decide) h8.1 h8.2
/-- days -/
theorem passA_ok {a : yA} {n : Nat} (h : okA a n) (hn : n < 512) {d : Int32} (hk : kPass a d = 0) : okA (sPass a (nn d)) n ∧ ∀ i, i < nn d → okB (sPass a i) ∧ okU (sPass a i) ∧ dayOK (sPass a i) := by
  have h3 := okA_3 h
  obtain ⟨h8, h9⟩ : bw d 1 100 ∧ a 0 1 + d ≤ 5000 := by
    unfold kPass at hk
    split at hk
    · split at hk
      · exact ⟨‹_›, ‹_›⟩
      · cases hk
    · cases hk
  have hd := nat_le (b := 100) (by decide) (Int32.le_trans (by decide) h8.1) h8.2
  have ht0 := (okA_B h) 0 1 5000 rfl
  have ht2 := ht0.2
  have hd2 := hd.2
  have hsum : nn (a 0 1) + nn d ≤ 5000 := by
    rw [ht0.1, hd.1, nI_add] at h9
    exact (nI_leI (by omega) (by decide)).mp h9
  have key : ∀ k, k ≤ nn d → okA (sPass a k) n ∧ nn (sPass a k 0 1) = nn (a 0 1) + k ∧ nn (sPass a k 0 3) = nn (a 0 3) ∧ ∀ i, i < k → okB (sPass a i) ∧ okU (sPass a i) ∧ dayOK (sPass a i) := by
    intro k
    induction k with
    | zero => exact fun _ => ⟨h, rfl, rfl, fun i hi => absurd hi (Nat.not_lt_zero i)⟩
    | succ k ih =>
      intro hk9
      obtain ⟨⟨hD, hY, hF, hp⟩, e1, e3, hall⟩ := ih (by omega)
      obtain ⟨g1, g2, g3⟩ := day_ok hD (by omega) (by omega)
      have e03 : sDay (sPass a k) 0 3 = sPass a k 0 3 := sDay_0 _ (by decide) (by decide)
      show okA (sDay (sPass a k)) n ∧ nn (sDay (sPass a k) 0 1) = _ ∧ nn (sDay (sPass a k) 0 3) = _ ∧ _
      refine ⟨⟨by rw [e03]; exact g2, okY_of hY e03 (sDay_oth _ (by decide) (by decide) (by decide) (by decide) (by decide) (by decide)) (sDay_oth _ (by decide) (by decide) (by decide) (by decide) (by decide) (by decide)) (fun j hj => by rw [sDay_17, sD3_17 _ hj]), okF_of hF (sDay_oth _ (by decide) (by decide) (by decide) (by decide) (by decide) (by decide)) (sDay_oth _ (by decide) (by decide) (by decide) (by decide) (by decide) (by decide)), by rw [e03]; omega⟩, ?_, by rw [e03]; exact e3, fun i hi => ?_⟩
      · rw [sDay_01, nn_inc (hD.1 0 1 5000 rfl) (by decide)]
        omega
      · by_cases e : i = k
        · rw [e]; exact ⟨hD.1, hD.2.2.2, g1⟩
        · exact hall i (by omega)
  obtain ⟨k1, -, -, k4⟩ := key (nn d) (Nat.le_refl _)
  exact ⟨k1, k4⟩
