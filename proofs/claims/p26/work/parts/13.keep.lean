/-! which rows stay, and that the limits stay -/
theorem sPost_oth (a : yA) (z : Nat) (c : Int32) {i : Nat} (h : i ≠ 7) : sPost a z c i = a i := put_oth a z _ h
theorem sRel_oth (a : yA) (j : Nat) (c : Int32) {i : Nat} (h : i ≠ 7) (h2 : i ≠ 17) : sRel a j c i = a i := by
  unfold sRel
  rw [sPost_oth _ _ _ h, put_oth _ _ _ h2]
theorem sRels_oth (a : yA) (n : Nat) {i : Nat} (h : i ≠ 7) (h2 : i ≠ 17) : sRels a n i = a i := by
  induction n with
  | zero => rfl
  | succ n ih =>
    show (if _ then _ else _ : yA) i = a i
    split
    · rw [sRel_oth _ _ _ h h2, ih]
    · exact ih
theorem sCovR_oth (a : yA) (z n : Nat) {i : Nat} (h : i ≠ 7) (h2 : i ≠ 17) : sCovR a z n i = a i := by
  induction n with
  | zero => rfl
  | succ n ih =>
    show (if _ then _ else _ : yA) i = a i
    split
    · rw [sRel_oth _ _ _ h h2, ih]
    · exact ih
theorem sCovRs_oth (a : yA) (m n : Nat) {i : Nat} (h : i ≠ 7) (h2 : i ≠ 17) : sCovRs a m n i = a i := by
  induction n with
  | zero => rfl
  | succ n ih =>
    show sCovR _ _ _ i = a i
    rw [sCovR_oth _ _ _ h h2, ih]
theorem sGive_oth (a : yA) (g z : Nat) (c : Int32) {i : Nat} (h : i ≠ 7) : sGive a g z c i = a i := by
  unfold sGive
  rw [sPost_oth _ _ _ h, sPost_oth _ _ _ h]
theorem sCovO_oth (a : yA) (z n : Nat) {i : Nat} (h : i ≠ 7) : sCovO a z n i = a i := by
  induction n with
  | zero => rfl
  | succ n ih =>
    show (if _ then _ else _ : yA) i = a i
    split
    · rw [sGive_oth _ _ _ _ h, ih]
    · exact ih
theorem sCovOs_oth (a : yA) (m n : Nat) {i : Nat} (h : i ≠ 7) : sCovOs a m n i = a i := by
  induction n with
  | zero => rfl
  | succ n ih =>
    show sCovO _ _ _ i = a i
    rw [sCovO_oth _ _ _ h, ih]
theorem sEnt_oth (a : yA) (z : Nat) (c : Int32) {i : Nat} (h0 : i ≠ 0) (h1 : i ≠ 19) (h2 : i ≠ 20) : sEnt a z c i = a i := by
  unfold sEnt
  rw [put_oth _ _ _ h0, put_oth _ _ _ h1, put_oth _ _ _ h2]
theorem sEnt_0 (a : yA) (z : Nat) (c : Int32) {j : Nat} (h : j ≠ 4) : sEnt a z c 0 j = a 0 j := by
  unfold sEnt
  rw [put_ne _ _ _ h, put_oth _ _ _ (by decide), put_oth _ _ _ (by decide)]
theorem sEnt_04 (a : yA) (z : Nat) (c : Int32) : sEnt a z c 0 4 = a 0 4 + 1 := by
  unfold sEnt
  rw [put_at]
theorem sPayC_oth (a : yA) (z : Nat) (c : Int32) {i : Nat} (h0 : i ≠ 0) (h7 : i ≠ 7) (h8 : i ≠ 8) (h1 : i ≠ 19) (h2 : i ≠ 20) : sPayC a z c i = a i := by
  unfold sPayC
  rw [sPost_oth _ _ _ h7, put_oth _ _ _ h8, sEnt_oth _ _ _ h0 h1 h2]
theorem sPayC_0 (a : yA) (z : Nat) (c : Int32) {j : Nat} (h : j ≠ 4) : sPayC a z c 0 j = a 0 j := by
  unfold sPayC
  rw [sPost_oth _ _ _ (by decide), put_oth _ _ _ (by decide), sEnt_0 _ _ _ h]
theorem sPayC_04 (a : yA) (z : Nat) (c : Int32) : sPayC a z c 0 4 = a 0 4 + 1 := by
  unfold sPayC
  rw [sPost_oth _ _ _ (by decide), put_oth _ _ _ (by decide), sEnt_04]
theorem sPay_oth (a : yA) (z : Nat) {i : Nat} (h0 : i ≠ 0) (h7 : i ≠ 7) (h8 : i ≠ 8) (h1 : i ≠ 19) (h2 : i ≠ 20) : sPay a z i = a i := by
  unfold sPay
  split
  · exact sPayC_oth _ _ _ h0 h7 h8 h1 h2
  · rfl
theorem sPay_0 (a : yA) (z : Nat) {j : Nat} (h : j ≠ 4) : sPay a z 0 j = a 0 j := by
  unfold sPay
  split
  · exact sPayC_0 _ _ _ h
  · rfl
theorem sPays_oth (a : yA) (n : Nat) {i : Nat} (h0 : i ≠ 0) (h7 : i ≠ 7) (h8 : i ≠ 8) (h1 : i ≠ 19) (h2 : i ≠ 20) : sPays a n i = a i := by
  induction n with
  | zero => rfl
  | succ n ih =>
    show (if _ then _ else _ : yA) i = a i
    split
    · rw [sPay_oth _ _ h0 h7 h8 h1 h2, ih]
    · exact ih
theorem sPays_0 (a : yA) (n : Nat) {j : Nat} (h : j ≠ 4) : sPays a n 0 j = a 0 j := by
  induction n with
  | zero => rfl
  | succ n ih =>
    show (if _ then _ else _ : yA) 0 j = a 0 j
    split
    · rw [sPay_0 _ _ h, ih]
    · exact ih
theorem okB_post {a : yA} (h : okB a) (z : Nat) (c : Int32) : okB (sPost a z c) := okB_free h rfl
theorem okB_rel {a : yA} (h : okB a) (j : Nat) (c : Int32) : okB (sRel a j c) := okB_post (okB_free h rfl) _ _
theorem okB_rels {a : yA} (h : okB a) (n : Nat) : okB (sRels a n) := by
  induction n with
  | zero => exact h
  | succ n ih =>
    show okB (if _ then _ else _)
    split
    · exact okB_rel ih _ _
    · exact ih
theorem okB_covR {a : yA} (h : okB a) (z n : Nat) : okB (sCovR a z n) := by
  induction n with
  | zero => exact h
  | succ n ih =>
    show okB (if _ then _ else _)
    split
    · exact okB_rel ih _ _
    · exact ih
theorem okB_covRs {a : yA} (h : okB a) (m n : Nat) : okB (sCovRs a m n) := by
  induction n with
  | zero => exact h
  | succ n ih => exact okB_covR ih _ _
theorem okB_covO {a : yA} (h : okB a) (z n : Nat) : okB (sCovO a z n) := by
  induction n with
  | zero => exact h
  | succ n ih =>
    show okB (if _ then _ else _)
    split
    · exact okB_post (okB_post ih _ _) _ _
    · exact ih
theorem okB_covOs {a : yA} (h : okB a) (m n : Nat) : okB (sCovOs a m n) := by
  induction n with
  | zero => exact h
  | succ n ih => exact okB_covO ih _ _
theorem lim_inc {x : Int32} {b : Nat} (h : lim x b) (h2 : nn x + 1 ≤ b) (hb : b < 2 ^ 31) : lim (x + 1) b := by
  rw [h.1, nI_1]
  exact lim_nI h2 hb
theorem nn_inc {x : Int32} {b : Nat} (h : lim x b) (hb : b + 1 < 2 ^ 31) : nn (x + 1) = nn x + 1 := by
  rw [h.1, nI_1, nn_nI (by have := h.2; omega), nn_nI (by have := h.2; omega)]
theorem okB_ent {a : yA} (h : okB a) {z : Nat} (hz : z < 8) (c : Int32) (hm : nn (a 0 4) + 1 ≤ 1024) : okB (sEnt a z c) := by
  unfold sEnt
  refine okB_put (okB_free (okB_put h fun b hb => ?_) rfl) fun b hb => ?_
  · cases hb; exact lim_nI (by omega) (by omega)
  · cases hb; exact lim_inc (h 0 4 1024 rfl) hm (by omega)
theorem okB_payC {a : yA} (h : okB a) {z : Nat} (hz : z < 8) (c : Int32) (hm : nn (a 0 4) + 1 ≤ 1024) : okB (sPayC a z c) := okB_post (okB_free (okB_ent h hz c hm) rfl) _ _
theorem okB_pay {a : yA} (h : okB a) {z : Nat} (hz : z < 8) (hm : 0 < sDue a z → nn (a 0 4) + 1 ≤ 1024) : okB (sPay a z) := by
  unfold sPay
  split
  · exact okB_payC h hz _ (hm ‹_›)
  · exact h
/-- the payouts only grow in number -/
theorem sPay_mono {a : yA} (h : okB a) (z : Nat) : nn (a 0 4) ≤ nn (sPay a z 0 4) ∧ (0 < sDue a z → nn (sPay a z 0 4) = nn (a 0 4) + 1) := by
  unfold sPay
  split
  · rw [sPayC_04, nn_inc (h 0 4 1024 rfl) (by omega)]
    exact ⟨by omega, fun _ => rfl⟩
  · exact ⟨Nat.le_refl _, fun q => absurd q ‹_›⟩
/-- the payouts that a day's end makes find room -/
def payOK (a : yA) (n : Nat) : Prop := ∀ z, z < n → sPays a z 3 z = dow (sPays a z 0 1) → 0 < sDue (sPays a z) z → nn (sPays a z 0 4) + 1 ≤ 1024
theorem okB_pays {a : yA} (h : okB a) : ∀ n, n ≤ 8 → payOK a n → okB (sPays a n) ∧ nn (a 0 4) ≤ nn (sPays a n 0 4) := by
  intro n
  induction n with
  | zero => exact fun _ _ => ⟨h, Nat.le_refl _⟩
  | succ n ih =>
    intro hn hp
    obtain ⟨h1, h2⟩ := ih (by omega) (fun z hz => hp z (by omega))
    show okB (if _ then _ else _) ∧ nn (a 0 4) ≤ nn ((if _ then _ else _ : yA) 0 4)
    split
    · next hd => exact ⟨okB_pay h1 (by omega) (hp n (by omega) hd), Nat.le_trans h2 (sPay_mono h1 n).1⟩
    · exact ⟨h1, h2⟩
/-- the stages of a day's end -/
def sD1 (a : yA) : yA := sRels a (nn (a 0 3))
def sD2 (a : yA) : yA := sCovRs (sD1 a) (nn (a 0 3)) (nn (a 0 0))
def sD3 (a : yA) : yA := sCovOs (sD2 a) (nn (a 0 0)) (nn (a 0 0))
def sD4 (a : yA) : yA := sPays (sD3 a) (nn (a 0 0))
theorem sDay_eq (a : yA) : sDay a = sNext (sD4 a) := rfl
theorem sD3_oth (a : yA) {i : Nat} (h : i ≠ 7) (h2 : i ≠ 17) : sD3 a i = a i := by
  unfold sD3 sD2 sD1
  rw [sCovOs_oth _ _ _ h, sCovRs_oth _ _ _ h h2, sRels_oth _ _ h h2]
theorem okB_D3 {a : yA} (h : okB a) : okB (sD3 a) := okB_covOs (okB_covRs (okB_rels h _) _ _) _ _
/-- a day may end: its payouts find room, and the day after it is one -/
def dayOK (a : yA) : Prop := payOK (sD3 a) (nn (a 0 0)) ∧ nn (a 0 1) + 1 ≤ 5000
theorem okB_day {a : yA} (h : okB a) (hd : dayOK a) : okB (sDay a) ∧ nn (a 0 4) ≤ nn (sDay a 0 4) := by
  obtain ⟨h1, h2⟩ := okB_pays (okB_D3 h) (nn (a 0 0)) (h 0 0 8 rfl).2 hd.1
  rw [sD3_oth a (by decide) (by decide)] at h2
  refine ⟨okB_put h1 fun b hb => ?_, ?_⟩
  · cases hb
    have e : sD4 a 0 1 = a 0 1 := by
      unfold sD4
      rw [sPays_0 _ _ (by decide), sD3_oth a (by decide) (by decide)]
    show lim (sD4 a 0 1 + 1) 5000
    rw [e]
    exact lim_inc (h 0 1 5000 rfl) hd.2 (by omega)
  · show _ ≤ nn (sNext (sD4 a) 0 4)
    unfold sNext
    rw [put_ne _ _ _ (by decide)]
    exact h2
