/-! where every cent is: a release, a gift, a payout -/
theorem okM_mv {a b : yA} (h : okM a) (e0 : ∀ j, j ≠ 1 → j ≠ 2 → j ≠ 3 → j ≠ 4 → b 0 j = a 0 j) (hs : sm (bal b) 8 + sm (pai b) 8 + sm (hld b) 100 = sm (bal a) 8 + sm (pai a) 8 + sm (hld a) 100) (hn : Ns b ≤ Ns a) (hz : ∀ z, nn (a 0 0) ≤ z → b 7 z = a 7 z ∧ b 8 z = a 8 z) : okM b := by
  obtain ⟨m1, m2, m3⟩ := h
  have f5 := sca_of (a := a) (b := b) (e0 5 (by decide) (by decide) (by decide) (by decide))
  have f6 := sca_of (a := a) (b := b) (e0 6 (by decide) (by decide) (by decide) (by decide))
  have f7 := sca_of (a := a) (b := b) (e0 7 (by decide) (by decide) (by decide) (by decide))
  have f8 := sca_of (a := a) (b := b) (e0 8 (by decide) (by decide) (by decide) (by decide))
  refine ⟨by omega, by omega, fun z h9 => ?_⟩
  rw [e0 0 (by decide) (by decide) (by decide) (by decide)] at h9
  obtain ⟨k1, k2⟩ := hz z h9
  rw [k1, k2]
  exact m3 z h9
theorem okP_rel {a : yA} {g n : Int} (hI : okI a g n) (hB : okB a) (h : okP a) {j : Nat} (hj : j < 100) (hn : j < nn (a 0 3)) {c : Int32} (h0 : 0 ≤ c.toInt) (hc : c.toInt ≤ hld a j) : okP (sRel a j c) := by
  obtain ⟨hS, hM, hO⟩ := h
  have hz := slr_lt hB j
  have hN := hS.2.2.2.2.2.2 j hn
  obtain ⟨-, e1, e2⟩ := okI_rel hI hj hz h0 hc
  have er : ∀ i, i ≠ 7 → i ≠ 17 → sRel a j c i = a i := fun i h1 h2 => sRel_oth a j c h1 h2
  have eo : ∀ i, i ≠ slr a j → bal (sRel a j c) i = bal a i := fun i hi => by
    unfold bal; rw [sRel_bal, upd_ne _ hi]
  have ho : ∀ i, i ≠ j → hld (sRel a j c) i = hld a i := fun i hi => by
    unfold hld; rw [sRel_hld, upd_ne _ hi]
  have r0 : ∀ i, sRel a j c 0 i = a 0 i := fun i => by rw [er 0 (by decide) (by decide)]
  refine ⟨okS_of hS (fun i _ _ _ => r0 i) (er _ (by decide) (by decide)) (er _ (by decide) (by decide)) (er _ (by decide) (by decide)) (er _ (by decide) (by decide)) (er _ (by decide) (by decide)) (er _ (by decide) (by decide)), okM_mv hM (fun i _ _ _ _ => r0 i) ?_ ?_ ?_, okO_of hO (r0 0) (r0 4) (r0 5) (er _ (by decide) (by decide)) (er _ (by decide) (by decide)) (er _ (by decide) (by decide)) (er _ (by decide) (by decide))⟩
  · rw [sm_at eo 8 hz, sm_at ho 100 hj, pai_of (er 8 (by decide) (by decide)), e1, e2]
    omega
  · have q := sm_at (f := ngt a) (g := ngt (sRel a j c)) (t := slr a j) (fun i hi => ngt_of (eo i hi)) 8 hz
    have := ngt_dn (a := a) (b := sRel a j c) (z := slr a j) (by rw [e1]; omega)
    unfold Ns
    omega
  · intro z hz9
    rw [sRel_bal, upd_ne _ (by omega), er 8 (by decide) (by decide)]
    exact ⟨rfl, rfl⟩
theorem okP_give {a : yA} {G n : Int} (hI : okI a G n) (h : okP a) {g z : Nat} (hg : g < 8) (hz : z < 8) (hg2 : g < nn (a 0 0)) (hz2 : z < nn (a 0 0)) (hne : z ≠ g) {c : Int32} (h0 : 0 ≤ c.toInt) (hc : c.toInt ≤ bal a g) (hn : bal a z + c.toInt ≤ 0) : okP (sGive a g z c) := by
  obtain ⟨hS, hM, hO⟩ := h
  obtain ⟨-, e1, e2⟩ := okI_give hI hg hz hne h0 hc hn
  have er : ∀ i, i ≠ 7 → sGive a g z c i = a i := fun i h1 => sGive_oth a g z c h1
  have eo : ∀ i, i ≠ g → i ≠ z → bal (sGive a g z c) i = bal a i := fun i h1 h2 => by
    unfold bal; rw [sGive_bal _ _ hne, upd_ne _ h2, upd_ne _ h1]
  have r0 : ∀ i, sGive a g z c 0 i = a 0 i := fun i => by rw [er 0 (by decide)]
  -- one after the other
  have mid : ∀ (F : yA → Nat → Int), (∀ i, i ≠ g → i ≠ z → F (sGive a g z c) i = F a i) → sm (F (sGive a g z c)) 8 = sm (F a) 8 - F a g + F (sGive a g z c) g - F a z + F (sGive a g z c) z := fun F hF => by
    have k1 := sm_at (f := F a) (g := fun i => if i = g then F (sGive a g z c) g else F a i) (t := g) (fun i hi => if_neg hi) 8 hg
    have k2 := sm_at (f := fun i => if i = g then F (sGive a g z c) g else F a i) (g := F (sGive a g z c)) (t := z) (fun i hi => by
      show _ = (if i = g then _ else _)
      by_cases e : i = g
      · rw [if_pos e, e]
      · rw [if_neg e]; exact hF i e hi) 8 hz
    rw [if_pos rfl] at k1
    rw [if_neg hne, k1] at k2
    exact k2
  refine ⟨okS_of hS (fun i _ _ _ => r0 i) (er _ (by decide)) (er _ (by decide)) (er _ (by decide)) (er _ (by decide)) (er _ (by decide)) (er _ (by decide)), okM_mv hM (fun i _ _ _ _ => r0 i) ?_ ?_ ?_, okO_of hO (r0 0) (r0 4) (r0 5) (er _ (by decide)) (er _ (by decide)) (er _ (by decide)) (er _ (by decide))⟩
  · rw [mid bal eo, pai_of (er 8 (by decide)), hldf_of (er 17 (by decide)), e1, e2]
    omega
  · have q := mid ngt (fun i h1 h2 => ngt_of (eo i h1 h2))
    have k1 := ngt_dn (a := a) (b := sGive a g z c) (z := z) (by rw [e2]; omega)
    have k2 := ngt_0 (b := sGive a g z c) (z := g) (by rw [e1]; omega)
    have k3 := ngt_nn a g
    unfold Ns
    omega
  · intro i hi
    rw [sGive_bal _ _ hne, upd_ne _ (by omega), upd_ne _ (by omega), er 8 (by decide)]
    exact ⟨rfl, rfl⟩
theorem sPayC_20 (a : yA) (z : Nat) (c : Int32) : sPayC a z c 20 = upd (a 20) (nn (a 0 4)) (nI z) := by
  unfold sPayC sEnt
  rw [sPost_oth _ _ _ (by decide), put_oth _ _ _ (by decide), put_oth _ _ _ (by decide), put_oth _ _ _ (by decide), put_row]
theorem okP_payC {a : yA} {G n : Int} (h : okP a) (hI : okI a G n) (hB : okB a) (hZ : okZ a) (hF : okF a) {z : Nat} (hz : z < 8) (hN : z < nn (a 0 0)) (hm : nn (a 0 4) + 1 ≤ 1024) {c : Int32} (h0 : 0 < c.toInt) (hc : c.toInt ≤ bal a z) : okP (sPayC a z c) := by
  obtain ⟨b1, b2, b3, b4, b5, b6, b7, b8, b9, b10, b11, b12⟩ := okP_b h hB hF hI.1 hI.2.1
  obtain ⟨hS, hM, hO⟩ := h
  obtain ⟨z1, z2, z3⟩ := hZ (nn (a 0 4)) (Nat.le_refl _)
  have p1 := b8 z hz
  have p2 := b9 z hz
  have er : ∀ i, i ≠ 0 → i ≠ 7 → i ≠ 8 → i ≠ 19 → i ≠ 20 → sPayC a z c i = a i := fun i h0 h7 h8 h1 h2 => sPayC_oth a z c h0 h7 h8 h1 h2
  have r0 : ∀ i, i ≠ 4 → sPayC a z c 0 i = a 0 i := fun i hi => sPayC_0 a z c hi
  have eb : bal (sPayC a z c) z = bal a z - c.toInt := by
    unfold bal at *
    rw [sPayC_bal, upd_eq, ← Int32.sub_eq_add_neg, i_sub (by omega) (by omega)]
  have eo : ∀ i, i ≠ z → bal (sPayC a z c) i = bal a i := fun i hi => by
    unfold bal; rw [sPayC_bal, upd_ne _ hi]
  have ep : pai (sPayC a z c) z = pai a z + c.toInt := by
    unfold pai at *
    rw [sPayC_paid, upd_eq, i_add (by omega) (by omega)]
  have epo : ∀ i, i ≠ z → pai (sPayC a z c) i = pai a i := fun i hi => by
    unfold pai; rw [sPayC_paid, upd_ne _ hi]
  have ec : cen (sPayC a z c) (nn (a 0 4)) = c.toInt := by unfold cen; rw [sPayC_cen, upd_eq]
  have eco : ∀ i, i ≠ nn (a 0 4) → cen (sPayC a z c) i = cen a i := fun i hi => by unfold cen; rw [sPayC_cen, upd_ne _ hi]
  have e21 := er 21 (by decide) (by decide) (by decide) (by decide) (by decide)
  have e20 := sPayC_20 a z c
  have e04 : nn (sPayC a z c 0 4) = nn (a 0 4) + 1 := by rw [sPayC_04, nn_inc (hB 0 4 1024 rfl) (by omega)]
  have c0 : cen a (nn (a 0 4)) = 0 := by unfold cen; rw [z2]; rfl
  refine ⟨okS_of hS (fun i _ _ h4 => r0 i h4) (er _ (by decide) (by decide) (by decide) (by decide) (by decide)) (er _ (by decide) (by decide) (by decide) (by decide) (by decide)) (er _ (by decide) (by decide) (by decide) (by decide) (by decide)) (er _ (by decide) (by decide) (by decide) (by decide) (by decide)) (er _ (by decide) (by decide) (by decide) (by decide) (by decide)) (er _ (by decide) (by decide) (by decide) (by decide) (by decide)), okM_mv hM (fun i _ _ _ h4 => r0 i h4) ?_ ?_ ?_, fun i hi => ?_, fun k hk => ?_⟩
  · rw [sm_at eo 8 hz, sm_at epo 8 hz, hldf_of (er 17 (by decide) (by decide) (by decide) (by decide) (by decide)), eb, ep]
    omega
  · have q := sm_at (f := ngt a) (g := ngt (sPayC a z c)) (t := z) (fun i hi => ngt_of (eo i hi)) 8 hz
    have := ngt_dn (a := a) (b := a) (z := z) (Int.le_refl _)
    have k2 := ngt_0 (b := sPayC a z c) (z := z) (by rw [eb]; omega)
    have k3 := ngt_nn a z
    unfold Ns
    omega
  · intro i hi
    rw [sPayC_bal, sPayC_paid, upd_ne _ (by omega), upd_ne _ (by omega)]
    exact ⟨rfl, rfl⟩
  · have k1 := hO.1 i hi
    have k2 := sm_at (f := lvz a i) (g := lvz (sPayC a z c) i) (t := nn (a 0 4)) (fun m hm9 => by
      unfold lvz
      rw [e21, e20, upd_ne _ hm9, eco m hm9]) 1024 (by omega)
    have k3 : lvz a i (nn (a 0 4)) = 0 := by
      unfold lvz
      rw [c0]
      split <;> rfl
    have k4 : lvz (sPayC a z c) i (nn (a 0 4)) = if z = i then c.toInt else 0 := by
      unfold lvz
      rw [e21, e20, upd_eq, ec, nn_nI (by omega), z3]
      by_cases e : z = i
      · rw [if_pos e, if_pos ⟨rfl, e⟩]
      · rw [if_neg e, if_neg (fun q => e q.2)]
    rw [k2, k3, k4, ← k1]
    by_cases e : z = i
    · rw [if_pos e, ← e, ep]; omega
    · rw [if_neg e, epo i (fun q => e q.symm)]; omega
  · rw [e04] at hk
    rw [r0 0 (by decide), sca_of (a := a) (r0 5 (by decide)), e20]
    by_cases e : k = nn (a 0 4)
    · rw [e, ec, upd_eq, nn_nI (by omega)]
      exact ⟨h0, hN, by omega⟩
    · rw [eco k e, upd_ne _ e]
      exact hO.2 k (by omega)
