/-! a sale, an order -/
theorem okA_settle {a : yA} {n : Nat} (h : okA a n) (hn : n ≤ 512) {z k x : Nat} (hz : z < 8) (hk : k < 4) (hx0 : 1 ≤ x) (hx1 : x ≤ 1000000) (h100 : nn (a 0 3) + 1 ≤ 100) : okA (sSettle a z k (nI x)) n := by
  have hB := okA_B h
  have hBb := okB_settle hB hz hk hx1 h100
  have hYb := okY_settle h.2.1 hB z k (nI x)
  obtain ⟨⟨-, hI, hZ, hU⟩, hY, hF, hp⟩ := h
  obtain ⟨f, tx, ef, hf, et, htx⟩ := fee_nat hB (k := k) hx0 hx1
  have es := sFee_nat hx1 ef hf et htx
  have el := sLeft_nat hx1 ef hf et htx
  have h5 := hB 5 z 1000 rfl
  obtain ⟨L, hL⟩ : ∃ L, L = x - tx - min f (x - tx) := ⟨_, rfl⟩
  rw [← hL] at el
  have hLx : L ≤ x := by omega
  obtain ⟨eh, hH⟩ := tax_nat (show L ≤ 1000000 by omega) h5.2
  obtain ⟨E, hE⟩ : ∃ E, E = L * nn (a 5 z) / 1000 := ⟨_, rfl⟩
  rw [← hE] at eh hH
  have eH : sHeld a z k (nI x) = nI E := by
    unfold sHeld
    rw [el, h5.1]
    rw [← h5.1]
    rw [← eh, ← h5.1]
  have eb7 : sSettle a z k (nI x) 7 = upd (a 7) z (a 7 z + nI (L - E)) := by
    show upd (a 7) z (a 7 z + (sLeft a k (nI x) - sHeld a z k (nI x))) = _
    rw [el, eH, pk_sub hH]
  have eb17 : sSettle a z k (nI x) 17 = upd (a 17) (nn (a 0 3)) (nI E) := by
    show upd (a 17) (nn (a 0 3)) (sHeld a z k (nI x)) = _
    rw [eH]
  have eb18 : sSettle a z k (nI x) 18 = upd (a 18) (nn (a 0 3)) (a 0 1 + a 6 z) := rfl
  have eb15 : sSettle a z k (nI x) 15 = upd (a 15) (nn (a 0 3)) (nI (min f (x - tx))) := by
    show upd (a 15) (nn (a 0 3)) (sFee a k (nI x)) = _
    rw [es]
  have e3 : nn (sSettle a z k (nI x) 0 3) = nn (a 0 3) + 1 := by rw [sSettle_03]; exact nn_inc (hB 0 3 100 rfl) (by decide)
  obtain ⟨y1, y2, y3⟩ := hY (nn (a 0 3)) (Nat.le_refl _)
  obtain ⟨k1, k2⟩ := okI_b hI hz
  have hI' := hI
  obtain ⟨i1, i2, i3, i4, i5⟩ := hI'
  have n1 := sm_nn i1 100
  have n2 := sm_nn (liv_nn i2) 1024
  have tl : (nI (L - E)).toInt = ((L - E : Nat) : Int) := nI_toInt (by omega)
  have te : (nI E).toInt = (E : Int) := nI_toInt (by omega)
  have ez : bal (sSettle a z k (nI x)) z = bal a z + ((L - E : Nat) : Int) := by
    show (sSettle a z k (nI x) 7 z).toInt = _
    rw [eb7, upd_eq, i_add (by unfold bal at *; omega) (by unfold bal at *; omega), tl]; rfl
  have eo : ∀ i, i ≠ z → bal (sSettle a z k (nI x)) i = bal a i := fun i hi => by
    show (sSettle a z k (nI x) 7 i).toInt = _
    rw [eb7, upd_ne _ hi]; rfl
  have hm : hld (sSettle a z k (nI x)) (nn (a 0 3)) = (E : Int) := by
    show (sSettle a z k (nI x) 17 _).toInt = _
    rw [eb17, upd_eq, te]
  have ho : ∀ i, i ≠ nn (a 0 3) → hld (sSettle a z k (nI x)) i = hld a i := fun i hi => by
    show (sSettle a z k (nI x) 17 i).toInt = _
    rw [eb17, upd_ne _ hi]; rfl
  have h0 : hld a (nn (a 0 3)) = 0 := by unfold hld; rw [y3]; rfl
  refine ⟨⟨hBb, ⟨fun j => ?_, i2, ?_, ?_, ?_⟩, okZ_of hZ rfl rfl rfl rfl, fun j hj hl => ?_⟩, hYb, fun j => ?_, ?_⟩
  · by_cases e : j = nn (a 0 3)
    · rw [e, hm]; omega
    · rw [ho j e]; exact i1 j
  · unfold Ns at i3 ⊢
    have e1 := sm_at (f := ngt a) (g := ngt (sSettle a z k (nI x))) (t := z) (fun i hi => ngt_of (eo i hi)) 8 hz
    have e2 : ngt (sSettle a z k (nI x)) z ≤ ngt a z := ngt_dn (by rw [ez]; omega)
    omega
  · unfold Gs at i4 ⊢
    have e1 := sm_at eo 8 hz
    have e2 := sm_at ho 100 (show nn (a 0 3) < 100 by omega)
    have e4 : sm (liv (sSettle a z k (nI x))) 1024 = sm (liv a) 1024 := sm_congr 1024 (fun i _ => liv_oth rfl rfl i)
    rw [e1, e2, e4, ez, hm, h0, e3]
    omega
  · rw [e3]
    omega
  · rw [e3] at hj
    by_cases e : j = nn (a 0 3)
    · rw [e, eb18, upd_eq] at hl
      have d1 := hB 0 1 5000 rfl
      have d6 := hB 6 z 180 rfl
      have d12 := d1.2
      have d62 := d6.2
      have hl2 : a 0 1 + a 6 z < a 0 1 := hl
      rw [d1.1, d6.1, nI_add] at hl2
      have := (nI_ltI (by omega) (by omega)).mp hl2
      omega
    · rw [eb18, upd_ne _ e] at hl
      rw [eb17, upd_ne _ e]
      exact hU j (by omega) hl
  · by_cases e : j = nn (a 0 3)
    · rw [e, eb15, upd_eq]
      show lim _ _ ∧ lim (a 16 (nn (a 0 3))) _ ∧ nn (a 16 (nn (a 0 3))) ≤ _
      rw [y2]
      exact ⟨lim_nI (by omega) (by decide), lim_nI (n := 0) (by decide) (by decide), Nat.zero_le _⟩
    · rw [eb15, upd_ne _ e]
      exact hF j
  · have c1 := ct_at (f := hotB a) (g := hotB (sSettle a z k (nI x))) (t := z) 8 (fun i _ hi q => by
      rw [hot_of (a := a) (b := sSettle a z k (nI x)) rfl rfl (by rw [eb7, upd_ne _ hi]) rfl] at q; exact q)
    have c2 := ct_le (f := pndB a) (g := pndB (sSettle a z k (nI x))) (nn (a 0 3)) (fun i hi q => by
      have q2 := of_decide_eq_true q
      rw [eb18, upd_ne _ (by omega)] at q2
      exact decide_eq_true q2)
    have c3 : ct (pndB (sSettle a z k (nI x))) (nn (a 0 3) + 1) ≤ ct (pndB (sSettle a z k (nI x))) (nn (a 0 3)) + 1 := by
      show ct _ _ + _ ≤ _
      split <;> omega
    have e4 : nn (sSettle a z k (nI x) 0 4) = nn (a 0 4) := rfl
    unfold phi at hp ⊢
    rw [e3, e4]
    omega
theorem okA_ord {a : yA} {n : Nat} (h : okA a n) (hn : n ≤ 512) {set k ev rm : Nat} (hk : k < 4) (he : ev ≤ 1000000) (he2 : 0 < rm → ev + 1 ≤ 1000000) : ∀ z, z ≤ 8 → nn (a 0 3) + cntP set ev rm z ≤ 100 → okA (sOrd a set k ev rm z) n := by
  intro z
  induction z with
  | zero => exact fun _ _ => h
  | succ z ih =>
    intro hz hr
    have hup : cntP set ev rm z ≤ cntP set ev rm (z + 1) := cntP_up set ev rm (Nat.le_succ z)
    have h1 := ih (by omega) (by omega)
    obtain ⟨-, -, h3⟩ := ord_ok (okA_B h) h.2.1 (set := set) hk he he2 z (by omega) (by omega)
    rw [sOrd_step]
    by_cases hc : set.testBit z = true ∧ 0 < ptN set ev rm z
    · have ec : cntP set ev rm (z + 1) = cntP set ev rm z + 1 := by show cntP set ev rm z + _ = _; rw [if_pos hc]
      have hp : ptN set ev rm z ≤ 1000000 := by
        unfold ptN
        split
        · exact he2 (by omega)
        · exact he
      rw [if_pos hc]
      exact okA_settle h1 hn (by omega) hk hc.2 hp (by omega)
    · rw [if_neg hc]
      exact h1
theorem okA_sell {a : yA} {n : Nat} (h : okA a n) (hn : n < 512) {x kd am : Int32} (hk : kSell a x kd am = 0) : okA (sSell a x kd am) (n + 1) := by
  obtain ⟨⟨hs, hkd⟩, ha, hr⟩ : (selOK a x ∧ bw kd 0 3) ∧ bw am 1 1000000 ∧ a 0 3 + 1 ≤ 100 := by
    unfold kSell at hk
    split at hk
    · split at hk
      · split at hk
        · exact ⟨‹_›, ‹_›, ‹_›⟩
        · cases hk
      · cases hk
    · cases hk
  have hB := okA_B h
  have hx1 := nat_of (hB 0 0 8 rfl) (by decide) hs.1 hs.2
  have hkd1 := nat_le (b := 3) (by decide) hkd.1 hkd.2
  have ha1 := am_nat ha
  have hr1 : nn (a 0 3) + 1 ≤ 100 := room_nat (hB 0 3 100 rfl) 1 (by decide) hr
  unfold sSell
  rw [ha1.1]
  exact okA_up (okA_settle h (by omega) (Nat.lt_of_lt_of_le hx1.2 (hB 0 0 8 rfl).2) (Nat.lt_succ_of_le hkd1.2) ha1.2.1 ha1.2.2 hr1) hn
