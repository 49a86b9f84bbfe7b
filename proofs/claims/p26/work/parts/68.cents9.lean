/-! a day that ends; a sale that is refunded in whole -/
theorem okX_day {a : yA} {n : Nat} {m t : Int} (h : okX a n m t) (hn : n < 512) (hk : kPass a 1 = 0) :
    sPass a (nn 1) = sDay a ∧ sDay a 0 1 = a 0 1 + 1 ∧ nn (a 0 4) ≤ nn (sDay a 0 4) ∧ nn (sDay a 0 4) ≤ nn (a 0 4) + 8
    ∧ (∀ i, nn (a 0 4) < i → i < nn (sDay a 0 4) → nn (sDay a 20 (i - 1)) < nn (sDay a 20 i)) ∧ sDay a 0 0 = a 0 0 ∧ sDay a 0 3 = a 0 3
    ∧ ∀ z, z < nn (a 0 0) → 0 ≤ sDay a 7 z ∨ sHsum (sDay a) z (nn (a 0 3)) = 0 := by
  obtain ⟨⟨hD, hY, hF, hp⟩, hP, -⟩ := h
  have h3 := (hD.1 0 3 100 rfl).2
  obtain ⟨d1, d2, d3⟩ := day_new hD hP hF (by omega)
  have e1 : nn 1 = 1 := nn_nI (n := 1) (by decide)
  refine ⟨by rw [e1]; rfl, sDay_01 a, d1, d2, d3, sDay_0 a (by decide) (by decide), sDay_0 a (by decide) (by decide), fun z hz => ?_⟩
  by_cases q : bal (sDay a) z < 0
  · exact Or.inr (day_neg hD hP hF (by omega) hz q)
  · refine Or.inl ?_
    rw [Int32.le_iff_toInt_le]
    unfold bal at q
    have e0 : (0 : Int32).toInt = 0 := rfl
    omega
/-- a day that can't end is the last -/
theorem last_day {a : yA} (hB : okB a) (hk : kPass a 1 ≠ 0) : a 0 1 = 5000 := by
  have hl := hB 0 1 5000 rfl
  have hl2 := hl.2
  unfold kPass at hk
  rw [if_pos (show bw 1 1 100 from ⟨by decide, by decide⟩)] at hk
  have h9 : ¬ a 0 1 + 1 ≤ 5000 := fun q => by rw [if_pos q] at hk; exact hk rfl
  rw [hl.1, show (1 : Int32) = nI 1 from rfl, nI_add] at h9
  have h10 : ¬ nn (a 0 1) + 1 ≤ 5000 := fun q => h9 ((nI_leI (b := 5000) (by omega) (by decide)).mpr q)
  rw [hl.1, show nn (a 0 1) = 5000 by omega]
  rfl
theorem sell_in {a : yA} {x kd am : Int32} (hk : kSell a x kd am = 0) : (selOK a x ∧ bw kd 0 3) ∧ bw am 1 1000000 ∧ a 0 3 + 1 ≤ 100 := by
  unfold kSell at hk
  split at hk
  · split at hk
    · split at hk
      · exact ⟨‹_›, ‹_›, ‹_›⟩
      · cases hk
    · cases hk
  · cases hk
theorem hsm_congr {f g f' g' : Nat → Int32} {z : Nat} : ∀ n, (∀ j, j < n → f' j = f j) → (∀ j, j < n → g' j = g j) → hsm f' g' z n = hsm f g z n := by
  intro n
  induction n with
  | zero => exact fun _ _ => rfl
  | succ n ih =>
    intro h1 h2
    show (if f' n = nI z then hsm f' g' z n + g' n else hsm f' g' z n) = (if f n = nI z then hsm f g z n + g n else hsm f g z n)
    rw [ih (fun j hj => h1 j (by omega)) (fun j hj => h2 j (by omega)), h1 n (by omega), h2 n (by omega)]
theorem im_idem (x y : Int32) : imin x (imin x y) = imin x y := by
  unfold imin
  by_cases h : y < x
  · rw [if_pos h, if_pos h]
  · rw [if_neg h, if_neg Int32.lt_irrefl]
/-- a sale, refunded in whole with the fee: what it changes -/
theorem whole_ref {a : yA} {n : Nat} {m t : Int} (h : okX a n m t) (hn : n + 3 < 512) {x kd am : Int32} (hk : kSell a x kd am = 0) (ham : nn am ≤ 100000) :
    0 ≤ a 0 3 ∧ nn x < nn (a 0 0) ∧ (a 0 7 ≤ sSell a x kd am 0 7 ∧ a 0 8 ≤ sSell a x kd am 0 8 ∧ sSell a x kd am 0 7 + sSell a x kd am 0 8 ≤ a 0 7 + a 0 8 + am)
    ∧ kRef (sSell a x kd am) (a 0 3) am = 0 ∧ slr (sSell a x kd am) (nn (a 0 3)) = nn x
    ∧ kRef (sRefund (sSell a x kd am) (nn (a 0 3)) am true) (a 0 3) 1 ≠ 0
    ∧ sRefund (sSell a x kd am) (nn (a 0 3)) am true 0 7 = a 0 7 ∧ sRefund (sSell a x kd am) (nn (a 0 3)) am true 0 8 = a 0 8
    ∧ nn (sRefund (sSell a x kd am) (nn (a 0 3)) am true 0 3) = nn (a 0 3) + 1
    ∧ sRefund (sSell a x kd am) (nn (a 0 3)) am true 7 (nn x) + sHsum (sRefund (sSell a x kd am) (nn (a 0 3)) am true) (nn x) (nn (a 0 3) + 1) = a 7 (nn x) + sHsum a (nn x) (nn (a 0 3)) := by
  obtain ⟨⟨hs, hkd⟩, ha, hr⟩ := sell_in hk
  have hB := h.1.1.1
  have hb := okX_b h
  have hX := okX_sell1 h (by omega) hk ham
  have hbX := okX_b hX
  have hx1 := nat_of (hB 0 0 8 rfl) (by decide) hs.1 hs.2
  have hkd1 := nat_le (b := 3) (by decide) hkd.1 hkd.2
  have ha1 := am_nat ha
  have hl3 := hB 0 3 100 rfl
  have hr1 : nn (a 0 3) + 1 ≤ 100 := room_nat hl3 1 (by decide) hr
  have h8 := (hB 0 0 8 rfl).2
  obtain ⟨z, ez⟩ : ∃ z, z = nn x := ⟨_, rfl⟩
  obtain ⟨k, ek⟩ : ∃ k, k = nn kd := ⟨_, rfl⟩
  have hk4 : k < 4 := by omega
  obtain ⟨f, tx, ef, hf, et, htx⟩ := fee_nat hB (k := k) ha1.2.1 ha1.2.2
  rw [← ha1.1] at ef et
  have es : sFee a k am = nI (min f (nn am - tx)) := by
    have q := sFee_nat ha1.2.2 (by rw [← ha1.1]; exact ef) hf (by rw [← ha1.1]; exact et) htx
    rw [← ha1.1] at q
    exact q
  obtain ⟨b, eb⟩ : ∃ b, b = sSell a x kd am := ⟨_, rfl⟩
  rw [← eb] at hX hbX ⊢
  have eb2 : b = sSettle a z k am := by rw [eb, ez, ek]; rfl
  obtain ⟨i, ei⟩ : ∃ i, i = nn (a 0 3) := ⟨_, rfl⟩
  rw [← ei]
  have r3 : b 0 3 = a 0 3 + 1 := by rw [eb2]; rfl
  have r7 : b 7 = upd (a 7) z (a 7 z + (sLeft a k am - sHeld a z k am)) := by rw [eb2]; rfl
  have r10 : b 10 = upd (a 10) i (nI z) := by rw [eb2, ei]; rfl
  have r11 : b 11 = upd (a 11) i am := by rw [eb2, ei]; rfl
  have r12 : b 12 = a 12 := by rw [eb2]; rfl
  have r13 : b 13 = upd (a 13) i (a 9 k) := by rw [eb2, ei]; rfl
  have r14 : b 14 = upd (a 14) i (a 0 2) := by rw [eb2, ei]; rfl
  have r15 : b 15 = upd (a 15) i (sFee a k am) := by rw [eb2, ei]; rfl
  have r16 : b 16 = a 16 := by rw [eb2]; rfl
  have r17 : b 17 = upd (a 17) i (sHeld a z k am) := by rw [eb2, ei]; rfl
  have q7 : b 0 7 = a 0 7 + sFee a k am := by rw [eb2]; rfl
  have q8 : b 0 8 = a 0 8 + sTax a am := by rw [eb2]; rfl
  clear eb2
  obtain ⟨z11, z12, z15, z16⟩ := h.2.1.1.2.1 i (by omega)
  obtain ⟨y1, y2, y3⟩ := h.1.2.1 i (by omega)
  have es3 : slr b i = z := by unfold slr; rw [r10, upd_eq]; exact nn_nI (by omega)
  have eun : b 11 i - b 12 i = am := by rw [r11, r12, upd_eq, z12]; exact Int32.sub_zero _
  have eT : sBackT b i am = sTax a am := by unfold sBackT sTax; rw [r14, upd_eq]
  have eF : sBackF b i am true = sFee a k am := by
    show imin (feeI am (b 13 i)) (b 15 i - b 16 i) = _
    rw [r13, r15, r16, upd_eq, upd_eq, z16, Int32.sub_zero]
    unfold sFee
    exact im_idem _ _
  have hsale : saleOK b (a 0 3) := by
    refine ⟨?_, ?_⟩
    · rw [hl3.1]; exact (nI_leI (a := 0) (by decide) (by omega)).mpr (Nat.zero_le _)
    · rw [r3, hl3.1, show (1 : Int32) = nI 1 from rfl, nI_add]
      exact (nI_ltI (by omega) (by omega)).mpr (by omega)
  have c7 : sRefund b i am true 7 = upd (b 7) z (b 7 z + (sTax a am + sFee a k am - am)) := by
    show upd (b 7) (slr b i) (b 7 (slr b i) + (sBackT b i am + sBackF b i am true - am)) = _
    rw [es3, eT, eF]
  have c11 : sRefund b i am true 11 = b 11 := rfl
  have c12 : sRefund b i am true 12 = upd (b 12) i (b 12 i + am) := rfl
  have c10 : sRefund b i am true 10 = b 10 := rfl
  have c17 : sRefund b i am true 17 = b 17 := rfl
  have c03 : sRefund b i am true 0 3 = b 0 3 := rfl
  have c07 : sRefund b i am true 0 7 = b 0 7 - sFee a k am := by rw [← eF]; rfl
  have c08 : sRefund b i am true 0 8 = b 0 8 - sTax a am := by rw [← eT]; rfl
  have cancel : ∀ u v : Int32, u + v - v = u := fun u v => by rw [Int32.sub_eq_add_neg, Int32.add_assoc, ← Int32.sub_eq_add_neg, Int32.sub_self, Int32.add_zero]
  refine ⟨hsale.1, hx1.2, ⟨?_, ?_, ?_⟩, ?_, by rw [es3, ez], ?_, by rw [c07, q7, cancel], by rw [c08, q8, cancel], by rw [c03, r3, ei]; exact nn_inc hl3 (by decide), ?_⟩
  · obtain ⟨b1, b2, b3, b4, b5, b6, b7, b8, b9, b10, b11, b12⟩ := hb
    have w7 : sca a 7 = (a 0 7).toInt := rfl
    rw [q7, es, Int32.le_iff_toInt_le, i_add (by rw [nI_i (by omega)]; omega) (by rw [nI_i (by omega)]; omega), nI_i (by omega)]
    omega
  · obtain ⟨b1, b2, b3, b4, b5, b6, b7, b8, b9, b10, b11, b12⟩ := hb
    have w8 : sca a 8 = (a 0 8).toInt := rfl
    rw [q8, et, Int32.le_iff_toInt_le, i_add (by rw [nI_i (by omega)]; omega) (by rw [nI_i (by omega)]; omega), nI_i (by omega)]
    omega
  · obtain ⟨b1, b2, b3, b4, b5, b6, b7, b8, b9, b10, b11, b12⟩ := hb
    have w8 : sca a 8 = (a 0 8).toInt := rfl
    have w7 : sca a 7 = (a 0 7).toInt := rfl
    have e7 : (a 0 7 + nI (min f (nn am - tx))).toInt = (a 0 7).toInt + ((min f (nn am - tx) : Nat) : Int) := by
      rw [i_add (by rw [nI_i (by omega)]; omega) (by rw [nI_i (by omega)]; omega), nI_i (by omega)]
    have e8 : (a 0 8 + nI tx).toInt = (a 0 8).toInt + (tx : Int) := by
      rw [i_add (by rw [nI_i (by omega)]; omega) (by rw [nI_i (by omega)]; omega), nI_i (by omega)]
    have e9 : (a 0 7 + a 0 8).toInt = (a 0 7).toInt + (a 0 8).toInt := i_add (by omega) (by omega)
    have e10 : am.toInt = (nn am : Int) := by rw [ha1.1, nn_nI (by omega)]; exact nI_i (by omega)
    rw [q7, q8, es, et, Int32.le_iff_toInt_le, i_add (by rw [e7, e8]; omega) (by rw [e7, e8]; omega), e7, e8, i_add (by rw [e9, e10]; omega) (by rw [e9, e10]; omega), e9, e10]
    omega
  · unfold kRef
    rw [← ei, if_pos hsale, if_pos ha, if_pos (by rw [eun]; exact Int32.le_refl _)]
  · unfold kRef
    rw [← ei, if_pos (show saleOK (sRefund b i am true) (a 0 3) by unfold saleOK; rw [c03]; exact hsale), if_pos (show bw 1 1 1000000 from ⟨by decide, by decide⟩), c11, c12, upd_eq, if_neg]
    · decide
    · rw [r12, z12, Int32.zero_add, r11, upd_eq, Int32.sub_self]
      decide
  · rw [← ez, c7, upd_eq, r7, upd_eq]
    show _ + hsm (sRefund b i am true 10) (sRefund b i am true 17) z (i + 1) = _ + hsm (a 10) (a 17) z i
    rw [c10, c17]
    show _ + (if b 10 i = nI z then hsm (b 10) (b 17) z i + b 17 i else _) = _
    rw [r10, r17, upd_eq, upd_eq, if_pos rfl, hsm_congr (f := a 10) (g := a 17) i (fun j hj => upd_ne _ (by omega)) (fun j hj => upd_ne _ (by omega))]
    unfold sLeft
    generalize hsm (a 10) (a 17) z i = H
    generalize sHeld a z k am = E
    generalize sTax a am = T
    generalize sFee a k am = F
    generalize a 7 z = B
    grind
