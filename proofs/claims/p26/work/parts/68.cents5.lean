/-! where every cent is: a sale, an order, a refund, a failed payout -/
theorem nI_i {n : Nat} (h : n < 2 ^ 31) : (nI n).toInt = (n : Int) := nI_toInt h
theorem zero_i {x : Int32} (h : x = 0) : x.toInt = 0 := by rw [h]; rfl
set_option maxHeartbeats 1000000 in
theorem okP_settle {a : yA} {n : Nat} (h : okA a n) (hP : okP a) {z k x : Nat} (hz : z < 8) (hN : z < nn (a 0 0)) (hk : k < 4) (hx0 : 1 ≤ x) (hx1 : x ≤ 1000000) (h100 : nn (a 0 3) + 1 ≤ 100) : okP (sSettle a z k (nI x)) ∧ sca (sSettle a z k (nI x)) 5 = sca a 5 + (x : Int) := by
  have hB := okA_B h
  obtain ⟨⟨-, hI, hZ, hU⟩, hY, hF, hp⟩ := h
  obtain ⟨b1, b2, b3, b4, b5, b6, b7, b8, b9, b10, b11, b12⟩ := okP_b hP hB hF hI.1 hI.2.1
  obtain ⟨hS, hM, hO⟩ := hP
  obtain ⟨s1, s2, s3, s4, s5, s6, s7⟩ := hS
  obtain ⟨m1, m2, m3⟩ := hM
  obtain ⟨f, tx, ef, hf, et, htx⟩ := fee_nat hB (k := k) hx0 hx1
  have es := sFee_nat hx1 ef hf et htx
  have el := sLeft_nat hx1 ef hf et htx
  have h5 := hB 5 z 1000 rfl
  have h2 := hB 0 2 500 rfl
  obtain ⟨F, hFe⟩ : ∃ F, F = min f (x - tx) := ⟨_, rfl⟩
  rw [← hFe] at es el
  have hFx : F ≤ x := by omega
  obtain ⟨L, hL⟩ : ∃ L, L = x - tx - F := ⟨_, rfl⟩
  rw [← hL] at el
  have hLx : L ≤ x := by omega
  obtain ⟨eh, hH⟩ := tax_nat (show L ≤ 1000000 by omega) h5.2
  obtain ⟨E, hE⟩ : ∃ E, E = L * nn (a 5 z) / 1000 := ⟨_, rfl⟩
  rw [← hE] at eh hH
  have eH : sHeld a z k (nI x) = nI E := by
    unfold sHeld
    rw [el, h5.1, ← h5.1, ← eh, ← h5.1]
  -- the tax
  obtain ⟨et2, htx2⟩ := tax_nat (x := x) (t := nn (a 0 2)) hx1 (Nat.le_trans h2.2 (by decide))
  have et3 : tx = x * nn (a 0 2) / 1000 := by
    have q : nI tx = nI (x * nn (a 0 2) / 1000) := by
      rw [← et2, ← h2.1, ← et]; rfl
    exact (nI_eq (by omega) (by omega)).mp q
  have n0 : nn (a 0 3) < 100 := by omega
  obtain ⟨z11, z12, z15, z16⟩ := s2 (nn (a 0 3)) (Nat.le_refl _)
  obtain ⟨y1, y2, y3⟩ := hY (nn (a 0 3)) (Nat.le_refl _)
  obtain ⟨b, eb⟩ : ∃ b, b = sSettle a z k (nI x) := ⟨_, rfl⟩
  rw [← eb]
  have r7 : b 7 = upd (a 7) z (a 7 z + nI (L - E)) := by
    rw [eb]
    show upd (a 7) z (a 7 z + (sLeft a k (nI x) - sHeld a z k (nI x))) = _
    rw [el, eH, pk_sub hH]
  have r8 : b 8 = a 8 := by rw [eb]; rfl
  have r10 : b 10 = upd (a 10) (nn (a 0 3)) (nI z) := by rw [eb]; rfl
  have r11 : b 11 = upd (a 11) (nn (a 0 3)) (nI x) := by rw [eb]; rfl
  have r12 : b 12 = a 12 := by rw [eb]; rfl
  have r14 : b 14 = upd (a 14) (nn (a 0 3)) (a 0 2) := by rw [eb]; rfl
  have r15 : b 15 = upd (a 15) (nn (a 0 3)) (nI F) := by
    rw [eb]
    show upd (a 15) (nn (a 0 3)) (sFee a k (nI x)) = _
    rw [es]
  have r16 : b 16 = a 16 := by rw [eb]; rfl
  have r17 : b 17 = upd (a 17) (nn (a 0 3)) (nI E) := by
    rw [eb]
    show upd (a 17) (nn (a 0 3)) (sHeld a z k (nI x)) = _
    rw [eH]
  have r19 : b 19 = a 19 := by rw [eb]; rfl
  have r20 : b 20 = a 20 := by rw [eb]; rfl
  have r21 : b 21 = a 21 := by rw [eb]; rfl
  have q0 : b 0 0 = a 0 0 := by rw [eb]; rfl
  have q4 : b 0 4 = a 0 4 := by rw [eb]; rfl
  have q6 : b 0 6 = a 0 6 := by rw [eb]; rfl
  have q3 : nn (b 0 3) = nn (a 0 3) + 1 := by rw [eb, sSettle_03]; exact nn_inc (hB 0 3 100 rfl) (by decide)
  have q5 : sca b 5 = sca a 5 + (x : Int) := by
    have e : b 0 5 = a 0 5 + nI x := by rw [eb]; rfl
    unfold sca at *
    rw [e, i_add (by rw [nI_i (by omega)]; omega) (by rw [nI_i (by omega)]; omega), nI_i (by omega)]
  have q7 : sca b 7 = sca a 7 + (F : Int) := by
    have e : b 0 7 = a 0 7 + nI F := by rw [eb, ← es]; rfl
    unfold sca at *
    rw [e, i_add (by rw [nI_i (by omega)]; omega) (by rw [nI_i (by omega)]; omega), nI_i (by omega)]
  have q8 : sca b 8 = sca a 8 + (tx : Int) := by
    have e : b 0 8 = a 0 8 + nI tx := by rw [eb, ← et]; rfl
    unfold sca at *
    rw [e, i_add (by rw [nI_i (by omega)]; omega) (by rw [nI_i (by omega)]; omega), nI_i (by omega)]
  clear eb
  have p9 := b9 z hz
  have ez : bal b z = bal a z + ((L - E : Nat) : Int) := by
    unfold bal at *
    rw [r7, upd_eq, i_add (by rw [nI_i (by omega)]; omega) (by rw [nI_i (by omega)]; omega), nI_i (by omega)]
  have eo : ∀ i, i ≠ z → bal b i = bal a i := fun i hi => by unfold bal; rw [r7, upd_ne _ hi]
  have hm : hld b (nn (a 0 3)) = (E : Int) := by unfold hld; rw [r17, upd_eq, nI_i (by omega)]
  have ho : ∀ i, i ≠ nn (a 0 3) → hld b i = hld a i := fun i hi => by unfold hld; rw [r17, upd_ne _ hi]
  have hm0 : hld a (nn (a 0 3)) = 0 := zero_i y3
  have am : amt b (nn (a 0 3)) = (x : Int) := by unfold amt; rw [r11, upd_eq, nI_i (by omega)]
  have ao : ∀ i, i ≠ nn (a 0 3) → amt b i = amt a i := fun i hi => by unfold amt; rw [r11, upd_ne _ hi]
  have am0 : amt a (nn (a 0 3)) = 0 := zero_i z11
  have fm : ftk b (nn (a 0 3)) = (F : Int) := by unfold ftk; rw [r15, upd_eq, nI_i (by omega)]
  have fo : ∀ i, i ≠ nn (a 0 3) → ftk b i = ftk a i := fun i hi => by unfold ftk; rw [r15, upd_ne _ hi]
  have fm0 : ftk a (nn (a 0 3)) = 0 := zero_i z15
  have er : rfj b = rfj a := rfj_of r12
  have rm0 : rfj a (nn (a 0 3)) = 0 := zero_i z12
  have tm : txk b (nn (a 0 3)) = (tx : Int) := by
    unfold txk
    rw [am, er, rm0, r14, upd_eq, lim_i h2 (by decide), et3, Int.sub_zero, Int.natCast_ediv, Int.natCast_mul]; rfl
  have to : ∀ i, i ≠ nn (a 0 3) → txk b i = txk a i := fun i hi => by unfold txk; rw [ao i hi, er, r14, upd_ne _ hi]
  have tm0 : txk a (nn (a 0 3)) = 0 := by
    unfold txk
    rw [am0, rm0, Int.sub_zero, Int.zero_mul]; rfl
  have g1 := sm_at ao 100 n0
  have g2 := sm_at fo 100 n0
  have g3 := sm_at to 100 n0
  have g4 := sm_at ho 100 n0
  have g5 := sm_at eo 8 hz
  have g6 : sca b 6 = sca a 6 := sca_of q6
  rw [am, am0] at g1
  rw [fm, fm0] at g2
  rw [tm, tm0] at g3
  rw [hm, hm0] at g4
  rw [ez] at g5
  refine ⟨⟨⟨fun j => ?_, fun j hj => ?_, by omega, by rw [g6, er]; exact s4, by rw [fbk_of r16]; omega, by omega, fun j hj => ?_⟩, ⟨?_, ?_, fun i hi => ?_⟩, ⟨fun i hi => ?_, fun i hi => ?_⟩⟩, q5⟩
  · rw [er]
    by_cases e : j = nn (a 0 3)
    · rw [e, am, rm0]; omega
    · rw [ao j e]; exact s1 j
  · rw [q3] at hj
    rw [r11, r12, r15, r16, upd_ne _ (by omega), upd_ne _ (by omega)]
    exact s2 j (by omega)
  · rw [q3] at hj
    unfold slr
    rw [r10, q0]
    by_cases e : j = nn (a 0 3)
    · rw [e, upd_eq, nn_nI (by omega)]; exact hN
    · rw [upd_ne _ e]; exact s7 j (by omega)
  · rw [pai_of r8]; omega
  · have e1 := sm_at (f := ngt a) (g := ngt b) (t := z) (fun i hi => ngt_of (eo i hi)) 8 hz
    have e2 : ngt b z ≤ ngt a z := ngt_dn (by rw [ez]; omega)
    have e3 : Ns a = sm (ngt a) 8 := rfl
    have e4 : Ns b = sm (ngt b) 8 := rfl
    omega
  · rw [q0] at hi
    rw [r7, r8, upd_ne _ (by omega)]
    exact m3 i hi
  · rw [pai_of r8, lvz_of r19 r20 r21]; exact hO.1 i hi
  · rw [q4] at hi
    obtain ⟨k1, k2, k3⟩ := hO.2 i hi
    rw [cenf_of r19, r20, q0]
    exact ⟨k1, k2, by omega⟩
theorem ded_settle (a : yA) (z k : Nat) (x : Int32) : ded (sSettle a z k x) = ded a := ded_of rfl rfl
/-- what an order's parts come to, of the sellers below z -/
def osum (set ev rm z : Nat) : Nat := ev * cntB set z + min (cntB set z) rm
theorem okP_ord {a : yA} {n : Nat} (h : okA a n) (hP : okP a) (hn : n ≤ 512) {set k ev rm : Nat} (hk : k < 4) (he : ev ≤ 1000000) (he2 : 0 < rm → ev + 1 ≤ 1000000) : ∀ z, z ≤ nn (a 0 0) → nn (a 0 3) + cntP set ev rm z ≤ 100 →
    okP (sOrd a set k ev rm z) ∧ sca (sOrd a set k ev rm z) 5 = sca a 5 + (osum set ev rm z : Int) ∧ sOrd a set k ev rm z 0 0 = a 0 0 ∧ ded (sOrd a set k ev rm z) = ded a := by
  have hS := (okA_B h 0 0 8 rfl).2
  intro z
  induction z with
  | zero =>
    intro _ _
    refine ⟨hP, ?_, rfl, rfl⟩
    have e : osum set ev rm 0 = 0 := by unfold osum; show ev * 0 + min 0 rm = 0; omega
    rw [e]
    show sca a 5 = sca a 5 + ((0 : Nat) : Int)
    omega
  | succ z ih =>
    intro hz hr
    have hup : cntP set ev rm z ≤ cntP set ev rm (z + 1) := cntP_up set ev rm (Nat.le_succ z)
    obtain ⟨i1, i2, i3, i4⟩ := ih (by omega) (by omega)
    have h1 := okA_ord h hn (set := set) hk he he2 z (by omega) (by omega)
    obtain ⟨-, -, h3⟩ := ord_ok (okA_B h) h.2.1 (set := set) hk he he2 z (by omega) (by omega)
    rw [sOrd_step]
    have ecb : cntB set (z + 1) = cntB set z + (if set.testBit z then 1 else 0) := rfl
    by_cases hc : set.testBit z = true ∧ 0 < ptN set ev rm z
    · have ec : cntP set ev rm (z + 1) = cntP set ev rm z + 1 := by show cntP set ev rm z + _ = _; rw [if_pos hc]
      have hp : ptN set ev rm z ≤ 1000000 := by
        unfold ptN
        split
        · exact he2 (by omega)
        · exact he
      rw [if_pos hc]
      obtain ⟨k1, k2⟩ := okP_settle h1 i1 (z := z) (by omega) (by rw [i3]; omega) hk hc.2 hp (by omega)
      refine ⟨k1, ?_, by rw [sSettle_00]; exact i3, by rw [ded_settle]; exact i4⟩
      rw [k2, i2]
      have eo : osum set ev rm (z + 1) = osum set ev rm z + ptN set ev rm z := by
        unfold osum ptN
        rw [ecb, if_pos hc.1, Nat.mul_add]
        split <;> omega
      rw [eo]
      omega
    · rw [if_neg hc]
      refine ⟨i1, ?_, i3, i4⟩
      rw [i2]
      have eo : osum set ev rm (z + 1) = osum set ev rm z := by
        unfold osum
        by_cases hb : set.testBit z = true
        · have h0 : ptN set ev rm z = 0 := Nat.le_zero.mp (Nat.not_lt.mp (fun q => hc ⟨hb, q⟩))
          unfold ptN at h0
          rw [ecb, if_pos hb]
          split at h0
          · omega
          · rw [h0, Nat.zero_mul, Nat.zero_mul]; omega
        · rw [ecb, if_neg hb]; rfl
      rw [eo]
theorem okP_sell {a : yA} {n : Nat} (h : okA a n) (hP : okP a) (hn : n < 512) {x kd am : Int32} (hk : kSell a x kd am = 0) : okP (sSell a x kd am) ∧ sca (sSell a x kd am) 5 = sca a 5 + (nn am : Int) ∧ ded (sSell a x kd am) = ded a := by
  obtain ⟨⟨hs, hkd⟩, ha, hr⟩ : (selOK a x ∧ bw kd 0 3) ∧ bw am 1 1000000 ∧ a 0 3 + 1 ≤ 100 := by
    unfold kSell at hk
    split at hk
    · split at hk
      · split at hk
        · exact ⟨‹_›, ‹_›, ‹_›⟩
        · cases hk
      · cases hk
    · cases hk
  have hB := okA_B h
  have hx1 := nat_of (hB 0 0 8 rfl) (by decide) hs.1 hs.2
  have hkd1 := nat_le (b := 3) (by decide) hkd.1 hkd.2
  have ha1 := am_nat ha
  have hr1 : nn (a 0 3) + 1 ≤ 100 := room_nat (hB 0 3 100 rfl) 1 (by decide) hr
  have ed : ded (sSell a x kd am) = ded a := ded_settle _ _ _ _
  unfold sSell at *
  obtain ⟨k1, k2⟩ := okP_settle h hP (Nat.lt_of_lt_of_le hx1.2 (hB 0 0 8 rfl).2) hx1.2 (Nat.lt_succ_of_le hkd1.2) ha1.2.1 ha1.2.2 hr1
  rw [← ha1.1] at k1 k2
  exact ⟨k1, k2, ed⟩
theorem okP_order {a : yA} {n : Nat} (h : okA a n) (hP : okP a) (hn : n < 512) {x kd am : Int32} (hk : kOrd a x kd am = 0) : okP (sOrder a x kd am) ∧ sca (sOrder a x kd am) 5 ≤ sca a 5 + 1000000 ∧ sca a 5 ≤ sca (sOrder a x kd am) 5 ∧ ded (sOrder a x kd am) = ded a := by
  obtain ⟨hkd, hare, hmay⟩ : bw kd 0 3 ∧ (bw x 1 255 ∧ bw am 1 1000000) ∧ nn x < 2 ^ nn (a 0 0) ∧ nn (a 0 3) + min (cntB (nn x) 8) (nn am) ≤ 100 := by
    unfold kOrd at hk
    split at hk
    · split at hk
      · split at hk
        · exact ⟨‹_›, ‹_›, ‹_›⟩
        · cases hk
      · cases hk
    · cases hk
  have hkd1 := nat_le (b := 3) (by decide) hkd.1 hkd.2
  have hx1 := nat_le (b := 255) (by decide) (Int32.le_trans (by decide) hare.1.1) hare.1.2
  have ha1 := am_nat hare.2
  have hxs : nn x < 256 := Nat.lt_succ_of_le hx1.2
  have hx0 : 1 ≤ nn x := by
    have h8 := hare.1.1
    rw [hx1.1] at h8
    exact (nI_leI (a := 1) (by decide) (by omega)).mp h8
  have hS := (okA_B h 0 0 8 rfl).2
  obtain ⟨hd, ehd⟩ : ∃ z, z = cntB (nn x) 8 := ⟨_, rfl⟩
  have hd8 : hd ≤ 8 := by rw [ehd]; exact cntB_le _ _
  have hd1 : 1 ≤ hd := by rw [ehd]; exact (cntB_1 (nn x) hxs).mpr hx0
  have hr1 : nn (a 0 3) + min hd (nn am) ≤ 100 := by rw [ehd]; exact hmay.2
  obtain ⟨ev, eev⟩ : ∃ z, z = nn am / hd := ⟨_, rfl⟩
  obtain ⟨rm, erm⟩ : ∃ z, z = nn am % hd := ⟨_, rfl⟩
  have hdv : ev ≤ nn am := by rw [eev]; exact Nat.div_le_self _ _
  have hdv2 : 0 < rm → ev + 1 ≤ 1000000 := fun h9 => by
    have h7 : 2 ≤ hd := by
      have : rm < hd := by rw [erm]; exact Nat.mod_lt _ (by omega)
      omega
    have h8 : nn am / hd ≤ nn am / 2 := Nat.div_le_div_left h7 (by decide)
    omega
  have hcp : nn (a 0 3) + cntP (nn x) ev rm 8 ≤ 100 := by
    rw [eev, erm, ehd, cntP_all (n := 8) hxs (by decide) (by rw [← ehd]; exact hd1), ← ehd]
    exact hr1
  have e5 : sOrder a x kd am = sOrd a (nn x) (nn kd) ev rm (nn (a 0 0)) := by rw [eev, erm, ehd]; rfl
  rw [e5]
  obtain ⟨k1, k2, -, k4⟩ := okP_ord h hP (by omega) (Nat.lt_succ_of_le hkd1.2) (by omega) hdv2 _ (Nat.le_refl _) (Nat.le_trans (Nat.add_le_add_left (cntP_up (nn x) ev rm hS) _) hcp)
  have hos : osum (nn x) ev rm (nn (a 0 0)) ≤ 1000000 := by
    have c1 : cntB (nn x) (nn (a 0 0)) ≤ hd := by rw [ehd]; exact cntB_up (nn x) hS
    have c2 : ev * cntB (nn x) (nn (a 0 0)) ≤ ev * hd := Nat.mul_le_mul_left _ c1
    have c3 : ev * hd + rm = nn am := by rw [eev, erm, Nat.mul_comm]; exact Nat.div_add_mod _ _
    unfold osum
    omega
  exact ⟨k1, by omega, by omega, k4⟩
