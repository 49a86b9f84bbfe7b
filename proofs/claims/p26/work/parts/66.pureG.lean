/-! an order, a refund, a failed payout -/
theorem okA_order {a : yA} {n : Nat} (h : okA a n) (hn : n < 512) {x kd am : Int32} (hk : kOrd a x kd am = 0) : okA (sOrder a x kd am) (n + 1) := by
  obtain ⟨hkd, hare, hmay⟩ : bw kd 0 3 ∧ (bw x 1 255 ∧ bw am 1 1000000) ∧ nn x < 2 ^ nn (a 0 0) ∧ nn (a 0 3) + min (cntB (nn x) 8) (nn am) ≤ 100 := by
    unfold kOrd at hk
    split at hk
    · split at hk
      · split at hk
        · exact ⟨‹_›, ‹_›, ‹_›⟩
        · cases hk
      · cases hk
    · cases hk
  have hkd1 := nat_le (b := 3) (by decide) hkd.1 hkd.2
  have hx1 := nat_le (b := 255) (by decide) (Int32.le_trans (by decide) hare.1.1) hare.1.2
  have ha1 := am_nat hare.2
  have hxs : nn x < 256 := Nat.lt_succ_of_le hx1.2
  have hx0 : 1 ≤ nn x := by
    have h8 := hare.1.1
    rw [hx1.1] at h8
    exact (nI_leI (a := 1) (by decide) (by omega)).mp h8
  have hS := (okA_B h 0 0 8 rfl).2
  obtain ⟨hd, ehd⟩ : ∃ z, z = cntB (nn x) 8 := ⟨_, rfl⟩
  have hd8 : hd ≤ 8 := by rw [ehd]; exact cntB_le _ _
  have hd1 : 1 ≤ hd := by rw [ehd]; exact (cntB_1 (nn x) hxs).mpr hx0
  have hr1 : nn (a 0 3) + min hd (nn am) ≤ 100 := by rw [ehd]; exact hmay.2
  obtain ⟨ev, eev⟩ : ∃ z, z = nn am / hd := ⟨_, rfl⟩
  obtain ⟨rm, erm⟩ : ∃ z, z = nn am % hd := ⟨_, rfl⟩
  have hdv : ev ≤ nn am := by rw [eev]; exact Nat.div_le_self _ _
  have hdv2 : 0 < rm → ev + 1 ≤ 1000000 := fun h9 => by
    have h7 : 2 ≤ hd := by
      have : rm < hd := by rw [erm]; exact Nat.mod_lt _ (by omega)
      omega
    have h8 : nn am / hd ≤ nn am / 2 := Nat.div_le_div_left h7 (by decide)
    omega
  have hcp : nn (a 0 3) + cntP (nn x) ev rm 8 ≤ 100 := by
    rw [eev, erm, ehd, cntP_all (n := 8) hxs (by decide) (by rw [← ehd]; exact hd1), ← ehd]
    exact hr1
  have e5 : sOrder a x kd am = sOrd a (nn x) (nn kd) ev rm (nn (a 0 0)) := by rw [eev, erm, ehd]; rfl
  rw [e5]
  exact okA_up (okA_ord h (by omega) (Nat.lt_succ_of_le hkd1.2) (by omega) hdv2 _ hS (Nat.le_trans (Nat.add_le_add_left (cntP_up (nn x) ev rm hS) _) hcp)) hn
theorem backF_nat {a : yA} (hB : okB a) (hF : okF a) (j : Nat) {x : Nat} (h0 : 1 ≤ x) (h1 : x ≤ 1000000) (fb : Bool) : ∃ f, sBackF a j (nI x) fb = nI f ∧ f ≤ x ∧ nn (a 16 j) + f ≤ nn (a 15 j) := by
  obtain ⟨k1, k2, k3⟩ := hF j
  have k12 := k1.2
  have h13 := hB 13 j 999 rfl
  obtain ⟨-, f, hf, ef⟩ := fp_mul h0 h1 h13.2
  cases fb
  · exact ⟨0, rfl, Nat.zero_le _, k3⟩
  · refine ⟨min f (nn (a 15 j) - nn (a 16 j)), ?_, by omega, by omega⟩
    show imin (feeI (nI x) (a 13 j)) (a 15 j - a 16 j) = _
    have q : a 15 j - a 16 j = nI (nn (a 15 j) - nn (a 16 j)) := by rw [← pk_sub k3, ← k1.1, ← k2.1]
    rw [q, h13.1, ef, imin_nI (by omega) (by omega)]
theorem okA_refund {a : yA} {n : Nat} (h : okA a n) (hn : n < 512) {x am : Int32} (fb : Bool) (hk : kRef a x am = 0) : okA (sRefund a (nn x) am fb) (n + 1) := by
  obtain ⟨hs, ha⟩ : saleOK a x ∧ bw am 1 1000000 := by
    unfold kRef at hk
    split at hk
    · split at hk
      · exact ⟨‹_›, ‹_›⟩
      · cases hk
    · cases hk
  have hB := okA_B h
  have h3 := okA_3 h
  have hx1 := nat_of (hB 0 3 100 rfl) (by decide) hs.1 hs.2
  have ha1 := am_nat ha
  obtain ⟨A, hA⟩ : ∃ A, A = nn am := ⟨_, rfl⟩
  obtain ⟨j, hj⟩ : ∃ j, j = nn x := ⟨_, rfl⟩
  rw [← hA] at ha1
  rw [← hj] at hx1 ⊢
  rw [ha1.1]
  obtain ⟨⟨-, hI, hZ, hU⟩, hY, hF, hp⟩ := h
  have h14 := hB 14 j 500 rfl
  obtain ⟨et, ht⟩ := tax_nat (x := A) (t := nn (a 14 j)) ha1.2.2 (Nat.le_trans h14.2 (by decide))
  rw [← h14.1] at et
  obtain ⟨T, hT⟩ : ∃ T, T = A * nn (a 14 j) / 1000 := ⟨_, rfl⟩
  rw [← hT] at et ht
  obtain ⟨f, ef, hf, hf2⟩ := backF_nat hB hF j ha1.2.1 ha1.2.2 fb
  have hz : slr a j < 8 := slr_lt hB j
  have eb7 : sRefund a j (nI A) fb 7 = upd (a 7) (slr a j) (a 7 (slr a j) + (nI (T + f) - nI A)) := by
    show upd (a 7) (slr a j) (a 7 (slr a j) + (nI A * a 14 j / 1000 + sBackF a j (nI A) fb - nI A)) = _
    rw [et, ef, nI_add]
  have eb16 : sRefund a j (nI A) fb 16 = upd (a 16) j (nI (nn (a 16 j) + f)) := by
    show upd (a 16) j (a 16 j + sBackF a j (nI A) fb) = _
    rw [ef, ← nI_add, ← (hF j).2.1.1]
  have eb12 : sRefund a j (nI A) fb 12 = upd (a 12) j (a 12 j + nI A) := rfl
  have tc : (nI (T + f) - nI A).toInt = (T : Int) + (f : Int) - (A : Int) := by
    rw [pk_sub_toInt (by omega) (by omega)]
    omega
  obtain ⟨k1, k2⟩ := okI_b hI hz
  have hI' := hI
  obtain ⟨i1, i2, i3, i4, i5⟩ := hI'
  have n1 := sm_nn i1 100
  have n2 := sm_nn (liv_nn i2) 1024
  have ez : bal (sRefund a j (nI A) fb) (slr a j) = bal a (slr a j) + ((T : Int) + (f : Int) - (A : Int)) := by
    show (sRefund a j (nI A) fb 7 (slr a j)).toInt = _
    rw [eb7, upd_eq, i_add (by unfold bal at *; omega) (by unfold bal at *; omega), tc]; rfl
  have eo : ∀ i, i ≠ slr a j → bal (sRefund a j (nI A) fb) i = bal a i := fun i hi => by
    show (sRefund a j (nI A) fb 7 i).toInt = _
    rw [eb7, upd_ne _ hi]; rfl
  refine ⟨⟨okB_post (okB_free (okB_free (okB_free (okB_free (okB_free hB rfl) rfl) rfl) rfl) rfl) _ _, ⟨i1, i2, ?_, ?_, ?_⟩, okZ_of hZ rfl rfl rfl rfl, okU_of hU rfl rfl rfl rfl⟩, fun i hi => ?_, fun i => ?_, ?_⟩
  · unfold Ns at i3 ⊢
    have e1 := sm_at (f := ngt a) (g := ngt (sRefund a j (nI A) fb)) (t := slr a j) (fun i hi => ngt_of (eo i hi)) 8 hz
    have e2 : ngt (sRefund a j (nI A) fb) (slr a j) ≤ ngt a (slr a j) + (A : Int) := by
      unfold ngt
      rw [ez]
      split <;> split <;> omega
    omega
  · have e3 : nn (sRefund a j (nI A) fb 0 3) = nn (a 0 3) := rfl
    unfold Gs at i4 ⊢
    have e1 := sm_at eo 8 hz
    have e2 : sm (hld (sRefund a j (nI A) fb)) 100 = sm (hld a) 100 := sm_congr 100 (fun i _ => hld_oth rfl i)
    have e4 : sm (liv (sRefund a j (nI A) fb)) 1024 = sm (liv a) 1024 := sm_congr 1024 (fun i _ => liv_oth rfl rfl i)
    rw [e1, e2, e4, ez, e3]
    omega
  · have e3 : nn (sRefund a j (nI A) fb 0 3) = nn (a 0 3) := rfl
    rw [e3]
    omega
  · have hi2 : nn (a 0 3) ≤ i := hi
    have hne : i ≠ j := by omega
    rw [eb12, eb16, upd_ne _ hne, upd_ne _ hne]
    exact hY i hi2
  · obtain ⟨q1, q2, q3⟩ := hF i
    have q12 := q1.2
    rw [eb16]
    by_cases e : i = j
    · rw [e, upd_eq]
      have m1 := (hF j).1
      have m12 := m1.2
      refine ⟨m1, lim_nI (by omega) (by decide), ?_⟩
      rw [nn_nI (by omega)]
      exact hf2
    · rw [upd_ne _ e]
      exact ⟨q1, q2, q3⟩
  · have := phi_one (a := a) (b := sRefund a j (nI A) fb) (t := slr a j) rfl rfl rfl rfl (fun i hi => hot_of rfl rfl (by rw [eb7, upd_ne _ hi]) rfl)
    have e3 : nn (sRefund a j (nI A) fb 0 3) = nn (a 0 3) := rfl
    rw [e3]
    omega
