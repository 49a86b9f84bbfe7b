/-! where every cent is: a refund, a failed payout, a seller, the rules -/
theorem div_sup (u v : Int) : u / 1000 + v / 1000 ≤ (u + v) / 1000 := by omega
set_option maxHeartbeats 1000000 in
theorem okP_refund {a : yA} {n : Nat} (h : okA a n) (hP : okP a) (hn : n < 512) {x am : Int32} (fb : Bool) (hk : kRef a x am = 0) : okP (sRefund a (nn x) am fb) ∧ sca (sRefund a (nn x) am fb) 5 = sca a 5 ∧ ded (sRefund a (nn x) am fb) = ded a := by
  obtain ⟨hs, ha, hle⟩ : saleOK a x ∧ bw am 1 1000000 ∧ am ≤ a 11 (nn x) - a 12 (nn x) := by
    unfold kRef at hk
    split at hk
    · split at hk
      · split at hk
        · exact ⟨‹_›, ‹_›, ‹_›⟩
        · cases hk
      · cases hk
    · cases hk
  refine ⟨?_, rfl, rfl⟩
  have hB := okA_B h
  have h3 := okA_3 h
  have hx1 := nat_of (hB 0 3 100 rfl) (by decide) hs.1 hs.2
  have ha1 := am_nat ha
  obtain ⟨A, hA⟩ : ∃ A, A = nn am := ⟨_, rfl⟩
  obtain ⟨j, hj⟩ : ∃ j, j = nn x := ⟨_, rfl⟩
  rw [← hA] at ha1
  rw [← hj] at hx1 hle ⊢
  rw [ha1.1] at hle ⊢
  obtain ⟨⟨-, hI, hZ, hU⟩, hY, hF, hp⟩ := h
  obtain ⟨b1, b2, b3, b4, b5, b6, b7, b8, b9, b10, b11, b12⟩ := okP_b hP hB hF hI.1 hI.2.1
  obtain ⟨⟨s1, s2, s3, s4, s5, s6, s7⟩, ⟨m1, m2, m3⟩, hO⟩ := hP
  have h14 := hB 14 j 500 rfl
  obtain ⟨et, ht⟩ := tax_nat (x := A) (t := nn (a 14 j)) ha1.2.2 (Nat.le_trans h14.2 (by decide))
  rw [← h14.1] at et
  obtain ⟨T, hT⟩ : ∃ T, T = A * nn (a 14 j) / 1000 := ⟨_, rfl⟩
  rw [← hT] at et ht
  obtain ⟨f, ef, hf, hf2⟩ := backF_nat hB hF j ha1.2.1 ha1.2.2 fb
  have hz : slr a j < 8 := slr_lt hB j
  have hN : slr a j < nn (a 0 0) := s7 j hx1.2
  have n0 : j < 100 := by omega
  have u1 := s1 j
  have hAu : (A : Int) ≤ amt a j - rfj a j := by
    rw [Int32.le_iff_toInt_le, nI_i (by omega), i_sub (by unfold amt rfj at u1; omega) (by unfold amt rfj at u1; omega)] at hle
    exact hle
  have g16 := hF j
  have g15 := g16.1.2
  obtain ⟨b, eb⟩ : ∃ b, b = sRefund a j (nI A) fb := ⟨_, rfl⟩
  rw [← eb]
  have r7 : b 7 = upd (a 7) (slr a j) (a 7 (slr a j) + (nI (T + f) - nI A)) := by
    rw [eb]
    show upd (a 7) (slr a j) (a 7 (slr a j) + (nI A * a 14 j / 1000 + sBackF a j (nI A) fb - nI A)) = _
    rw [et, ef, nI_add]
  have r8 : b 8 = a 8 := by rw [eb]; rfl
  have r10 : b 10 = a 10 := by rw [eb]; rfl
  have r11 : b 11 = a 11 := by rw [eb]; rfl
  have r12 : b 12 = upd (a 12) j (a 12 j + nI A) := by rw [eb]; rfl
  have r14 : b 14 = a 14 := by rw [eb]; rfl
  have r15 : b 15 = a 15 := by rw [eb]; rfl
  have r16 : b 16 = upd (a 16) j (a 16 j + nI f) := by
    rw [eb]
    show upd (a 16) j (a 16 j + sBackF a j (nI A) fb) = _
    rw [ef]
  have r17 : b 17 = a 17 := by rw [eb]; rfl
  have r19 : b 19 = a 19 := by rw [eb]; rfl
  have r20 : b 20 = a 20 := by rw [eb]; rfl
  have r21 : b 21 = a 21 := by rw [eb]; rfl
  have q0 : b 0 0 = a 0 0 := by rw [eb]; rfl
  have q3 : b 0 3 = a 0 3 := by rw [eb]; rfl
  have q4 : b 0 4 = a 0 4 := by rw [eb]; rfl
  have q5 : sca b 5 = sca a 5 := by rw [eb]; rfl
  have q6 : sca b 6 = sca a 6 + (A : Int) := by
    have e : b 0 6 = a 0 6 + nI A := by rw [eb]; rfl
    unfold sca at *
    rw [e, i_add (by rw [nI_i (by omega)]; omega) (by rw [nI_i (by omega)]; omega), nI_i (by omega)]
  have q7 : sca b 7 = sca a 7 - (f : Int) := by
    have e : b 0 7 = a 0 7 - nI f := by rw [eb, ← ef]; rfl
    unfold sca at *
    rw [e, i_sub (by rw [nI_i (by omega)]; omega) (by rw [nI_i (by omega)]; omega), nI_i (by omega)]
  have q8 : sca b 8 = sca a 8 - (T : Int) := by
    have e : b 0 8 = a 0 8 - nI T := by rw [eb, ← et]; rfl
    unfold sca at *
    rw [e, i_sub (by rw [nI_i (by omega)]; omega) (by rw [nI_i (by omega)]; omega), nI_i (by omega)]
  clear eb
  have p9 := b9 _ hz
  have tc : (nI (T + f) - nI A).toInt = (T : Int) + (f : Int) - (A : Int) := by
    rw [pk_sub_toInt (by omega) (by omega)]
    omega
  have ez : bal b (slr a j) = bal a (slr a j) + ((T : Int) + (f : Int) - (A : Int)) := by
    unfold bal at *
    rw [r7, upd_eq, i_add (by rw [tc]; omega) (by rw [tc]; omega), tc]
  have eo : ∀ i, i ≠ slr a j → bal b i = bal a i := fun i hi => by unfold bal; rw [r7, upd_ne _ hi]
  have rm : rfj b j = rfj a j + (A : Int) := by
    unfold rfj amt at *
    rw [r12, upd_eq, i_add (by rw [nI_i (by omega)]; omega) (by rw [nI_i (by omega)]; omega), nI_i (by omega)]
  have ro : ∀ i, i ≠ j → rfj b i = rfj a i := fun i hi => by unfold rfj; rw [r12, upd_ne _ hi]
  have ea : amt b = amt a := amt_of r11
  have bk := fbk_le hF j
  have bm : fbk b j = fbk a j + (f : Int) := by
    unfold fbk ftk at *
    rw [r16, upd_eq, i_add (by rw [nI_i (by omega)]; omega) (by rw [nI_i (by omega)]; omega), nI_i (by omega)]
  have bo : ∀ i, i ≠ j → fbk b i = fbk a i := fun i hi => by unfold fbk; rw [r16, upd_ne _ hi]
  have to : ∀ i, i ≠ j → txk b i = txk a i := fun i hi => by unfold txk; rw [ea, ro i hi, r14]
  have tm : txk b j + (T : Int) ≤ txk a j := by
    unfold txk
    rw [ea, rm, r14, lim_i h14 (by decide), hT, Int.natCast_ediv, Int.natCast_mul]
    have e1 : (amt a j - rfj a j) * (nn (a 14 j) : Int) = (amt a j - (rfj a j + (A : Int))) * (nn (a 14 j) : Int) + (A : Int) * (nn (a 14 j) : Int) := by
      rw [← Int.add_mul]
      congr 1
      omega
    rw [e1]
    exact div_sup _ _
  have g1 := sm_at ro 100 n0
  have g2 := sm_at bo 100 n0
  have g3 := sm_at to 100 n0
  have g5 := sm_at eo 8 hz
  rw [rm] at g1
  rw [bm] at g2
  rw [ez] at g5
  refine ⟨⟨fun i => ?_, fun i hi => ?_, by rw [q5, ea]; exact s3, by omega, by rw [ftk_of r15]; omega, by omega, fun i hi => ?_⟩, ⟨?_, ?_, fun i hi => ?_⟩, okO_of hO q0 q4 ?_ r8 r19 r20 r21⟩
  · rw [ea]
    by_cases e : i = j
    · rw [e, rm]; omega
    · rw [ro i e]; exact s1 i
  · rw [q3] at hi
    rw [r11, r12, r15, r16, upd_ne _ (by omega), upd_ne _ (by omega)]
    exact s2 i hi
  · rw [q3] at hi
    unfold slr
    rw [r10, q0]
    exact s7 i hi
  · rw [pai_of r8, hldf_of r17]; omega
  · have e1 := sm_at (f := ngt a) (g := ngt b) (t := slr a j) (fun i hi => ngt_of (eo i hi)) 8 hz
    have e2 : ngt b (slr a j) ≤ ngt a (slr a j) + (A : Int) := by
      unfold ngt
      rw [ez]
      split <;> split <;> omega
    have e3 : Ns a = sm (ngt a) 8 := rfl
    have e4 : Ns b = sm (ngt b) 8 := rfl
    omega
  · rw [q0] at hi
    rw [r7, r8, upd_ne _ (by omega)]
    exact m3 i hi
  · exact Int32.toInt_inj.mp q5
set_option maxHeartbeats 1000000 in
theorem okP_fail {a : yA} {n : Nat} (h : okA a n) (hP : okP a) (hn : n < 512) {x : Int32} (hk : kFail a x = 0) : okP (sFail a (nn x)) ∧ sca (sFail a (nn x)) 5 = sca a 5 ∧ sm (ded (sFail a (nn x))) 1024 ≤ sm (ded a) 1024 + sca a 5 := by
  obtain ⟨hs, hf⟩ : payOKn a x ∧ a 21 (nn x) = 0 := by
    unfold kFail at hk
    split at hk
    · split at hk
      · exact ⟨‹_›, ‹_›⟩
      · cases hk
    · cases hk
  have hB := okA_B h
  have hx1 := nat_of (hB 0 4 1024 rfl) (by decide) hs.1 hs.2
  obtain ⟨i, hi⟩ : ∃ i, i = nn x := ⟨_, rfl⟩
  rw [← hi] at hx1 hf ⊢
  have h4 := (hB 0 4 1024 rfl).2
  obtain ⟨⟨-, hI, hZ, hU⟩, hY, hF, hp⟩ := h
  obtain ⟨b1, b2, b3, b4, b5, b6, b7, b8, b9, b10, b11, b12⟩ := okP_b hP hB hF hI.1 hI.2.1
  obtain ⟨hS, ⟨m1, m2, m3⟩, ⟨o1, o2⟩⟩ := hP
  obtain ⟨c1, c2, c3⟩ := o2 i hx1.2
  have hz : nn (a 20 i) < 8 := Nat.lt_succ_of_le (hB 20 i 7 rfl).2
  have i0 : i < 1024 := by omega
  obtain ⟨b, eb⟩ : ∃ b, b = sFail a i := ⟨_, rfl⟩
  rw [← eb]
  have r7 : b 7 = upd (a 7) (nn (a 20 i)) (a 7 (nn (a 20 i)) + a 19 i) := by rw [eb]; exact sFail_7 a i
  have r8 : b 8 = upd (a 8) (nn (a 20 i)) (a 8 (nn (a 20 i)) - a 19 i) := by rw [eb]; rfl
  have r21 : b 21 = upd (a 21) i 1 := by rw [eb]; rfl
  have r0 : b 0 = a 0 := by rw [eb]; rfl
  have r17 : b 17 = a 17 := by rw [eb]; rfl
  have r19 : b 19 = a 19 := by rw [eb]; rfl
  have r20 : b 20 = a 20 := by rw [eb]; rfl
  have hS2 : okS b := okS_of hS (fun _ _ _ _ => by rw [r0]) (by rw [eb]; rfl) (by rw [eb]; rfl) (by rw [eb]; rfl) (by rw [eb]; rfl) (by rw [eb]; rfl) (by rw [eb]; rfl)
  clear eb
  have q5 : ∀ j, sca b j = sca a j := fun j => by unfold sca; rw [r0]
  have p9 := b9 _ hz
  have p8 := b8 _ hz
  have ec : cen b = cen a := cenf_of r19
  have lv : lvz a (nn (a 20 i)) i = cen a i := if_pos ⟨hf, rfl⟩
  have pl : cen a i ≤ pai a (nn (a 20 i)) := by
    rw [o1 _ hz, ← lv]
    exact sm_ge (lvz_nn hI.2.1 _) 1024 i0
  have ez : bal b (nn (a 20 i)) = bal a (nn (a 20 i)) + cen a i := by
    unfold bal cen pai at *
    rw [r7, upd_eq, i_add (by omega) (by omega)]
  have eo : ∀ j, j ≠ nn (a 20 i) → bal b j = bal a j := fun j hj => by unfold bal; rw [r7, upd_ne _ hj]
  have ep : pai b (nn (a 20 i)) = pai a (nn (a 20 i)) - cen a i := by
    unfold bal cen pai at *
    rw [r8, upd_eq, i_sub (by omega) (by omega)]
  have epo : ∀ j, j ≠ nn (a 20 i) → pai b j = pai a j := fun j hj => by unfold pai; rw [r8, upd_ne _ hj]
  have db : ded b i = cen a i := by unfold ded; rw [r21, upd_eq, ec]; exact if_neg (by decide)
  have da : ded a i = 0 := if_pos hf
  have dd : ∀ j, j ≠ i → ded b j = ded a j := fun j hj => by unfold ded; rw [r21, upd_ne _ hj, ec]
  have g1 := sm_at dd 1024 i0
  have g2 := sm_at eo 8 hz
  have g3 := sm_at epo 8 hz
  rw [db, da] at g1
  rw [ez] at g2
  rw [ep] at g3
  refine ⟨⟨hS2, ⟨?_, ?_, fun j hj => ?_⟩, ⟨fun z hz9 => ?_, fun k hk9 => ?_⟩⟩, q5 5, by omega⟩
  · rw [hldf_of r17, q5, q5, q5, q5]; omega
  · have e1 := sm_at (f := ngt a) (g := ngt b) (t := nn (a 20 i)) (fun j hj => ngt_of (eo j hj)) 8 hz
    have e2 : ngt b (nn (a 20 i)) ≤ ngt a (nn (a 20 i)) := ngt_dn (by rw [ez]; omega)
    have e3 : Ns a = sm (ngt a) 8 := rfl
    have e4 : Ns b = sm (ngt b) 8 := rfl
    rw [q5]
    omega
  · rw [r0] at hj
    rw [r7, r8, upd_ne _ (by omega), upd_ne _ (by omega)]
    exact m3 j hj
  · have k2 := sm_at (f := lvz a z) (g := lvz b z) (t := i) (fun m hm => by unfold lvz; rw [r21, upd_ne _ hm, r20, ec]) 1024 i0
    have k3 : lvz b z i = 0 := by
      unfold lvz
      rw [r21, upd_eq]
      exact if_neg (fun q => absurd q.1 (by decide))
    have k4 : lvz a z i = if nn (a 20 i) = z then cen a i else 0 := by
      unfold lvz
      by_cases e : nn (a 20 i) = z
      · rw [if_pos e, if_pos ⟨hf, e⟩]
      · rw [if_neg e, if_neg (fun q => e q.2)]
    have k5 := o1 z hz9
    rw [k2, k3, k4]
    by_cases e : nn (a 20 i) = z
    · rw [if_pos e, ← e, ep]
      rw [← e] at k5
      omega
    · rw [if_neg e, epo z (fun q => e q.symm)]
      omega
  · rw [r0] at hk9
    rw [ec, r20, r0, q5]
    exact o2 k hk9
theorem okP_add {a : yA} {n : Nat} (h : okA a n) (hP : okP a) {o : Int32} (hk : kAdd a o = 0) : okP (sAdd a o) := by
  have hB := okA_B h
  have h8 : a 0 0 < 8 := by
    unfold kAdd at hk
    split at hk
    · split at hk
      · assumption
      · cases hk
    · cases hk
  have hl := hB 0 0 8 rfl
  have h8n : nn (a 0 0) < 8 := by
    rw [hl.1] at h8
    exact (nI_ltI (b := 8) (by have := hl.2; omega) (by decide)).mp h8
  have e0 : nn (sAdd a o 0 0) = nn (a 0 0) + 1 := by
    show nn (a 0 0 + 1) = _
    exact nn_inc hl (by decide)
  obtain ⟨⟨s1, s2, s3, s4, s5, s6, s7⟩, ⟨m1, m2, m3⟩, ⟨o1, o2⟩⟩ := hP
  refine ⟨⟨s1, s2, s3, s4, s5, s6, fun j hj => ?_⟩, ⟨m1, m2, fun z hz => ?_⟩, ⟨o1, fun k hk9 => ?_⟩⟩
  · have := s7 j hj
    rw [e0]
    show slr a j < _
    omega
  · rw [e0] at hz
    exact m3 z (by omega)
  · obtain ⟨k1, k2, k3⟩ := o2 k hk9
    refine ⟨k1, ?_, k3⟩
    rw [e0]
    show nn (a 20 k) < _
    omega
theorem okP_ver {a : yA} (hP : okP a) (x st : Int32) : okP (sVer a x st) := hP
theorem okP_po {a : yA} (hP : okP a) (x y v : Int32) : okP (sPO a x y v) := hP
theorem okP_res {a : yA} (hP : okP a) (x y v : Int32) : okP (sRes a x y v) := hP
theorem okP_shr {a : yA} (hP : okP a) (kd th : Int32) : okP (sShr a kd th) := hP
theorem okP_tax {a : yA} (hP : okP a) (th : Int32) : okP (sTaxS a th) := hP
theorem okP_0 : okP a0 := by
  have e0 : nn (0 : Int32) = 0 := nn_nI (n := 0) (by decide)
  have z : ∀ i j, i ≠ 9 → (a0 i j).toInt = 0 := fun i j h => by rw [a0_at h]; rfl
  have f1 : ∀ j, amt a0 j = 0 := fun j => z 11 j (by decide)
  have f2 : ∀ j, rfj a0 j = 0 := fun j => z 12 j (by decide)
  have f3 : ∀ j, ftk a0 j = 0 := fun j => z 15 j (by decide)
  have f4 : ∀ j, fbk a0 j = 0 := fun j => z 16 j (by decide)
  have f5 : ∀ j, txk a0 j = 0 := fun j => by unfold txk; rw [f1, f2, Int.sub_zero, Int.zero_mul]; rfl
  have f6 : ∀ j, bal a0 j = 0 := fun j => z 7 j (by decide)
  have f7 : ∀ j, pai a0 j = 0 := fun j => z 8 j (by decide)
  have f8 : ∀ j, hld a0 j = 0 := fun j => z 17 j (by decide)
  have f9 : ∀ j, ngt a0 j = 0 := fun i => by unfold ngt; rw [f6]; rfl
  have f10 : ∀ j, sca a0 j = 0 := fun j => z 0 j (by decide)
  have f11 : ∀ y j, lvz a0 y j = 0 := fun y j => by unfold lvz cen; rw [z 19 j (by decide)]; split <;> rfl
  refine ⟨⟨fun j => by rw [f1, f2]; omega, fun j _ => ⟨rfl, rfl, rfl, rfl⟩, by rw [f10, sm_0 f1], by rw [f10, sm_0 f2], by rw [f10, sm_0 f3, sm_0 f4]; rfl, by rw [f10, sm_0 f5]; exact Int.le_refl 0, fun j hj => ?_⟩, ⟨by rw [f10, f10, f10, f10, sm_0 f6, sm_0 f7, sm_0 f8]; rfl, by unfold Ns; rw [f10, sm_0 f9]; exact Int.le_refl 0, fun _ _ => ⟨rfl, rfl⟩⟩, ⟨fun y _ => by rw [f7, sm_0 (f11 y)], fun k hk => ?_⟩⟩
  · have q : nn (a0 0 3) = 0 := e0
    omega
  · have q : nn (a0 0 4) = 0 := e0
    omega
