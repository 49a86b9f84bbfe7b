/-! every cent is somewhere -/
def ksum (a : yA) : Nat → Int32
  | 0 => a 0 6 + a 0 7 + a 0 8
  | z + 1 => ksum a z + (a 7 z + sHsum a z (nn (a 0 3)) + a 8 z)
def kpai (a : yA) : Nat → Int32
  | 0 => 0
  | z + 1 => kpai a z + a 8 z
def kpay (a : yA) (p : Int32) : Nat → Int32
  | 0 => p
  | k + 1 => kpay a p k - a 19 k
/-- what is held for a seller -/
def hI (a : yA) (n z : Nat) : Int := sm (fun j => if a 10 j = nI z then hld a j else 0) n
theorem hsm_I (a : yA) (z : Nat) : ∀ n, hsm (a 10) (a 17) z n = Int32.ofInt (hI a n z) := by
  intro n
  induction n with
  | zero => rfl
  | succ n ih =>
    show (if a 10 n = nI z then hsm (a 10) (a 17) z n + a 17 n else hsm (a 10) (a 17) z n) = Int32.ofInt (hI a n z + (if a 10 n = nI z then hld a n else 0))
    rw [ih]
    split
    · rw [Int32.ofInt_add]
      show _ + _ = _ + Int32.ofInt (a 17 n).toInt
      rw [Int32.ofInt_toInt]
    · rw [Int.add_zero]
theorem sm_ind (t : Nat) (v : Int) : ∀ N, t < N → sm (fun z => if t = z then v else 0) N = v := by
  intro N h
  have e := sm_at (f := fun _ => 0) (g := fun z => if t = z then v else 0) (t := t) (fun i hi => if_neg (fun q => hi q.symm)) N h
  rw [sm_0 (fun _ => rfl)] at e
  rw [if_pos rfl] at e
  omega
theorem hI_all {a : yA} (hB : okB a) {N : Nat} (hN : N ≤ 8) : ∀ n, (∀ j, j < n → slr a j < N) → sm (hI a n) N = sm (hld a) n := by
  intro n
  induction n with
  | zero => exact fun _ => sm_0 (fun _ => rfl) N
  | succ n ih =>
    intro h
    have h1 := ih (fun j hj => h j (by omega))
    have hs := h n (by omega)
    have e10 : a 10 n = nI (slr a n) := (hB 10 n 7 rfl).1
    have e : sm (hI a (n + 1)) N = sm (fun z => hI a n z + (if slr a n = z then hld a n else 0)) N := sm_congr N (fun z hz => by
      show hI a n z + (if a 10 n = nI z then hld a n else 0) = _
      by_cases q : slr a n = z
      · rw [if_pos q, if_pos (by rw [e10, q])]
      · rw [if_neg q, if_neg (fun w => q ((nI_eq (by omega) (by omega)).mp (e10.symm.trans w)))])
    rw [e, sm_add (hI a n) (fun z => if slr a n = z then hld a n else 0), sm_ind _ _ _ hs, h1]
    rfl
theorem ksum_I (a : yA) : ∀ z, ksum a z = Int32.ofInt (sca a 6 + sca a 7 + sca a 8 + (sm (bal a) z + sm (hI a (nn (a 0 3))) z + sm (pai a) z)) := by
  intro z
  induction z with
  | zero =>
    show a 0 6 + a 0 7 + a 0 8 = Int32.ofInt (_ + (0 + 0 + 0))
    rw [show (0 : Int) + 0 + 0 = 0 from rfl, Int.add_zero, Int32.ofInt_add, Int32.ofInt_add]
    unfold sca
    rw [Int32.ofInt_toInt, Int32.ofInt_toInt, Int32.ofInt_toInt]
  | succ z ih =>
    have e : sca a 6 + sca a 7 + sca a 8 + (sm (bal a) (z + 1) + sm (hI a (nn (a 0 3))) (z + 1) + sm (pai a) (z + 1)) = (sca a 6 + sca a 7 + sca a 8 + (sm (bal a) z + sm (hI a (nn (a 0 3))) z + sm (pai a) z)) + (bal a z + hI a (nn (a 0 3)) z + pai a z) := by
      show _ + (sm (bal a) z + bal a z + (sm (hI a (nn (a 0 3))) z + hI a (nn (a 0 3)) z) + (sm (pai a) z + pai a z)) = _
      omega
    rw [e, Int32.ofInt_add, ← ih, Int32.ofInt_add, Int32.ofInt_add, ← hsm_I]
    unfold bal pai
    rw [Int32.ofInt_toInt, Int32.ofInt_toInt]
    rfl
theorem kpai_I (a : yA) : ∀ z, kpai a z = Int32.ofInt (sm (pai a) z) := by
  intro z
  induction z with
  | zero => rfl
  | succ z ih =>
    show kpai a z + a 8 z = Int32.ofInt (sm (pai a) z + pai a z)
    rw [Int32.ofInt_add, ← ih]
    unfold pai
    rw [Int32.ofInt_toInt]
theorem kpay_I (a : yA) (p : Int) : ∀ k, kpay a (Int32.ofInt p) k = Int32.ofInt (p - sm (cen a) k) := by
  intro k
  induction k with
  | zero =>
    show Int32.ofInt p = Int32.ofInt (p - 0)
    rw [Int.sub_zero]
  | succ k ih =>
    have e : p - sm (cen a) (k + 1) = (p - sm (cen a) k) - cen a k := by
      show p - (sm (cen a) k + cen a k) = _
      omega
    show kpay a (Int32.ofInt p) k - a 19 k = _
    rw [e, Int32.ofInt_sub, ← ih]
    unfold cen
    rw [Int32.ofInt_toInt]
theorem sm_tail {f : Nat → Int} {n : Nat} : ∀ m, n ≤ m → (∀ i, n ≤ i → f i = 0) → sm f m = sm f n := by
  intro m
  induction m with
  | zero => intro h _; rw [Nat.le_zero.mp h]
  | succ m ih =>
    intro h h0
    by_cases e : n = m + 1
    · rw [e]
    · show sm f m + f m = _
      rw [ih (by omega) h0, h0 m (by omega), Int.add_zero]
theorem lv_all {a : yA} (hB : okB a) : ∀ n, sm (fun z => sm (lvz a z) n) 8 = sm (liv a) n := by
  intro n
  induction n with
  | zero => exact sm_0 (fun _ => rfl) 8
  | succ n ih =>
    have hs : nn (a 20 n) < 8 := Nat.lt_succ_of_le (hB 20 n 7 rfl).2
    have e : sm (fun z => sm (lvz a z) (n + 1)) 8 = sm (fun z => sm (lvz a z) n + (if nn (a 20 n) = z then liv a n else 0)) 8 := sm_congr 8 (fun z _ => by
      show sm (lvz a z) n + lvz a z n = _
      congr 1
      unfold lvz liv
      by_cases q : nn (a 20 n) = z
      · rw [if_pos q]
        by_cases w : a 21 n = 0
        · rw [if_pos w, if_pos ⟨w, q⟩]
        · rw [if_neg w, if_neg (fun h => w h.1)]
      · rw [if_neg q, if_neg (fun h => q h.2)])
    rw [e, sm_add (fun z => sm (lvz a z) n) (fun z => if nn (a 20 n) = z then liv a n else 0), sm_ind _ _ _ hs, ih]
    rfl
theorem fs_le {f s m : Int} (h1 : 0 ≤ f) (h2 : 0 ≤ s) (h3 : f + s ≤ m) (hm : m ≤ 90) : f * s ≤ 2025 := by
  have e : f * s ≤ f * (90 - f) := Int.mul_le_mul_of_nonneg_left (by omega) h1
  have e2 : f * (90 - f) ≤ 2025 := by
    have k : 0 ≤ (f - 45) * (f - 45) := by
      rcases Int.le_total 0 (f - 45) with q | q
      · exact Int.mul_nonneg q q
      · have := Int.mul_nonneg (show 0 ≤ -(f - 45) by omega) (show 0 ≤ -(f - 45) by omega)
        rw [Int.neg_mul_neg] at this
        exact this
    have e3 : (f - 45) * (f - 45) = f * f - 90 * f + 2025 := by
      rw [Int.sub_mul, Int.mul_sub, Int.mul_comm f 45]
      omega
    have e4 : f * (90 - f) = 90 * f - f * f := by rw [Int.mul_sub, Int.mul_comm f 90]
    omega
  omega
theorem ded_le {a : yA} {n : Nat} {m t : Int} (h : okX a n m t) (hm : m ≤ 90) (ht : t ≤ 7) (ht0 : 0 ≤ t) : sm (ded a) 1024 ≤ 2100000000 := by
  obtain ⟨-, -, f, s, h1, h2, h3, h4, h5⟩ := h
  have k1 := fs_le h1 h2 h3 hm
  have k2 : f * (1000000 * s + 100000 * t) ≤ f * (1000000 * s + 700000) := Int.mul_le_mul_of_nonneg_left (by omega) h1
  have e : f * (1000000 * s + 700000) = 1000000 * (f * s) + 700000 * f := by
    rw [Int.mul_add, Int.mul_comm f 700000, ← Int.mul_assoc, Int.mul_comm f 1000000, Int.mul_assoc]
  omega
theorem ofInt_i {x : Int} (h1 : -2147483648 ≤ x) (h2 : x ≤ 2147483647) : (Int32.ofInt x).toInt = x := Int32.toInt_ofInt_of_le (by omega) (by omega)
/-- all that the law asks of one object -/
theorem kept_ok {a : yA} {n : Nat} {m t : Int} (h : okX a n m t) (hm : m ≤ 90) (ht : t ≤ 7) (ht0 : 0 ≤ t) :
    (0 ≤ a 0 7 ∧ 0 ≤ a 0 8 ∧ 0 ≤ a 0 6 ∧ a 0 6 ≤ a 0 5) ∧ ksum a (nn (a 0 0)) = a 0 5 ∧ kpay a (kpai a (nn (a 0 0))) (nn (a 0 4)) ≤ 0
    ∧ (∀ z, z < nn (a 0 0) → 0 ≤ sHsum a z (nn (a 0 3)) ∧ 0 ≤ a 8 z) ∧ (∀ k, k < nn (a 0 4) → 0 < a 19 k ∧ nn (a 20 k) < nn (a 0 0)) ∧ ∀ z, z < 8 → a 7 z ≠ -2000000001 := by
  obtain ⟨b1, b2, b3, b4, b5, b6, b7, b8, b9, b10, b11, b12⟩ := okX_b h
  have hdl := ded_le h hm ht ht0
  obtain ⟨hA, ⟨⟨s1, s2, s3, s4, s5, s6, s7⟩, ⟨m1, m2, m3⟩, ⟨o1, o2⟩⟩, -⟩ := h
  have hB := okA_B hA
  have h3 := okA_3 hA
  have h8 := (hB 0 0 8 rfl).2
  have h4 := (hB 0 4 1024 rfl).2
  obtain ⟨⟨-, hI0, hZ, hU⟩, hY, hF, hp⟩ := hA
  have e0 : (0 : Int32).toInt = 0 := rfl
  have tb : sm (bal a) 8 = sm (bal a) (nn (a 0 0)) := sm_tail 8 h8 (fun i hi => zero_i (m3 i hi).1)
  have tp : sm (pai a) 8 = sm (pai a) (nn (a 0 0)) := sm_tail 8 h8 (fun i hi => zero_i (m3 i hi).2)
  have th : sm (hld a) 100 = sm (hld a) (nn (a 0 3)) := sm_tail 100 h3 (fun i hi => zero_i (hY i hi).2.2)
  have tc : sm (cen a) 1024 = sm (cen a) (nn (a 0 4)) := sm_tail 1024 h4 (fun i hi => zero_i (hZ i hi).2.1)
  have hh := hI_all hB h8 (nn (a 0 3)) s7
  have hl : ∀ z j, 0 ≤ (fun j => if a 10 j = nI z then hld a j else 0) j := fun z j => by
    show 0 ≤ (if a 10 j = nI z then hld a j else 0)
    split
    · exact hI0.1 j
    · exact Int.le_refl 0
  have hz0 : ∀ z, 0 ≤ hI a (nn (a 0 3)) z := fun z => sm_nn (hl z) _
  refine ⟨⟨?_, ?_, ?_, ?_⟩, ?_, ?_, fun z hz => ⟨?_, ?_⟩, fun k hk => ⟨?_, (o2 k hk).2.1⟩, fun z hz => ?_⟩
  · rw [Int32.le_iff_toInt_le, e0]; exact b1
  · rw [Int32.le_iff_toInt_le, e0]; exact b2
  · rw [Int32.le_iff_toInt_le, e0]; exact b3
  · rw [Int32.le_iff_toInt_le]; exact b4
  · rw [ksum_I, hh]
    have e : sca a 6 + sca a 7 + sca a 8 + (sm (bal a) (nn (a 0 0)) + sm (hld a) (nn (a 0 3)) + sm (pai a) (nn (a 0 0))) = sca a 5 := by omega
    rw [e]
    exact Int32.ofInt_toInt _
  · rw [kpai_I, kpay_I]
    have l1 := lv_all hB 1024
    have l2 : sm (pai a) 8 = sm (fun z => sm (lvz a z) 1024) 8 := sm_congr 8 (fun z hz => (o1 z hz))
    have l3 : sm (cen a) 1024 = sm (liv a) 1024 + sm (ded a) 1024 := by
      rw [← sm_add]
      refine sm_congr 1024 (fun i _ => ?_)
      unfold liv ded
      split
      · rw [Int.add_zero]
      · rw [Int.zero_add]
    have l4 := sm_nn (ded_nn hI0.2.1) 1024
    have e : sm (pai a) (nn (a 0 0)) - sm (cen a) (nn (a 0 4)) = -(sm (ded a) 1024) := by omega
    rw [e, Int32.le_iff_toInt_le, ofInt_i (by omega) (by omega), e0]
    omega
  · have k1 := sm_ge2 (f := hI a (nn (a 0 3))) (nn (a 0 0)) (fun i _ => hz0 i) hz
    show 0 ≤ hsm (a 10) (a 17) z (nn (a 0 3))
    have k2 := hz0 z
    rw [hsm_I, Int32.le_iff_toInt_le, ofInt_i (by omega) (by omega), e0]
    exact k2
  · rw [Int32.le_iff_toInt_le, e0]
    exact (b8 z (by omega)).1
  · rw [Int32.lt_iff_toInt_lt, e0]
    exact (o2 k hk).1
  · have k := b9 z hz
    unfold bal at k
    exact ne_sent (by omega)
