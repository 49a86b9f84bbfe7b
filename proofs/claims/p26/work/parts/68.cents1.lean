/-! where every cent is -/
def amt (a : yA) (j : Nat) : Int := (a 11 j).toInt
def rfj (a : yA) (j : Nat) : Int := (a 12 j).toInt
def ftk (a : yA) (j : Nat) : Int := (a 15 j).toInt
def fbk (a : yA) (j : Nat) : Int := (a 16 j).toInt
def txk (a : yA) (j : Nat) : Int := (amt a j - rfj a j) * (a 14 j).toInt / 1000
def pai (a : yA) (z : Nat) : Int := (a 8 z).toInt
def lvz (a : yA) (z i : Nat) : Int := if a 21 i = 0 ∧ nn (a 20 i) = z then cen a i else 0
def ded (a : yA) (i : Nat) : Int := if a 21 i = 0 then 0 else cen a i
/-- 5 received, 6 refunded, 7 fees, 8 taxes -/
def sca (a : yA) (j : Nat) : Int := (a 0 j).toInt
def okS (a : yA) : Prop := (∀ j, 0 ≤ rfj a j ∧ rfj a j ≤ amt a j ∧ amt a j ≤ 1000000) ∧ (∀ j, nn (a 0 3) ≤ j → a 11 j = 0 ∧ a 12 j = 0 ∧ a 15 j = 0 ∧ a 16 j = 0) ∧ sca a 5 = sm (amt a) 100 ∧ sca a 6 = sm (rfj a) 100 ∧ sca a 7 = sm (ftk a) 100 - sm (fbk a) 100 ∧ sm (txk a) 100 ≤ sca a 8 ∧ ∀ j, j < nn (a 0 3) → slr a j < nn (a 0 0)
def okM (a : yA) : Prop := sm (bal a) 8 + sm (pai a) 8 + sm (hld a) 100 + sca a 6 + sca a 7 + sca a 8 = sca a 5 ∧ Ns a ≤ sca a 6 ∧ ∀ z, nn (a 0 0) ≤ z → a 7 z = 0 ∧ a 8 z = 0
def okO (a : yA) : Prop := (∀ z, z < 8 → pai a z = sm (lvz a z) 1024) ∧ ∀ k, k < nn (a 0 4) → 0 < cen a k ∧ nn (a 20 k) < nn (a 0 0) ∧ cen a k ≤ sca a 5
def okP (a : yA) : Prop := okS a ∧ okM a ∧ okO a
theorem sca_of {a b : yA} {j : Nat} (h : b 0 j = a 0 j) : sca b j = sca a j := by unfold sca; rw [h]
theorem amt_of {a b : yA} (h : b 11 = a 11) : amt b = amt a := by funext j; unfold amt; rw [h]
theorem rfj_of {a b : yA} (h : b 12 = a 12) : rfj b = rfj a := by funext j; unfold rfj; rw [h]
theorem ftk_of {a b : yA} (h : b 15 = a 15) : ftk b = ftk a := by funext j; unfold ftk; rw [h]
theorem fbk_of {a b : yA} (h : b 16 = a 16) : fbk b = fbk a := by funext j; unfold fbk; rw [h]
theorem txk_of {a b : yA} (h : b 11 = a 11) (h2 : b 12 = a 12) (h3 : b 14 = a 14) : txk b = txk a := by funext j; unfold txk; rw [amt_of h, rfj_of h2, h3]
theorem pai_of {a b : yA} (h : b 8 = a 8) : pai b = pai a := by funext j; unfold pai; rw [h]
theorem balf_of {a b : yA} (h : b 7 = a 7) : bal b = bal a := by funext j; unfold bal; rw [h]
theorem hldf_of {a b : yA} (h : b 17 = a 17) : hld b = hld a := by funext j; unfold hld; rw [h]
theorem cenf_of {a b : yA} (h : b 19 = a 19) : cen b = cen a := by funext j; unfold cen; rw [h]
theorem ngtf_of {a b : yA} (h : b 7 = a 7) : ngt b = ngt a := by funext j; unfold ngt; rw [balf_of h]
theorem lvz_of {a b : yA} (h : b 19 = a 19) (h2 : b 20 = a 20) (h3 : b 21 = a 21) : lvz b = lvz a := by funext z i; unfold lvz; rw [h2, h3, cenf_of h]
theorem ded_of {a b : yA} (h : b 19 = a 19) (h3 : b 21 = a 21) : ded b = ded a := by funext i; unfold ded; rw [h3, cenf_of h]
theorem okS_of {a b : yA} (h : okS a) (e : ∀ j, j ≠ 1 → j ≠ 2 → j ≠ 4 → b 0 j = a 0 j) (e10 : b 10 = a 10) (e11 : b 11 = a 11) (e12 : b 12 = a 12) (e14 : b 14 = a 14) (e15 : b 15 = a 15) (e16 : b 16 = a 16) : okS b := by
  have q : okS b = okS a := by
    unfold okS slr
    rw [sca_of (a := a) (e 5 (by decide) (by decide) (by decide)), sca_of (a := a) (e 6 (by decide) (by decide) (by decide)), sca_of (a := a) (e 7 (by decide) (by decide) (by decide)), sca_of (a := a) (e 8 (by decide) (by decide) (by decide)), e 3 (by decide) (by decide) (by decide), e 0 (by decide) (by decide) (by decide), amt_of e11, rfj_of e12, ftk_of e15, fbk_of e16, txk_of e11 e12 e14, e10, e11, e12, e15, e16]
  rw [q]; exact h
theorem okM_of {a b : yA} (h : okM a) (e : ∀ j, j ≠ 1 → j ≠ 2 → j ≠ 3 → j ≠ 4 → b 0 j = a 0 j) (e7 : b 7 = a 7) (e8 : b 8 = a 8) (e17 : b 17 = a 17) : okM b := by
  have q : okM b = okM a := by
    unfold okM Ns
    rw [sca_of (a := a) (e 5 (by decide) (by decide) (by decide) (by decide)), sca_of (a := a) (e 6 (by decide) (by decide) (by decide) (by decide)), sca_of (a := a) (e 7 (by decide) (by decide) (by decide) (by decide)), sca_of (a := a) (e 8 (by decide) (by decide) (by decide) (by decide)), e 0 (by decide) (by decide) (by decide) (by decide), balf_of e7, pai_of e8, hldf_of e17, ngtf_of e7, e7, e8]
  rw [q]; exact h
theorem okO_of {a b : yA} (h : okO a) (e0 : b 0 0 = a 0 0) (e4 : b 0 4 = a 0 4) (e5 : b 0 5 = a 0 5) (e8 : b 8 = a 8) (e19 : b 19 = a 19) (e20 : b 20 = a 20) (e21 : b 21 = a 21) : okO b := by
  have q : okO b = okO a := by
    unfold okO
    rw [sca_of (a := a) e5, e0, e4, pai_of e8, lvz_of e19 e20 e21, cenf_of e19, e20]
  rw [q]; exact h
theorem lim_i {x : Int32} {b : Nat} (h : lim x b) (hb : b < 2 ^ 30) : x.toInt = (nn x : Int) := (day_toInt h hb).1
theorem sm_c {f : Nat → Int} (h : ∀ i, f i ≤ 1000000) : ∀ n, sm f n ≤ 1000000 * (n : Int) := by
  intro n
  induction n with
  | zero => exact Int.le_refl 0
  | succ n ih =>
    show sm f n + f n ≤ _
    have := h n
    omega
theorem fbk_le {a : yA} (hF : okF a) (j : Nat) : 0 ≤ fbk a j ∧ fbk a j ≤ ftk a j ∧ ftk a j ≤ 1000000 := by
  obtain ⟨k1, k2, k3⟩ := hF j
  have e1 := lim_i k1 (by decide)
  have e2 := lim_i k2 (by decide)
  have := k1.2
  unfold fbk ftk
  omega
theorem txk_nn {a : yA} (hB : okB a) (hS : okS a) (j : Nat) : 0 ≤ txk a j := by
  unfold txk
  obtain ⟨k1, k2, k3⟩ := hS.1 j
  have e := lim_i (hB 14 j 500 rfl) (by decide)
  exact Int.ediv_nonneg (Int.mul_nonneg (by omega) (by omega)) (by decide)
theorem lvz_nn {a : yA} (h : ∀ i, 0 ≤ cen a i) (z i : Nat) : 0 ≤ lvz a z i := by
  unfold lvz
  split
  · exact h i
  · exact Int.le_refl 0
theorem ded_nn {a : yA} (h : ∀ i, 0 ≤ cen a i) (i : Nat) : 0 ≤ ded a i := by
  unfold ded
  split
  · exact Int.le_refl 0
  · exact h i
theorem sm_mono {f g : Nat → Int} : ∀ n, (∀ i, i < n → f i ≤ g i) → sm f n ≤ sm g n := by
  intro n
  induction n with
  | zero => exact fun _ => Int.le_refl 0
  | succ n ih =>
    intro h
    show sm f n + f n ≤ sm g n + g n
    have h1 := ih (fun i hi => h i (by omega))
    have h2 := h n (by omega)
    omega
theorem sm_nn2 {f : Nat → Int} : ∀ n, (∀ i, i < n → 0 ≤ f i) → 0 ≤ sm f n := by
  intro n
  induction n with
  | zero => exact fun _ => Int.le_refl 0
  | succ n ih =>
    intro h
    show 0 ≤ sm f n + f n
    have h1 := ih (fun i hi => h i (by omega))
    have h2 := h n (by omega)
    omega
theorem sm_ge2 {f : Nat → Int} {t : Nat} : ∀ n, (∀ i, i < n → 0 ≤ f i) → t < n → f t ≤ sm f n := by
  intro n
  induction n with
  | zero => intro _ ht; omega
  | succ n ih =>
    intro h ht
    show f t ≤ sm f n + f n
    have h0 := sm_nn2 n (fun i hi => h i (by omega))
    have h2 := h n (by omega)
    by_cases e : t = n
    · subst e; omega
    · have h1 := ih (fun i hi => h i (by omega)) (by omega)
      omega
/-- what the sums are bounded by -/
theorem okP_b {a : yA} (h : okP a) (hB : okB a) (hF : okF a) (h17 : ∀ j, 0 ≤ hld a j) (h19 : ∀ i, 0 ≤ cen a i) :
    0 ≤ sca a 7 ∧ 0 ≤ sca a 8 ∧ 0 ≤ sca a 6 ∧ sca a 6 ≤ sca a 5 ∧ sca a 5 ≤ 100000000 ∧ sca a 7 ≤ sca a 5 ∧ sca a 8 ≤ sca a 5 ∧ (∀ z, z < 8 → 0 ≤ pai a z ∧ pai a z ≤ sca a 5) ∧ (∀ z, z < 8 → bal a z ≤ sca a 5 ∧ -(sca a 5) ≤ bal a z) ∧ sm (hld a) 100 ≤ sca a 5 ∧ 0 ≤ sm (pai a) 8 ∧ sm (pai a) 8 ≤ sca a 5 := by
  obtain ⟨⟨s1, s2, s3, s4, s5, s6, s7⟩, ⟨m1, m2, m3⟩, ⟨o1, o2⟩⟩ := h
  have hS : okS a := ⟨s1, s2, s3, s4, s5, s6, s7⟩
  have c1 := sm_le (f := ftk a) (g := fbk a) (fun j => (fbk_le hF j).2.1) 100
  have c2 := sm_nn (txk_nn hB hS) 100
  have c3 := sm_nn (f := rfj a) (fun j => (s1 j).1) 100
  have c4 := sm_le (f := amt a) (g := rfj a) (fun j => (s1 j).2.1) 100
  have c5 := sm_c (f := amt a) (fun j => (s1 j).2.2) 100
  have c6 : ∀ z, z < 8 → 0 ≤ pai a z := fun z hz => by rw [o1 z hz]; exact sm_nn (lvz_nn h19 z) 1024
  have c7 := sm_nn2 8 c6
  have c8 := sm_nn h17 100
  have e := sm_add (bal a) (ngt a) 8
  have hp : ∀ i, 0 ≤ bal a i + ngt a i := fun i => by
    unfold ngt
    split <;> omega
  have c9 := sm_nn hp 8
  have e2 : Ns a = sm (ngt a) 8 := rfl
  refine ⟨by omega, by omega, by omega, by omega, by omega, by omega, by omega, fun z hz => ⟨c6 z hz, ?_⟩, fun z hz => ?_, by omega, by omega, by omega⟩
  · have := sm_ge2 8 c6 hz
    omega
  · have k1 := sm_ge (f := fun i => bal a i + ngt a i) hp 8 hz
    have k1 : bal a z + ngt a z ≤ sm (fun i => bal a i + ngt a i) 8 := k1
    have k2 := sm_ge (ngt_nn a) 8 hz
    have k3 := ngt_nn a z
    have k4 : -(bal a z) ≤ ngt a z := by
      unfold ngt
      split <;> omega
    omega
