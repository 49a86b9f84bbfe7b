/-! whole numbers behind the rows: sums, and bounds that no call leaves -/
def sm (f : Nat → Int) : Nat → Int
  | 0 => 0
  | n + 1 => sm f n + f n
theorem sm_congr {f g : Nat → Int} : ∀ n, (∀ i, i < n → g i = f i) → sm g n = sm f n := by
  intro n
  induction n with
  | zero => exact fun _ => rfl
  | succ n ih =>
    intro h
    show sm g n + g n = sm f n + f n
    rw [ih (fun i hi => h i (by omega)), h n (by omega)]
theorem sm_at {f g : Nat → Int} {t : Nat} (h : ∀ i, i ≠ t → g i = f i) : ∀ n, t < n → sm g n = sm f n - f t + g t := by
  intro n
  induction n with
  | zero => intro ht; omega
  | succ n ih =>
    intro ht
    show sm g n + g n = sm f n + f n - f t + g t
    by_cases e : t = n
    · rw [sm_congr n (fun i hi => h i (by omega)), e]
      omega
    · rw [ih (by omega), h n (by omega)]
      omega
theorem sm_add (f g : Nat → Int) (n : Nat) : sm (fun i => f i + g i) n = sm f n + sm g n := by
  induction n with
  | zero => rfl
  | succ n ih =>
    show sm _ n + (f n + g n) = sm f n + f n + (sm g n + g n)
    rw [ih]
    omega
theorem sm_nn {f : Nat → Int} (h : ∀ i, 0 ≤ f i) (n : Nat) : 0 ≤ sm f n := by
  induction n with
  | zero => exact Int.le_refl 0
  | succ n ih =>
    show 0 ≤ sm f n + f n
    have := h n
    omega
theorem sm_ge {f : Nat → Int} (h : ∀ i, 0 ≤ f i) {t : Nat} : ∀ n, t < n → f t ≤ sm f n := by
  intro n
  induction n with
  | zero => intro ht; omega
  | succ n ih =>
    intro ht
    show f t ≤ sm f n + f n
    by_cases e : t = n
    · have := sm_nn h n
      rw [e]
      omega
    · have := ih (by omega)
      have := h n
      omega
theorem i_add {x y : Int32} (h1 : -2147483648 ≤ x.toInt + y.toInt) (h2 : x.toInt + y.toInt ≤ 2147483647) : (x + y).toInt = x.toInt + y.toInt := by
  rw [Int32.toInt_add]
  exact Int.bmod_eq_of_le (by omega) (by omega)
theorem i_sub {x y : Int32} (h1 : -2147483648 ≤ x.toInt - y.toInt) (h2 : x.toInt - y.toInt ≤ 2147483647) : (x - y).toInt = x.toInt - y.toInt := by
  rw [Int32.toInt_sub]
  exact Int.bmod_eq_of_le (by omega) (by omega)
theorem i_neg {x : Int32} (h1 : -2147483648 < x.toInt) : (-x).toInt = -x.toInt := by
  have h2 := Int32.toInt_lt x
  rw [Int32.toInt_neg]
  exact Int.bmod_eq_of_le (by omega) (by omega)
theorem i_min (x y : Int32) : (imin x y).toInt = if y.toInt < x.toInt then y.toInt else x.toInt := by
  unfold imin
  by_cases h : y < x
  · rw [if_pos h, if_pos (Int32.lt_iff_toInt_lt.mp h)]
  · rw [if_neg h, if_neg (fun q => h (Int32.lt_iff_toInt_lt.mpr q))]
def bal (a : yA) (z : Nat) : Int := (a 7 z).toInt
def hld (a : yA) (j : Nat) : Int := (a 17 j).toInt
def cen (a : yA) (i : Nat) : Int := (a 19 i).toInt
def liv (a : yA) (i : Nat) : Int := if a 21 i = 0 then cen a i else 0
def ngt (a : yA) (z : Nat) : Int := if bal a z < 0 then -(bal a z) else 0
def Gs (a : yA) : Int := sm (bal a) 8 + sm (hld a) 100 + sm (liv a) 1024
def Ns (a : yA) : Int := sm (ngt a) 8
def okI (a : yA) (g n : Int) : Prop := (∀ j, 0 ≤ hld a j) ∧ (∀ i, 0 ≤ cen a i) ∧ Ns a ≤ n ∧ Gs a ≤ g ∧ 0 ≤ g ∧ g + n ≤ 2000000000
theorem ngt_nn (a : yA) (z : Nat) : 0 ≤ ngt a z := by
  unfold ngt
  split <;> omega
theorem liv_nn {a : yA} (h : ∀ i, 0 ≤ cen a i) (i : Nat) : 0 ≤ liv a i := by
  unfold liv
  split
  · exact h i
  · exact Int.le_refl 0
/-- what one balance, all that is held and all that lives in payouts come to -/
theorem okI_b {a : yA} {g n : Int} (h : okI a g n) {z : Nat} (hz : z < 8) : bal a z + sm (hld a) 100 + sm (liv a) 1024 ≤ g + n ∧ -n ≤ bal a z := by
  obtain ⟨h1, h2, h3, h4, h5⟩ := h
  have e := sm_add (bal a) (ngt a) 8
  have hp : ∀ i, 0 ≤ bal a i + ngt a i := fun i => by
    unfold ngt
    split <;> omega
  have k1 := sm_ge (f := fun i => bal a i + ngt a i) hp 8 hz
  have k2 := sm_ge (ngt_nn a) 8 hz
  have k3 := ngt_nn a z
  have k4 : -(bal a z) ≤ ngt a z := by
    unfold ngt
    split <;> omega
  unfold Gs at h4
  unfold Ns at h3
  have k5 : bal a z + ngt a z ≤ sm (bal a) 8 + sm (ngt a) 8 := by rw [← e]; exact k1
  constructor <;> omega
theorem sPost_b {a : yA} {z : Nat} {c : Int32} (h1 : -2147483648 ≤ bal a z + c.toInt) (h2 : bal a z + c.toInt ≤ 2147483647) : bal (sPost a z c) z = bal a z + c.toInt := by
  show (put a 7 z (a 7 z + c) 7 z).toInt = _
  rw [put_at]
  exact i_add h1 h2
theorem sPost_bo (a : yA) {z i : Nat} (c : Int32) (h : i ≠ z) : bal (sPost a z c) i = bal a i := by
  show (put a 7 z (a 7 z + c) 7 i).toInt = _
  rw [put_ne _ _ _ h]; rfl
theorem hld_oth {a b : yA} (h : b 17 = a 17) (j : Nat) : hld b j = hld a j := by unfold hld; rw [h]
theorem cen_oth {a b : yA} (h : b 19 = a 19) (j : Nat) : cen b j = cen a j := by unfold cen; rw [h]
theorem liv_oth {a b : yA} (h : b 19 = a 19) (h2 : b 21 = a 21) (j : Nat) : liv b j = liv a j := by unfold liv cen; rw [h, h2]
theorem bal_oth {a b : yA} (h : b 7 = a 7) (j : Nat) : bal b j = bal a j := by unfold bal; rw [h]
theorem ngt_of {a b : yA} {z : Nat} (h : bal b z = bal a z) : ngt b z = ngt a z := by unfold ngt; rw [h]
theorem ngt_dn {a b : yA} {z : Nat} (h : bal a z ≤ bal b z) : ngt b z ≤ ngt a z := by
  unfold ngt
  split <;> split <;> omega
theorem ngt_0 {b : yA} {z : Nat} (h : 0 ≤ bal b z) : ngt b z = 0 := if_neg (by omega)
/-- rows that don't count -/
theorem okI_of {a b : yA} {g n : Int} (h : okI a g n) (h7 : b 7 = a 7) (h17 : b 17 = a 17) (h19 : b 19 = a 19) (h21 : b 21 = a 21) : okI b g n := by
  obtain ⟨h1, h2, h3, h4, h5⟩ := h
  refine ⟨fun j => by rw [hld_oth h17]; exact h1 j, fun i => by rw [cen_oth h19]; exact h2 i, ?_, ?_, h5⟩
  · unfold Ns
    rw [sm_congr 8 (fun i _ => ngt_of (bal_oth h7 i))]
    exact h3
  · unfold Gs
    rw [sm_congr 8 (fun i _ => bal_oth h7 i), sm_congr 100 (fun i _ => hld_oth h17 i), sm_congr 1024 (fun i _ => liv_oth h19 h21 i)]
    exact h4
theorem okI_up {a : yA} {g n g2 n2 : Int} (h : okI a g n) (hg : g ≤ g2) (hn : n ≤ n2) (h5 : 0 ≤ g2 ∧ g2 + n2 ≤ 2000000000) : okI a g2 n2 :=
  ⟨h.1, h.2.1, Int.le_trans h.2.2.1 hn, Int.le_trans h.2.2.2.1 hg, h5⟩
theorem sRel_hld (a : yA) (j : Nat) (c : Int32) : sRel a j c 17 = upd (a 17) j (a 17 j - c) := by
  unfold sRel
  rw [sPost_oth _ _ _ (by decide), put_row]
theorem sRel_bal (a : yA) (j : Nat) (c : Int32) : sRel a j c 7 = upd (a 7) (slr a j) (a 7 (slr a j) + c) := by
  unfold sRel sPost
  rw [put_row, put_oth _ _ _ (by decide)]
/-- what is held of a sale goes to its seller -/
theorem okI_rel {a : yA} {g n : Int} (h : okI a g n) {j : Nat} (hj : j < 100) (hz : slr a j < 8) {c : Int32} (h0 : 0 ≤ c.toInt) (hc : c.toInt ≤ hld a j) :
    okI (sRel a j c) g n ∧ bal (sRel a j c) (slr a j) = bal a (slr a j) + c.toInt ∧ hld (sRel a j c) j = hld a j - c.toInt := by
  obtain ⟨k1, k2⟩ := okI_b h hz
  have h' := h
  obtain ⟨h1, h2, h3, h4, h5⟩ := h'
  have k3 := sm_ge h1 100 hj
  have k4 := sm_nn (liv_nn h2) 1024
  have k0 := sm_nn (ngt_nn a) 8
  unfold Ns at h3
  have hl1 := Int32.toInt_lt (a 17 j)
  have eb : bal (sRel a j c) (slr a j) = bal a (slr a j) + c.toInt := by
    show (sRel a j c 7 (slr a j)).toInt = _
    rw [sRel_bal]
    show (upd (a 7) (slr a j) (a 7 (slr a j) + c) (slr a j)).toInt = _
    rw [show upd (a 7) (slr a j) (a 7 (slr a j) + c) (slr a j) = a 7 (slr a j) + c by simp [upd]]
    exact i_add (by unfold bal at *; omega) (by unfold bal at *; omega)
  have eh : hld (sRel a j c) j = hld a j - c.toInt := by
    show (sRel a j c 17 j).toInt = _
    rw [sRel_hld, show upd (a 17) j (a 17 j - c) j = a 17 j - c by simp [upd]]
    have := h1 j
    exact i_sub (by unfold hld at *; omega) (by unfold hld at *; omega)
  have ebo : ∀ i, i ≠ slr a j → bal (sRel a j c) i = bal a i := fun i hi => by
    show (sRel a j c 7 i).toInt = _
    rw [sRel_bal, show upd (a 7) (slr a j) (a 7 (slr a j) + c) i = a 7 i by simp [upd, hi]]; rfl
  have eho : ∀ i, i ≠ j → hld (sRel a j c) i = hld a i := fun i hi => by
    show (sRel a j c 17 i).toInt = _
    rw [sRel_hld, show upd (a 17) j (a 17 j - c) i = a 17 i by simp [upd, hi]]; rfl
  have e19 : sRel a j c 19 = a 19 := sRel_oth a j c (by decide) (by decide)
  have e21 : sRel a j c 21 = a 21 := sRel_oth a j c (by decide) (by decide)
  refine ⟨⟨fun i => ?_, fun i => by rw [cen_oth e19]; exact h2 i, ?_, ?_, h5⟩, eb, eh⟩
  · by_cases e : i = j
    · rw [e, eh]; omega
    · rw [eho i e]; exact h1 i
  · unfold Ns
    have e1 := sm_at (f := ngt a) (g := ngt (sRel a j c)) (t := slr a j) (fun i hi => ngt_of (ebo i hi)) 8 hz
    have e2 : ngt (sRel a j c) (slr a j) ≤ ngt a (slr a j) := ngt_dn (by rw [eb]; omega)
    omega
  · unfold Gs at h4 ⊢
    have e1 := sm_at ebo 8 hz
    have e2 := sm_at eho 100 hj
    have e3 := sm_congr (f := liv a) (g := liv (sRel a j c)) 1024 (fun i _ => liv_oth e19 e21 i)
    rw [e1, e2, e3, eb, eh]
    omega
