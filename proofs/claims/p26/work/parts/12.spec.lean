/-! the state that class and reference stand for: rows of numbers.
Row 0: 0 sellers, 1 today, 2 tax, 3 sales, 4 payouts, 5 received, 6 refunded, 7 fees, 8 taxes.
1 owner, 2 step, 3 weekday, 4 least, 5 reserve's thousandths, 6 reserve's days, 7 balance, 8 paid (a place a seller); 9 shares in thousandths (a place a kind);
10 seller, 11 amount, 12 refunded, 13 share in thousandths, 14 tax, 15 fee taken, 16 fee given back, 17 held, 18 held until (a place a sale); 19 cents, 20 seller, 21 failed (a place a payout). -/
abbrev yA : Type := Nat → Nat → Int32
def put (a : yA) (i j : Nat) (v : Int32) : yA := fun i' => if i' = i then upd (a i') j v else a i'
theorem put_row (a : yA) (i j : Nat) (v : Int32) : put a i j v i = upd (a i) j v := by simp [put]
theorem put_oth (a : yA) {i i' : Nat} (j : Nat) (v : Int32) (h : i' ≠ i) : put a i j v i' = a i' := by simp [put, h]
theorem put_at (a : yA) (i j : Nat) (v : Int32) : put a i j v i j = v := by simp [put, upd]
theorem put_ne (a : yA) (i : Nat) {j j' : Nat} (v : Int32) (h : j' ≠ j) : put a i j v i j' = a i j' := by simp [put, upd, h]
def nn (x : Int32) : Nat := x.toNatClampNeg
theorem nn_nI {n : Nat} (h : n < 2 ^ 31) : nn (nI n) = n := nI_clamp h
/-- a whole number from 0 to b -/
def lim (x : Int32) (b : Nat) : Prop := x = nI (nn x) ∧ nn x ≤ b
theorem lim_nI {n b : Nat} (h : n ≤ b) (hb : b < 2 ^ 31) : lim (nI n) b := by
  unfold lim
  rw [nn_nI (by omega)]
  exact ⟨rfl, h⟩
theorem lim_mono {x : Int32} {b c : Nat} (h : lim x b) (hbc : b ≤ c) : lim x c := ⟨h.1, Nat.le_trans h.2 hbc⟩
/-- the limits of the rows that have one -/
def mx (i j : Nat) : Option Nat := match i with
  | 0 => match j with
    | 0 => some 8
    | 1 => some 5000
    | 2 => some 500
    | 3 => some 100
    | 4 => some 1024
    | _ => none
  | 2 => some 2
  | 5 => some 1000
  | 6 => some 180
  | 9 => some 999
  | 10 => some 7
  | 11 => some 1000000
  | 13 => some 999
  | 14 => some 500
  | 20 => some 7
  | _ => none
def okB (a : yA) : Prop := ∀ i j b, mx i j = some b → lim (a i j) b
theorem okB_put {a : yA} (h : okB a) {i j : Nat} {v : Int32} (hv : ∀ b, mx i j = some b → lim v b) : okB (put a i j v) := by
  intro i' j' b hb
  by_cases h1 : i' = i
  · subst h1
    by_cases h2 : j' = j
    · subst h2
      rw [put_at]
      exact hv b hb
    · rw [put_ne _ _ _ h2]
      exact h i' j' b hb
  · rw [put_oth _ _ _ h1]
    exact h i' j' b hb
theorem okB_free {a : yA} (h : okB a) {i j : Nat} {v : Int32} (hv : mx i j = none) : okB (put a i j v) := okB_put h (fun b hb => by rw [hv] at hb; cases hb)
/-- a row of the journal's sums stands beside it -/
def imin (x y : Int32) : Int32 := if y < x then y else x
def shF (k : Int32) : UInt32 := FP.fdiv (FP.i2f k) 1148846080
theorem shF_0 : shF 0 = 0 := by decide +kernel
def feeI (x k : Int32) : Int32 := FP.f2i (FP.fmul (FP.i2f x) (shF k))
theorem shF_upd (f : Nat → Int32) (t : Nat) (x : Int32) : vf_upd (fun j => shF (f j)) t (shF x) = fun j => shF (upd f t x j) := by
  funext j
  by_cases h : j = t <;> simp [vf_upd, upd, h]
/-- one entry of a seller -/
def sPost (a : yA) (z : Nat) (c : Int32) : yA := put a 7 z (a 7 z + c)
def slr (a : yA) (j : Nat) : Nat := nn (a 10 j)
/-- c of what the sale j holds goes to its seller's balance -/
def sRel (a : yA) (j : Nat) (c : Int32) : yA := sPost (put a 17 j (a 17 j - c)) (slr a j) c
def sRels (a : yA) : Nat → yA
  | 0 => a
  | j + 1 => if sRels a j 18 j = sRels a j 0 1 then sRel (sRels a j) j (sRels a j 17 j) else sRels a j
def sCovR (a : yA) (z : Nat) : Nat → yA
  | 0 => a
  | j + 1 => if sCovR a z j 7 z < 0 ∧ sCovR a z j 10 j = nI z then sRel (sCovR a z j) j (imin (sCovR a z j 17 j) (-(sCovR a z j 7 z))) else sCovR a z j
def sCovRs (a : yA) (n : Nat) : Nat → yA
  | 0 => a
  | z + 1 => sCovR (sCovRs a n z) z n
/-- c goes from the seller g to the seller z -/
def sGive (a : yA) (g z : Nat) (c : Int32) : yA := sPost (sPost a g (-c)) z c
def sCovO (a : yA) (z : Nat) : Nat → yA
  | 0 => a
  | g + 1 => if sCovO a z g 7 z < 0 ∧ sCovO a z g 1 g = sCovO a z g 1 z ∧ 0 < sCovO a z g 7 g then sGive (sCovO a z g) g z (imin (sCovO a z g 7 g) (-(sCovO a z g 7 z))) else sCovO a z g
def sCovOs (a : yA) (n : Nat) : Nat → yA
  | 0 => a
  | z + 1 => sCovO (sCovOs a n z) z n
def sDue (a : yA) (z : Nat) : Int32 := if a 2 z = 0 ∨ a 7 z < a 4 z then 0 else if a 2 z = 1 then imin (a 7 z) (100000 - a 8 z) else a 7 z
/-- a payout of c more -/
def sEnt (a : yA) (z : Nat) (c : Int32) : yA := put (put (put a 20 (nn (a 0 4)) (nI z)) 19 (nn (a 0 4)) c) 0 4 (a 0 4 + 1)
def sPayC (a : yA) (z : Nat) (c : Int32) : yA := sPost (put (sEnt a z c) 8 z (a 8 z + c)) z (-c)
def sPay (a : yA) (z : Nat) : yA := if 0 < sDue a z then sPayC a z (sDue a z) else a
def dow (x : Int32) : Int32 := x - x / 7 * 7
def sPays (a : yA) : Nat → yA
  | 0 => a
  | z + 1 => if sPays a z 3 z = dow (sPays a z 0 1) then sPay (sPays a z) z else sPays a z
def sNext (a : yA) : yA := put a 0 1 (a 0 1 + 1)
def sDay (a : yA) : yA :=
  sNext (sPays (sCovOs (sCovRs (sRels a (nn (a 0 3))) (nn (a 0 3)) (nn (a 0 0))) (nn (a 0 0)) (nn (a 0 0))) (nn (a 0 0)))
def sPass (a : yA) : Nat → yA
  | 0 => a
  | d + 1 => sDay (sPass a d)
/-- a sale settled: tax, fee, what is left, what is held -/
def sTax (a : yA) (x : Int32) : Int32 := x * a 0 2 / 1000
def sFee (a : yA) (k : Nat) (x : Int32) : Int32 := imin (feeI x (a 9 k)) (x - sTax a x)
def sLeft (a : yA) (k : Nat) (x : Int32) : Int32 := x - sTax a x - sFee a k x
def sHeld (a : yA) (z k : Nat) (x : Int32) : Int32 := sLeft a k x * a 5 z / 1000
def sSale (a : yA) (z k : Nat) (x : Int32) (n : Nat) : yA :=
  put (put (put (put (put (put (put (put (put (put (put a 10 n (nI z)) 11 n x) 0 3 (a 0 3 + 1)) 13 n (a 9 k)) 14 n (a 0 2)) 15 n (sFee a k x)) 17 n (sHeld a z k x)) 18 n (a 0 1 + a 6 z)) 0 5 (a 0 5 + x)) 0 8 (a 0 8 + sTax a x)) 0 7 (a 0 7 + sFee a k x)
def sSettle (a : yA) (z k : Nat) (x : Int32) : yA := sPost (sSale a z k x (nn (a 0 3))) z (sLeft a k x - sHeld a z k x)
def cntB (set : Nat) : Nat → Nat
  | 0 => 0
  | z + 1 => cntB set z + (if set.testBit z then 1 else 0)
/-- an order's sales, of the sellers below z: ev each, one more for the first rm -/
def sOrd (a : yA) (set k ev rm : Nat) : Nat → yA
  | 0 => a
  | z + 1 => if set.testBit z = true ∧ 0 < (if cntB set z < rm then ev + 1 else ev) then sSettle (sOrd a set k ev rm z) z k (nI (if cntB set z < rm then ev + 1 else ev)) else sOrd a set k ev rm z
def sBackT (a : yA) (j : Nat) (x : Int32) : Int32 := x * a 14 j / 1000
def sBackF (a : yA) (j : Nat) (x : Int32) (fb : Bool) : Int32 := if fb then imin (feeI x (a 13 j)) (a 15 j - a 16 j) else 0
def sRefC (a : yA) (j : Nat) (x : Int32) (fb : Bool) : yA :=
  put (put (put (put (put a 12 j (a 12 j + x)) 16 j (a 16 j + sBackF a j x fb)) 0 6 (a 0 6 + x)) 0 8 (a 0 8 - sBackT a j x)) 0 7 (a 0 7 - sBackF a j x fb)
def sRefund (a : yA) (j : Nat) (x : Int32) (fb : Bool) : yA := sPost (sRefC a j x fb) (slr a j) (sBackT a j x + sBackF a j x fb - x)
def sFail (a : yA) (i : Nat) : yA := sPost (put (put a 21 i 1) 8 (nn (a 20 i)) (a 8 (nn (a 20 i)) - a 19 i)) (nn (a 20 i)) (a 19 i)
def hsm (f g : Nat → Int32) (z : Nat) : Nat → Int32
  | 0 => 0
  | j + 1 => if f j = nI z then hsm f g z j + g j else hsm f g z j
def sHsum (a : yA) (z n : Nat) : Int32 := hsm (a 10) (a 17) z n
def capOf (m : Nat) : Nat := if m ≤ 32 then 32 else if m ≤ 64 then 64 else if m ≤ 128 then 128 else if m ≤ 256 then 256 else if m ≤ 512 then 512 else 1024
theorem capOf_mono {m n : Nat} (h : m ≤ n) : capOf m ≤ capOf n := by
  unfold capOf
  repeat' split
  all_goals omega
theorem capOf_ge {m : Nat} (h : m ≤ 1024) : m ≤ capOf m := by
  unfold capOf
  repeat' split
  all_goals omega
theorem capOf_le (m : Nat) : capOf m ≤ 1024 := by
  unfold capOf
  repeat' split
  all_goals omega
theorem capOf_32 (m : Nat) : 32 ≤ capOf m := by
  unfold capOf
  repeat' split
  all_goals omega
theorem capOf_grow {m : Nat} (h : capOf m ≤ m) (h2 : m < 1024) : m = capOf m ∧ capOf (m + 1) = capOf m * 2 := by
  unfold capOf at h ⊢
  repeat' split at h
  all_goals (repeat' split)
  all_goals omega
theorem capOf_stay {m : Nat} (h : m < capOf m) : capOf (m + 1) = capOf m := by
  unfold capOf at h ⊢
  repeat' split at h
  all_goals (repeat' split)
  all_goals omega
/-- the class's cells -/
abbrev WC (cI cF : ClassId) (h0 : Nat) (q : Nat → Nat) (a : yA) (jc js jv : Nat → Int32) (k n : Nat) : va_W :=
  [(h0, .inr (4, [.ref (q 1), .ref (q 10), .ref (q 18), .ref (q 22), .ref (q 26), .int (a 0 2), .int (a 0 1), .int (a 0 5), .int (a 0 6), .int (a 0 7), .int (a 0 8)])),
   (q 1, .inr (3, [.ref (q 2), .ref (q 3), .ref (q 4), .ref (q 5), .ref (q 6), .ref (q 7), .ref (q 8), .ref (q 9), .int (a 0 0)])),
   (q 2, .inl (cI, 8, .inl (a 1))), (q 3, .inl (cI, 8, .inl (a 2))), (q 4, .inl (cI, 8, .inl (a 3))), (q 5, .inl (cI, 8, .inl (a 4))),
   (q 6, .inl (cI, 8, .inl (a 5))), (q 7, .inl (cI, 8, .inl (a 6))), (q 8, .inl (cI, 8, .inl (a 7))), (q 9, .inl (cI, 8, .inl (a 8))),
   (q 10, .inr (2, [.ref (q 11), .ref (q 12), .ref (q 13), .ref (q 14), .ref (q 15), .ref (q 16), .ref (q 17), .int (a 0 3)])),
   (q 11, .inl (cI, 100, .inl (a 10))), (q 12, .inl (cF, 100, .inr (.inr (.inl (fun j => shF (a 13 j)))))), (q 13, .inl (cI, 100, .inl (a 14))),
   (q 14, .inl (cI, 100, .inl (fun j => a 11 j - a 12 j))), (q 15, .inl (cI, 100, .inl (fun j => a 15 j - a 16 j))), (q 16, .inl (cI, 100, .inl (a 17))), (q 17, .inl (cI, 100, .inl (a 18))),
   (q 18, .inr (1, [.ref (q 19), .ref (q 20), .ref (q 21), .int (a 0 4)])),
   (q 19, .inl (cI, n, .inl (a 20))), (q 20, .inl (cI, n, .inl (a 19))), (q 21, .inl (cI, n, .inl (a 21))),
   (q 22, .inr (0, [.ref (q 23), .ref (q 24), .ref (q 25), .int (nI k)])),
   (q 23, .inl (cI, 8, .inl (jc))), (q 24, .inl (cI, 256, .inl (js))), (q 25, .inl (cI, 256, .inl (jv))),
   (q 26, .inl (cF, 4, .inr (.inr (.inl (fun j => shF (a 9 j))))))]
/-- what the journal holds stands for the balances -/
def okC (a : yA) (jc js jv : Nat → Int32) (k : Nat) : Prop := k ≤ 256 ∧ okJ js k ∧ crr jc js jv k = a 7
def atC (dC : Nat → ClassId) (dI : Nat → Nat → Nat) (cI cF : ClassId) (A : Nat → Prop) (h0 : Nat) (a : yA) (t : State) : Prop :=
  ∃ (q : Nat → Nat) (jc js jv : Nat → Int32) (k : Nat), okC a jc js jv k ∧ atW dC dI [(cI, .int), (cF, .float)] A (WC cI cF h0 q a jc js jv k (capOf (nn (a 0 4)))) t
theorem atC_in {dC : Nat → ClassId} {dI : Nat → Nat → Nat} {cI cF : ClassId} {A : Nat → Prop} {h0 : Nat} {a : yA} {t : State} {q : Nat → Nat} {jc js jv : Nat → Int32} {k : Nat} (h : okC a jc js jv k) (hw : atW dC dI [(cI, .int), (cF, .float)] A (WC cI cF h0 q a jc js jv k (capOf (nn (a 0 4)))) t) : atC dC dI cI cF A h0 a t := ⟨q, jc, js, jv, k, h, hw⟩
/-- the reference's cells -/
abbrev WM (cI cF cZ : ClassId) (h0 : Nat) (q : Nat → Nat) (a : yA) (th : Int32) : va_W :=
  [(h0, .inr (5, [.int th, .int (a 0 0), .int (a 0 1), .ref (q 1), .ref (q 2), .ref (q 3), .ref (q 4), .ref (q 5), .ref (q 6), .ref (q 7), .ref (q 8), .ref (q 9), .int (a 0 2), .int (a 0 3), .ref (q 10), .ref (q 11), .ref (q 12), .ref (q 13), .ref (q 14), .ref (q 15), .ref (q 16), .ref (q 17), .ref (q 18), .int (a 0 4), .ref (q 19), .ref (q 20), .ref (q 21), .int (a 0 5), .int (a 0 6), .int (a 0 7), .int (a 0 8)])),
   (q 1, .inl (cI, 8, .inl (a 1))), (q 2, .inl (cI, 8, .inl (a 2))), (q 3, .inl (cI, 8, .inl (a 3))), (q 4, .inl (cI, 8, .inl (a 4))),
   (q 5, .inl (cI, 8, .inl (a 5))), (q 6, .inl (cI, 8, .inl (a 6))), (q 7, .inl (cI, 8, .inl (a 7))), (q 8, .inl (cI, 8, .inl (a 8))),
   (q 9, .inl (cF, 4, .inr (.inr (.inl (fun j => shF (a 9 j)))))),
   (q 10, .inl (cI, 100, .inl (a 10))), (q 11, .inl (cI, 100, .inl (a 11))), (q 12, .inl (cI, 100, .inl (a 12))),
   (q 13, .inl (cF, 100, .inr (.inr (.inl (fun j => shF (a 13 j)))))), (q 14, .inl (cI, 100, .inl (a 14))),
   (q 15, .inl (cI, 100, .inl (a 15))), (q 16, .inl (cI, 100, .inl (a 16))), (q 17, .inl (cI, 100, .inl (a 17))), (q 18, .inl (cI, 100, .inl (a 18))),
   (q 19, .inl (cI, 2000, .inl (a 19))), (q 20, .inl (cI, 2000, .inl (a 20))), (q 21, .inl (cZ, 2000, .inl (a 21)))]
def atM (dC : Nat → ClassId) (dI : Nat → Nat → Nat) (cI cF cZ : ClassId) (A : Nat → Prop) (h0 : Nat) (q : Nat → Nat) (a : yA) (th : Int32) (t : State) : Prop :=
  atW dC dI [(cI, .int), (cF, .float), (cZ, .boolean)] A (WM cI cF cZ h0 q a th) t
