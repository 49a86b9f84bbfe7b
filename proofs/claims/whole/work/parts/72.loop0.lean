theorem and31 (x : Int32) : ∃ j, j < 32 ∧ x &&& 31 = nI j := by
  have h : (x &&& 31).toUInt32.toNat < 32 := by
    show (x.toBitVec &&& 31#32).toNat < 32
    rw [BitVec.toNat_and]
    exact Nat.lt_of_le_of_lt Nat.and_le_right (by decide)
  refine ⟨(x &&& 31).toUInt32.toNat, h, ?_⟩
  apply Int32.toBitVec_inj.mp
  apply BitVec.eq_of_toNat_eq
  show (x &&& 31).toBitVec.toNat = (nI _).toBitVec.toNat
  have e : (nI (x &&& 31).toUInt32.toNat).toBitVec.toNat = (x &&& 31).toUInt32.toNat % 2 ^ 32 := rfl
  rw [e, Nat.mod_eq_of_lt (by omega)]
  rfl
