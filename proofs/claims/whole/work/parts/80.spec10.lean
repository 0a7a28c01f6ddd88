/-! ===== the tape of the class; numbers of ones ===== -/
theorem shr_and {b : Int32} {s1 s2 : Int32} (k : Nat) (hk : k = 0 ∨ k = 8 ∨ k = 16 ∨ k = 24) (h1 : ((s1.toUInt32 &&& Int32.toUInt32 31).toBitVec % 32).toNat = k) (h2 : (s2.toBitVec.smod 32).toNat = k) : (b.toUInt32 >>> (s1.toUInt32 &&& Int32.toUInt32 31)).toInt32 &&& 255 = (b >>> s2) &&& 255 := by
  have e1 := pk_ushr b s1 k h1
  have e2 := pk_shr b s2 k h2
  rw [pk_and _ (m := 255) 8 (by decide), pk_and _ (m := 255) 8 (by decide), e1]
  congr 1
  have h3 : (b >>> s2).toInt = (b >>> s2).toBitVec.toInt := rfl
  have h4 : b.toInt = b.toBitVec.toInt := rfl
  rw [h3, h4, BitVec.toInt_eq_toNat_cond, BitVec.toInt_eq_toNat_cond, Int.shiftRight_eq_div_pow] at e2
  have l1 := b.toBitVec.isLt
  have l2 := (b >>> s2).toBitVec.isLt
  rcases hk with rfl | rfl | rfl | rfl
  · split at e2 <;> split at e2 <;> omega
  · split at e2 <;> split at e2 <;> omega
  · split at e2 <;> split at e2 <;> omega
  · split at e2 <;> split at e2 <;> omega
theorem fd_by (b : Int32) {i : Nat} (hi : i < 4) : (b.toUInt32 >>> ((nI (8 * i)).toUInt32 &&& Int32.toUInt32 31)).toInt32 &&& 255 = (b >>> (nI (8 * i) &&& 31)) &&& 255 := by
  rcases (show i = 0 ∨ i = 1 ∨ i = 2 ∨ i = 3 by omega) with rfl | rfl | rfl | rfl
  · exact shr_and 0 (by omega) (by decide) (by decide)
  · exact shr_and 8 (by omega) (by decide) (by decide)
  · exact shr_and 16 (by omega) (by decide) (by decide)
  · exact shr_and 24 (by omega) (by decide) (by decide)
