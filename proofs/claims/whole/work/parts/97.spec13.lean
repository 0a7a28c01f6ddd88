/-! ===== the reference's reader ===== -/
def byF (y : Nat → Int32) (n j : Nat) : Int32 := if j < n then y j else -1
theorem byF_in {y : Nat → Int32} {n j : Nat} (h : j < n) : byF y n j = y j := if_pos h
theorem byF_b {y : Nat → Int32} {n b : Nat} (h : b < n → ¬ y b = 32) : ¬ byF y n b = 32 := by
  unfold byF
  split
  · rename_i c; exact h c
  · decide
theorem byF_lt {y : Nat → Int32} {n b : Nat} (h : 0 ≤ byF y n b) : b < n := by
  apply Classical.byContradiction
  intro c
  unfold byF at h
  rw [if_neg c] at h
  exact absurd h (by decide)
theorem byF_ge {y : Nat → Int32} {n b : Nat} (hy : ∀ j, j < n → by_ (y j)) (h : ¬ 0 ≤ byF y n b) : n ≤ b := by
  apply Classical.byContradiction
  intro c
  rw [byF_in (by omega)] at h
  obtain ⟨q, h1, h2⟩ := hy b (by omega)
  rw [h2] at h
  exact h (nI_pos' (by omega))
theorem byL_no {y : Nat → Int32} {n q : Nat} (h : q < n → leB y q = false) : ¬ (97 ≤ byF y n q ∧ byF y n q ≤ 122) := by
  unfold byF
  split
  · rename_i c; exact leB_no (h c)
  · exact fun z => absurd z.1 (by decide)
theorem byD_no {y : Nat → Int32} {n q : Nat} (h : q < n → dgB y q = false) : ¬ (48 ≤ byF y n q ∧ byF y n q ≤ 57) := by
  unfold byF
  split
  · rename_i c; exact dgB_no (h c)
  · exact fun z => absurd z.1 (by decide)
/-- the reference's token at place p -/
def MT (v y : Nat → Int32) (n p : Nat) : Prop := v 9 = nI (tB y n p) ∧ v 10 = nI (tE y n p) ∧ v 11 = nI (min (tK y n p) 3) ∧ v 12 = (if tK y n p = 2 then tV y n p else 0)
/-- all but the token is as it was -/
def Fm (u v : Nat → Int32) : Prop := ∀ j, (j < 9 ∨ 12 < j) → u j = v j
