theorem nu_w {y : Nat → Int32} {n p : Nat} {w : Int32} (hp : p ≤ n) (h : nuP y n p (if w = 2 then 20 else 99)) : ∃ v, v ≤ 99 ∧ tV y n p = nI v := by
  by_cases c : w = 2
  · rw [if_pos c] at h
    obtain ⟨v, h1, h2⟩ := nu_n (M := 20) hp h (by omega)
    exact ⟨v, by omega, h2⟩
  · rw [if_neg c] at h
    exact nu_n (M := 99) hp h (by omega)
theorem tlK01 (y : Nat → Int32) (n : Nat) (f : Nat → Int32) (p : Nat) (k : Int32) : (tlK y n f p k).1 = 0 ∨ (tlK y n f p k).1 = 1 := by
  unfold tlK; split <;> simp
theorem tlT01 (y : Nat → Int32) (n : Nat) (f : Nat → Int32) (p s : Nat) : (tlT y n f p s).1 = 0 ∨ (tlT y n f p s).1 = 1 := by
  unfold tlT; split <;> (try split) <;> simp
theorem tlS01 (y : Nat → Int32) (n : Nat) (f : Nat → Int32) (p : Nat) : (tlS y n f p).1 = 0 ∨ (tlS y n f p).1 = 1 := by
  unfold tlS tlG
  split
  · split
    · split
      · exact tlT01 _ _ _ _ _
      · exact Or.inl rfl
    · exact tlT01 _ _ _ _ _
  · exact Or.inl rfl
theorem tlH01 (y : Nat → Int32) (n : Nat) (f : Nat → Int32) (p : Nat) (w : Int32) : (tlH y n f p w).1 = 0 ∨ (tlH y n f p w).1 = 1 := by
  unfold tlH
  generalize (if w = 2 then (20 : Int32) else 99) = mw
  split <;> (try split) <;> (try split) <;> first | exact Or.inl rfl | exact Or.inr rfl
theorem tlF01 (y : Nat → Int32) (n : Nat) (f : Nat → Int32) (p : Nat) : (tlF y n f p).1 = 0 ∨ (tlF y n f p).1 = 1 := by
  unfold tlF; split <;> simp
theorem tE_n {y : Nat → Int32} {n p : Nat} (hp : p ≤ n) : tE y n p ≤ n := (tE_le (y := y) hp).2.2.1
theorem tlK_n {y : Nat → Int32} {n : Nat} {f : Nat → Int32} {p : Nat} {k : Int32} (hp : p ≤ n) : (tlK y n f p k).2.1 ≤ n := by
  unfold tlK; split
  · exact tE_n hp
  · exact hp
theorem tlT_n {y : Nat → Int32} {n : Nat} {f : Nat → Int32} {p s : Nat} (hp : p ≤ n) : (tlT y n f p s).2.1 ≤ n := by
  unfold tlT; split
  · split
    · exact tE_n (tE_n hp)
    · exact tE_n hp
  · exact hp
theorem tlS_n {y : Nat → Int32} {n : Nat} {f : Nat → Int32} {p : Nat} (hp : p ≤ n) : (tlS y n f p).2.1 ≤ n := by
  unfold tlS tlG; split
  · split
    · split
      · exact tlT_n (tE_n (tE_n (tE_n hp)))
      · exact tE_n (tE_n hp)
    · exact tlT_n (tE_n hp)
  · exact hp
theorem tlH_n {y : Nat → Int32} {n : Nat} {f : Nat → Int32} {p : Nat} {w : Int32} (hp : p ≤ n) : (tlH y n f p w).2.1 ≤ n := by
  unfold tlH
  generalize (if w = 2 then (20 : Int32) else 99) = mw
  split
  · split
    · split
      · exact tE_n (tE_n (tE_n hp))
      · exact tE_n (tE_n hp)
    · exact tE_n hp
  · exact hp
theorem tlF_n {y : Nat → Int32} {n : Nat} {f : Nat → Int32} {p : Nat} (hp : p ≤ n) : (tlF y n f p).2.1 ≤ n := by
  unfold tlF; split
  · exact tE_n hp
  · exact hp
theorem itF_n {y : Nat → Int32} {n : Nat} {f : Nat → Int32} {p : Nat} (hp : p ≤ n) : (itF y n f p).2.1 ≤ n := by
  unfold itF; split
  · exact tlK_n (tE_n hp)
  · split
    · exact tlS_n (tE_n hp)
    · split
      · exact tlH_n (tE_n hp)
      · split
        · exact tlH_n (tE_n hp)
        · split
          · exact tlH_n (tE_n hp)
          · split
            · exact tlF_n (tE_n hp)
            · exact hp
theorem tx_bad {y : Nat → Int32} {n d i p : Nat} {f : Nat → Int32} (h : (itF y n f p).1 = 0) : txU y n (d + 1) i p f = (-1 - nI (tB y n (itF y n f p).2.1), (itF y n f p).2.2) := if_pos h
theorem tx_end {y : Nat → Int32} {n d i p : Nat} {f : Nat → Int32} (h : ¬ (itF y n f p).1 = 0) (h2 : tK y n (itF y n f p).2.1 = 0) : txU y n (d + 1) i p f = (nI i, (itF y n f p).2.2) := (if_neg h).trans (if_pos h2)
theorem tx_no {y : Nat → Int32} {n d i p : Nat} {f : Nat → Int32} (h : ¬ (itF y n f p).1 = 0) (h2 : ¬ tK y n (itF y n f p).2.1 = 0) (h3 : ¬ tK y n (itF y n f p).2.1 = 3) : txU y n (d + 1) i p f = (-1 - nI (tB y n (itF y n f p).2.1), (itF y n f p).2.2) := (if_neg h).trans ((if_neg h2).trans (if_neg h3))
theorem tx_go {y : Nat → Int32} {n d i p : Nat} {f : Nat → Int32} (h : ¬ (itF y n f p).1 = 0) (h3 : tK y n (itF y n f p).2.1 = 3) : txU y n (d + 1) i p f = txU y n d (i + 1) (tE y n (itF y n f p).2.1) (itF y n f p).2.2 := (if_neg h).trans ((if_neg (by omega)).trans (if_pos h3))
/-- text() -/
def txF (y : Nat → Int32) (n : Nat) (f : Nat → Int32) : Nat → Int32 := if (txU y n 120 1 0 f).1 < 0 then f else (txU y n 120 1 0 f).2
