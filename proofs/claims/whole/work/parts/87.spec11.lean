theorem lt_nle2 {a b : Nat} (h : ¬ nI b ≤ nI a) (ha : a < 2147483648) : a < b := by
  rcases Nat.lt_or_ge a b with q | q
  · exact q
  · exact absurd (nI_le q ha) h
theorem le_nlt {a b : Nat} (h : ¬ nI a < nI b) (hb : b < 2147483648) : b ≤ a := by
  rcases Nat.lt_or_ge a b with q | q
  · exact absurd (nI_lt q hb) h
  · exact q
theorem leB_yes {y : Nat → Int32} {q : Nat} (h : leB y q = true) : 97 ≤ y q ∧ y q ≤ 122 := by simpa [leB] using h
theorem leB_no {y : Nat → Int32} {q : Nat} (h : leB y q = false) : ¬ (97 ≤ y q ∧ y q ≤ 122) := by
  intro c
  have : leB y q = true := by simpa [leB] using c
  rw [this] at h
  cases h
theorem dgB_yes {y : Nat → Int32} {q : Nat} (h : dgB y q = true) : 48 ≤ y q ∧ y q ≤ 57 := by simpa [dgB] using h
theorem dgB_no {y : Nat → Int32} {q : Nat} (h : dgB y q = false) : ¬ (48 ≤ y q ∧ y q ≤ 57) := by
  intro c
  have : dgB y q = true := by simpa [dgB] using c
  rw [this] at h
  cases h
/-- a number of at most m stands here -/
abbrev nuP (y : Nat → Int32) (n p : Nat) (m : Int32) : Prop := tK y n p = 2 ∧ tV y n p ≤ m
/-- what the class's field number holds -/
abbrev tW (y : Nat → Int32) (n p : Nat) (t : Int32) : Int32 := if tK y n p = 2 then tV y n p else t
def wkF (y : Nat → Int32) (n p : Nat) : Int32 := if isW y n p 0 then 0 else if isW y n p 1 then 1 else if isW y n p 2 then 2 else if isW y n p 3 then 3 else if isW y n p 4 then 4 else if isW y n p 5 then 5 else if isW y n p 6 then 6 else -1
abbrev R3 : Type := Int32 × Nat × (Nat → Int32)
def tlK (y : Nat → Int32) (n : Nat) (f : Nat → Int32) (p : Nat) (k : Int32) : R3 := if nuP y n p 4 then (1, tE y n p, upd f (15 + tn (tV y n p)) k) else (0, p, f)
def tlT (y : Nat → Int32) (n : Nat) (f : Nat → Int32) (p s : Nat) : R3 := if isW y n p 13 then (if nuP y n (tE y n p) 9 then (1, tE y n (tE y n p), upd f (21 + 17 * s) (tV y n (tE y n p))) else (0, tE y n p, f)) else (1, p, f)
def tlG (y : Nat → Int32) (n : Nat) (f : Nat → Int32) (p s : Nat) : R3 := if isW y n p 12 then (if nuP y n (tE y n p) 50 then tlT y n (upd f (20 + 17 * s) (tV y n (tE y n p))) (tE y n (tE y n p)) s else (0, tE y n p, f)) else tlT y n f p s
def tlS (y : Nat → Int32) (n : Nat) (f : Nat → Int32) (p : Nat) : R3 := if nuP y n p 1 then tlG y n f (tE y n p) (tn (tV y n p)) else (0, p, f)
def tlH (y : Nat → Int32) (n : Nat) (f : Nat → Int32) (p : Nat) (w : Int32) : R3 := if nuP y n p 1 then (if nuP y n (tE y n p) 4 then (if nuP y n (tE y n (tE y n p)) (if w = 2 then 20 else 99) then (1, tE y n (tE y n (tE y n p)), upd f (20 + 17 * tn (tV y n p) + fld w + tn (tV y n (tE y n p))) (tV y n (tE y n (tE y n p)))) else (0, tE y n (tE y n p), f)) else (0, tE y n p, f)) else (0, p, f)
def tlF (y : Nat → Int32) (n : Nat) (f : Nat → Int32) (p : Nat) : R3 := if nuP y n p 9 then (1, tE y n p, upd f 1 (tV y n p)) else (0, p, f)
/-- an ITEM -/
def itF (y : Nat → Int32) (n : Nat) (f : Nat → Int32) (p : Nat) : R3 := if 0 ≤ wkF y n p then tlK y n f (tE y n p) (wkF y n p) else if isW y n p 7 then tlS y n f (tE y n p) else if isW y n p 8 then tlH y n f (tE y n p) 0 else if isW y n p 9 then tlH y n f (tE y n p) 1 else if isW y n p 10 then tlH y n f (tE y n p) 2 else if isW y n p 11 then tlF y n f (tE y n p) else (0, p, f)
/-- a TEXT from place p on: what is told, and the row then -/
def txU (y : Nat → Int32) (n : Nat) : Nat → Nat → Nat → (Nat → Int32) → Int32 × (Nat → Int32)
  | 0, _, p, f => (-1 - nI (tB y n p), f)
  | d + 1, i, p, f => if (itF y n f p).1 = 0 then (-1 - nI (tB y n (itF y n f p).2.1), (itF y n f p).2.2) else if tK y n (itF y n f p).2.1 = 0 then (nI i, (itF y n f p).2.2) else if tK y n (itF y n f p).2.1 = 3 then txU y n d (i + 1) (tE y n (itF y n f p).2.1) (itF y n f p).2.2 else (-1 - nI (tB y n (itF y n f p).2.1), (itF y n f p).2.2)
theorem al_S {P : Nat → Prop} {k : Nat} (h : ∀ j, j < k → P j) (hk : P k) : ∀ j, j < k + 1 → P j := fun j hj => by
  rcases Nat.lt_or_ge j k with q | q
  · exact h j q
  · rw [show j = k by omega]; exact hk
