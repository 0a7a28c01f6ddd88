/-! ===== tokens of THE TAPE: y its bytes, n how many; a token is told by the place p behind the one before ===== -/
def rnU (P : Nat → Bool) (n : Nat) : Nat → Nat → Nat
  | 0, p => p
  | d + 1, p => if p < n ∧ P p = true then rnU P n d (p + 1) else p
def rn (P : Nat → Bool) (n p : Nat) : Nat := rnU P n (n - p) p
theorem rn_go {P : Nat → Bool} {n p : Nat} (h : p < n) (hp : P p = true) : rn P n p = rn P n (p + 1) := by
  unfold rn
  rw [show n - p = (n - (p + 1)) + 1 by omega]
  show (if p < n ∧ P p = true then _ else _) = _
  rw [if_pos ⟨h, hp⟩]
theorem rn_no {P : Nat → Bool} {n p : Nat} (h : ¬ (p < n ∧ P p = true)) : rn P n p = p := by
  unfold rn
  cases n - p with
  | zero => rfl
  | succ d => exact if_neg h
theorem rn_all {P : Nat → Bool} {n : Nat} : ∀ (d p : Nat), n - p = d → p ≤ n → p ≤ rn P n p ∧ rn P n p ≤ n ∧ (∀ j, p ≤ j → j < rn P n p → P j = true) ∧ (rn P n p < n → P (rn P n p) = false)
  | 0, p, hd, hp => by
    have e : rn P n p = p := rn_no (by omega)
    rw [e]
    exact ⟨Nat.le_refl _, hp, fun j h1 h2 => by omega, fun h => by omega⟩
  | d + 1, p, hd, hp => by
    by_cases c : P p = true
    · have e := rn_go (P := P) (n := n) (p := p) (by omega) c
      have ih := rn_all (P := P) (n := n) d (p + 1) (by omega) (by omega)
      rw [e]
      refine ⟨by omega, ih.2.1, fun j h1 h2 => ?_, ih.2.2.2⟩
      by_cases e2 : j = p
      · rw [e2]; exact c
      · exact ih.2.2.1 j (by omega) h2
    · have e : rn P n p = p := rn_no (fun q => c q.2)
      rw [e]
      exact ⟨Nat.le_refl _, hp, fun j h1 h2 => by omega, fun _ => by simpa using c⟩
/-- a run from p on: its end -/
theorem rn_spec {P : Nat → Bool} {n p : Nat} (hp : p ≤ n) : ∃ b, rn P n p = b ∧ p ≤ b ∧ b ≤ n ∧ (∀ j, p ≤ j → j < b → P j = true) ∧ (b < n → P b = false) :=
  ⟨_, rfl, rn_all _ p rfl hp⟩
def blB (y : Nat → Int32) : Nat → Bool := fun q => decide (y q = 32)
def leB (y : Nat → Int32) : Nat → Bool := fun q => decide (97 ≤ y q ∧ y q ≤ 122)
def dgB (y : Nat → Int32) : Nat → Bool := fun q => decide (48 ≤ y q ∧ y q ≤ 57)
def tB (y : Nat → Int32) (n p : Nat) : Nat := rn (blB y) n p
def tK (y : Nat → Int32) (n p : Nat) : Nat := if n ≤ tB y n p then 0 else if leB y (tB y n p) = true then 1 else if dgB y (tB y n p) = true then 2 else if y (tB y n p) = 59 then 3 else 4
def tE (y : Nat → Int32) (n p : Nat) : Nat := if tK y n p = 0 then tB y n p else if tK y n p = 1 then rn (leB y) n (tB y n p) else if tK y n p = 2 then rn (dgB y) n (tB y n p) else tB y n p + 1
def nvU (y : Nat → Int32) (b : Nat) : Nat → Int32
  | 0 => 0
  | k + 1 => mn 1000 (10 * nvU y b k + y (b + k) - 48)
def tV (y : Nat → Int32) (n p : Nat) : Int32 := nvU y (tB y n p) (tE y n p - tB y n p)
theorem nvN {y : Nat → Int32} {b : Nat} : ∀ k, (∀ j, j < k → dgB y (b + j) = true) → Nt 1000 (nvU y b k)
  | 0, _ => ⟨0, by omega, rfl⟩
  | k + 1, h => by
    obtain ⟨a, ha, ea⟩ := nvN k (fun j hj => h j (by omega))
    have hd : 48 ≤ y (b + k) ∧ y (b + k) ≤ 57 := by simpa [dgB] using h k (by omega)
    obtain ⟨c, hc, ec⟩ := nI_of2 (x := y (b + k)) (M := 57) (n := 57) rfl (Int32.not_lt.mpr (Int32.le_trans (by decide) hd.1)) hd.2
    have h48 : 48 ≤ c := by
      have := hd.1
      rw [ec] at this
      exact (nI_leI (a := 48) (by omega) (by omega)).mp this
    refine ⟨min 1000 (10 * a + c - 48), by omega, ?_⟩
    rw [nvU, ea, ec, show (10 : Int32) = nI 10 from rfl, pk_mul, nI_add, show (48 : Int32) = nI 48 from rfl, pk_sub (by omega)]
    exact mn_nI (a := 1000) (by omega) (by omega)
theorem tB_spec {y : Nat → Int32} {n p : Nat} (hp : p ≤ n) : ∃ b, tB y n p = b ∧ p ≤ b ∧ b ≤ n ∧ (∀ j, p ≤ j → j < b → y j = 32) ∧ (b < n → ¬ y b = 32) := by
  obtain ⟨b, h1, h2, h3, h4, h5⟩ := rn_spec (P := blB y) hp
  exact ⟨b, h1, h2, h3, fun j a c => by simpa [blB] using h4 j a c, fun c => by simpa [blB] using h5 c⟩
theorem tok0 {y : Nat → Int32} {n p b : Nat} (eb : tB y n p = b) (h : n ≤ b) : tK y n p = 0 ∧ tE y n p = b := by
  have e : tK y n p = 0 := by unfold tK; rw [eb, if_pos h]
  exact ⟨e, by unfold tE; rw [if_pos e, eb]⟩
theorem tok1 {y : Nat → Int32} {n p b : Nat} (eb : tB y n p = b) (h : b < n) (c : 97 ≤ y b ∧ y b ≤ 122) : tK y n p = 1 ∧ tE y n p = rn (leB y) n b := by
  have e : tK y n p = 1 := by unfold tK; rw [eb, if_neg (by omega), if_pos (by simpa [leB] using c)]
  exact ⟨e, by unfold tE; rw [if_neg (by omega), if_pos e, eb]⟩
theorem tok2 {y : Nat → Int32} {n p b : Nat} (eb : tB y n p = b) (h : b < n) (c : ¬ (97 ≤ y b ∧ y b ≤ 122)) (d : 48 ≤ y b ∧ y b ≤ 57) : tK y n p = 2 ∧ tE y n p = rn (dgB y) n b := by
  have e : tK y n p = 2 := by unfold tK; rw [eb, if_neg (by omega), if_neg (by simpa [leB] using c), if_pos (by simpa [dgB] using d)]
  exact ⟨e, by unfold tE; rw [if_neg (by omega), if_neg (by omega), if_pos e, eb]⟩
theorem tok3 {y : Nat → Int32} {n p b : Nat} (eb : tB y n p = b) (h : b < n) (c : ¬ (97 ≤ y b ∧ y b ≤ 122)) (d : ¬ (48 ≤ y b ∧ y b ≤ 57)) : tK y n p = (if y b = 59 then 3 else 4) ∧ tE y n p = b + 1 := by
  have e : tK y n p = (if y b = 59 then 3 else 4) := by unfold tK; rw [eb, if_neg (by omega), if_neg (by simpa [leB] using c), if_neg (by simpa [dgB] using d)]
  refine ⟨e, ?_⟩
  unfold tE
  by_cases q : y b = 59
  · rw [if_pos q] at e
    rw [if_neg (by omega), if_neg (by omega), if_neg (by omega), eb]
  · rw [if_neg q] at e
    rw [if_neg (by omega), if_neg (by omega), if_neg (by omega), eb]
/-- where a token ends -/
theorem tE_le {y : Nat → Int32} {n p : Nat} (hp : p ≤ n) : p ≤ tB y n p ∧ tB y n p ≤ tE y n p ∧ tE y n p ≤ n ∧ (¬ tK y n p = 0 → tB y n p < tE y n p) := by
  obtain ⟨b, eb, h1, h2, h3, h4⟩ := tB_spec (y := y) hp
  rw [eb]
  by_cases c0 : n ≤ b
  · have t := tok0 eb c0
    rw [t.2, t.1]; exact ⟨h1, Nat.le_refl _, h2, fun q => absurd rfl q⟩
  · by_cases c1 : 97 ≤ y b ∧ y b ≤ 122
    · have t := tok1 eb (by omega) c1
      obtain ⟨q, e1, e2, e3, e4, e5⟩ := rn_spec (P := leB y) (n := n) (p := b) h2
      rw [t.2, e1]
      refine ⟨h1, e2, e3, fun _ => ?_⟩
      rcases Nat.lt_or_ge b q with w | w
      · exact w
      · have : q = b := by omega
        subst this
        have := e5 (by omega)
        simp [leB, c1] at this
    · by_cases c2 : 48 ≤ y b ∧ y b ≤ 57
      · have t := tok2 eb (by omega) c1 c2
        obtain ⟨q, e1, e2, e3, e4, e5⟩ := rn_spec (P := dgB y) (n := n) (p := b) h2
        rw [t.2, e1]
        refine ⟨h1, e2, e3, fun _ => ?_⟩
        rcases Nat.lt_or_ge b q with w | w
        · exact w
        · have : q = b := by omega
          subst this
          have := e5 (by omega)
          simp [dgB, c2] at this
      · have t := tok3 eb (by omega) c1 c2
        rw [t.2]
        exact ⟨h1, by omega, by omega, fun _ => by omega⟩
theorem tK_le (y : Nat → Int32) (n p : Nat) : tK y n p ≤ 4 := by
  unfold tK
  repeat' split
  all_goals omega
theorem tV_n {y : Nat → Int32} {n p : Nat} (hp : p ≤ n) (h : tK y n p = 2) : Nt 1000 (tV y n p) := by
  obtain ⟨b, eb, h1, h2, h3, h4⟩ := tB_spec (y := y) hp
  have c0 : b < n := by
    rcases Nat.lt_or_ge b n with w | w
    · exact w
    · have := (tok0 eb w).1; omega
  have c1 : ¬ (97 ≤ y b ∧ y b ≤ 122) := fun q => by have := (tok1 eb c0 q).1; omega
  have c2 : 48 ≤ y b ∧ y b ≤ 57 := by
    apply Classical.byContradiction
    intro q
    have := (tok3 eb c0 c1 q).1
    split at this <;> omega
  have t := tok2 eb c0 c1 c2
  obtain ⟨q, e1, e2, e3, e4, e5⟩ := rn_spec (P := dgB y) (n := n) (p := b) h2
  unfold tV
  rw [eb, t.2, e1]
  exact nvN _ (fun j hj => e4 (b + j) (by omega) (by omega))
/-- the token is the word i -/
def iwB (y : Nat → Int32) (n p i : Nat) : Bool := decide (tK y n p = 1) && (decide (tE y n p - tB y n p = lnS i) && (List.range (lnS i)).all (fun k => decide (y (tB y n p + k) = chS i k)))
abbrev isW (y : Nat → Int32) (n p i : Nat) : Prop := iwB y n p i = true
theorem iwB_iff {y : Nat → Int32} {n p i : Nat} : isW y n p i ↔ tK y n p = 1 ∧ tE y n p - tB y n p = lnS i ∧ ∀ k, k < lnS i → y (tB y n p + k) = chS i k := by
  unfold isW iwB
  simp only [Bool.and_eq_true, decide_eq_true_eq, List.all_eq_true, List.mem_range]
theorem chS_ne : ∀ i, i < 14 → ∀ j, j < 14 → i ≠ j → lnS i ≠ lnS j ∨ ∃ k, k < 5 ∧ k < lnS i ∧ chS i k ≠ chS j k := by decide +kernel
theorem isW_one {y : Nat → Int32} {n p i j : Nat} (hi : i < 14) (hj : j < 14) (a : isW y n p i) (b : isW y n p j) : i = j := by
  have a := iwB_iff.mp a
  have b := iwB_iff.mp b
  apply Classical.byContradiction
  intro h
  rcases chS_ne i hi j hj h with q | ⟨k, -, h2, h3⟩
  · exact q (a.2.1.symm.trans b.2.1)
  · have e : lnS i = lnS j := a.2.1.symm.trans b.2.1
    exact h3 ((a.2.2 k h2).symm.trans (b.2.2 k (by omega)))
