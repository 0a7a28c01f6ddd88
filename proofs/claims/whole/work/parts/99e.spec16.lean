theorem tE_ge {y : Nat → Int32} {n p : Nat} (hp : p ≤ n) : p ≤ tE y n p := Nat.le_trans (tE_le (y := y) hp).1 (tE_le (y := y) hp).2.1
theorem tlK_lt {y : Nat → Int32} {n : Nat} {f : Nat → Int32} {p : Nat} {k : Int32} (hp : p ≤ n) : p ≤ (tlK y n f p k).2.1 := by
  unfold tlK; split
  · exact tE_ge hp
  · exact Nat.le_refl _
theorem tlT_lt {y : Nat → Int32} {n : Nat} {f : Nat → Int32} {p s : Nat} (hp : p ≤ n) : p ≤ (tlT y n f p s).2.1 := by
  have h1 := tE_n (y := y) hp
  have h2 := tE_ge (y := y) hp
  have h3 := tE_ge (y := y) h1
  unfold tlT; split
  · split
    · show p ≤ tE y n (tE y n p); omega
    · exact h2
  · exact Nat.le_refl _
theorem tlS_lt {y : Nat → Int32} {n : Nat} {f : Nat → Int32} {p : Nat} (hp : p ≤ n) : p ≤ (tlS y n f p).2.1 := by
  have h1 := tE_n (y := y) hp
  have h2 := tE_ge (y := y) hp
  have h3 := tE_ge (y := y) h1
  have h4 := tE_n (y := y) h1
  have h5 := tE_ge (y := y) h4
  have h6 := tE_n (y := y) h4
  unfold tlS tlG; split
  · split
    · split
      · exact Nat.le_trans (by omega) (tlT_lt h6)
      · show p ≤ tE y n (tE y n p); omega
    · exact Nat.le_trans h2 (tlT_lt h1)
  · exact Nat.le_refl _
theorem tlH_lt {y : Nat → Int32} {n : Nat} {f : Nat → Int32} {p : Nat} {w : Int32} (hp : p ≤ n) : p ≤ (tlH y n f p w).2.1 := by
  have h1 := tE_n (y := y) hp
  have h2 := tE_ge (y := y) hp
  have h3 := tE_ge (y := y) h1
  have h4 := tE_n (y := y) h1
  have h5 := tE_ge (y := y) h4
  unfold tlH
  generalize (if w = 2 then (20 : Int32) else 99) = mw
  split
  · split
    · split
      · show p ≤ tE y n (tE y n (tE y n p)); omega
      · show p ≤ tE y n (tE y n p); omega
    · exact h2
  · exact Nat.le_refl _
theorem tlF_lt {y : Nat → Int32} {n : Nat} {f : Nat → Int32} {p : Nat} (hp : p ≤ n) : p ≤ (tlF y n f p).2.1 := by
  unfold tlF; split
  · exact tE_ge hp
  · exact Nat.le_refl _
theorem itF_lt {y : Nat → Int32} {n : Nat} {f : Nat → Int32} {p : Nat} (hp : p ≤ n) (h : (itF y n f p).1 = 1) : p < (itF y n f p).2.1 := by
  have hn := tE_n (y := y) hp
  unfold itF at h ⊢
  by_cases c : 0 ≤ wkF y n p
  · rw [if_pos c]; exact Nat.lt_of_lt_of_le (wk_lt hp c) (tlK_lt hn)
  · rw [if_neg c] at h ⊢
    by_cases c7 : isW y n p 7
    · rw [if_pos c7]; exact Nat.lt_of_lt_of_le (isW_lt hp c7) (tlS_lt hn)
    · rw [if_neg c7] at h ⊢
      by_cases c8 : isW y n p 8
      · rw [if_pos c8]; exact Nat.lt_of_lt_of_le (isW_lt hp c8) (tlH_lt hn)
      · rw [if_neg c8] at h ⊢
        by_cases c9 : isW y n p 9
        · rw [if_pos c9]; exact Nat.lt_of_lt_of_le (isW_lt hp c9) (tlH_lt hn)
        · rw [if_neg c9] at h ⊢
          by_cases c10 : isW y n p 10
          · rw [if_pos c10]; exact Nat.lt_of_lt_of_le (isW_lt hp c10) (tlH_lt hn)
          · rw [if_neg c10] at h ⊢
            by_cases c11 : isW y n p 11
            · rw [if_pos c11]; exact Nat.lt_of_lt_of_le (isW_lt hp c11) (tlF_lt hn)
            · rw [if_neg c11] at h
              exact absurd h (show ¬ (0 : Int32) = 1 by decide)
/-- where the text's reader stands behind an item that began at q -/
def TI (y : Nat → Int32) (n : Nat) (v f : Nat → Int32) (k q : Nat) (g vv it : Nat → Int32) : Prop :=
  q ≤ n ∧ k ≤ q ∧ txU y n (120 - k) (k + 1) q g = txU y n 120 1 0 f ∧ vv 17 = nI (k + 1) ∧ vv 8 = nI n ∧ (∀ j, j < 8 → vv j = v j) ∧
  (((itF y n g q).1 = 0 ∧ ¬ vv 13 = 0 ∧ vv 9 = nI (tB y n (itF y n g q).2.1)) ∨
   ((itF y n g q).1 = 1 ∧ vv 13 = 0 ∧ MT vv y n (itF y n g q).2.1 ∧ ∃ m, vv 16 = nI m ∧ m ≤ (itF y n g q).2.1 ∧ apU it m f = (itF y n g q).2.2 ∧ RwO it m))
theorem TI_of {y : Nat → Int32} {n : Nat} {v v1 f : Nat → Int32} {k q : Nat} {g vv it : Nat → Int32} (h1 : q ≤ n) (h2 : k ≤ q) (h3 : txU y n (120 - k) (k + 1) q g = txU y n 120 1 0 f) (h4 : v1 17 = nI k) (h5 : ∀ j, j < 8 → v1 j = v j) (r : RI y n v1 f g q vv it) : TI y n v f k q g vv it :=
  ⟨h1, h2, h3, by rw [r.2.1, h4, nI_1], r.1, fun j hj => (r.2.2.1 j (by omega)).trans (h5 j hj), r.2.2.2⟩
/-- text() of the reference -/
def TX (y : Nat → Int32) (n : Nat) (v f : Nat → Int32) (r : Int32) (u f' : Nat → Int32) : Prop := r = (txU y n 120 1 0 f).1 ∧ f' = txF y n f ∧ u 8 = 0 ∧ ∀ j, j < 8 → u j = v j
theorem neg1 : ∀ {b : Nat}, b ≤ 120 → -1 - nI b < 0 := by
  have h : ∀ b, b < 121 → -1 - nI b < 0 := by decide +kernel
  exact fun {b} hb => h b (by omega)
/-- a fault's answer is below 0, a good one not -/
theorem txS {y : Nat → Int32} {n : Nat} (hn : n ≤ 120) : ∀ (d i p : Nat) (f : Nat → Int32), p ≤ n → i + d < 1000 → ((txU y n d i p f).1 < 0 ∧ ∃ b, b ≤ 120 ∧ (txU y n d i p f).1 = -1 - nI b) ∨ ¬ (txU y n d i p f).1 < 0
  | 0, i, p, f, hp, hi => by
    have hb : tB y n p ≤ 120 := by have := tE_le (y := y) hp; omega
    refine Or.inl ⟨neg1 hb, _, hb, rfl⟩
  | d + 1, i, p, f, hp, hi => by
    have hq := itF_n (y := y) (n := n) (f := f) hp
    have hb : tB y n (itF y n f p).2.1 ≤ 120 := by have := tE_le (y := y) hq; omega
    by_cases c : (itF y n f p).1 = 0
    · rw [tx_bad c]; exact Or.inl ⟨neg1 hb, _, hb, rfl⟩
    · by_cases c0 : tK y n (itF y n f p).2.1 = 0
      · rw [tx_end c c0]; exact Or.inr (nI_pos (by omega))
      · by_cases c3 : tK y n (itF y n f p).2.1 = 3
        · rw [tx_go c c3]; exact txS hn d (i + 1) _ _ (tE_n hq) (by omega)
        · rw [tx_no c c0 c3]; exact Or.inl ⟨neg1 hb, _, hb, rfl⟩
theorem tK3_of {y : Nat → Int32} {n p : Nat} (h : 3 ≤ tK y n p) (c : y (tB y n p) = 59) : tK y n p = 3 := by
  have h0 := h
  unfold tK at h0 ⊢
  split at h0
  · omega
  · split at h0
    · omega
    · split at h0
      · omega
      · rename_i a1 a2 a3
        rw [if_neg a1, if_neg a2, if_neg a3, if_pos c]
theorem tK4_of {y : Nat → Int32} {n p : Nat} (c : ¬ y (tB y n p) = 59) : ¬ tK y n p = 3 := by
  intro h
  unfold tK at h
  split at h
  · omega
  · split at h
    · omega
    · split at h
      · omega
      · omega
theorem itF_end {y : Nat → Int32} {n : Nat} {g : Nat → Int32} : itF y n g n = (0, n, g) := by
  have k : tK y n n = 0 := by
    have a := tE_le (y := y) (Nat.le_refl n)
    apply Classical.byContradiction
    intro q
    have := a.2.2.2 q
    omega
  have z : ∀ i, ¬ isW y n n i := fun i w => by have := (iwB_iff.mp w).1; omega
  have w : wkF y n n = -1 := by unfold wkF; rw [if_neg (z 0), if_neg (z 1), if_neg (z 2), if_neg (z 3), if_neg (z 4), if_neg (z 5), if_neg (z 6)]
  unfold itF
  rw [if_neg (by rw [w]; decide), if_neg (z 7), if_neg (z 8), if_neg (z 9), if_neg (z 10), if_neg (z 11)]
/-- the ends of a text -/
theorem TX_bad {y : Nat → Int32} {n : Nat} {v f : Nat → Int32} {b : Nat} {u : Nat → Int32} (hb : b ≤ 120) (h : (txU y n 120 1 0 f).1 = -1 - nI b) (h8 : u 8 = 0) (hj : ∀ j, j < 8 → u j = v j) : TX y n v f (-1 - nI b) u f := by
  refine ⟨h.symm, ?_, h8, hj⟩
  unfold txF
  rw [if_pos (by rw [h]; exact neg1 hb)]
theorem TX_ok {y : Nat → Int32} {n : Nat} {v f : Nat → Int32} {i : Nat} {u f' : Nat → Int32} (hi : i < 1000) (h : txU y n 120 1 0 f = (nI i, f')) (h8 : u 8 = 0) (hj : ∀ j, j < 8 → u j = v j) : TX y n v f (nI i) u f' := by
  refine ⟨by rw [h], ?_, h8, hj⟩
  unfold txF
  rw [h, if_neg (nI_pos (by omega))]
theorem tx_0 {y : Nat → Int32} {n q : Nat} {g : Nat → Int32} {k : Nat} (hn : n ≤ 120) (h1 : q ≤ n) (h2 : k ≤ q) (hk : k = 120) (i : Nat) : (txU y n (120 - k) i q g).1 = -1 - nI (tB y n (itF y n g q).2.1) := by
  have e : q = n := by omega
  subst e
  rw [itF_end, show 120 - k = 0 by omega]
  rfl
