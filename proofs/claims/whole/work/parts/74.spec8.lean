/-! ===== the class's sheets as one world; a row filled ===== -/
def flU (f : Nat → Int32) (w : Int32) (k : Nat) : Nat → Int32 := fun q => if q < k then w else f q
theorem flU_0 (f : Nat → Int32) (w : Int32) : flU f w 0 = f := funext fun q => if_neg (by omega)
theorem flU_S (f : Nat → Int32) (w : Int32) (k : Nat) : upd (flU f w k) k w = flU f w (k + 1) := by
  funext q
  unfold upd flU
  by_cases h : q = k
  · subst h; rw [if_pos rfl, if_pos (by omega)]
  · rw [if_neg h]
    by_cases h2 : q < k
    · rw [if_pos h2, if_pos (by omega)]
    · rw [if_neg h2, if_neg (by omega)]
theorem fl_end {ct : Nat → ClassId} {a n : Nat} {f : Nat → Int32} {w : Int32} : weq [ai ct a n (flU f w n)] [ai ct a n (fun _ => w)] := weq.cons (ceq.arr (fun j hj => if_pos hj)) weq.nil
/-- the four sheets: the row sh of them, the objects q 0 .. q 3, their rows q 4 .. q 7 -/
abbrev wS (ct : Nat → ClassId) (sh : Nat) (q : Nat → Nat) (wd sz nm : Nat → Int32) : va_W := [(sh, .inl (ct 2, 4, .inr (.inr (.inr (.inr (fun j => some (q j))))))), (q 0, .inr (3, [.ref (q 4), .int (wd 0), .int (sz 0)])), (q 1, .inr (3, [.ref (q 5), .int (wd 1), .int (sz 1)])), (q 2, .inr (3, [.ref (q 6), .int (wd 2), .int (sz 2)])), (q 3, .inr (3, [.ref (q 7), .int (wd 3), .int (sz 3)])), ai ct (q 4) 40 (fun j => nm (40 * 0 + j)), ai ct (q 5) 40 (fun j => nm (40 * 1 + j)), ai ct (q 6) 40 (fun j => nm (40 * 2 + j)), ai ct (q 7) 40 (fun j => nm (40 * 3 + j))]
theorem wS_mk {ct : Nat → ClassId} {sh : Nat} {q : Nat → Nat} {wd sz nm : Nat → Int32} {w0 w1 w2 w3 z0 z1 z2 z3 : Int32} {n0 n1 n2 n3 : Nat → Int32} (hw : w0 = wd 0 ∧ w1 = wd 1 ∧ w2 = wd 2 ∧ w3 = wd 3) (hz : z0 = sz 0 ∧ z1 = sz 1 ∧ z2 = sz 2 ∧ z3 = sz 3) (h0 : ∀ j, j < 40 → n0 j = nm (40 * 0 + j)) (h1 : ∀ j, j < 40 → n1 j = nm (40 * 1 + j)) (h2 : ∀ j, j < 40 → n2 j = nm (40 * 2 + j)) (h3 : ∀ j, j < 40 → n3 j = nm (40 * 3 + j)) :
    weq [(sh, .inl (ct 2, 4, .inr (.inr (.inr (.inr (fun j => some (q j))))))), (q 0, .inr (3, [.ref (q 4), .int w0, .int z0])), (q 1, .inr (3, [.ref (q 5), .int w1, .int z1])), (q 2, .inr (3, [.ref (q 6), .int w2, .int z2])), (q 3, .inr (3, [.ref (q 7), .int w3, .int z3])), ai ct (q 4) 40 n0, ai ct (q 5) 40 n1, ai ct (q 6) 40 n2, ai ct (q 7) 40 n3] (wS ct sh q wd sz nm) := by
  obtain ⟨rfl, rfl, rfl, rfl⟩ := hw
  obtain ⟨rfl, rfl, rfl, rfl⟩ := hz
  exact weq.c (weq.c (weq.c (weq.c (weq.c (weq.cons (ceq.arr h0) (weq.cons (ceq.arr h1) (weq.cons (ceq.arr h2) (weq.cons (ceq.arr h3) weq.nil))))))))
theorem zN_in (nm : Nat → Int32) (s : Nat) {j : Nat} (hj : j < 40) : (0 : Int32) = zN nm s 40 (40 * s + j) := (if_pos (by omega)).symm
theorem zN_out (nm : Nat → Int32) {s t j : Nat} (h : s ≠ t) (hj : j < 40) : nm (40 * t + j) = zN nm s 40 (40 * t + j) := (if_neg (by omega)).symm
theorem up_in (nm : Nat → Int32) (t : Nat) {i j : Nat} {v : Int32} : upd (fun j => nm (40 * t + j)) i v j = upd nm (40 * t + i) v (40 * t + j) := upd_if (f := nm) (q := fun j => 40 * t + j) (by show _ ↔ 40 * t + j = 40 * t + i; omega)
theorem up_out (nm : Nat → Int32) {s t i j : Nat} {v : Int32} (h : s ≠ t) (hi : i < 40) (hj : j < 40) : nm (40 * t + j) = upd nm (40 * s + i) v (40 * t + j) := (pk_un (by omega)).symm
theorem mv_in (nm : Nat → Int32) (s t a b n : Nat) {j : Nat} (hb : b + n ≤ 40) : va_cpy (fun j => nm (40 * s + j)) (fun j => nm (40 * t + j)) a b n j = mvN nm (40 * s + a) (40 * t + b) n (40 * t + j) := by
  show (if b ≤ j ∧ j < b + n then nm (40 * s + (a + (j - b))) else nm (40 * t + j)) = if 40 * t + b ≤ 40 * t + j ∧ 40 * t + j < 40 * t + b + n then nm (40 * s + a + (40 * t + j - (40 * t + b))) else nm (40 * t + j)
  by_cases h : b ≤ j ∧ j < b + n
  · rw [if_pos h, if_pos (by omega)]; exact congrArg nm (by omega)
  · rw [if_neg h, if_neg (by omega)]
theorem mv_out (nm : Nat → Int32) (s : Nat) {t u a b n j : Nat} (h : t ≠ u) (hb : b + n ≤ 40) (hj : j < 40) : nm (40 * u + j) = mvN nm (40 * s + a) (40 * t + b) n (40 * u + j) := (if_neg (by omega)).symm
/-- has of the class -/
theorem hs_yes {a n z : Int32} {m : Nat} (hm : m ≤ 40) (em : z = nI m) (h1 : 0 ≤ a) (h2 : 0 ≤ n) (h3 : a ≤ z) (h4 : n ≤ z - a) : ∃ ja jn, a = nI ja ∧ n = nI jn ∧ ja + jn ≤ m ∧ cpP a n z := by
  obtain ⟨ja, hj, rfl⟩ := nn_of (Int32.not_lt.mpr h1)
  obtain ⟨jn, hn, rfl⟩ := nn_of (Int32.not_lt.mpr h2)
  subst em
  have k1 := (nI_leI (a := ja) (b := m) (by omega) (by omega)).mp h3
  rw [pk_sub k1] at h4
  have k2 := (nI_leI (a := jn) (b := m - ja) (by omega) (by omega)).mp h4
  refine ⟨ja, jn, rfl, rfl, by omega, h1, h2, ?_⟩
  rw [show tn (nI ja) = ja from nI_clamp (by omega), show tn (nI jn) = jn from nI_clamp (by omega), show tn (nI m) = m from nI_clamp (by omega)]
  omega
theorem hs_no {a n z : Int32} {m : Nat} (hm : m ≤ 40) (em : z = nI m) (c : cpP a n z) : 0 ≤ a ∧ 0 ≤ n ∧ a ≤ z ∧ n ≤ z - a := by
  obtain ⟨h1, h2, h3⟩ := c
  obtain ⟨ja, hj, rfl⟩ := nn_of (Int32.not_lt.mpr h1)
  obtain ⟨jn, hn, rfl⟩ := nn_of (Int32.not_lt.mpr h2)
  subst em
  rw [show tn (nI ja) = ja from nI_clamp (by omega), show tn (nI jn) = jn from nI_clamp (by omega), show tn (nI m) = m from nI_clamp (by omega)] at h3
  refine ⟨h1, h2, nI_le (by omega) (by omega), ?_⟩
  rw [pk_sub (by omega)]
  exact nI_le (by omega) (by omega)
