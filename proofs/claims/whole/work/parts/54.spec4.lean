-- what best and gain look at: a heap laid thing by thing
def lyU (g : Nat → Int32) (s k : Nat) : Nat → Nat → Int32
  | 0 => g
  | t + 1 => laid (lyU g s k t) s t (nI (k / 4 ^ t % 4))
theorem ly_s (g : Nat → Int32) (s k t : Nat) : laid (lyU g s k t) s t (nI (k / 4 ^ t % 4)) = lyU g s k (t + 1) := rfl
theorem ly3 {g : Nat → Int32} {s k : Nat} (hk : k < 64) : lyU g s k 3 = lay3 g s k := by
  have e0 : k / 4 ^ 0 % 4 = k % 4 := by rw [Nat.pow_zero, Nat.div_one]
  have e1 : k / 4 ^ 1 % 4 = k / 4 % 4 := by rw [Nat.pow_one]
  have e2 : k / 4 ^ 2 % 4 = k / 16 := by rw [show 4 ^ 2 = 16 from rfl]; omega
  show laid (laid (laid g s 0 (nI (k / 4 ^ 0 % 4))) s 1 (nI (k / 4 ^ 1 % 4))) s 2 (nI (k / 4 ^ 2 % 4)) = _
  rw [e0, e1, e2]
  rfl
theorem ly_a {g : Nat → Int32} {s k i : Nat} : ∀ t, (∀ j, j < t → i ≠ 22 + 17 * s + j ∧ i ≠ 27 + 17 * s + j) → lyU g s k t i = g i
  | 0, _ => rfl
  | t + 1, h => by
    rw [lyU, lay_a (u := 0) (h t (by omega)).1 (h t (by omega)).2 rfl]
    exact ly_a t (fun j hj => h j (by omega))
theorem ly_m {f : Nat → Int32} {s k t : Nat} (hs : s < 2) (ht : t < 3) (hT : 0 < f (21 + 17 * s)) : may (lyU (goU f s s 5) s k t) s t (nI (k / 4 ^ t % 4)) ↔ nI (k / 4 ^ t % 4) ≤ goU f s s 5 (22 + 17 * s + t) := by
  have hm : k / 4 ^ t % 4 < 4 := Nat.mod_lt _ (by omega)
  generalize k / 4 ^ t % 4 = q at hm
  refine may_x ?_ ?_ ?_ (by omega)
  · rw [ly_a t (fun j hj => by omega)]; exact go_heap f hs (by omega)
  · rw [ly_a t (fun j hj => by omega), go_tru f s hs hs hs]; exact hT
  · exact ly_a t (fun j hj => by omega)
theorem ly_all {f : Nat → Int32} {s k : Nat} (hk : k < 64) : may3 (goU f s s 5) s k ↔ ∀ j, j < 3 → nI (k / 4 ^ j % 4) ≤ goU f s s 5 (22 + 17 * s + j) := by
  have e0 : k / 4 ^ 0 % 4 = k % 4 := by rw [Nat.pow_zero, Nat.div_one]
  have e1 : k / 4 ^ 1 % 4 = k / 4 % 4 := by rw [Nat.pow_one]
  have e2 : k / 4 ^ 2 % 4 = k / 16 := by rw [show 4 ^ 2 = 16 from rfl]; omega
  constructor
  · intro h j hj
    rcases (show j = 0 ∨ j = 1 ∨ j = 2 by omega) with rfl | rfl | rfl
    · rw [e0]; exact h.1
    · rw [e1, show 22 + 17 * s + 1 = 23 + 17 * s by omega]; exact h.2.1
    · rw [e2, show 22 + 17 * s + 2 = 24 + 17 * s by omega]; exact h.2.2
  · intro h
    have h0 := h 0 (by omega)
    have h1 := h 1 (by omega)
    have h2 := h 2 (by omega)
    rw [e0] at h0
    rw [e1, show 22 + 17 * s + 1 = 23 + 17 * s by omega] at h1
    rw [e2, show 22 + 17 * s + 2 = 24 + 17 * s by omega] at h2
    exact ⟨h0, h1, h2⟩
theorem ly_no {f : Nat → Int32} {s k t : Nat} (hs : s < 2) (hk : k < 64) (ht : t < 3) (hT : 0 < f (21 + 17 * s)) (h : ¬ may (lyU (goU f s s 5) s k t) s t (nI (k / 4 ^ t % 4))) : ¬ may3 (goU f s s 5) s k :=
  fun q => h ((ly_m hs ht hT).mpr ((ly_all hk).mp q t ht))
theorem ly_go {f : Nat → Int32} {s k t : Nat} (hs : s < 2) (ht : t < 3) (hT : 0 < f (21 + 17 * s)) (h : may (lyU (goU f s s 5) s k t) s t (nI (k / 4 ^ t % 4))) (hx : ∀ j, j < t → nI (k / 4 ^ j % 4) ≤ goU f s s 5 (22 + 17 * s + j)) : ∀ j, j < t + 1 → nI (k / 4 ^ j % 4) ≤ goU f s s 5 (22 + 17 * s + j) := by
  intro j hj
  rcases (show j < t ∨ j = t by omega) with z | rfl
  · exact hx j z
  · exact (ly_m hs ht hT).mp h
theorem shr_a {k t : Nat} (hk : k < 64) : nI (k / 4 ^ t) &&& 3 = nI (k / 4 ^ t % 4) := by
  have h : k / 4 ^ t < 64 := Nat.lt_of_le_of_lt (Nat.div_le_self _ _) hk
  exact pk_andN (by omega) (m := 3) 2 (by decide)
theorem be_nN (f : Nat → Int32) {s k : Nat} (hs : s < 2) : nN (lay3 (goU f s s 5) s k) = nN f := nN_e (by rw [lay3, laid_0 _ _ _ _ (by omega), laid_0 _ _ _ _ (by omega), laid_0 _ _ _ _ (by omega), goU_ge _ _ _ (by omega)])
theorem be_R {f : Nat → Int32} (r : Rg f) {s k n : Nat} (hs : s < 2) (hk : k < 64) (hN : nN f + n ≤ 9999) (h : may3 (goU f s s 5) s k) : Rg (ngU (lay3 (goU f s s 5) s k) n) := (Rg_ngU (Rg_lay3 r hs hk h) n (by rw [be_nN f hs]; exact hN)).1
theorem be_j {f : Nat → Int32} (r : Rg f) {s : Nat} (hs : s < 2) (n : Nat) : ∃ j, j < 64 ∧ (beU f s n 64).1 = nI j ∧ may3 (goU f s s 5) s j ∧ (beU f s n 64).2 = beVal f s n j := (be_eq r hs n f 63 (by omega)).2.2
theorem be_up {f : Nat → Int32} {s n k : Nat} (h : may3 (goU f s s 5) s k) (h2 : k = 0 ∨ (beU f s n k).2 < beVal f s n k) : beU f s n (k + 1) = (nI k, beVal f s n k) := if_pos ⟨h, h2⟩
theorem be_no {f : Nat → Int32} {s n k : Nat} (h : ¬ (may3 (goU f s s 5) s k ∧ (k = 0 ∨ (beU f s n k).2 < beVal f s n k))) : beU f s n (k + 1) = beU f s n k := if_neg h
