/-! ===== the class's own order of things, and the reference's ===== -/
/-- HEAPS, FROST and TRUST as a row of BOOKS has them -/
def hpF (f w : Nat → Int32) : Nat → Int32 := fun j => if 27 ≤ j ∧ j < 32 then w (j - 27) else if 44 ≤ j ∧ j < 49 then w (j - 44 + 5) else f j
def stF (f w : Nat → Int32) (s : Nat) : Nat → Int32 := upd (upd (hpF f w) 1 (w 10)) (21 + 17 * s) (w 11)
def brX (f : Nat → Int32) : Nat → Nat → Int32
  | 0 => f
  | k + 1 => upd (upd (brX f k) (27 + 17 * (k / 5) + k % 5) (brX f k (27 + 17 * (k / 5) + k % 5) - eat (brX f k (15 + k % 5)) (brX f k 1) (brX f k (27 + 17 * (k / 5) + k % 5)))) 3 (brX f k 3 + eat (brX f k (15 + k % 5)) (brX f k 1) (brX f k (27 + 17 * (k / 5) + k % 5)))
theorem brX5 (f : Nat → Int32) : ∀ k, k ≤ 5 → brX f k = birU f 0 k
  | 0, _ => rfl
  | k + 1, hk => by
    have e : k / 5 = 0 := by omega
    have e2 : k % 5 = k := by omega
    rw [brX, birU, brX5 f k (by omega), e, e2]
theorem brX10 (f : Nat → Int32) : ∀ k, k ≤ 5 → brX f (5 + k) = birU (birU f 0 5) 1 k
  | 0, _ => brX5 f 5 (by omega)
  | k + 1, hk => by
    have e : (5 + k) / 5 = 1 := by omega
    have e2 : (5 + k) % 5 = k := by omega
    show brX f ((5 + k) + 1) = _
    rw [brX, birU, brX10 f k (by omega), e, e2]
def chF (f : Nat → Int32) : Nat → Int32 := upd (truF (truF (goU (goU f 0 1 5) 1 0 5) 0) 1) 2 (truF (truF (goU (goU f 0 1 5) 1 0 5) 0) 1 2 + 1)
/-- what goes home, place by place -/
theorem goU_at (f : Nat → Int32) {w s : Nat} (hw : w < 2) (hs : s < 2) : ∀ k, k ≤ 5 → ∀ j, goU f w s k j = if 27 + 17 * w ≤ j ∧ j < 27 + 17 * w + k then 0 else if 22 + 17 * s ≤ j ∧ j < 22 + 17 * s + k then mn 99 (f j + f (27 + 17 * w + (j - (22 + 17 * s)))) else f j
  | 0, _, j => by
    rw [if_neg (by omega), if_neg (by omega)]
    rfl
  | k + 1, hk, j => by
    have ih := goU_at f hw hs k (by omega)
    rw [goU, comeH]
    by_cases h1 : j = 22 + 17 * s + k
    · subst h1
      rw [pk_us, pk_un (by omega), ih (22 + 17 * s + k), ih (27 + 17 * w + k)]
      rw [if_neg (by omega), if_neg (by omega), if_neg (by omega), if_neg (by omega), if_neg (by omega), if_pos (by omega)]
      rw [show 27 + 17 * w + (22 + 17 * s + k - (22 + 17 * s)) = 27 + 17 * w + k by omega]
    · rw [pk_un h1]
      by_cases h2 : j = 27 + 17 * w + k
      · subst h2
        rw [pk_us, if_pos (by omega)]
      · rw [pk_un h2, ih j]
        by_cases h3 : 27 + 17 * w ≤ j ∧ j < 27 + 17 * w + k
        · rw [if_pos h3, if_pos (by omega)]
        · rw [if_neg h3]
          by_cases h4 : 22 + 17 * s ≤ j ∧ j < 22 + 17 * s + k
          · rw [if_pos h4, if_neg (by omega), if_pos (by omega)]
          · rw [if_neg h4, if_neg (by omega), if_neg (by omega)]
theorem goU_comm (f : Nat → Int32) : goU (goU f 1 0 5) 0 1 5 = goU (goU f 0 1 5) 1 0 5 := by
  funext j
  rw [goU_at _ (by omega) (by omega) 5 (by omega), goU_at _ (by omega) (by omega) 5 (by omega), goU_at _ (by omega) (by omega) 5 (by omega), goU_at _ (by omega) (by omega) 5 (by omega), goU_at _ (by omega) (by omega) 5 (by omega), goU_at _ (by omega) (by omega) 5 (by omega)]
  by_cases h1 : 27 ≤ j ∧ j < 32
  · rw [if_pos (by omega), if_neg (by omega), if_neg (by omega), if_pos (by omega)]
  · by_cases h2 : 44 ≤ j ∧ j < 49
    · rw [if_neg (by omega), if_neg (by omega), if_pos (by omega), if_pos (by omega)]
    · by_cases h3 : 22 ≤ j ∧ j < 27
      · rw [if_neg (by omega), if_neg (by omega), if_neg (by omega), if_pos (by omega), if_neg (by omega), if_pos (by omega), if_neg (by omega), if_neg (by omega), if_neg (by omega), if_neg (by omega)]
      · by_cases h4 : 39 ≤ j ∧ j < 44
        · rw [if_neg (by omega), if_pos (by omega), if_neg (by omega), if_neg (by omega), if_neg (by omega), if_neg (by omega), if_neg (by omega), if_neg (by omega), if_neg (by omega), if_pos (by omega)]
        · rw [if_neg (by omega), if_neg (by omega), if_neg (by omega), if_neg (by omega), if_neg (by omega), if_neg (by omega), if_neg (by omega), if_neg (by omega)]
theorem upd_comm {f : Nat → Int32} {i j : Nat} {x y : Int32} (h : i ≠ j) : upd (upd f i x) j y = upd (upd f j y) i x := by
  funext k
  unfold upd
  by_cases h1 : k = j
  · by_cases h2 : k = i
    · exact absurd (h2.symm.trans h1) h
    · rw [if_pos h1, if_neg h2, if_pos h1]
  · by_cases h2 : k = i
    · rw [if_neg h1, if_pos h2, if_pos h2]
    · rw [if_neg h1, if_neg h2, if_neg h2, if_neg h1]
theorem chF_s (f : Nat → Int32) {s : Nat} (hs : s < 2) : chF f = upd (truF (truF (goU (goU f s (1 - s) 5) (1 - s) s 5) s) (1 - s)) 2 (truF (truF (goU (goU f s (1 - s) 5) (1 - s) s 5) s) (1 - s) 2 + 1) := by
  rcases (show s = 0 ∨ s = 1 by omega) with rfl | rfl
  · rfl
  · have e : truF (truF (goU (goU f 1 0 5) 0 1 5) 1) 0 = truF (truF (goU (goU f 0 1 5) 1 0 5) 0) 1 := by
      rw [goU_comm]
      unfold truF
      rw [upd_comm (by omega), pk_un (by omega), pk_un (by omega)]
    show _ = upd (truF (truF (goU (goU f 1 0 5) 0 1 5) 1) 0) 2 (truF (truF (goU (goU f 1 0 5) 0 1 5) 1) 0 2 + 1)
    rw [e]
    rfl
theorem turnF {f : Nat → Int32} (h : Rg f) : f 0 &&& 1 = nI (tnF f) := by
  rw [(nN_of h).1]
  have := (nN_of h).2
  exact pk_andN (by omega) (m := 1) 1 (by decide)
theorem wq_hp (ct : Nat → ClassId) (a : Nat → Nat) (f w : Nat → Int32) : weq ((wB ct a f).set 3 (a 3, .inl (ct 0, 10, .inl (va_cpy w (fun j => f (27 + 17 * (j / 5) + j % 5)) 0 0 10)))) (wB ct a (hpF f w)) := by
  have hne : ∀ j, ¬ (27 ≤ j ∧ j < 32) → ¬ (44 ≤ j ∧ j < 49) → f j = hpF f w j := fun j h1 h2 => by unfold hpF; rw [if_neg h1, if_neg h2]
  refine wB_eq (hne _ (by omega) (by omega)) (hne _ (by omega) (by omega)) (hne _ (by omega) (by omega)) (hne _ (by omega) (by omega)) (fun j hj => hne _ (by omega) (by omega)) (fun j hj => hne _ (by omega) (by omega)) (fun j hj => ?_) (fun j hj => hne _ (by omega) (by omega)) (fun j hj => hne _ (by omega) (by omega)) (fun j hj => hne _ (by omega) (by omega))
  rw [pk_cpy_in (by omega) (by omega)]
  unfold hpF
  by_cases h : j < 5
  · rw [if_pos (by omega)]
    congr 1
    omega
  · rw [if_neg (by omega), if_pos (by omega)]
    congr 1
    omega
def hcU (f : Nat → Int32) : Nat → Int32
  | 0 => 0
  | k + 1 => hcU f k + f (22 + 17 * (k / 5) + k % 5)
theorem px_0 {f : Nat → Int32} {s t : Nat} {n : Int32} (h : 0 ≤ n) (c : ¬ 0 < n) : (0 : Int32) = pF f s t n := by
  rw [le0 h (Int32.not_lt.mp c)]
  exact (prc0 _ _ _).symm
theorem px_2 {f : Nat → Int32} {s t : Nat} {n : Int32} (k : f (15 + t) = 2) : (f (32 + 17 * s + t) + f 1) * n = pF f s t n := by
  unfold pF prc
  rw [k, if_neg (by decide), if_neg (by decide), if_pos rfl, Int32.mul_comm]
theorem px_4 {f : Nat → Int32} {s t : Nat} {n : Int32} (k : f (15 + t) = 4) : (f (32 + 17 * s + t) + f 1 + f 1) * n = pF f s t n := by
  unfold pF prc
  rw [k, if_neg (by decide), if_pos rfl, Int32.mul_comm, Int32.add_assoc]
  congr 2
  rw [show (2 : Int32) = 1 + 1 from rfl, Int32.add_mul, Int32.one_mul]
theorem px_5 {f : Nat → Int32} {s t : Nat} {n : Int32} (c : 0 < n) (k : f (15 + t) = 5) : f (32 + 17 * s + t) + (n - 1) * (f (32 + 17 * s + t) / 2) = pF f s t n := by
  have hn : ¬ n = 0 := fun q => by rw [q] at c; exact absurd c (by decide)
  unfold pF prc
  rw [k, if_pos (Or.inl rfl), if_neg hn, if_neg (by decide), Int32.add_zero]
theorem px_6 {f : Nat → Int32} {s t : Nat} {n : Int32} (c : 0 < n) (k : f (15 + t) = 6) : f (32 + 17 * s + t) + (n - 1) * (f (32 + 17 * s + t) / 2) + 3 = pF f s t n := by
  have hn : ¬ n = 0 := fun q => by rw [q] at c; exact absurd c (by decide)
  unfold pF prc
  rw [k, if_pos (Or.inr rfl), if_neg hn, if_pos rfl]
theorem px_1 {f : Nat → Int32} {s t : Nat} {n : Int32} (h : ¬ f (15 + t) = 2 ∧ ¬ f (15 + t) = 4 ∧ ¬ f (15 + t) = 5 ∧ ¬ f (15 + t) = 6) : f (32 + 17 * s + t) * n = pF f s t n := by
  unfold pF prc
  rw [if_neg (fun q => q.elim h.2.2.1 h.2.2.2), if_neg h.2.1, if_neg h.1, Int32.add_zero, Int32.mul_comm]
theorem go_x (f : Nat → Int32) (h s k : Nat) (hh : h < 2) (hs : s < 2) (hk : k < 5) : upd (comeH (goU f h s k) s k (goU f h s k (27 + 17 * h + k))) (27 + 17 * h + k) 0 = goU f h s (k + 1) := by
  rw [goU, comeH, comeH, upd_comm (by omega), pk_un (by omega)]
