/-! ===== the state in numbers: one row f of 210 as the reference holds it; what the calls make of it ===== -/
/-- the smaller, as Math.min -/
def mn (x y : Int32) : Int32 := if y < x then y else x
/-- PRICE of n of a thing of kind k and worth w by frost fr -/
def prc (k w fr n : Int32) : Int32 := if k = 5 ∨ k = 6 then (if n = 0 then 0 else w + (n - 1) * (w / 2) + (if k = 6 then 3 else 0)) else n * (w + (if k = 4 then 2 * fr else if k = 2 then fr else 0))
def pF (f : Nat → Int32) (s t : Nat) (n : Int32) : Int32 := prc (f (15 + t)) (f (32 + 17 * s + t)) (f 1) n
def sumU (f : Nat → Int32) (b : Nat) : Nat → Int32
  | 0 => 0
  | k + 1 => sumU f b k + f (b + k)
def valU (f : Nat → Int32) (s h : Nat) : Nat → Int32
  | 0 => 0
  | k + 1 => valU f s h k + pF f s k (f (27 + 17 * h + k))
def allU (f : Nat → Int32) (s : Nat) : Nat → Int32
  | 0 => 0
  | k + 1 => allU f s k + pF f s k (f (22 + 17 * s + k) + f (27 + 17 * s + k))
def eat (k fr n : Int32) : Int32 := if k = 3 then (if 4 < fr then 0 else mn n 2) else if k = 1 then mn n 1 else 0
abbrev may (f : Nat → Int32) (s t : Nat) (n : Int32) : Prop := n ≤ f (22 + 17 * s + t) ∧ 0 < f (21 + 17 * s) ∧ f (27 + 17 * s + t) + n ≤ 99
def laid (f : Nat → Int32) (s t : Nat) (n : Int32) : Nat → Int32 := upd (upd f (22 + 17 * s + t) (f (22 + 17 * s + t) - n)) (27 + 17 * s + t) (f (27 + 17 * s + t) + n)
abbrev con (f : Nat → Int32) (s : Nat) : Prop := ¬ sumU f (27 + 17 * (1 - s)) 5 = 0 ∧ valU f s s 5 + f (20 + 17 * s) ≤ valU f s (1 - s) 5
def deed (f : Nat → Int32) (s : Nat) : Int32 := if f (21 + 17 * s) = 0 then (if sumU f (27 + 17 * s) 5 = 0 then 0 else 3) else if con f s then 1 else if sumU f (27 + 17 * s) 5 = 0 then 0 else 2
/-- what one more of it is worth -/
def oneF (f : Nat → Int32) (s t : Nat) : Int32 := pF f s t (f (27 + 17 * s + t)) - pF f s t (f (27 + 17 * s + t) - 1)
def deaU (f : Nat → Int32) (s : Nat) : Nat → Int32 × Int32
  | 0 => (-1, 0)
  | k + 1 => if 0 < f (27 + 17 * s + k) ∧ ((deaU f s k).1 < 0 ∨ (deaU f s k).2 < oneF f s k) then (nI k, oneF f s k) else deaU f s k
def comeH (f : Nat → Int32) (s t : Nat) (n : Int32) : Nat → Int32 := upd f (22 + 17 * s + t) (mn 99 (f (22 + 17 * s + t) + n))
def goU (f : Nat → Int32) (h s : Nat) : Nat → Nat → Int32
  | 0 => f
  | k + 1 => comeH (upd (goU f h s k) (27 + 17 * h + k) 0) s k (goU f h s k (27 + 17 * h + k))
def truF (f : Nat → Int32) (s : Nat) : Nat → Int32 := upd f (21 + 17 * s) (mn 9 (f (21 + 17 * s) + 1))
def birU (f : Nat → Int32) (s : Nat) : Nat → Nat → Int32
  | 0 => f
  | k + 1 => upd (upd (birU f s k) (27 + 17 * s + k) (birU f s k (27 + 17 * s + k) - eat (birU f s k (15 + k)) (birU f s k 1) (birU f s k (27 + 17 * s + k)))) 3 (birU f s k 3 + eat (birU f s k (15 + k)) (birU f s k 1) (birU f s k (27 + 17 * s + k)))
/-- the night's number -/
def nN (f : Nat → Int32) : Nat := (f 0).toNatClampNeg
def wbU (f : Nat → Int32) (b : Nat) : Nat → Nat → Int32
  | 0 => f
  | k + 1 => upd (upd (wbU f b k) (b + 3 + k) (wbU f b k (27 + k))) (b + 8 + k) (wbU f b k (44 + k))
def wbF (f : Nat → Int32) (s : Nat) (d : Int32) : Nat → Int32 := wbU (upd (upd (upd f (54 + 13 * (nN f % 12)) d) (55 + 13 * (nN f % 12)) (f 1)) (56 + 13 * (nN f % 12)) (f (21 + 17 * s))) (54 + 13 * (nN f % 12)) 5
/-- one of the heap taken away -/
def lesF (f : Nat → Int32) (s t : Nat) : Nat → Int32 := comeH (upd f (27 + 17 * s + t) (f (27 + 17 * s + t) - 1)) s t 1
/-- the act of a night -/
def actF (f : Nat → Int32) (s : Nat) (d : Int32) : Nat → Int32 :=
  if d = 1 then upd (truF (truF (goU (goU f s (1 - s) 5) (1 - s) s 5) s) (1 - s)) 2 (truF (truF (goU (goU f s (1 - s) 5) (1 - s) s 5) s) (1 - s) 2 + 1)
  else if d = 2 then lesF f s (deaU f s 5).1.toNatClampNeg
  else if d = 3 then goU f s s 5 else f
def endF (f : Nat → Int32) : Nat → Int32 := upd (birU (birU f 0 5) 1 5) 0 (birU (birU f 0 5) 1 5 0 + 1)
/-- whose night it is -/
def tnF (f : Nat → Int32) : Nat := nN f % 2
def nite (f : Nat → Int32) : Nat → Int32 := endF (actF (wbF f (tnF f) (deed f (tnF f))) (tnF f) (deed f (tnF f)))
def ngU (f : Nat → Int32) : Nat → Nat → Int32
  | 0 => f
  | k + 1 => nite (ngU f k)
/-- in how many one takes -/
def tkU (f : Nat → Int32) : Nat → Int32
  | 0 => 0
  | k + 1 => tkU f k + (if deed (ngU f k) (tnF (ngU f k)) = 1 then 1 else 0)
/-- the kind above -/
def upK (w : Int32) : Int32 := if w = 0 then -1 else if w = 3 then 1 else if w = 4 then 2 else if w = 6 then 5 else 0
def unF : Nat → Int32 → Int32 → Int32
  | 0, _, _ => 0
  | n + 1, k, o => if k < 0 then 0 else if k = o then 1 else unF n (upK k) o
def un (k o : Int32) : Int32 := unF 4 k o
def rk (k : Int32) : Nat := if k < 0 then 0 else if k = 0 then 1 else if k = 3 ∨ k = 4 ∨ k = 6 then 3 else 2
theorem rk4 (k : Int32) : rk k ≤ 4 := by unfold rk; repeat' split
                                         all_goals omega
theorem rk_up {k : Int32} (h : ¬ k < 0) : rk (upK k) + 1 ≤ rk k := by
  by_cases h0 : k = 0
  · subst h0; decide
  · by_cases h3 : k = 3
    · subst h3; decide
    · by_cases h4 : k = 4
      · subst h4; decide
      · by_cases h6 : k = 6
        · subst h6; decide
        · have e : upK k = 0 := by simp [upK, h0, h3, h4, h6]
          rw [e]
          simp only [rk, h, h0, h3, h4, h6, if_false, or_self]
          decide
theorem unF_up {n : Nat} {k o : Int32} (h : ¬ k < 0) (h2 : ¬ k = o) (hr : rk k ≤ n) : unF n k o = unF (n - 1) (upK k) o := by
  have := rk_up h
  cases n with
  | zero => omega
  | succ n => simp only [unF, if_neg h, if_neg h2, Nat.add_sub_cancel]
theorem unf_neg {n : Nat} {x o r : Int32} (h : x < 0) (h2 : unF n x o = r) : (0 : Int32) = r := by
  rw [← h2]
  cases n with
  | zero => rfl
  | succ n => simp only [unF, if_pos h]
theorem unf_hit {n : Nat} {x o r : Int32} (h : ¬ x < 0) (c : x = o) (h1 : rk x ≤ n) (h2 : unF n x o = r) : (1 : Int32) = r := by
  have := rk_up h
  rw [← h2]
  cases n with
  | zero => omega
  | succ n => simp only [unF, if_neg h, if_pos c]
theorem unF01 : ∀ (n : Nat) (k o : Int32), unF n k o = 0 ∨ unF n k o = 1
  | 0, _, _ => Or.inl rfl
  | n + 1, k, o => by
    unfold unF
    by_cases h : k < 0
    · rw [if_pos h]; exact Or.inl rfl
    · rw [if_neg h]
      by_cases h2 : k = o
      · rw [if_pos h2]; exact Or.inr rfl
      · rw [if_neg h2]; exact unF01 n _ _
theorem un5 (k : Int32) : un k 5 = if k = 5 ∨ k = 6 then 1 else 0 := by
  by_cases h0 : k = 0
  · subst h0; decide
  · by_cases h3 : k = 3
    · subst h3; decide
    · by_cases h4 : k = 4
      · subst h4; decide
      · by_cases h6 : k = 6
        · subst h6; decide
        · by_cases h5 : k = 5
          · subst h5; decide
          · have e : upK k = 0 := by simp [upK, h0, h3, h4, h6]
            rw [if_neg (by simp [h5, h6])]
            by_cases hn : k < 0
            · simp [un, unF, hn]
            · simp only [un, unF, if_neg hn, if_neg h5, e]
              decide
theorem nN_lt (f : Nat → Int32) : nN f < 2147483648 := by
  unfold nN Int32.toNatClampNeg
  have := (f 0).toInt_lt
  omega
theorem tn_lt (f : Nat → Int32) : tnF f < 2 := Nat.mod_lt _ (by decide)
/-- row x behind: the first k of row y -/
def cpU (f g : Nat → Int32) : Nat → Nat → Int32
  | 0 => g
  | k + 1 => upd (cpU f g k) k (f k)
theorem cpU_at (f g : Nat → Int32) : ∀ (n j : Nat), cpU f g n j = if j < n then f j else g j
  | 0, j => by simp [cpU]
  | n + 1, j => by
    unfold cpU upd
    by_cases h : j = n
    · subst h; simp
    · rw [if_neg h, cpU_at f g n j]
      by_cases h2 : j < n
      · rw [if_pos h2, if_pos (by omega)]
      · rw [if_neg h2, if_neg (by omega)]
theorem cp_eq {ct : Nat → ClassId} {a : Nat} {f g : Nat → Int32} : weq [ai ct a 210 (cpU f g 210)] [ai ct a 210 f] := weq.cons (ceq.arr (fun j hj => by rw [cpU_at, if_pos hj])) weq.nil
/-- a state whose night can go -/
def Gd (f : Nat → Int32) : Prop := f 0 = nI (nN f) ∧ (deed f (tnF f) = 2 → ∃ t, t < 5 ∧ (deaU (wbF f (tnF f) (deed f (tnF f))) (tnF f) 5).1 = nI t)
def fnd (c : Nat → Int32) (q : Nat) : Nat → Int32 := upd (upd c q (c q + 1)) 0 (c 0 + 1)
