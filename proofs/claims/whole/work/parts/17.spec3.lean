/-! ===== what looks ahead ===== -/
def mx (x y : Int32) : Int32 := if x < y then y else x
def aheA (f : Nat → Int32) (n : Nat) (w : Int32) : Int32 := if w = 0 then tkU f n else if w = 1 then sumU (ngU f n) 27 5 + sumU (ngU f n) 44 5 else if w = 2 then ngU f n 3 - f 3 else allU (ngU f n) (tn w - 3) 5 - allU f (tn w - 3) 5
def kAhead (f c : Nat → Int32) (n : Nat) (w : Int32) : T2 := if 9999 < f 0 + nI n then bq f c (-1000005) 5 else (aheA f n w, f, c)
def sAhead (f c : Nat → Int32) (n w : Int32) : T2 := if (0 ≤ n ∧ n ≤ 60) ∧ gT w then kAhead f c (tn n) w else bq f c (-1000001) 1
def strU (f : Nat → Int32) : Nat → Nat → Option Nat
  | 0, _ => none
  | k + 1, i => if deed (ngU f i) (tnF (ngU f i)) = 1 then some (i + 1) else strU f k (i + 1)
def kOpt (f c : Nat → Int32) : Option Nat → T2
  | some m => (nI m, f, c)
  | none => bq f c (-1000004) 4
def sStruck (f c : Nat → Int32) : T2 := if 9999 < f 0 + 60 then bq f c (-1000005) 5 else kOpt f c (strU f 60 0)
def empU (f : Nat → Int32) : Nat → Nat → Option Nat
  | 0, _ => none
  | k + 1, i => if sumU (ngU f i) 27 5 + sumU (ngU f i) 44 5 ≤ 0 then some i else empU f k (i + 1)
def sEmpty (f c : Nat → Int32) : T2 := if 9999 < f 0 + 60 then bq f c (-1000005) 5 else kOpt f c (empU f 61 0)
abbrev may3 (g : Nat → Int32) (s k : Nat) : Prop := nI (k % 4) ≤ g (22 + 17 * s) ∧ nI (k / 4 % 4) ≤ g (23 + 17 * s) ∧ nI (k / 16) ≤ g (24 + 17 * s)
def lay3 (g : Nat → Int32) (s k : Nat) : Nat → Int32 := laid (laid (laid g s 0 (nI (k % 4))) s 1 (nI (k / 4 % 4))) s 2 (nI (k / 16))
def beVal (f : Nat → Int32) (s n k : Nat) : Int32 := allU (ngU (lay3 (goU f s s 5) s k) n) s 5
def beU (f : Nat → Int32) (s n : Nat) : Nat → Int32 × Int32
  | 0 => (0, 0)
  | k + 1 => if may3 (goU f s s 5) s k ∧ (k = 0 ∨ (beU f s n k).2 < beVal f s n k) then (nI k, beVal f s n k) else beU f s n k
def beV (f : Nat → Int32) (s n : Nat) (w : Nat → Int32) : Nat → Nat → Int32
  | 0 => upd w 5 (-1)
  | k + 1 => if may3 (goU f s s 5) s k ∧ (beV f s n w k 5 < 0 ∨ beV f s n w k 6 < beVal f s n k) then upd (upd (beV f s n w k) 5 (nI k)) 6 (beVal f s n k) else beV f s n w k
abbrev gN30 (n : Int32) : Prop := 1 ≤ n ∧ n ≤ 30
def kBest (f c : Nat → Int32) (s n : Nat) (b : Bool) : T2 := if 9999 < f 0 + nI n ∨ f (21 + 17 * s) = 0 then bq f c (-1000005) 5 else if b then ((beU f s n 64).2 - allU f s 5, f, c) else ((beU f s n 64).1, f, c)
def sBest (f c : Nat → Int32) (s n : Int32) (b : Bool) : T2 := if gS s ∧ gN30 n then kBest f c (tn s) (tn n) b else bq f c (-1000001) 1
def grVal (f : Nat → Int32) (s n k : Nat) : Int32 := allU (ngU (upd f (20 + 17 * s) (nI k)) n) s 5
def grU (f : Nat → Int32) (s n : Nat) : Nat → Int32 × Int32
  | 0 => (-1, -1)
  | k + 1 => if (grU f s n k).2 < grVal f s n k then (nI k, grVal f s n k) else grU f s n k
def kGreed (f c : Nat → Int32) (s n : Nat) : T2 := if 9999 < f 0 + nI n then bq f c (-1000005) 5 else ((grU f s n 51).1, f, c)
def sGreed (f c : Nat → Int32) (s n : Int32) : T2 := if gS s ∧ gN30 n then kGreed f c (tn s) (tn n) else bq f c (-1000001) 1
abbrev all2 (g : Nat → Int32) : Int32 := allU g 0 5 + allU g 1 5
def kfVal (f : Nat → Int32) (t n k : Nat) : Int32 := all2 (ngU (upd f (15 + t) (nI k)) n) - all2 (upd f (15 + t) (nI k))
def kfU (f : Nat → Int32) (t n : Nat) : Nat → Int32 × Int32
  | 0 => (-1, 0)
  | k + 1 => if (kfU f t n k).1 < 0 ∨ (kfU f t n k).2 < kfVal f t n k then (nI k, kfVal f t n k) else kfU f t n k
def kKindFor (f c : Nat → Int32) (t n : Nat) : T2 := if 9999 < f 0 + nI n then bq f c (-1000005) 5 else ((kfU f t n 7).1, f, c)
def sKindFor (f c : Nat → Int32) (t n : Int32) : T2 := if gT t ∧ gN30 n then kKindFor f c (tn t) (tn n) else bq f c (-1000001) 1
def kTempt (f c : Nat → Int32) (s n : Nat) : T2 := if 9999 < f 0 + nI n then bq f c (-1000005) 5 else (allU (stlF f s) s 5 - allU (ngU f n) s 5, f, c)
def sTempt (f c : Nat → Int32) (s n : Int32) : T2 := if gS s ∧ 1 ≤ n ∧ n ≤ 60 then kTempt f c (tn s) (tn n) else bq f c (-1000001) 1
def bdA (f : Nat → Int32) (i j : Nat) : Int32 := pF f 0 j 1 - pF f 0 i 1
def bdB (f : Nat → Int32) (i j : Nat) : Int32 := pF f 1 i 1 - pF f 1 j 1
abbrev bdC (f : Nat → Int32) (i j : Nat) (m : Int32) : Prop := ¬ f (22 + i) = 0 ∧ ¬ f (39 + j) = 0 ∧ 0 < bdA f i j ∧ 0 < bdB f i j ∧ m < bdA f i j + bdB f i j
def bdJ (f : Nat → Int32) (i : Nat) (b : Int32 × Int32) : Nat → Int32 × Int32
  | 0 => b
  | j + 1 => if bdC f i j (bdJ f i b j).2 then (nI (10 * i + j), bdA f i j + bdB f i j) else bdJ f i b j
def bdI (f : Nat → Int32) : Nat → Int32 × Int32
  | 0 => (-1, 0)
  | i + 1 => bdJ f i (bdI f i) 5
def sBundle (f c : Nat → Int32) : T2 := if (bdI f 5).1 < 0 then bq f c (-1000004) 4 else ((bdI f 5).1, f, c)
/-- values are no less than 0 -/
theorem prcN {k w fr : Int32} {n : Nat} (hn : n ≤ 198) (hw : Nt 20 w) (hf : Nt 9 fr) : Nt 8000 (prc k w fr (nI n)) := by
  obtain ⟨a, ha, rfl⟩ := hw
  obtain ⟨b, hb, rfl⟩ := hf
  unfold prc
  have hmul : ∀ x y : Nat, x ≤ 198 → y ≤ 38 → x * y ≤ 198 * 38 := fun x y h1 h2 => Nat.mul_le_mul h1 h2
  by_cases c : k = 5 ∨ k = 6
  · rw [if_pos c]
    by_cases c2 : nI n = 0
    · rw [if_pos c2]; exact ⟨0, by omega, rfl⟩
    · rw [if_neg c2]
      cases n with
      | zero => exact absurd rfl c2
      | succ n =>
        rw [nI_pred, show (2 : Int32) = nI 2 from rfl, pk_div (by omega) (by omega) (by omega), pk_mul, nI_add]
        have h1 := hmul n (a / 2) (by omega) (by omega)
        by_cases c3 : k = 6
        · rw [if_pos c3, show (3 : Int32) = nI 3 from rfl, nI_add]; exact ⟨_, by omega, rfl⟩
        · rw [if_neg c3, show (0 : Int32) = nI 0 from rfl, nI_add]; exact ⟨_, by omega, rfl⟩
  · rw [if_neg c]
    by_cases c2 : k = 4
    · rw [if_pos c2, show (2 : Int32) = nI 2 from rfl, pk_mul, nI_add, pk_mul]
      have h1 := hmul n (a + 2 * b) (by omega) (by omega)
      exact ⟨_, by omega, rfl⟩
    · rw [if_neg c2]
      by_cases c3 : k = 2
      · rw [if_pos c3, nI_add, pk_mul]
        have h1 := hmul n (a + b) (by omega) (by omega)
        exact ⟨_, by omega, rfl⟩
      · rw [if_neg c3, show (0 : Int32) = nI 0 from rfl, nI_add, pk_mul]
        have h1 := hmul n (a + 0) (by omega) (by omega)
        exact ⟨_, by omega, rfl⟩
theorem allN {f : Nat → Int32} (r : Rg f) {s : Nat} (hs : s < 2) : ∀ k, k ≤ 5 → Nt (8000 * k) (allU f s k)
  | 0, _ => ⟨0, by omega, rfl⟩
  | k + 1, hk => by
    obtain ⟨⟨n, hn, e1⟩, ⟨m, hm, e2⟩, hw⟩ := r.1 s k hs (by omega)
    have h := Nt_add (allN r hs k (by omega)) (prcN (k := f (15 + k)) (n := n + m) (by omega) hw r.2.1)
    rw [allU, e1, e2, nI_add]
    exact h
theorem all_nn {f : Nat → Int32} (r : Rg f) {s : Nat} (hs : s < 2) : 0 ≤ allU f s 5 := (allN r hs 5 (by omega)).pos (by omega)
theorem valN {f : Nat → Int32} (r : Rg f) {s w : Nat} (hs : s < 2) (hw : w < 2) : ∀ k, k ≤ 5 → Nt (8000 * k) (valU f s w k)
  | 0, _ => ⟨0, by omega, rfl⟩
  | k + 1, hk => by
    obtain ⟨m, hm, e2⟩ := (r.1 w k hw (by omega)).2.1
    have h := Nt_add (valN r hs hw k (by omega)) (prcN (k := f (15 + k)) (n := m) (by omega) (r.1 s k hs (by omega)).2.2 r.2.1)
    rw [valU, e2]
    exact h
theorem val_nn {f : Nat → Int32} (r : Rg f) {s w : Nat} (hs : s < 2) (hw : w < 2) : 0 ≤ valU f s w 5 := (valN r hs hw 5 (by omega)).pos (by omega)
theorem deed_nn (f : Nat → Int32) (s : Nat) : 0 ≤ deed f s := by
  unfold deed
  by_cases a : f (21 + 17 * s) = 0
  · rw [if_pos a]
    by_cases b : sumU f (27 + 17 * s) 5 = 0
    · rw [if_pos b]; decide
    · rw [if_neg b]; decide
  · rw [if_neg a]
    by_cases b : con f s
    · rw [if_pos b]; decide
    · rw [if_neg b]
      by_cases b : sumU f (27 + 17 * s) 5 = 0
      · rw [if_pos b]; decide
      · rw [if_neg b]; decide
theorem tkN (f : Nat → Int32) : ∀ n, ∃ m, m ≤ n ∧ tkU f n = nI m
  | 0 => ⟨0, by omega, rfl⟩
  | n + 1 => by
    obtain ⟨m, h1, h2⟩ := tkN f n
    rw [tkU, h2]
    by_cases c : deed (ngU f n) (tnF (ngU f n)) = 1
    · rw [if_pos c, nI_1]; exact ⟨_, by omega, rfl⟩
    · rw [if_neg c, Int32.add_zero]; exact ⟨_, by omega, rfl⟩
theorem tk_nn (f : Nat → Int32) {n : Nat} (hn : n < 2147483648) : 0 ≤ tkU f n := by
  obtain ⟨m, h1, h2⟩ := tkN f n
  rw [h2]; exact nI_pos' (by omega)
theorem tk1 (g : Nat → Int32) : tkU g 1 = 1 ↔ deed g (tnF g) = 1 := by
  show (0 : Int32) + (if deed g (tnF g) = 1 then 1 else 0) = 1 ↔ _
  by_cases c : deed g (tnF g) = 1
  · rw [if_pos c]; exact ⟨fun _ => c, fun _ => rfl⟩
  · rw [if_neg c]; exact ⟨fun q => absurd q (by decide), fun q => absurd q c⟩
theorem emp_iff {g : Nat → Int32} (r : Rg g) : sumU g 27 5 + sumU g 44 5 ≤ 0 ↔ sumU g 27 5 = 0 ∧ sumU g 44 5 = 0 := by
  obtain ⟨n, h1, h2, -⟩ := sumN (f := g) (b := 27) (fun t ht => (r.1 0 t (by omega) ht).2.1) 5 (by omega)
  obtain ⟨m, h3, h4, -⟩ := sumN (f := g) (b := 44) (fun t ht => (r.1 1 t (by omega) ht).2.1) 5 (by omega)
  rw [h2, h4, nI_add]
  constructor
  · intro q
    have : ¬ 0 < n + m := fun z => nI_nle z (by omega) q
    rw [show n = 0 by omega, show m = 0 by omega]
    exact ⟨rfl, rfl⟩
  · intro q
    have a : ¬ 0 < n := fun z => nI_ne0 z (by omega) q.1
    have b : ¬ 0 < m := fun z => nI_ne0 z (by omega) q.2
    rw [show n = 0 by omega, show m = 0 by omega]
    decide
theorem q3 {q : Nat} (hq : q < 5) (h : ¬ nI q ≤ 2) : 3 ≤ q := by
  rcases Nat.lt_or_ge q 3 with z | z
  · exact absurd (nI_le (a := q) (b := 2) (by omega) (by omega)) h
  · exact z
theorem q3n {q : Nat} (h : nI q ≤ 2) (hq : q < 5) (h0 : ¬ nI q = 0) (h1 : ¬ nI q = 1) (h2 : ¬ nI q = 2) : False := by
  have := (nI_leI (a := q) (b := 2) (by omega) (by omega)).mp h
  rcases (show q = 0 ∨ q = 1 ∨ q = 2 by omega) with rfl | rfl | rfl
  · exact h0 rfl
  · exact h1 rfl
  · exact h2 rfl
theorem late60 {f : Nat → Int32} (r : Rg f) (h : ¬ 9999 < f 0 + 60) : nN f + 60 ≤ 9999 := late_no r (n := 60) (by omega) h
theorem str_lt {i : Nat} (h : i ≤ 60) (c : ¬ 60 ≤ nI i) : i < 60 := by
  rcases Nat.lt_or_ge i 60 with z | z
  · exact z
  · exact absurd (nI_le (a := 60) (b := i) (by omega) (by omega)) c
theorem str_go {f : Nat → Int32} {i : Nat} {t : Int32} (h : i ≤ 60) (c : ¬ 60 ≤ nI i) (ct : t = 0) (hx : t = 0 ∧ strU f (60 - i) i = strU f 60 0 ∨ t = 1 ∧ strU f 60 0 = some i) (cd : ¬ deed (ngU f i) (tnF (ngU f i)) = 1) : strU f (60 - (i + 1)) (i + 1) = strU f 60 0 := by
  have hi := str_lt h c
  rcases hx with ⟨_, e⟩ | ⟨e, _⟩
  · rw [← e, show 60 - i = (60 - (i + 1)) + 1 by omega, strU, if_neg cd]
  · rw [ct] at e; exact absurd e (by decide)
theorem str_hit {f : Nat → Int32} {i : Nat} {t : Int32} (h : i ≤ 60) (c : ¬ 60 ≤ nI i) (ct : t = 0) (hx : t = 0 ∧ strU f (60 - i) i = strU f 60 0 ∨ t = 1 ∧ strU f 60 0 = some i) (cd : deed (ngU f i) (tnF (ngU f i)) = 1) : strU f 60 0 = some (i + 1) := by
  have hi := str_lt h c
  rcases hx with ⟨_, e⟩ | ⟨e, _⟩
  · rw [← e, show 60 - i = (60 - (i + 1)) + 1 by omega, strU, if_pos cd]
  · rw [ct] at e; exact absurd e (by decide)
theorem str_none {f : Nat → Int32} {i : Nat} {t : Int32} (h : i ≤ 60) (c : 60 ≤ nI i) (ct : t = 0) (hx : t = 0 ∧ strU f (60 - i) i = strU f 60 0 ∨ t = 1 ∧ strU f 60 0 = some i) : strU f 60 0 = none := by
  have hi := (nI_leI (a := 60) (b := i) (by omega) (by omega)).mp c
  rcases hx with ⟨_, e⟩ | ⟨e, _⟩
  · rw [← e, show 60 - i = 0 by omega, strU]
  · rw [ct] at e; exact absurd e (by decide)
theorem str_some {f : Nat → Int32} {i : Nat} {t : Int32} (hx : t = 0 ∧ strU f (60 - i) i = strU f 60 0 ∨ t = 1 ∧ strU f 60 0 = some i) (ct : ¬ t = 0) : strU f 60 0 = some i := hx.elim (fun q => absurd q.1 ct) (fun q => q.2)
theorem emp_lt {i : Nat} (c : ¬ 60 < nI i) (h : i ≤ 61) : i ≤ 60 := by
  rcases Nat.lt_or_ge 60 i with z | z
  · exact absurd (nI_lt (a := 60) (b := i) z (by omega)) c
  · exact z
theorem emp_go {f : Nat → Int32} {i : Nat} (h : i ≤ 60) (hx : empU f (61 - i) i = empU f 61 0) (c : ¬ sumU (ngU f i) 27 5 + sumU (ngU f i) 44 5 ≤ 0) : empU f (61 - (i + 1)) (i + 1) = empU f 61 0 := by
  rw [← hx, show 61 - i = (61 - (i + 1)) + 1 by omega, empU, if_neg c]
theorem emp_none {f : Nat → Int32} {i : Nat} (h : i ≤ 61) (hx : empU f (61 - i) i = empU f 61 0) (c : ¬ nI i ≤ 60) : empU f 61 0 = none := by
  have : i = 61 := by
    rcases Nat.lt_or_ge i 61 with z | z
    · exact absurd (nI_le (a := i) (b := 60) (by omega) (by omega)) c
    · omega
  rw [← hx, this]
  rfl
theorem emp_some {f : Nat → Int32} {i : Nat} (h : i ≤ 61) (hx : empU f (61 - i) i = empU f 61 0) (c : nI i ≤ 60) (cs : sumU (ngU f i) 27 5 + sumU (ngU f i) 44 5 ≤ 0) : empU f 61 0 = some i := by
  have hi := (nI_leI (a := i) (b := 60) (by omega) (by omega)).mp c
  rw [← hx, show 61 - i = (60 - i) + 1 by omega, empU, if_pos cs]
theorem ref_eq {P : Prop} [Decidable P] {n mo q : Int32} : (if (if P then (1 : Int32) else 0) = 0 ∨ ¬ (1 ≤ n ∧ n ≤ mo) then (-1000001 : Int32) else if 9999 < q then -1000005 else 0) = if P ∧ 1 ≤ n ∧ n ≤ mo then (if 9999 < q then -1000005 else 0) else -1000001 := by
  by_cases c : P
  · by_cases d : 1 ≤ n ∧ n ≤ mo
    · have e : ¬ ((if P then (1 : Int32) else 0) = 0 ∨ ¬ (1 ≤ n ∧ n ≤ mo)) := fun z => z.elim (fun w => b01f rfl w c) (fun w => w d)
      rw [if_neg e, if_pos (show P ∧ 1 ≤ n ∧ n ≤ mo from ⟨c, d⟩)]
    · have e : (if P then (1 : Int32) else 0) = 0 ∨ ¬ (1 ≤ n ∧ n ≤ mo) := Or.inr d
      rw [if_pos e, if_neg (show ¬ (P ∧ 1 ≤ n ∧ n ≤ mo) from fun z => d z.2)]
  · have e : (if P then (1 : Int32) else 0) = 0 ∨ ¬ (1 ≤ n ∧ n ≤ mo) := Or.inl (if_neg c)
    rw [if_pos e, if_neg (show ¬ (P ∧ 1 ≤ n ∧ n ≤ mo) from fun z => c z.1)]
theorem laid_0 (f : Nat → Int32) (s t : Nat) (n : Int32) {j : Nat} (hj : j < 22) : laid f s t n j = f j := by
  unfold laid
  rw [pk_un (by omega), pk_un (by omega)]
theorem Rg_laid {f : Nat → Int32} (r : Rg f) {s t j : Nat} (hs : s < 2) (ht : t < 5) (hj : nI j ≤ f (22 + 17 * s + t)) (hl : j < 100) (h0 : f (27 + 17 * s + t) = 0) : Rg (laid f s t (nI j)) := by
  refine (r.home hs ht ?_).heap hs ht ?_
  · obtain ⟨n, hn, e⟩ := (r.1 s t hs ht).1
    rw [e] at hj ⊢
    have := (nI_leI (a := j) (b := n) (by omega) (by omega)).mp hj
    rw [pk_sub this]
    exact ⟨_, by omega, rfl⟩
  · rw [h0, show (0 : Int32) = nI 0 from rfl, nI_add]
    exact ⟨_, by omega, rfl⟩
theorem go_heap (f : Nat → Int32) {s t : Nat} (hs : s < 2) (ht : t < 5) : goU f s s 5 (27 + 17 * s + t) = 0 := by
  rw [goU_at f hs hs 5 (by omega), if_pos (by omega)]
theorem Rg_lay3 {f : Nat → Int32} (r : Rg f) {s k : Nat} (hs : s < 2) (hk : k < 64) (h : may3 (goU f s s 5) s k) : Rg (lay3 (goU f s s 5) s k) := by
  have g := Rg_goU r hs hs 5 (by omega)
  have a := Rg_laid g (t := 0) (j := k % 4) hs (by omega) h.1 (by omega) (go_heap f hs (by omega))
  have b := Rg_laid a (t := 1) (j := k / 4 % 4) hs (by omega) (by rw [laid, pk_un (by omega), pk_un (by omega), show 22 + 17 * s + 1 = 23 + 17 * s by omega]; exact h.2.1) (by omega) (by rw [laid, pk_un (by omega), pk_un (by omega)]; exact go_heap f hs (by omega))
  exact Rg_laid b (t := 2) (j := k / 16) hs (by omega) (by rw [laid, pk_un (by omega), pk_un (by omega), laid, pk_un (by omega), pk_un (by omega), show 22 + 17 * s + 2 = 24 + 17 * s by omega]; exact h.2.2) (by omega) (by rw [laid, pk_un (by omega), pk_un (by omega), laid, pk_un (by omega), pk_un (by omega)]; exact go_heap f hs (by omega))
theorem nN_e {f g : Nat → Int32} (h : g 0 = f 0) : nN g = nN f := by unfold nN; rw [h]
theorem beR {f : Nat → Int32} (r : Rg f) {s k n : Nat} (hs : s < 2) (hk : k < 64) (hN : nN f + n ≤ 9999) (h : may3 (goU f s s 5) s k) : ∀ j, j < n → Rg (ngU (lay3 (goU f s s 5) s k) j) :=
  Rg_all (Rg_lay3 r hs hk h) (by rw [nN_e (f := f) (by rw [lay3, laid_0 _ _ _ _ (by omega), laid_0 _ _ _ _ (by omega), laid_0 _ _ _ _ (by omega), goU_ge _ _ _ (by omega)])]; exact hN)
theorem goR {f : Nat → Int32} (r : Rg f) {w s n : Nat} (hw : w < 2) (hs : s < 2) (hN : nN f + n ≤ 9999) : ∀ j, j < n → Rg (ngU (goU f w s 5) j) :=
  Rg_all (Rg_goU r hw hs 5 (by omega)) (by rw [nN_e (f := f) (goU_ge _ _ _ (by omega) _)]; exact hN)
theorem may3_0 {f : Nat → Int32} (r : Rg f) {s : Nat} (hs : s < 2) : may3 (goU f s s 5) s 0 := by
  have g := Rg_goU r hs hs 5 (by omega)
  exact ⟨(g.1 s 0 hs (by omega)).1.pos (by omega), (by rw [show 23 + 17 * s = 22 + 17 * s + 1 by omega]; exact (g.1 s 1 hs (by omega)).1.pos (by omega)), (by rw [show 24 + 17 * s = 22 + 17 * s + 2 by omega]; exact (g.1 s 2 hs (by omega)).1.pos (by omega))⟩
theorem be_eq {f : Nat → Int32} (r : Rg f) {s : Nat} (hs : s < 2) (n : Nat) (w : Nat → Int32) : ∀ k, k < 64 → beV f s n w (k + 1) 5 = (beU f s n (k + 1)).1 ∧ beV f s n w (k + 1) 6 = (beU f s n (k + 1)).2 ∧ ∃ j, j < 64 ∧ (beU f s n (k + 1)).1 = nI j ∧ may3 (goU f s s 5) s j ∧ (beU f s n (k + 1)).2 = beVal f s n j
  | 0, _ => by
    have m := may3_0 r hs
    have e1 : beV f s n w 1 = upd (upd (upd w 5 (-1)) 5 (nI 0)) 6 (beVal f s n 0) := if_pos ⟨m, Or.inl (by rw [show beV f s n w 0 5 = -1 from pk_us]; decide)⟩
    have e2 : beU f s n 1 = (nI 0, beVal f s n 0) := if_pos ⟨m, Or.inl rfl⟩
    rw [e1, e2]
    exact ⟨by rw [pk_un (by omega), pk_us], pk_us, 0, by omega, rfl, m, rfl⟩
  | k + 1, hk => by
    obtain ⟨i1, i2, j, h1, h2, h3, h4⟩ := be_eq r hs n w k (by omega)
    have hn : ¬ beV f s n w (k + 1) 5 < 0 := by rw [i1, h2]; exact nI_pos (by omega)
    by_cases c : may3 (goU f s s 5) s (k + 1) ∧ (beU f s n (k + 1)).2 < beVal f s n (k + 1)
    · have e1 : beV f s n w (k + 1 + 1) = upd (upd (beV f s n w (k + 1)) 5 (nI (k + 1))) 6 (beVal f s n (k + 1)) := if_pos ⟨c.1, Or.inr (by rw [i2]; exact c.2)⟩
      have e2 : beU f s n (k + 1 + 1) = (nI (k + 1), beVal f s n (k + 1)) := if_pos ⟨c.1, Or.inr c.2⟩
      rw [e1, e2]
      exact ⟨by rw [pk_un (by omega), pk_us], pk_us, k + 1, hk, rfl, c.1, rfl⟩
    · have e1 : beV f s n w (k + 1 + 1) = beV f s n w (k + 1) := if_neg (fun z => c ⟨z.1, z.2.elim (fun y => absurd y hn) (fun y => by rw [i2] at y; exact y)⟩)
      have e2 : beU f s n (k + 1 + 1) = beU f s n (k + 1) := if_neg (fun z => c ⟨z.1, z.2.elim (fun y => absurd y (by omega)) (fun y => y)⟩)
      rw [e1, e2]
      exact ⟨i1, i2, j, h1, h2, h3, h4⟩
theorem all_sub {f : Nat → Int32} {s i : Nat} {x : Int32} (hs : s < 2) (hi : i = 20 ∨ i = 21 ∨ i = 37 ∨ i = 38) : ∀ k, k ≤ 5 → allU (upd f i x) s k = allU f s k
  | 0, _ => rfl
  | k + 1, hk => by
    rw [allU, allU, all_sub hs hi k (by omega), pF, pF, pk_un (by omega), pk_un (by omega), pk_un (by omega), pk_un (by omega), pk_un (by omega)]
theorem Rg_gr {f : Nat → Int32} (r : Rg f) {s k n : Nat} (hs : s < 2) (hk : k ≤ 50) (hN : nN f + n ≤ 9999) : ∀ j, j < n → Rg (ngU (upd f (20 + 17 * s) (nI k)) j) := Rg_all (r.greed hs ⟨k, hk, rfl⟩) (by rw [nN_e (f := f) (pk_un (by omega))]; exact hN)
theorem Rg_grn {f : Nat → Int32} (r : Rg f) {s k n : Nat} (hs : s < 2) (hk : k ≤ 50) (hN : nN f + n ≤ 9999) : 0 ≤ grVal f s n k := all_nn (Rg_ngU (r.greed hs ⟨k, hk, rfl⟩) n (by rw [nN_e (f := f) (pk_un (by omega))]; exact hN)).1 hs
theorem Rg_kf {f : Nat → Int32} (r : Rg f) {t k n : Nat} (ht : t < 5) (hk : k ≤ 6) (hN : nN f + n ≤ 9999) : ∀ j, j < n → Rg (ngU (upd f (15 + t) (nI k)) j) := Rg_all (r.kind ht ⟨k, hk, rfl⟩) (by rw [nN_e (f := f) (pk_un (by omega))]; exact hN)
theorem beV_o (f : Nat → Int32) (s n : Nat) (w : Nat → Int32) {j : Nat} (h5 : j ≠ 5) (h6 : j ≠ 6) : ∀ k, beV f s n w k j = w j
  | 0 => pk_un h5
  | k + 1 => by
    unfold beV
    by_cases c : may3 (goU f s s 5) s k ∧ (beV f s n w k 5 < 0 ∨ beV f s n w k 6 < beVal f s n k)
    · rw [if_pos c, pk_un h6, pk_un h5]; exact beV_o f s n w h5 h6 k
    · rw [if_neg c]; exact beV_o f s n w h5 h6 k
theorem ne_z {x : Int32} (_ : True) (h : ¬ x ≤ 0) : ¬ x = 0 := fun e => h (by rw [e]; exact Int32.le_refl _)
theorem h_pos {f : Nat → Int32} (r : Rg f) (s t : Nat) (hs : s < 2) (ht : t < 5) : 0 ≤ f (22 + 17 * s + t) := (r.1 s t hs ht).1.pos (by omega)
theorem bd_same {f : Nat → Int32} {i j : Nat} (h : i = j) : ¬ 0 < bdA f i j := by
  subst h
  unfold bdA
  rw [Int32.sub_self]
  decide
theorem nI_of_eq {a b : Nat} (h : nI a = nI b) (ha : a < 2147483648) (hb : b < 2147483648) : a = b := (nI_eq ha hb).mp h
theorem q3m {q : Nat} (h0 : ¬ nI q = 0) (h1 : ¬ nI q = 1) (h2 : ¬ nI q = 2) : 3 ≤ q := by
  rcases Nat.lt_or_ge q 3 with z | z
  · rcases (show q = 0 ∨ q = 1 ∨ q = 2 by omega) with rfl | rfl | rfl
    · exact absurd rfl h0
    · exact absurd rfl h1
    · exact absurd rfl h2
  · exact z
theorem all_stl {f : Nat → Int32} {s : Nat} (hs : s < 2) : allU (goU f (1 - s) s 5) s 5 = allU (stlF f s) s 5 := (all_sub hs (by omega) 5 (by omega)).symm
/-- of so many laid on a heap that is empty -/
theorem may_x {f g : Nat → Int32} {s t j : Nat} (h0 : f (27 + 17 * s + t) = 0) (ht : 0 < f (21 + 17 * s)) (hg : f (22 + 17 * s + t) = g (22 + 17 * s + t)) (hj : j < 100) : may f s t (nI j) ↔ nI j ≤ g (22 + 17 * s + t) := by
  unfold may
  rw [hg, h0, show (0 : Int32) = nI 0 from rfl, nI_add]
  exact ⟨fun q => q.1, fun q => ⟨q, ht, nI_le (by omega) (b := 99) (by omega)⟩⟩
theorem lay_a {f : Nat → Int32} {s t u : Nat} {n : Int32} {b : Nat} (hb : b ≠ 22 + 17 * s + t) (hb2 : b ≠ 27 + 17 * s + t) (_ : u = u) : laid f s t n b = f b := by
  unfold laid
  rw [pk_un hb2, pk_un hb]
theorem tru_pos {f : Nat → Int32} (r : Rg f) {s : Nat} (hs : s < 2) (h : ¬ f (21 + 17 * s) = 0) : 0 < f (21 + 17 * s) := by
  obtain ⟨n, hn, e⟩ := (r.2.2.1 s hs).2
  rw [e] at h ⊢
  cases n with
  | zero => exact absurd rfl h
  | succ n => exact nI_lt (a := 0) (by omega) (by omega)
theorem go_tru (f : Nat → Int32) {w s : Nat} (u : Nat) (hw : w < 2) (hs : s < 2) (hu : u < 2) : goU f w s 5 (21 + 17 * u) = f (21 + 17 * u) := by
  rw [goU_at f hw hs 5 (by omega), if_neg (by omega), if_neg (by omega)]
theorem shr_k {k : Nat} (hk : k < 64) : ∀ t, t < 3 → nI k >>> (nI (2 * t) &&& 31) = nI (k / 4 ^ t) := by
  intro t ht
  rcases (show t = 0 ∨ t = 1 ∨ t = 2 by omega) with rfl | rfl | rfl
  · rw [pk_shrN (by omega) _ 0 (by decide)]
  · rw [pk_shrN (by omega) _ 2 (by decide)]
  · rw [pk_shrN (by omega) _ 4 (by decide)]
theorem grU_1 {f : Nat → Int32} {s n : Nat} (h : 0 ≤ grVal f s n 0) : grU f s n 1 = (nI 0, grVal f s n 0) := if_pos (by
  show (-1 : Int32) < _
  rcases Int32.lt_or_eq_of_le h with q | q
  · exact Int32.lt_trans (by decide) q
  · rw [← q]; decide)
theorem bd_pos (f : Nat → Int32) (i : Nat) {b : Int32 × Int32} (hb : 0 ≤ b.2) : ∀ j, 0 ≤ (bdJ f i b j).2
  | 0 => hb
  | j + 1 => by
    unfold bdJ
    by_cases c : bdC f i j (bdJ f i b j).2
    · rw [if_pos c]
      exact Int32.le_of_lt (Int32.lt_of_le_of_lt (bd_pos f i hb j) c.2.2.2.2)
    · rw [if_neg c]; exact bd_pos f i hb j
theorem bdI_pos (f : Nat → Int32) : ∀ i, 0 ≤ (bdI f i).2
  | 0 => Int32.le_refl 0
  | i + 1 => bd_pos f i (bdI_pos f i) 5
def grX (f : Nat → Int32) (s n : Nat) : Nat → Int32 × Int32
  | 0 => (0, 0)
  | k + 1 => if k = 0 ∨ (grX f s n k).2 < grVal f s n k then (nI k, grVal f s n k) else grX f s n k
theorem gr_xk {f : Nat → Int32} (r : Rg f) {s n : Nat} (hs : s < 2) (hN : nN f + n ≤ 9999) : ∀ k, k ≤ 50 → grX f s n (k + 1) = grU f s n (k + 1)
  | 0, _ => by
    rw [grU_1 (Rg_grn r hs (k := 0) (by omega) hN)]
    rfl
  | k + 1, hk => by
    have ih := gr_xk r hs hN k (by omega)
    have eX : grX f s n (k + 1 + 1) = if k + 1 = 0 ∨ (grX f s n (k + 1)).2 < grVal f s n (k + 1) then (nI (k + 1), grVal f s n (k + 1)) else grX f s n (k + 1) := rfl
    have eU : grU f s n (k + 1 + 1) = if (grU f s n (k + 1)).2 < grVal f s n (k + 1) then (nI (k + 1), grVal f s n (k + 1)) else grU f s n (k + 1) := rfl
    rw [eX, eU, ih]
    by_cases c : (grU f s n (k + 1)).2 < grVal f s n (k + 1)
    · rw [if_pos c, if_pos (Or.inr c)]
    · rw [if_neg c, if_neg (fun q => q.elim (fun z => absurd z (by omega)) c)]
theorem gr_x {f : Nat → Int32} (r : Rg f) {s n : Nat} (hs : s < 2) (hN : nN f + n ≤ 9999) : grX f s n 51 = grU f s n 51 := gr_xk r hs hN 50 (by omega)
def kfX (f : Nat → Int32) (t n : Nat) : Nat → Int32 × Int32
  | 0 => (0, 0)
  | k + 1 => if k = 0 ∨ (kfX f t n k).2 < kfVal f t n k then (nI k, kfVal f t n k) else kfX f t n k
theorem kf_xk (f : Nat → Int32) (t n : Nat) : ∀ k, k ≤ 6 → kfX f t n (k + 1) = kfU f t n (k + 1) ∧ ¬ (kfU f t n (k + 1)).1 < 0
  | 0, _ => by
    have e : kfU f t n 1 = (nI 0, kfVal f t n 0) := if_pos (Or.inl (show (-1 : Int32) < 0 by decide))
    rw [e]
    exact ⟨rfl, nI_pos (by omega)⟩
  | k + 1, hk => by
    obtain ⟨ih, h0⟩ := kf_xk f t n k (by omega)
    have eX : kfX f t n (k + 1 + 1) = if k + 1 = 0 ∨ (kfX f t n (k + 1)).2 < kfVal f t n (k + 1) then (nI (k + 1), kfVal f t n (k + 1)) else kfX f t n (k + 1) := rfl
    have eU : kfU f t n (k + 1 + 1) = if (kfU f t n (k + 1)).1 < 0 ∨ (kfU f t n (k + 1)).2 < kfVal f t n (k + 1) then (nI (k + 1), kfVal f t n (k + 1)) else kfU f t n (k + 1) := rfl
    rw [eX, eU, ih]
    by_cases c : (kfU f t n (k + 1)).2 < kfVal f t n (k + 1)
    · rw [if_pos (Or.inr c), if_pos (Or.inr c)]
      exact ⟨rfl, nI_pos (by omega)⟩
    · rw [if_neg (fun q => q.elim (fun z => absurd z (by omega)) c), if_neg (fun q => q.elim h0 c)]
      exact ⟨rfl, h0⟩
theorem kf_x {f : Nat → Int32} {t n : Nat} : kfX f t n 7 = kfU f t n 7 := (kf_xk f t n 6 (by omega)).1
theorem bx_up {f : Nat → Int32} {i j : Nat} {b : Int32 × Int32} (h0 : 0 ≤ (bdJ f i b j).2) (h : (bdJ f i b j).2 < if ¬ f (22 + i) = 0 ∧ ¬ f (39 + j) = 0 ∧ 0 < bdA f i j ∧ 0 < bdB f i j then bdA f i j + bdB f i j else 0) : bdJ f i b (j + 1) = (nI (10 * i + j), bdA f i j + bdB f i j) := by
  by_cases c : ¬ f (22 + i) = 0 ∧ ¬ f (39 + j) = 0 ∧ 0 < bdA f i j ∧ 0 < bdB f i j
  · rw [if_pos c] at h
    exact if_pos ⟨c.1, c.2.1, c.2.2.1, c.2.2.2, h⟩
  · rw [if_neg c] at h
    exact absurd h0 (Int32.not_le.mpr h)
theorem bx_val {f : Nat → Int32} {i j : Nat} {b : Int32 × Int32} (h0 : 0 ≤ (bdJ f i b j).2) (h : (bdJ f i b j).2 < if ¬ f (22 + i) = 0 ∧ ¬ f (39 + j) = 0 ∧ 0 < bdA f i j ∧ 0 < bdB f i j then bdA f i j + bdB f i j else 0) : (if ¬ f (22 + i) = 0 ∧ ¬ f (39 + j) = 0 ∧ 0 < bdA f i j ∧ 0 < bdB f i j then bdA f i j + bdB f i j else 0) = bdA f i j + bdB f i j := by
  by_cases c : ¬ f (22 + i) = 0 ∧ ¬ f (39 + j) = 0 ∧ 0 < bdA f i j ∧ 0 < bdB f i j
  · exact if_pos c
  · rw [if_neg c] at h
    exact absurd h0 (Int32.not_le.mpr h)
theorem bx_no {f : Nat → Int32} {i j : Nat} {b : Int32 × Int32} (_ : 0 ≤ (bdJ f i b j).2) (h : ¬ (bdJ f i b j).2 < if ¬ f (22 + i) = 0 ∧ ¬ f (39 + j) = 0 ∧ 0 < bdA f i j ∧ 0 < bdB f i j then bdA f i j + bdB f i j else 0) : bdJ f i b (j + 1) = bdJ f i b j := by
  refine if_neg (fun q => h ?_)
  rw [if_pos ⟨q.1, q.2.1, q.2.2.1, q.2.2.2.1⟩]
  exact q.2.2.2.2
theorem str_end {f : Nat → Int32} (hx : strU f (60 - 60) 60 = strU f 60 0) : strU f 60 0 = none := by rw [← hx, Nat.sub_self, strU]
theorem emp_end {f : Nat → Int32} (hx : empU f (61 - 61) 61 = empU f 61 0) : empU f 61 0 = none := by rw [← hx, Nat.sub_self, empU]
theorem str_som {f : Nat → Int32} {k : Nat} (hk : k < 60) (hx : strU f (60 - k) k = strU f 60 0) (h : tkU (ngU f k) 1 = 1) : strU f 60 0 = some (k + 1) := by
  rw [← hx, show 60 - k = (60 - (k + 1)) + 1 by omega, strU, if_pos ((tk1 _).mp h)]
theorem str_nxt {f : Nat → Int32} {k : Nat} (hk : k < 60) (hx : strU f (60 - k) k = strU f 60 0) (h : ¬ tkU (ngU f k) 1 = 1) : strU f (60 - (k + 1)) (k + 1) = strU f 60 0 := by
  rw [← hx, show 60 - k = (60 - (k + 1)) + 1 by omega, strU, if_neg (mt (tk1 _).mpr h)]
theorem emp_som {f : Nat → Int32} {k : Nat} (hk : k < 61) (hx : empU f (61 - k) k = empU f 61 0) (r : Rg (ngU f k)) (h : sumU (ngU f k) 27 5 = 0) (h2 : sumU (ngU f k) 44 5 = 0) : empU f 61 0 = some k := by
  rw [← hx, show 61 - k = (61 - (k + 1)) + 1 by omega, empU, if_pos ((emp_iff r).mpr ⟨h, h2⟩)]
theorem emp_nxt {f : Nat → Int32} {k : Nat} (hk : k < 61) (hx : empU f (61 - k) k = empU f 61 0) (r : Rg (ngU f k)) (h : ¬ (sumU (ngU f k) 27 5 = 0 ∧ sumU (ngU f k) 44 5 = 0)) : empU f (61 - (k + 1)) (k + 1) = empU f 61 0 := by
  rw [← hx, show 61 - k = (61 - (k + 1)) + 1 by omega, empU, if_neg (mt (emp_iff r).mp h)]
