/-! ===== what the public calls answer, and what becomes of the state: f (all that an image keeps), c (findings: 0 all, q + 1 each) ===== -/
abbrev tn (x : Int32) : Nat := x.toNatClampNeg
abbrev T2 : Type := Int32 × (Nat → Int32) × (Nat → Int32)
def bq (f c : Nat → Int32) (r : Int32) (q : Nat) : T2 := (r, f, fnd c q)
abbrev gS (x : Int32) : Prop := 0 ≤ x ∧ x ≤ 1
abbrev gT (x : Int32) : Prop := 0 ≤ x ∧ x ≤ 4
abbrev gK (x : Int32) : Prop := 0 ≤ x ∧ x ≤ 6
def sKind (f c : Nat → Int32) (t v : Int32) : T2 := if gT t ∧ gK v then (f (15 + tn t), upd f (15 + tn t) v, c) else bq f c (-1000001) 1
def fld (w : Int32) : Nat := if w = 0 then 2 else if w = 1 then 7 else 12
def kOf (f c : Nat → Int32) (s t : Nat) (w : Int32) : T2 := (f (20 + 17 * s + fld w + t), f, c)
def sOf (f c : Nat → Int32) (s t w : Int32) : T2 := if gS s ∧ gT t ∧ 0 ≤ w ∧ w ≤ 2 then kOf f c (tn s) (tn t) w else bq f c (-1000001) 1
def kChange (f c : Nat → Int32) (s t : Nat) (w v : Int32) : T2 := (f (20 + 17 * s + fld w + t), upd f (20 + 17 * s + fld w + t) v, c)
def sChange (f c : Nat → Int32) (s t w v : Int32) : T2 := if gS s ∧ gT t ∧ (0 ≤ w ∧ w ≤ 2) ∧ 0 ≤ v ∧ v ≤ (if w = 2 then 20 else 99) then kChange f c (tn s) (tn t) w v else bq f c (-1000001) 1
def kSide (f c : Nat → Int32) (s w : Nat) (v : Int32) : T2 := (f (20 + 17 * s + w), upd f (20 + 17 * s + w) v, c)
def sSide (f c : Nat → Int32) (s w v : Int32) : T2 := if gS s ∧ (w = 0 ∧ (0 ≤ v ∧ v ≤ 50) ∨ w = 1 ∧ 0 ≤ v ∧ v ≤ 9) then kSide f c (tn s) (tn w) v else bq f c (-1000001) 1
def sFrost (f c : Nat → Int32) (v : Int32) : T2 := if 0 ≤ v ∧ v ≤ 9 then (f 1, upd f 1 v, c) else bq f c (-1000001) 1
def kPrice (f c : Nat → Int32) (s t : Nat) (n : Int32) : T2 := (pF f s t n, f, c)
def sPrice (f c : Nat → Int32) (s t n : Int32) : T2 := if gS s ∧ gT t ∧ 0 ≤ n ∧ n ≤ 99 then kPrice f c (tn s) (tn t) n else bq f c (-1000001) 1
def kValue (f c : Nat → Int32) (s h : Nat) : T2 := (valU f s h 5, f, c)
def sValue (f c : Nat → Int32) (s h : Int32) : T2 := if gS s ∧ gS h then kValue f c (tn s) (tn h) else bq f c (-1000001) 1
def kEaten (f c : Nat → Int32) (t : Nat) (n : Int32) : T2 := (eat (f (15 + t)) (f 1) n, f, c)
def sEaten (f c : Nat → Int32) (t n : Int32) : T2 := if gT t ∧ 0 ≤ n ∧ n ≤ 99 then kEaten f c (tn t) n else bq f c (-1000001) 1
def kLay (f c : Nat → Int32) (s t : Nat) (n : Int32) : T2 := if may f s t n then (f (27 + 17 * s + t) + n, laid f s t n, c) else bq f c (-1000005) 5
abbrev gN (n : Int32) : Prop := 1 ≤ n ∧ n ≤ 99
def sLay (f c : Nat → Int32) (s t n : Int32) : T2 := if gS s ∧ gT t ∧ gN n then kLay f c (tn s) (tn t) n else bq f c (-1000001) 1
def bakF (f : Nat → Int32) (s t : Nat) (n : Int32) : Nat → Int32 := upd (upd f (22 + 17 * s + t) (f (22 + 17 * s + t) + n)) (27 + 17 * s + t) (f (27 + 17 * s + t) - n)
def kBack (f c : Nat → Int32) (s t : Nat) (n : Int32) : T2 := if n ≤ f (27 + 17 * s + t) ∧ f (22 + 17 * s + t) + n ≤ 99 then (f (27 + 17 * s + t) - n, bakF f s t n, c) else bq f c (-1000005) 5
def sBack (f c : Nat → Int32) (s t n : Int32) : T2 := if gS s ∧ gT t ∧ gN n then kBack f c (tn s) (tn t) n else bq f c (-1000001) 1
def kContent (f c : Nat → Int32) (s : Nat) : T2 := (if con f s then 1 else 0, f, c)
def sContent (f c : Nat → Int32) (s : Int32) : T2 := if gS s then kContent f c (tn s) else bq f c (-1000001) 1
def kDoes (f c : Nat → Int32) (s : Nat) : T2 := (deed f s, f, c)
def sDoes (f c : Nat → Int32) (s : Int32) : T2 := if gS s then kDoes f c (tn s) else bq f c (-1000001) 1
def kLess (f c : Nat → Int32) (s : Nat) : T2 := if deed f s = 2 then ((deaU f s 5).1, f, c) else bq f c (-1000004) 4
def sLess (f c : Nat → Int32) (s : Int32) : T2 := if gS s then kLess f c (tn s) else bq f c (-1000001) 1
def stlF (f : Nat → Int32) (s : Nat) : Nat → Int32 := upd (goU f (1 - s) s 5) (21 + 17 * (1 - s)) 0
def kSteal (f c : Nat → Int32) (s : Nat) : T2 := if sumU f (27 + 17 * (1 - s)) 5 = 0 then bq f c (-1000005) 5 else (valU f s (1 - s) 5, stlF f s, c)
def sSteal (f c : Nat → Int32) (s : Int32) : T2 := if gS s then kSteal f c (tn s) else bq f c (-1000001) 1
def gifF (f : Nat → Int32) (s t : Nat) (n : Int32) : Nat → Int32 := truF (comeH (upd f (22 + 17 * s + t) (f (22 + 17 * s + t) - n)) (1 - s) t n) (1 - s)
def kGift (f c : Nat → Int32) (s t : Nat) (n : Int32) : T2 := if n ≤ f (22 + 17 * s + t) then (gifF f s t n (21 + 17 * (1 - s)), gifF f s t n, c) else bq f c (-1000005) 5
def sGift (f c : Nat → Int32) (s t n : Int32) : T2 := if gS s ∧ gT t ∧ gN n then kGift f c (tn s) (tn t) n else bq f c (-1000001) 1
def kNights (f c : Nat → Int32) (n : Nat) : T2 := if 9999 < f 0 + nI n then bq f c (-1000005) 5 else (tkU f n, ngU f n, c)
def sNights (f c : Nat → Int32) (n : Int32) : T2 := if 1 ≤ n ∧ n ≤ 60 then kNights f c (tn n) else bq f c (-1000001) 1
def sNow (f c : Nat → Int32) (w : Int32) : T2 := if w = 0 then (f 0, f, c) else if w = 1 then (sumU f 27 5, f, c) else if w = 2 then (sumU f 44 5, f, c) else if w = 3 then (sumU f 22 5 + sumU f 39 5, f, c) else if w = 4 then (mn 12 (f 0), f, c) else if w = 5 then (f 1, f, c) else if w = 6 then (f 2, f, c) else bq f c (-1000001) 1
def sSeed (f : Nat → Int32) (v : Int32) : Int32 × (Nat → Int32) := (f 4, upd f 4 v)
def sHold (f c : Nat → Int32) (i t : Int32) : T2 := if (0 ≤ i ∧ i ≤ 9) ∧ (t = -1 ∨ gT t) then (1, upd f (5 + tn i) t, c) else bq f c (-1000001) 1
def kAs (f c : Nat → Int32) (i : Nat) (k : Int32) : T2 := if f (5 + i) < 0 then bq f c (-1000006) 6 else if un (f (15 + tn (f (5 + i)))) k = 0 then bq f c (-1000003) 3 else (f (5 + i), f, c)
def sAs (f c : Nat → Int32) (i k : Int32) : T2 := if (0 ≤ i ∧ i ≤ 9) ∧ gK k then kAs f c (tn i) k else bq f c (-1000001) 1
def sStatus (c : Nat → Int32) (w : Int32) : Int32 × (Nat → Int32) := if -1 ≤ w ∧ w ≤ 6 then (c (tn (w + 1)), c) else (-1000001, fnd c 1)
theorem gS_n {x : Int32} (h : 0 ≤ x ∧ x ≤ 1) : ∃ s, s < 2 ∧ x = nI s := by
  obtain ⟨j, h1, h2⟩ := nI_of2 (x := x) (M := 1) (n := 1) rfl (Int32.not_lt.mpr h.1) h.2
  exact ⟨j, by omega, h2⟩
theorem gT_n {x : Int32} (h : 0 ≤ x ∧ x ≤ 4) : ∃ s, s < 5 ∧ x = nI s := by
  obtain ⟨j, h1, h2⟩ := nI_of2 (x := x) (M := 4) (n := 4) rfl (Int32.not_lt.mpr h.1) h.2
  exact ⟨j, by omega, h2⟩
theorem g9_n {x : Int32} (h : 0 ≤ x ∧ x ≤ 9) : ∃ s, s < 10 ∧ x = nI s := by
  obtain ⟨j, h1, h2⟩ := nI_of2 (x := x) (M := 9) (n := 9) rfl (Int32.not_lt.mpr h.1) h.2
  exact ⟨j, by omega, h2⟩
theorem g60_n {x : Int32} (h : 1 ≤ x ∧ x ≤ 60) : ∃ s, 1 ≤ s ∧ s ≤ 60 ∧ x = nI s := by
  obtain ⟨j, h1, h2⟩ := nI_of2 (x := x) (M := 60) (n := 60) rfl (Int32.not_lt.mpr (Int32.le_trans (by decide) h.1)) h.2
  refine ⟨j, ?_, h1, h2⟩
  have h3 := h.1
  rw [h2] at h3
  exact (nI_leI (a := 1) (by omega) (by omega)).mp h3
theorem g30_n {x : Int32} (h : 1 ≤ x ∧ x ≤ 30) : ∃ s, 1 ≤ s ∧ s ≤ 30 ∧ x = nI s := by
  obtain ⟨j, h1, h2⟩ := nI_of2 (x := x) (M := 30) (n := 30) rfl (Int32.not_lt.mpr (Int32.le_trans (by decide) h.1)) h.2
  refine ⟨j, ?_, h1, h2⟩
  have h3 := h.1
  rw [h2] at h3
  exact (nI_leI (a := 1) (by omega) (by omega)).mp h3
theorem g060_n {x : Int32} (h : 0 ≤ x ∧ x ≤ 60) : ∃ s, s ≤ 60 ∧ x = nI s := nI_of2 (x := x) (M := 60) (n := 60) rfl (Int32.not_lt.mpr h.1) h.2
theorem fld_lt (w : Int32) : fld w ≤ 12 := by unfold fld; repeat' split
                                              all_goals omega
theorem fld_nI (w : Int32) : (if w = 0 then (2 : Int32) else if w = 1 then 7 else 12) = nI (fld w) := by
  unfold fld
  by_cases h : w = 0
  · rw [if_pos h, if_pos h]; rfl
  · rw [if_neg h, if_neg h]
    by_cases h1 : w = 1
    · rw [if_pos h1, if_pos h1]; rfl
    · rw [if_neg h1, if_neg h1]; rfl
theorem late_no {f : Nat → Int32} (r : Rg f) {n : Nat} (hn : n ≤ 60) (h : ¬ 9999 < f 0 + nI n) : nN f + n ≤ 9999 := by
  rw [(nN_of r).1, nI_add] at h
  have := (nN_of r).2
  have := (nI_leI (a := nN f + n) (b := 9999) (by omega) (by omega)).mp (Int32.not_lt.mp h)
  omega
theorem Rg_all {f : Nat → Int32} (r : Rg f) {n : Nat} (h : nN f + n ≤ 9999) : ∀ k, k < n → Rg (ngU f k) := fun k hk => (Rg_ngU r k (by omega)).1
theorem bak_eq (f : Nat → Int32) (s t : Nat) (n : Int32) : laid f s t (-n) = bakF f s t n := by
  unfold laid bakF
  rw [Int32.sub_neg, ← Int32.sub_eq_add_neg]
theorem st_n {x : Int32} (h : -1 ≤ x ∧ x ≤ 6) : ∃ q, q < 8 ∧ x + 1 = nI q := by
  have h1 : (-1 : Int) ≤ x.toInt := Int32.le_iff_toInt_le.mp h.1
  have h2 : x.toInt ≤ 6 := Int32.le_iff_toInt_le.mp h.2
  refine ⟨(x.toInt + 1).toNat, by omega, ?_⟩
  apply Int32.toInt_inj.mp
  rw [Int32.toInt_add, nI_toInt (by omega), show (1 : Int32).toInt = 1 from rfl]
  rw [Int.bmod_eq_of_le (by omega) (by omega)]
  omega
theorem ag_n {x : Int32} {o : Nat} (h : 0 ≤ x) (_ : x = nI o) : ¬ x < 0 := Int32.not_lt.mpr h
theorem fnd_x {ct : Nat → ClassId} {a : Nat} {c : Nat → Int32} {q r : Nat} (h : q + 1 = r) : weq [ai ct a 7 (upd (fun j => c (j + 1)) q (c (q + 1) + 1))] [ai ct a 7 (fun j => fnd c r (j + 1))] := by
  subst h
  refine weq.cons (ceq.arr (fun j hj => ?_)) weq.nil
  unfold fnd upd
  rw [if_neg (show ¬ j + 1 = 0 by omega)]
  by_cases e : j = q
  · rw [if_pos e, if_pos (by omega)]
  · rw [if_neg e, if_neg (by omega)]
theorem fldE {w : Int32} {k s t : Nat} (h : fld w = k) : 20 + 17 * s + fld w + t = 20 + k + 17 * s + t := by rw [h]; omega
theorem fld_0 {w : Int32} (h : w = 0) : fld w = 2 := if_pos h
theorem fld_1 {w : Int32} (h : w = 1) : fld w = 7 := by subst h; rfl
theorem fld_2 {w : Int32} (h : ¬ w = 0) (h1 : ¬ w = 1) : fld w = 12 := by unfold fld; rw [if_neg h, if_neg h1]
theorem kSide0 (f c : Nat → Int32) (s : Nat) (v : Int32) : (f (20 + 17 * s), upd f (20 + 17 * s) v, c) = kSide f c s (tn 0) v := rfl
theorem kSide1 (f c : Nat → Int32) (s : Nat) (v : Int32) : (f (21 + 17 * s), upd f (21 + 17 * s) v, c) = kSide f c s (tn 1) v := by
  unfold kSide
  rw [show 20 + 17 * s + tn 1 = 21 + 17 * s from by rw [show tn 1 = 1 from rfl]; omega]
theorem w01 {x : Int32} (h : 0 ≤ x ∧ x ≤ 1) (h0 : ¬ x = 0) : x = 1 := by
  obtain ⟨s, hs, rfl⟩ := gS_n h
  rcases (show s = 0 ∨ s = 1 by omega) with rfl | rfl
  · exact absurd rfl h0
  · rfl
def stU (c : Nat → Int32) : Nat → Int32
  | 0 => 0
  | k + 1 => stU c k + c (k + 1)
theorem st_p {x : Int32} (h : -1 ≤ x ∧ x ≤ 6) (h0 : ¬ x < 0) : ∃ j, j < 7 ∧ x = nI j ∧ nI j + 1 = nI (j + 1) := by
  obtain ⟨j, h1, h2⟩ := nI_of2 (x := x) (M := 6) (n := 6) rfl h0 h.2
  exact ⟨j, by omega, h2, nI_1 j⟩
theorem st_m {x : Int32} (h : -1 ≤ x ∧ x ≤ 6) (h0 : x < 0) : x + 1 = 0 := by
  have h1 : (-1 : Int) ≤ x.toInt := Int32.le_iff_toInt_le.mp h.1
  have h2 : x.toInt < 0 := Int32.lt_iff_toInt_lt.mp h0
  have e : x = -1 := Int32.toInt_inj.mp (by rw [show (-1 : Int32).toInt = -1 from rfl]; omega)
  rw [e]
  decide
