/-! ===== sheets, images, the tape: what the calls answer ===== -/
abbrev gH (x : Int32) : Prop := 0 ≤ x ∧ x ≤ 3
theorem gH_n {x : Int32} (h : 0 ≤ x ∧ x ≤ 3) : ∃ s, s < 4 ∧ x = nI s := by
  obtain ⟨j, h1, h2⟩ := nI_of2 (x := x) (M := 3) (n := 3) rfl (Int32.not_lt.mpr h.1) h.2
  exact ⟨j, by omega, h2⟩
/-- sheets: bits wd, sizes sz, numbers nm; what a call makes of them -/
abbrev T5 : Type := Int32 × (Nat → Int32) × (Nat → Int32) × (Nat → Int32) × (Nat → Int32)
def bs5 (wd sz nm c : Nat → Int32) (r : Int32) (q : Nat) : T5 := (r, wd, sz, nm, fnd c q)
/-- the first n numbers of sheet s are 0 -/
def zN (nm : Nat → Int32) (s n : Nat) : Nat → Int32 := fun q => if 40 * s ≤ q ∧ q < 40 * s + n then 0 else nm q
theorem zN_0 (nm : Nat → Int32) (s : Nat) : zN nm s 0 = nm := funext fun q => if_neg (by omega)
theorem zN_S (nm : Nat → Int32) (s n : Nat) : upd (zN nm s n) (40 * s + n) 0 = zN nm s (n + 1) := by
  funext q
  unfold upd zN
  by_cases h : q = 40 * s + n
  · rw [if_pos h, if_pos (by omega)]
  · rw [if_neg h]
    by_cases h2 : 40 * s ≤ q ∧ q < 40 * s + n
    · rw [if_pos h2, if_pos (by omega)]
    · rw [if_neg h2, if_neg (by omega)]
abbrev gB (b : Int32) : Prop := b = 0 ∨ b = 8 ∨ b = 16 ∨ b = 32
def kSheet (wd sz nm c : Nat → Int32) (s : Nat) (b n : Int32) : T5 := ((if b = 0 then 0 else n), upd wd s b, upd sz s (if b = 0 then 0 else n), zN nm s 40, c)
def sSheet (wd sz nm c : Nat → Int32) (s b n : Int32) : T5 := if gH s ∧ gB b then (if n < 0 then bs5 wd sz nm c (-1000007) 7 else if 40 < n then bs5 wd sz nm c (-1000001) 1 else kSheet wd sz nm c (tn s) b n) else bs5 wd sz nm c (-1000001) 1
def cutF (v b : Int32) : Int32 := if b = 8 then v.toInt8.toInt32 else if b = 16 then v.toInt16.toInt32 else v
def kWrite (wd sz nm c : Nat → Int32) (s : Nat) (i v : Int32) : T5 := if wd s = 0 then bs5 wd sz nm c (-1000006) 6 else if 0 ≤ i ∧ i ≤ sz s - 1 then (1, wd, sz, upd nm (40 * s + tn i) (cutF v (wd s)), c) else bs5 wd sz nm c (-1000001) 1
def sWrite (wd sz nm c : Nat → Int32) (s i v : Int32) : T5 := if gH s then kWrite wd sz nm c (tn s) i v else bs5 wd sz nm c (-1000001) 1
theorem ix_n {i : Int32} {m : Nat} (h : 0 ≤ i ∧ i ≤ nI m - 1) (hm : m ≤ 40) : ∃ j, j < m ∧ i = nI j := by
  have h1 : (0 : Int) ≤ i.toInt := Int32.le_iff_toInt_le.mp h.1
  have h2 := Int32.le_iff_toInt_le.mp h.2
  have e : (nI m - 1).toInt = (m : Int) - 1 := pk_sub_toInt (a := m) (b := 1) (by omega) (by omega)
  rw [e] at h2
  refine ⟨i.toInt.toNat, by omega, ?_⟩
  apply Int32.toInt_inj.mp
  rw [nI_toInt (by omega)]
  omega
/-- the sizes -/
def RZ (sz : Nat → Int32) : Prop := ∀ s, s < 4 → Nt 40 (sz s)
abbrev cpP (a n z : Int32) : Prop := 0 ≤ a ∧ 0 ≤ n ∧ tn a + tn n ≤ tn z
/-- n numbers from place a on come to place b on -/
def mvN (nm : Nat → Int32) (a b n : Nat) : Nat → Int32 := fun q => if b ≤ q ∧ q < b + n then nm (a + (q - b)) else nm q
def kCopy (wd sz nm c : Nat → Int32) (s t : Nat) (a b n : Int32) : T5 := if wd s = 0 ∨ wd t = 0 then bs5 wd sz nm c (-1000006) 6 else if ¬ wd s = wd t then bs5 wd sz nm c (-1000003) 3 else if cpP a n (sz s) ∧ cpP b n (sz t) then (n, wd, sz, mvN nm (40 * s + tn a) (40 * t + tn b) (tn n), c) else bs5 wd sz nm c (-1000001) 1
def sCopy (wd sz nm c : Nat → Int32) (s a t b n : Int32) : T5 := if gH s ∧ gH t then kCopy wd sz nm c (tn s) (tn t) a b n else bs5 wd sz nm c (-1000001) 1
/-- worths out of a sheet -/
def ldU (f nm : Nat → Int32) (s m : Nat) : Nat → Nat × (Nat → Int32)
  | 0 => (0, f)
  | k + 1 => if (ldU f nm s m k).1 = k ∧ k < m ∧ 0 ≤ nm (40 * s + k) ∧ nm (40 * s + k) ≤ 20 then (k + 1, upd (ldU f nm s m k).2 (49 + k) (nm (40 * s + k))) else ldU f nm s m k
theorem ld_go {f nm : Nat → Int32} {s m k : Nat} (h : (ldU f nm s m k).1 = k) (hm : k < m) (hv : 0 ≤ nm (40 * s + k) ∧ nm (40 * s + k) ≤ 20) : ldU f nm s m (k + 1) = (k + 1, upd (ldU f nm s m k).2 (49 + k) (nm (40 * s + k))) := if_pos ⟨h, hm, hv⟩
theorem ld_no {f nm : Nat → Int32} {s m k : Nat} (h : (ldU f nm s m k).1 = k) (hn : ¬ (k < m ∧ 0 ≤ nm (40 * s + k) ∧ nm (40 * s + k) ≤ 20)) : ∀ j, ldU f nm s m (k + j) = ldU f nm s m k
  | 0 => rfl
  | j + 1 => by
    have ih := ld_no h hn j
    show ldU f nm s m ((k + j) + 1) = _
    rw [ldU, ih, if_neg]
    intro q
    have e : k = k + j := h.symm.trans q.1
    have e2 : j = 0 := by omega
    subst e2
    exact hn q.2
theorem ld_end {f nm : Nat → Int32} {s m k : Nat} (hk : k ≤ 5) (h : (ldU f nm s m k).1 = k) (hn : ¬ (k < m ∧ 0 ≤ nm (40 * s + k) ∧ nm (40 * s + k) ≤ 20)) : ldU f nm s m 5 = ldU f nm s m k := by
  have := ld_no h hn (5 - k)
  rwa [show k + (5 - k) = 5 by omega] at this
theorem Rg_ld {f nm : Nat → Int32} (r : Rg f) (s m : Nat) : ∀ k, k ≤ 5 → Rg (ldU f nm s m k).2
  | 0, _ => r
  | k + 1, hk => by
    rw [ldU]
    split
    · rename_i h
      obtain ⟨n, h1, h2⟩ := nI_of2 (x := nm (40 * s + k)) (M := 20) (n := 20) rfl (Int32.not_lt.mpr h.2.2.1) h.2.2.2
      exact (show 49 + k = 32 + 17 * 1 + k by omega) ▸ (Rg_ld r s m k (by omega)).worth (s := 1) (t := k) (by omega) (by omega) ⟨n, h1, h2⟩
    · exact Rg_ld r s m k (by omega)
theorem ld_at (f nm : Nat → Int32) (s m : Nat) {j : Nat} (hj : j < 49 ∨ 54 ≤ j) : ∀ k, k ≤ 5 → (ldU f nm s m k).2 j = f j
  | 0, _ => rfl
  | k + 1, hk => by
    rw [ldU]
    split
    · show upd _ _ _ j = _
      rw [pk_un (by omega)]
      exact ld_at f nm s m hj k (by omega)
    · exact ld_at f nm s m hj k (by omega)
abbrev T2n : Type := Int32 × (Nat → Int32) × (Nat → Int32)
def kLoad (f c wd sz nm : Nat → Int32) (s : Nat) : T2n := if wd s = 0 then bq f c (-1000006) 6 else (nI (ldU f nm s (tn (sz s)) 5).1, (ldU f nm s (tn (sz s)) 5).2, c)
def sLoad (f c wd sz nm : Nat → Int32) (s : Int32) : T2n := if gH s then kLoad f c wd sz nm (tn s) else bq f c (-1000001) 1
/-- the reader -/
def jdU (f nm : Nat → Int32) (s : Nat) : Nat → Nat
  | 0 => 0
  | k + 1 => if jdU f nm s k = k ∧ deed (ngU f k) (tnF (ngU f k)) = nm (40 * s + k) then k + 1 else jdU f nm s k
theorem jd_go {f nm : Nat → Int32} {s k : Nat} (h : jdU f nm s k = k) (q : deed (ngU f k) (tnF (ngU f k)) = nm (40 * s + k)) : jdU f nm s (k + 1) = k + 1 := if_pos ⟨h, q⟩
theorem jd_no {f nm : Nat → Int32} {s k : Nat} (h : jdU f nm s k = k) (q : ¬ deed (ngU f k) (tnF (ngU f k)) = nm (40 * s + k)) : ∀ j, jdU f nm s (k + j) = k
  | 0 => h
  | j + 1 => by
    have ih := jd_no h q j
    show jdU f nm s ((k + j) + 1) = _
    rw [jdU, ih, if_neg]
    intro z
    have e2 : j = 0 := by have := z.1; omega
    subst e2
    exact q z.2
theorem jd_end {f nm : Nat → Int32} {s k m : Nat} (hk : k < m) (h : jdU f nm s k = k) (q : ¬ deed (ngU f k) (tnF (ngU f k)) = nm (40 * s + k)) : jdU f nm s m = k := by
  have := jd_no h q (m - k)
  rwa [show k + (m - k) = m by omega] at this
def kJudge (f c wd sz nm : Nat → Int32) (s : Nat) : T2n := if wd s = 0 then bq f c (-1000006) 6 else if 9999 < f 0 + sz s then bq f c (-1000005) 5 else ((if jdU f nm s (tn (sz s)) = tn (sz s) then 0 else nI (1 + jdU f nm s (tn (sz s)))), f, c)
def sJudge (f c wd sz nm : Nat → Int32) (s : Int32) : T2n := if gH s then kJudge f c wd sz nm (tn s) else bq f c (-1000001) 1
/-- the tape: how many bytes, the bytes -/
def fdU (ty : Nat → Int32) (m : Nat) (b : Int32) (n : Nat) : Nat → Nat → Int32
  | 0 => ty
  | k + 1 => upd (fdU ty m b n k) (m + k) ((b >>> (nI (8 * (n - 1 - k)) &&& 31)) &&& 255)
abbrev T3 : Type := Int32 × Int32 × (Nat → Int32) × (Nat → Int32)
def kFeed (ts : Int32) (ty c : Nat → Int32) (b : Int32) (n : Nat) : T3 := if 120 < ts + nI n then (-1000002, ts, ty, fnd c 2) else (ts + nI n, ts + nI n, fdU ty (tn ts) b n n, c)
def sFeed (ts : Int32) (ty c : Nat → Int32) (b n : Int32) : T3 := if 1 ≤ n ∧ n ≤ 4 then kFeed ts ty c b (tn n) else (-1000001, ts, ty, fnd c 1)
theorem g4_n {x : Int32} (h : 1 ≤ x ∧ x ≤ 4) : ∃ s, 1 ≤ s ∧ s ≤ 4 ∧ x = nI s := by
  obtain ⟨j, h1, h2⟩ := nI_of2 (x := x) (M := 4) (n := 4) rfl (Int32.not_lt.mpr (Int32.le_trans (by decide) h.1)) h.2
  refine ⟨j, ?_, h1, h2⟩
  have h3 := h.1
  rw [h2] at h3
  exact (nI_leI (a := 1) (by omega) (by omega)).mp h3
/-- a byte -/
def by_ (x : Int32) : Prop := ∃ n, n < 256 ∧ x = nI n
theorem by_and (x : Int32) : by_ (x &&& 255) := pk_andE x (m := 255) 8 (by decide)
def sUndo (f p c : Nat → Int32) (ik : Int32) : T2 := if ik = 0 then bq f c (-1000004) 4 else (p 0, p, c)
/-- long sums -/
theorem lcm_le {a n z : Nat} (ha : a < 2147483648) (hn : n < 2147483648) (hz : z ≤ 40) : lg_cmp (lN (a + n)) (lN z) ≤ 0 ↔ a + n ≤ z := by
  exact (lg_cmp_le _ _).trans (pk_lLE (by omega) (by omega))
section TPL
variable {p : Program} {l : Launch} {e : Env} {R : Room} {s : State} {m : MethodId} {args : Array Value} {below : List Frame} {meth : Method} {c : Code} {H : Heap} {locs : List Loc} {cells slots : Nat} {Q : State → Prop} {pc : Nat} {ls : Array Slot} {rest : List Value}
theorem tpL {x y : Int64} (h : x = y) (k : W p l e R s m args below meth c H locs cells slots Q (F0 m pc ls (.long y :: rest))) : W p l e R s m args below meth c H locs cells slots Q (F0 m pc ls (.long x :: rest)) := by
  subst h
  exact k
end TPL
theorem cp_yes {A M m : Nat} {z : Int32} (hA : A < 2147483648) (hM : M < 2147483648) (hm : m ≤ 40) (em : z = nI m) (c : lg_cmp (lN (A + M)) (lN m) ≤ 0) : A + M ≤ m ∧ cpP (nI A) (nI M) z := by
  have h := (lcm_le hA hM hm).mp c
  refine ⟨h, nI_pos' hA, nI_pos' hM, ?_⟩
  rw [em, show tn (nI A) = A from nI_clamp hA, show tn (nI M) = M from nI_clamp hM, show tn (nI m) = m from nI_clamp (by omega)]
  exact h
theorem cp_no {A M m : Nat} {z : Int32} (hA : A < 2147483648) (hM : M < 2147483648) (hm : m ≤ 40) (em : z = nI m) (c : ¬ lg_cmp (lN (A + M)) (lN m) ≤ 0) : ¬ cpP (nI A) (nI M) z := by
  intro q
  have q := q.2.2
  rw [em, show tn (nI A) = A from nI_clamp hA, show tn (nI M) = M from nI_clamp hM, show tn (nI m) = m from nI_clamp (by omega)] at q
  exact c ((lcm_le hA hM hm).mpr q)
def mvU (mv nm : Nat → Int32) (a k : Nat) : Nat → Int32 := fun q => if q < k then nm (a + q) else mv q
theorem mvU_0 (mv nm : Nat → Int32) (a : Nat) : mvU mv nm a 0 = mv := funext fun q => if_neg (by omega)
theorem mvU_S (mv nm : Nat → Int32) (a k : Nat) : upd (mvU mv nm a k) k (nm (a + k)) = mvU mv nm a (k + 1) := by
  funext q
  unfold upd mvU
  by_cases h : q = k
  · subst h; rw [if_pos rfl, if_pos (by omega)]
  · rw [if_neg h]
    by_cases h2 : q < k
    · rw [if_pos h2, if_pos (by omega)]
    · rw [if_neg h2, if_neg (by omega)]
theorem mvN_0 (nm : Nat → Int32) (a b : Nat) : mvN nm a b 0 = nm := funext fun q => if_neg (by omega)
theorem mvN_S (nm : Nat → Int32) (a b k : Nat) : upd (mvN nm a b k) (b + k) (nm (a + k)) = mvN nm a b (k + 1) := by
  funext q
  unfold upd mvN
  by_cases h : q = b + k
  · subst h; rw [if_pos rfl, if_pos (by omega)]; exact congrArg nm (by omega)
  · rw [if_neg h]
    by_cases h2 : b ≤ q ∧ q < b + k
    · rw [if_pos h2, if_pos (by omega)]
    · rw [if_neg h2, if_neg (by omega)]
theorem mvU_lt (mv nm : Nat → Int32) (a : Nat) {M k : Nat} (h : k < M) : mvU mv nm a M k = nm (a + k) := if_pos h
theorem fd_dec (n k : Nat) : nI n - nI (k + 1) + (-1) = nI n - nI (k + 1 + 1) := by
  rw [nI_succ (k + 1), Int32.sub_eq_add_neg, Int32.sub_eq_add_neg, Int32.neg_add, Int32.add_assoc, Int32.sub_eq_add_neg]
