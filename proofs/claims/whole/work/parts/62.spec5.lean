/-! ===== books, draws, counts: what the calls answer ===== -/
theorem nn_of {x : Int32} (h : ¬ x < 0) : ∃ j, j < 2147483648 ∧ x = nI j := by
  have h1 : 0 ≤ x.toInt := Int32.le_iff_toInt_le.mp (Int32.not_lt.mp h)
  have h2 := x.toInt_lt
  refine ⟨x.toInt.toNat, by omega, ?_⟩
  apply Int32.toInt_inj.mp
  rw [nI_toInt (by omega)]
  omega
theorem g6_n {x : Int32} (h : 0 ≤ x ∧ x ≤ 6) : ∃ s, s < 7 ∧ x = nI s := by
  obtain ⟨j, h1, h2⟩ := nI_of2 (x := x) (M := 6) (n := 6) rfl (Int32.not_lt.mpr h.1) h.2
  exact ⟨j, by omega, h2⟩
theorem g12_n {x : Int32} (h : 1 ≤ x ∧ x ≤ 12) : ∃ s, 1 ≤ s ∧ s ≤ 12 ∧ x = nI s := by
  obtain ⟨j, h1, h2⟩ := nI_of2 (x := x) (M := 12) (n := 12) rfl (Int32.not_lt.mpr (Int32.le_trans (by decide) h.1)) h.2
  refine ⟨j, ?_, h1, h2⟩
  have h3 := h.1
  rw [h2] at h3
  exact (nI_leI (a := 1) (by omega) (by omega)).mp h3
theorem mn12 {f : Nat → Int32} (r : Rg f) : mn 12 (f 0) = nI (min 12 (nN f)) := by
  have := (nN_of r).2
  rw [(nN_of r).1]
  exact mn_nI (a := 12) (by omega) (by omega)
abbrev bkN (f : Nat → Int32) (i : Nat) : Nat := nN f - 1 - i
def kBook (f c : Nat → Int32) (i w : Nat) : T2 := (if w = 0 then f (54 + 13 * (bkN f i % 12)) else if w = 1 then nI (bkN f i % 2) else f (57 + 13 * (bkN f i % 12) + 5 * (bkN f i % 2) + (w - 2)), f, c)
def sBook (f c : Nat → Int32) (i w : Int32) : T2 := if 0 ≤ i ∧ 0 ≤ w ∧ w ≤ 6 then (if mn 12 (f 0) ≤ i then bq f c (-1000004) 4 else kBook f c (tn i) (tn w)) else bq f c (-1000001) 1
theorem lt_of_nI {i m : Nat} (h : nI i < nI m) (hi : i < 2147483648) (hm : m ≤ 12) : i < m := (nI_ltI hi (by omega)).mp h
theorem q_ne {q m : Nat} (h : ¬ nI q = nI m) : q ≠ m := fun e => h (by rw [e])
theorem hcU_5 (f : Nat → Int32) : ∀ k, k ≤ 5 → hcU f k = sumU f 22 k
  | 0, _ => rfl
  | k + 1, h => by
    rw [hcU, sumU, hcU_5 f k (by omega)]
    congr 2
    omega
theorem hcU_10 (f : Nat → Int32) : ∀ k, k ≤ 5 → hcU f (5 + k) = sumU f 22 5 + sumU f 39 k
  | 0, _ => (hcU_5 f 5 (by omega)).trans (Int32.add_zero _).symm
  | k + 1, h => by
    show hcU f ((5 + k) + 1) = _
    rw [hcU, sumU, hcU_10 f k (by omega), Int32.add_assoc]
    congr 3
    omega
/-- what a side would have done in the night of slot p -/
def bsU (f : Nat → Int32) (h p : Nat) : Nat → Int32
  | 0 => 0
  | k + 1 => bsU f h p k + f (57 + 13 * p + 5 * h + k)
def bvU (f : Nat → Int32) (s h p : Nat) : Nat → Int32
  | 0 => 0
  | k + 1 => bvU f s h p k + prc (f (15 + k)) (f (32 + 17 * s + k)) (f (55 + 13 * p)) (f (57 + 13 * p + 5 * h + k))
def whF (f : Nat → Int32) (s p : Nat) : Int32 := if 0 < bsU f (1 - s) p 5 ∧ bvU f s s p 5 + f (20 + 17 * s) ≤ bvU f s (1 - s) p 5 then 1 else if 0 < bsU f s p 5 then 2 else 0
abbrev asF (f : Nat → Int32) (s n : Nat) : Prop := n % 2 = s ∧ 0 < f (56 + 13 * (n % 12))
def afU (f : Nat → Int32) (s : Nat) : Nat → Int32
  | 0 => 1
  | k + 1 => if ¬ afU f s k = 0 ∧ (asF f s (nN f - 1 - k) → whF f s ((nN f - 1 - k) % 12) = f (54 + 13 * ((nN f - 1 - k) % 12))) then 1 else 0
def afF (f : Nat → Int32) (s : Nat) : Int32 := afU f s (min 12 (nN f))
theorem afU01 (f : Nat → Int32) (s : Nat) : ∀ k, afU f s k = 0 ∨ afU f s k = 1
  | 0 => Or.inr rfl
  | k + 1 => by
    unfold afU
    split
    · exact Or.inr rfl
    · exact Or.inl rfl
theorem afU_z {f : Nat → Int32} {s k : Nat} (h : afU f s k = 0) : ∀ j, afU f s (k + j) = 0
  | 0 => h
  | j + 1 => by
    show afU f s ((k + j) + 1) = 0
    unfold afU
    rw [if_neg (fun q => q.1 (afU_z h j))]
def fiU (f : Nat → Int32) (s at_ : Nat) : Nat → Int32
  | 0 => 0
  | v + 1 => fiU f s at_ v ||| (if afF (upd f at_ (nI v)) s = 0 then (0 : Int32) else (1 : Int32) <<< (nI v &&& 31))
theorem upd_upd (f : Nat → Int32) (i : Nat) (x y : Int32) : upd (upd f i x) i y = upd f i y := by
  funext j
  unfold upd
  by_cases h : j = i
  · rw [if_pos h, if_pos h]
  · rw [if_neg h, if_neg h, if_neg h]
theorem upd_self (f : Nat → Int32) (i : Nat) : upd f i (f i) = f := by
  funext j
  unfold upd
  by_cases h : j = i
  · rw [if_pos h, h]
  · rw [if_neg h]
theorem upd_back (f : Nat → Int32) (i : Nat) (y : Int32) : upd (upd f i y) i (f i) = f := by rw [upd_upd, upd_self]
def kFits (f c : Nat → Int32) (s t : Nat) : T2 := (fiU f s (32 + 17 * s + t) 21, f, c)
def sFits (f c : Nat → Int32) (s t : Int32) : T2 := if gS s ∧ gT t then kFits f c (tn s) (tn t) else bq f c (-1000001) 1
def kGreeds (f c : Nat → Int32) (s : Nat) : T2 := (fiU f s (20 + 17 * s) 31, f, c)
def sGreeds (f c : Nat → Int32) (s : Int32) : T2 := if gS s then kGreeds f c (tn s) else bq f c (-1000001) 1
/-- draws -/
def lcg (z : Int32) : Int32 := z * 1103515245 + 12345
def drw (z : Int32) : Int32 := (z.toUInt32 >>> ((8 : Int32).toUInt32 &&& Int32.toUInt32 31)).toInt32
theorem drw_n (z : Int32) : ∃ n, n < 16777216 ∧ drw z = nI n := by
  have h := pk_ushr z 8 8 (by decide)
  have h2 : z.toBitVec.toNat < 2 ^ 32 := z.toBitVec.isLt
  refine ⟨z.toBitVec.toNat / 2 ^ 8, by omega, ?_⟩
  apply Int32.toBitVec_inj.mp
  apply BitVec.eq_of_toNat_eq
  rw [pk_tn (by omega)]
  exact h
def dN (z : Int32) : Nat := (drw z).toNatClampNeg
theorem drw_e (z : Int32) : drw z = nI (dN z) ∧ dN z < 16777216 := by
  obtain ⟨n, h1, h2⟩ := drw_n z
  have e : dN z = n := by unfold dN; rw [h2]; exact nI_clamp (by omega)
  rw [e]
  exact ⟨h2, h1⟩
abbrev z1F (f : Nat → Int32) : Int32 := lcg (f 4)
abbrev z2F (f : Nat → Int32) : Int32 := lcg (z1F f)
abbrev z3F (f : Nat → Int32) : Int32 := lcg (z2F f)
def drF (f : Nat → Int32) : Nat → Int32 := upd (upd (upd (upd f 4 (z1F f)) 1 (nI (dN (z1F f) % 10))) 4 (z2F f)) 4 (z3F f)
def seA (f : Nat → Int32) : Nat → Int32 := if may (drF f) (dN (z2F f) % 2) (dN (z3F f) % 5) 1 then laid (drF f) (dN (z2F f) % 2) (dN (z3F f) % 5) 1 else drF f
def seU (f : Nat → Int32) : Nat → Nat → Int32
  | 0 => f
  | k + 1 => ngU (seA (seU f k)) 2
def seT (f : Nat → Int32) : Nat → Int32
  | 0 => 0
  | k + 1 => seT f k + tkU (seA (seU f k)) 2
def kSeason (f c : Nat → Int32) (n : Nat) : T2 := if 9999 < f 0 + nI (2 * n) then bq f c (-1000005) 5 else (seT f n, seU f n, c)
def sSeason (f c : Nat → Int32) (n : Int32) : T2 := if 1 ≤ n ∧ n ≤ 12 then kSeason f c (tn n) else bq f c (-1000001) 1
theorem nN_e2 {f g : Nat → Int32} (h : f 0 = g 0) : nN f = nN g := by unfold nN; rw [h]
theorem Rg_laidN {f : Nat → Int32} (r : Rg f) {s t : Nat} (hs : s < 2) (ht : t < 5) {n : Nat} (hn : n ≤ 99) (m : may f s t (nI n)) : Rg (laid f s t (nI n)) := by
  unfold laid
  obtain ⟨a, ha, ea⟩ := (r.1 s t hs ht).1
  obtain ⟨b, hb, eb⟩ := (r.1 s t hs ht).2.1
  have m1 := m.1
  have m3 := m.2.2
  rw [ea] at m1
  rw [eb, nI_add] at m3
  have k1 := (nI_leI (a := n) (b := a) (by omega) (by omega)).mp m1
  have k3 := (nI_leI (a := b + n) (b := 99) (by omega) (by omega)).mp m3
  refine (r.home hs ht ⟨a - n, by omega, ?_⟩).heap hs ht ⟨b + n, by omega, ?_⟩
  · rw [ea, pk_sub k1]
  · rw [eb, nI_add]
theorem drF_0 (f : Nat → Int32) : drF f 0 = f 0 := by unfold drF; rw [pk_un (by omega), pk_un (by omega), pk_un (by omega), pk_un (by omega)]
theorem Rg_drF {f : Nat → Int32} (r : Rg f) : Rg (drF f) := by
  unfold drF
  exact (((r.free (i := 4) (Or.inl (by omega))).frost ⟨_, by omega, rfl⟩).free (i := 4) (Or.inl (by omega))).free (i := 4) (Or.inl (by omega))
theorem seA_0 (f : Nat → Int32) : seA f 0 = f 0 := by
  unfold seA
  split
  · unfold laid; rw [pk_un (by omega), pk_un (by omega), drF_0]
  · exact drF_0 f
theorem Rg_seA {f : Nat → Int32} (r : Rg f) : Rg (seA f) := by
  unfold seA
  split
  · rename_i h
    exact Rg_laidN (Rg_drF r) (Nat.mod_lt _ (by omega)) (Nat.mod_lt _ (by omega)) (n := 1) (by omega) h
  · exact Rg_drF r
theorem BkR_laid {f g : Nat → Int32} (b : BkR f g) {s t : Nat} (hs : s < 2) (ht : t < 5) (n : Int32) : BkR (laid f s t n) g := BkR_up (BkR_up b (by omega) (by omega)) (by omega) (by omega)
theorem RB_laid {f : Nat → Int32} (b : RB f) {s t : Nat} (hs : s < 2) (ht : t < 5) (n : Int32) : RB (laid f s t n) := RB_up (RB_up b (by omega)) (by omega)
theorem BkR_drF {f g : Nat → Int32} (b : BkR f g) : BkR (drF f) g := BkR_up (BkR_up (BkR_up (BkR_up b (by omega) (by omega)) (by omega) (by omega)) (by omega) (by omega)) (by omega) (by omega)
theorem RB_drF {f : Nat → Int32} (b : RB f) : RB (drF f) := RB_up (RB_up (RB_up (RB_up b (by omega)) (by omega)) (by omega)) (by omega)
theorem BkR_seA {f g : Nat → Int32} (b : BkR f g) : BkR (seA f) g := by
  unfold seA
  split
  · exact BkR_laid (BkR_drF b) (Nat.mod_lt _ (by omega)) (Nat.mod_lt _ (by omega)) 1
  · exact BkR_drF b
theorem RB_seA {f : Nat → Int32} (b : RB f) : RB (seA f) := by
  unfold seA
  split
  · exact RB_laid (RB_drF b) (Nat.mod_lt _ (by omega)) (Nat.mod_lt _ (by omega)) 1
  · exact RB_drF b
theorem Rg_seU {f : Nat → Int32} (r : Rg f) : ∀ k, nN f + 2 * k ≤ 9999 → Rg (seU f k) ∧ nN (seU f k) = nN f + 2 * k
  | 0, _ => ⟨r, rfl⟩
  | k + 1, h => by
    have ih := Rg_seU r k (by omega)
    have e : nN (seA (seU f k)) = nN f + 2 * k := (nN_e2 (seA_0 _)).trans ih.2
    have q := Rg_ngU (Rg_seA ih.1) 2 (by omega)
    exact ⟨q.1, by rw [seU, q.2, e]; omega⟩
/-- what a season writes into the books of the class -/
def sgU (f g : Nat → Int32) : Nat → Nat → Int32
  | 0 => g
  | k + 1 => bkU (seA (seU f k)) (sgU f g k) 2
theorem BkR_seU {f g : Nat → Int32} (r : Rg f) (b : BkR f g) (rb : RB f) : ∀ k, nN f + 2 * k ≤ 9999 → BkR (seU f k) (sgU f g k) ∧ RB (seU f k)
  | 0, _ => ⟨b, rb⟩
  | k + 1, h => by
    have ih := BkR_seU r b rb k (by omega)
    have q := Rg_seU r k (by omega)
    have e : nN (seA (seU f k)) = nN f + 2 * k := (nN_e2 (seA_0 _)).trans q.2
    exact BkR_ngU (Rg_seA q.1) (BkR_seA ih.1) (RB_seA ih.2) 2 (by omega)
/-- counts -/
def RS (f : Nat → Int32) : Prop := ∀ j, j < 10 → f (5 + j) = -1 ∨ Nt 4 (f (5 + j))
def spN (f : Nat → Int32) : Nat → Int32
  | 0 => 0
  | k + 1 => spN f k + (if f (5 + k) < 0 then 0 else 1)
theorem spN_eq {f : Nat → Int32} (h : RS f) : ∀ k, k ≤ 10 → spN f k = nI (spU f k)
  | 0, _ => rfl
  | k + 1, hk => by
    rw [spN, spU, spN_eq h k (by omega)]
    rcases h k (by omega) with e | ⟨n, h1, h2⟩
    · rw [if_pos (by rw [e]; decide), if_pos e, Int32.add_zero]
    · rw [if_neg (by rw [h2]; exact nI_pos (by omega)), if_neg (by rw [h2]; intro z; exact nI_pos (n := n) (by omega) (by rw [z]; decide)), nI_1]
def sCount (f c : Nat → Int32) (ts w : Int32) : T2 := if w = 0 then (f 0, f, c) else if w = 1 then (f 2, f, c) else if w = 2 then (sumU f 27 5 + sumU f 44 5, f, c) else if w = 3 then (f 21 + f 38, f, c) else if w = 4 then (f 3, f, c) else if w = 5 then (ts, f, c) else if w = 6 then (f 4, f, c) else if w = 7 then (spN f 10, f, c) else bq f c (-1000001) 1
