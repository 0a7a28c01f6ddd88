/-! ===== numbers of ones ===== -/
abbrev us (x k : Int32) : Int32 := (x.toUInt32 >>> (k.toUInt32 &&& Int32.toUInt32 31)).toInt32
def bA (x : Int32) : Int32 := x - (us x 1 &&& 1431655765)
def bB (x : Int32) : Int32 := (x &&& 858993459) + (us x 2 &&& 858993459)
def bC (x : Int32) : Int32 := (x + us x 4) &&& 252645135
def bD (x : Int32) : Int32 := x + us x 8
def bE (x : Int32) : Int32 := x + us x 16
def bcF (x : Int32) : Int32 := bE (bD (bC (bB (bA x)))) &&& 63
theorem nI_and (a b : Nat) : nI a &&& nI b = nI (a &&& b) := by
  apply Int32.toBitVec_inj.mp
  show BitVec.ofNat 32 a &&& BitVec.ofNat 32 b = BitVec.ofNat 32 (a &&& b)
  exact BitVec.ofNat_and.symm
theorem l256 (x y : Nat) : x &&& y = (x % 256 &&& y % 256) + 256 * (x / 256 &&& y / 256) := by
  have h1 : (x &&& y) % 256 = (x % 256 &&& y % 256) := Nat.and_mod_two_pow (a := x) (b := y) (n := 8)
  have h2 : (x &&& y) / 256 = (x / 256 &&& y / 256) := Nat.and_div_two_pow (a := x) (b := y) (n := 8)
  rw [← h1, ← h2]
  omega
theorem a256 {a b c d : Nat} (ha : a < 256) (hc : c < 256) : (a + 256 * b) &&& (c + 256 * d) = (a &&& c) + 256 * (b &&& d) := by
  rw [l256, show (a + 256 * b) % 256 = a by omega, show (c + 256 * d) % 256 = c by omega, show (a + 256 * b) / 256 = b by omega, show (c + 256 * d) / 256 = d by omega]
def s1 (d : Nat) : Nat := d - ((d / 2) &&& 85)
def s2 (e : Nat) : Nat := (e &&& 51) + ((e / 4) &&& 51)
def s3 (g : Nat) : Nat := (g + g / 16) &&& 15
def p8 (d : Nat) : Nat := s3 (s2 (s1 d))
theorem k1 : ∀ d, d < 256 → ∀ r, r < 2 → (d / 2 + 128 * r) &&& 85 = (d / 2) &&& 85 := by decide +kernel
theorem k1l : ∀ d, d < 256 → (d / 2) &&& 85 ≤ d ∧ s1 d < 171 := by decide +kernel
theorem k2 : ∀ d, d < 171 → ∀ r, r < 4 → (d / 4 + 64 * r) &&& 51 = (d / 4) &&& 51 := by decide +kernel
theorem k2l : ∀ d, d < 256 → s2 (s1 d) < 69 ∧ s2 (s1 d) % 16 ≤ 4 := by decide +kernel
theorem k3 : ∀ d, d < 69 → ∀ r, r < 16 → (d + (d / 16 + 16 * r)) &&& 15 = s3 d := by decide +kernel
theorem k3l : ∀ d, d < 256 → s3 d < 16 := by decide +kernel
theorem kt85 : ∀ d, d < 256 → d &&& 21845 = d &&& 85 := by decide +kernel
theorem kt51 : ∀ d, d < 256 → d &&& 13107 = d &&& 51 := by decide +kernel
theorem kt15 : ∀ d, d < 256 → d &&& 3855 = d &&& 15 := by decide +kernel
theorem p8l : ∀ d, d < 256 → p8 d ≤ 8 := by decide +kernel
abbrev dg (a b c : Nat) : Nat := a + 256 * (b + 256 * c)
theorem and3 {a0 a1 a2 m mm : Nat} (h0 : a0 < 256) (h1 : a1 < 256) (h2 : a2 < 256) (hm : m < 256) (ht : a2 &&& mm = a2 &&& m) : dg a0 a1 a2 &&& (m + 256 * (m + 256 * mm)) = dg (a0 &&& m) (a1 &&& m) (a2 &&& m) := by
  unfold dg
  rw [a256 h0 hm, a256 h1 hm, ht]
theorem usn {n : Nat} (hn : n < 2 ^ 32) (s : Int32) (k : Nat) (hs : ((s.toUInt32 &&& Int32.toUInt32 31).toBitVec % 32).toNat = k) : us (nI n) s = nI (n / 2 ^ k) := pk_ushrN hn s k hs
theorem bA_n {d0 d1 d2 : Nat} (h0 : d0 < 256) (h1 : d1 < 256) (h2 : d2 < 256) : bA (nI (dg d0 d1 d2)) = nI (dg (s1 d0) (s1 d1) (s1 d2)) := by
  have e : dg d0 d1 d2 / 2 ^ 1 = dg (d0 / 2 + 128 * (d1 % 2)) (d1 / 2 + 128 * (d2 % 2)) (d2 / 2) := by unfold dg; omega
  have q0 := k1 d0 h0 (d1 % 2) (by omega)
  have q1 := k1 d1 h1 (d2 % 2) (by omega)
  have l0 := (k1l d0 h0).1
  have l1 := (k1l d1 h1).1
  have l2 := (k1l d2 h2).1
  unfold bA
  rw [usn (by unfold dg; omega) 1 1 (by decide), e, show (1431655765 : Int32) = nI (85 + 256 * (85 + 256 * 21845)) from rfl, nI_and, and3 (by omega) (by omega) (by omega) (by omega) (kt85 _ (by omega)), q0, q1, pk_sub (by unfold dg; omega)]
  congr 1
  unfold dg s1
  omega
theorem bB_n {d0 d1 d2 : Nat} (h0 : d0 < 171) (h1 : d1 < 171) (h2 : d2 < 171) : bB (nI (dg d0 d1 d2)) = nI (dg (s2 d0) (s2 d1) (s2 d2)) := by
  have e : dg d0 d1 d2 / 2 ^ 2 = dg (d0 / 4 + 64 * (d1 % 4)) (d1 / 4 + 64 * (d2 % 4)) (d2 / 4) := by unfold dg; omega
  have q0 := k2 d0 h0 (d1 % 4) (by omega)
  have q1 := k2 d1 h1 (d2 % 4) (by omega)
  unfold bB
  rw [usn (by unfold dg; omega) 2 2 (by decide), e, show (858993459 : Int32) = nI (51 + 256 * (51 + 256 * 13107)) from rfl, nI_and, nI_and, and3 (by omega) (by omega) (by omega) (by omega) (kt51 _ (by omega)), and3 (by omega) (by omega) (by omega) (by omega) (kt51 _ (by omega)), q0, q1, nI_add]
  congr 1
  unfold dg s2
  omega
theorem bC_n {d0 d1 d2 : Nat} (h0 : d0 < 69) (h1 : d1 < 69) (h2 : d2 < 69) (m1 : d1 % 16 ≤ 4) (m2 : d2 % 16 ≤ 4) : bC (nI (dg d0 d1 d2)) = nI (dg (s3 d0) (s3 d1) (s3 d2)) := by
  have q0 := k3 d0 h0 (d1 % 16) (by omega)
  have q1 := k3 d1 h1 (d2 % 16) (by omega)
  have e : dg d0 d1 d2 + dg d0 d1 d2 / 2 ^ 4 = dg (d0 + (d0 / 16 + 16 * (d1 % 16))) (d1 + (d1 / 16 + 16 * (d2 % 16))) (d2 + d2 / 16) := by unfold dg; omega
  unfold bC
  rw [usn (by unfold dg; omega) 4 4 (by decide), nI_add, e, show (252645135 : Int32) = nI (15 + 256 * (15 + 256 * 3855)) from rfl, nI_and, and3 (by omega) (by omega) (by omega) (by omega) (kt15 _ (by omega)), q0, q1]
  rfl
theorem bcF_n {d0 d1 d2 : Nat} (h0 : d0 < 256) (h1 : d1 < 256) (h2 : d2 < 256) : bcF (nI (dg d0 d1 d2)) = nI (p8 d0 + p8 d1 + p8 d2) := by
  have a0 := (k1l d0 h0).2
  have a1 := (k1l d1 h1).2
  have a2 := (k1l d2 h2).2
  have b0 := k2l d0 h0
  have b1 := k2l d1 h1
  have b2 := k2l d2 h2
  have c0 := p8l d0 h0
  have c1 := p8l d1 h1
  have c2 := p8l d2 h2
  unfold bcF
  rw [bA_n h0 h1 h2, bB_n a0 a1 a2, bC_n b0.1 b1.1 b2.1 b1.2 b2.2]
  show bE (bD (nI (dg (p8 d0) (p8 d1) (p8 d2)))) &&& 63 = _
  have e1 : bD (nI (dg (p8 d0) (p8 d1) (p8 d2))) = nI (dg (p8 d0) (p8 d1) (p8 d2) + dg (p8 d0) (p8 d1) (p8 d2) / 2 ^ 8) := by
    unfold bD; rw [usn (by unfold dg; omega) 8 8 (by decide), nI_add]
  have e2 : bE (nI (dg (p8 d0) (p8 d1) (p8 d2) + dg (p8 d0) (p8 d1) (p8 d2) / 2 ^ 8)) = nI (dg (p8 d0) (p8 d1) (p8 d2) + dg (p8 d0) (p8 d1) (p8 d2) / 2 ^ 8 + (dg (p8 d0) (p8 d1) (p8 d2) + dg (p8 d0) (p8 d1) (p8 d2) / 2 ^ 8) / 2 ^ 16) := by
    unfold bE; rw [usn (by unfold dg; omega) 16 16 (by decide), nI_add]
  have e3 : dg (p8 d0) (p8 d1) (p8 d2) / 2 ^ 8 = p8 d1 + 256 * p8 d2 := by unfold dg; omega
  rw [e3] at e1 e2
  have e4 : (dg (p8 d0) (p8 d1) (p8 d2) + (p8 d1 + 256 * p8 d2)) / 2 ^ 16 = p8 d2 := by unfold dg; omega
  rw [e4] at e2
  rw [e1, e2, pk_andN (by unfold dg; omega) (m := 63) 6 (by decide)]
  congr 1
  unfold dg
  omega
/-- the ones of a number below 2 ^ 24 -/
def pcN (n : Nat) : Nat := p8 (n % 256) + p8 (n / 256 % 256) + p8 (n / 65536)
theorem bcF_pc {n : Nat} (hn : n < 16777216) : bcF (nI n) = nI (pcN n) := by
  have e : n = dg (n % 256) (n / 256 % 256) (n / 65536) := by unfold dg; omega
  have := bcF_n (d0 := n % 256) (d1 := n / 256 % 256) (d2 := n / 65536) (by omega) (by omega) (by omega)
  rw [← e] at this
  exact this
theorem kk : ∀ d, d < 256 → d ≠ 0 → p8 (d &&& (d - 1)) + 1 = p8 d ∧ d &&& (d - 1) < 256 := by decide +kernel
theorem kz : ∀ d, d < 256 → d &&& 255 = d ∧ 0 &&& d = 0 ∧ d &&& d = d := by decide +kernel
theorem pc_dg {a b c : Nat} (ha : a < 256) (hb : b < 256) : pcN (dg a b c) = p8 a + p8 b + p8 c := by
  unfold pcN dg
  rw [show (a + 256 * (b + 256 * c)) % 256 = a by omega, show (a + 256 * (b + 256 * c)) / 256 % 256 = b by omega, show (a + 256 * (b + 256 * c)) / 65536 = c by omega]
/-- one of them taken off -/
theorem pc_step {n : Nat} (hn : n < 16777216) (h : n ≠ 0) : pcN (n &&& (n - 1)) + 1 = pcN n ∧ n &&& (n - 1) < 16777216 := by
  have e : n = dg (n % 256) (n / 256 % 256) (n / 65536) := by unfold dg; omega
  generalize n % 256 = a at e
  generalize hb : n / 256 % 256 = b at e
  generalize hc : n / 65536 = c at e
  have ha : a < 256 := by unfold dg at e; omega
  have hb2 : b < 256 := by omega
  have hc2 : c < 256 := by omega
  subst e
  by_cases a0 : a = 0
  · subst a0
    by_cases b0 : b = 0
    · subst b0
      have c0 : c ≠ 0 := by intro q; apply h; unfold dg; omega
      have e1 : dg 0 0 c - 1 = dg 255 255 (c - 1) := by unfold dg; omega
      have k := kk c hc2 c0
      rw [e1]
      unfold dg
      rw [a256 (by omega) (by omega), a256 (by omega) (by omega), (kz 255 (by omega)).2.1]
      have p1 := pc_dg (a := 0) (b := 0) (c := c &&& (c - 1)) (by omega) (by omega)
      have p2 := pc_dg (a := 0) (b := 0) (c := c) (by omega) (by omega)
      unfold dg at p1 p2
      rw [p1, p2]
      omega
    · have e1 : dg 0 b c - 1 = dg 255 (b - 1) c := by unfold dg; omega
      have k := kk b hb2 b0
      rw [e1]
      unfold dg
      rw [a256 (by omega) (by omega), a256 (by omega) (by omega), (kz 255 (by omega)).2.1, (kz c hc2).2.2]
      have p1 := pc_dg (a := 0) (b := b &&& (b - 1)) (c := c) (by omega) k.2
      have p2 := pc_dg (a := 0) (b := b) (c := c) (by omega) hb2
      unfold dg at p1 p2
      rw [p1, p2]
      omega
  · have e1 : dg a b c - 1 = dg (a - 1) b c := by unfold dg; omega
    have k := kk a ha a0
    rw [e1]
    unfold dg
    rw [a256 (by omega) (by omega), a256 (by omega) (by omega), (kz b hb2).2.2, (kz c hc2).2.2]
    have p1 := pc_dg (a := a &&& (a - 1)) (b := b) (c := c) k.2 hb2
    have p2 := pc_dg (a := a) (b := b) (c := c) ha hb2
    unfold dg at p1 p2
    rw [p1, p2]
    omega
theorem pc_0 : pcN 0 = 0 := by decide +kernel
theorem pc_pos {n : Nat} (hn : n < 16777216) (h : n ≠ 0) : 0 < pcN n := by have := (pc_step hn h).1; omega
/-- sets of fitting worths as numbers -/
theorem fiN (f : Nat → Int32) (s a : Nat) : ∀ k, k ≤ 24 → ∃ n, n < 2 ^ k ∧ fiU f s a k = nI n
  | 0, _ => ⟨0, by omega, rfl⟩
  | k + 1, hk => by
    obtain ⟨n, h1, h2⟩ := fiN f s a k (by omega)
    have h3 : 2 ^ (k + 1) = 2 * 2 ^ k := by rw [Nat.pow_succ]; omega
    rw [fiU, h2]
    split
    · exact ⟨n, by omega, by rw [or0]⟩
    · have e : (1 : Int32) <<< (nI k &&& 31) = nI (2 ^ k) := by
        have : ∀ k, k < 25 → (1 : Int32) <<< (nI k &&& 31) = nI (2 ^ k) := by decide +kernel
        exact this k (by omega)
      rw [e]
      refine ⟨n ||| 2 ^ k, Nat.or_lt_two_pow (by omega) (by omega), ?_⟩
      apply Int32.toBitVec_inj.mp
      show BitVec.ofNat 32 n ||| BitVec.ofNat 32 (2 ^ k) = BitVec.ofNat 32 (n ||| 2 ^ k)
      exact BitVec.ofNat_or.symm
