/-! ===== the trial that stands as the books say ===== -/
def AgW (w h : Nat → Int32) (s : Nat) : Prop := ∀ j, j < 54 → ¬ (27 ≤ j ∧ j < 32) → ¬ (44 ≤ j ∧ j < 49) → j ≠ 1 → j ≠ 21 + 17 * s → w j = h j
/-- a row of the class's books out of the reference's -/
def rwF (h : Nat → Int32) (p : Nat) : Nat → Int32 := fun j => if j < 10 then h (57 + 13 * p + j) else if j = 10 then h (55 + 13 * p) else h (56 + 13 * p)
theorem stF_at (f w : Nat → Int32) (s j : Nat) : stF f w s j = if j = 21 + 17 * s then w 11 else if j = 1 then w 10 else if 27 ≤ j ∧ j < 32 then w (j - 27) else if 44 ≤ j ∧ j < 49 then w (j - 44 + 5) else f j := rfl
theorem AgW_st {w h g : Nat → Int32} {s p : Nat} (a : AgW w h s) (b1 : ∀ j, j < 10 → g (14 * p + j) = h (57 + 13 * p + j)) (b2 : g (14 * p + 10) = h (55 + 13 * p)) (b3 : g (14 * p + 11) = h (56 + 13 * p)) : E54 (stF h (rwF h p) s) (stF w (fun j => g (14 * p + j)) s) := by
  intro j hj
  rw [stF_at, stF_at]
  by_cases h1 : j = 21 + 17 * s
  · rw [if_pos h1, if_pos h1]; exact b3.symm
  · rw [if_neg h1, if_neg h1]
    by_cases h2 : j = 1
    · rw [if_pos h2, if_pos h2]; exact b2.symm
    · rw [if_neg h2, if_neg h2]
      by_cases h3 : 27 ≤ j ∧ j < 32
      · rw [if_pos h3, if_pos h3]
        show (if j - 27 < 10 then h (57 + 13 * p + (j - 27)) else _) = g (14 * p + (j - 27))
        rw [if_pos (by omega)]; exact (b1 _ (by omega)).symm
      · rw [if_neg h3, if_neg h3]
        by_cases h4 : 44 ≤ j ∧ j < 49
        · rw [if_pos h4, if_pos h4]
          show (if j - 44 + 5 < 10 then h (57 + 13 * p + (j - 44 + 5)) else _) = g (14 * p + (j - 44 + 5))
          rw [if_pos (by omega)]; exact (b1 _ (by omega)).symm
        · rw [if_neg h4, if_neg h4]; exact (a j hj h3 h4 h2 h1).symm
theorem AgW_stay {w h v : Nat → Int32} {s : Nat} (a : AgW w h s) : AgW (stF w v s) h s := by
  intro j hj h1 h2 h3 h4
  rw [stF_at, if_neg h4, if_neg h3, if_neg h1, if_neg h2]
  exact a j hj h1 h2 h3 h4
theorem AgW_rf (h : Nat → Int32) (s : Nat) : AgW h h s := fun _ _ _ _ _ _ => rfl
theorem AgW_up {w f : Nat → Int32} {s i : Nat} {x y : Int32} (a : AgW w (upd f i y) s) : AgW (upd w i x) (upd f i x) s := by
  intro j hj h1 h2 h3 h4
  have q := a j hj h1 h2 h3 h4
  unfold upd at q ⊢
  by_cases e : j = i
  · rw [if_pos e, if_pos e]
  · rw [if_neg e, if_neg e]
    rw [if_neg e] at q
    exact q
theorem Rg_st {h : Nat → Int32} (r : Rg h) (b : RB h) {s p : Nat} (hs : s < 2) (hp : p < 12) : Rg (stF h (rwF h p) s) := by
  have b := b p hp
  have key : ∀ j, j < 10 → Nt 99 (rwF h p j) := fun j hj => by
    show Nt 99 (if j < 10 then _ else _)
    rw [if_pos hj]; exact b.1 j hj
  refine Rg.trust (Rg.frost ⟨fun s t hs ht => ⟨?_, ?_, ?_⟩, ?_, fun s hs => ⟨?_, ?_⟩, fun t ht => ?_, ?_⟩ (x := rwF h p 10) ?_) hs (x := rwF h p 11) ?_
  · unfold hpF; rw [if_neg (by omega), if_neg (by omega)]; exact (r.1 s t hs ht).1
  · unfold hpF
    by_cases e : s = 0
    · subst e; rw [if_pos (by omega)]; exact key _ (by omega)
    · rw [if_neg (by omega), if_pos (by omega)]; exact key _ (by omega)
  · unfold hpF; rw [if_neg (by omega), if_neg (by omega)]; exact (r.1 s t hs ht).2.2
  · unfold hpF; rw [if_neg (by omega), if_neg (by omega)]; exact r.2.1
  · unfold hpF; rw [if_neg (by omega), if_neg (by omega)]; exact (r.2.2.1 s hs).1
  · unfold hpF; rw [if_neg (by omega), if_neg (by omega)]; exact (r.2.2.1 s hs).2
  · unfold hpF; rw [if_neg (by omega), if_neg (by omega)]; exact r.2.2.2.1 t ht
  · unfold hpF; rw [if_neg (by omega), if_neg (by omega)]; exact r.2.2.2.2
  · exact b.2.1
  · exact b.2.2
theorem bsU_st {h : Nat → Int32} {s p w : Nat} (hs : s < 2) (hw : w < 2) : ∀ k, k ≤ 5 → sumU (stF h (rwF h p) s) (27 + 17 * w) k = bsU h w p k
  | 0, _ => rfl
  | k + 1, hk => by
    rw [sumU, bsU, bsU_st hs hw k (by omega)]
    congr 1
    rw [stF_at, if_neg (by omega), if_neg (by omega)]
    rcases (show w = 0 ∨ w = 1 by omega) with rfl | rfl
    · rw [if_pos (by omega)]
      show (if _ < 10 then h _ else _) = _
      rw [if_pos (by omega)]; exact congrArg h (by omega)
    · rw [if_neg (by omega), if_pos (by omega)]
      show (if _ < 10 then h _ else _) = _
      rw [if_pos (by omega)]; exact congrArg h (by omega)
theorem bvU_st {h : Nat → Int32} {s p w : Nat} (hs : s < 2) (hw : w < 2) : ∀ k, k ≤ 5 → valU (stF h (rwF h p) s) s w k = bvU h s w p k
  | 0, _ => rfl
  | k + 1, hk => by
    rw [valU, bvU, bvU_st hs hw k (by omega)]
    congr 1
    have e1 : stF h (rwF h p) s (15 + k) = h (15 + k) := by rw [stF_at, if_neg (by omega), if_neg (by omega), if_neg (by omega), if_neg (by omega)]
    have e2 : stF h (rwF h p) s (32 + 17 * s + k) = h (32 + 17 * s + k) := by rw [stF_at, if_neg (by omega), if_neg (by omega), if_neg (by omega), if_neg (by omega)]
    have e3 : stF h (rwF h p) s 1 = h (55 + 13 * p) := by rw [stF_at, if_neg (by omega), if_pos rfl]; rfl
    have e4 : stF h (rwF h p) s (27 + 17 * w + k) = h (57 + 13 * p + 5 * w + k) := by
      rw [stF_at, if_neg (by omega), if_neg (by omega)]
      rcases (show w = 0 ∨ w = 1 by omega) with rfl | rfl
      · rw [if_pos (by omega)]
        show (if _ < 10 then h _ else _) = _
        rw [if_pos (by omega)]; exact congrArg h (by omega)
      · rw [if_neg (by omega), if_pos (by omega)]
        show (if _ < 10 then h _ else _) = _
        rw [if_pos (by omega)]; exact congrArg h (by omega)
    unfold pF
    rw [e1, e2, e3, e4]
theorem deed_st {h : Nat → Int32} (r : Rg h) (b : RB h) {s p : Nat} (hs : s < 2) (hp : p < 12) (ht : 0 < h (56 + 13 * p)) : deed (stF h (rwF h p) s) s = whF h s p := by
  have R := Rg_st r b hs hp
  have e1 : stF h (rwF h p) s (21 + 17 * s) = h (56 + 13 * p) := by rw [stF_at, if_pos rfl]; rfl
  have e2 : stF h (rwF h p) s (20 + 17 * s) = h (20 + 17 * s) := by rw [stF_at, if_neg (by omega), if_neg (by omega), if_neg (by omega), if_neg (by omega)]
  have pos : ∀ w, w < 2 → (¬ bsU h w p 5 = 0 ↔ 0 < bsU h w p 5) := fun w hw => by
    rw [← bsU_st hs hw 5 (by omega)]
    have q := sum0 R hw
    exact ⟨fun z => Int32.not_le.mp (fun y => z (q.mp y)), fun z y => Int32.not_le.mpr z (q.mpr y)⟩
  unfold deed whF con
  rw [e1, if_neg (fun z => by rw [z] at ht; exact absurd ht (by decide)), e2, bsU_st hs hs 5 (by omega), bsU_st hs (show 1 - s < 2 by omega) 5 (by omega), bvU_st hs hs 5 (by omega), bvU_st hs (show 1 - s < 2 by omega) 5 (by omega)]
  have p1 := pos (1 - s) (by omega)
  have p2 := pos s hs
  have z2 : ¬ 0 < bsU h s p 5 → bsU h s p 5 = 0 := fun q => Classical.byContradiction (fun y => q (p2.mp y))
  have z1 : ¬ 0 < bsU h (1 - s) p 5 → bsU h (1 - s) p 5 = 0 := fun q => Classical.byContradiction (fun y => q (p1.mp y))
  by_cases c1 : 0 < bsU h (1 - s) p 5
  · have d1 := p1.mpr c1
    by_cases c2 : bvU h s s p 5 + h (20 + 17 * s) ≤ bvU h s (1 - s) p 5
    · simp [c1, d1, c2]
    · by_cases c3 : 0 < bsU h s p 5
      · have d3 := p2.mpr c3
        simp [c1, d1, c2, c3, d3]
      · have d3 := z2 c3
        simp [c2, c3, d3]
  · have d1 := z1 c1
    by_cases c3 : 0 < bsU h s p 5
    · have d3 := p2.mpr c3
      simp [c1, d1, c3, d3]
    · have d3 := z2 c3
      simp [c1, d1, c3, d3]
/-- the deed of the trial as a row has it -/
theorem deed_row {w h g : Nat → Int32} {s p : Nat} (r : Rg h) (rb : RB h) (hs : s < 2) (hp : p < 12) (a : AgW w h s) (b1 : ∀ j, j < 10 → g (14 * p + j) = h (57 + 13 * p + j)) (b2 : g (14 * p + 10) = h (55 + 13 * p)) (b3 : g (14 * p + 11) = h (56 + 13 * p)) (ht : 0 < g (14 * p + 11)) : Rg (stF w (fun j => g (14 * p + j)) s) ∧ deed (stF w (fun j => g (14 * p + j)) s) s = whF h s p :=
  ⟨Rg_cong (AgW_st a b1 b2 b3) (Rg_st r rb hs hp), (E54_deed (AgW_st a b1 b2 b3) hs).symm.trans (deed_st r rb hs hp (by rw [← b3]; exact ht))⟩
theorem af_go {h : Nat → Int32} {s k : Nat} (a : afU h s k = 1) (q : asF h s (nN h - 1 - k) → whF h s ((nN h - 1 - k) % 12) = h (54 + 13 * ((nN h - 1 - k) % 12))) : afU h s (k + 1) = 1 := if_pos ⟨by rw [a]; decide, q⟩
theorem af_stop {h : Nat → Int32} {s k : Nat} (hk : k < min 12 (nN h)) (q : asF h s (nN h - 1 - k)) (n : ¬ whF h s ((nN h - 1 - k) % 12) = h (54 + 13 * ((nN h - 1 - k) % 12))) : (0 : Int32) = afF h s := by
  have e : afU h s (k + 1) = 0 := if_neg (fun z => n (z.2 q))
  have := afU_z e (min 12 (nN h) - (k + 1))
  rw [show k + 1 + (min 12 (nN h) - (k + 1)) = min 12 (nN h) by omega] at this
  exact this.symm
theorem nite_lo (f : Nat → Int32) {j : Nat} (hj : j < 20) (h0 : j ≠ 0) (h2 : j ≠ 2) (h3 : j ≠ 3) : nite f j = f j := by
  have a : ∀ (g : Nat → Int32) (s : Nat) (d : Int32), s < 2 → actF g s d j = g j := fun g s d hs => by
    unfold actF
    split
    · unfold truF
      rw [pk_un h2, pk_un (by omega), pk_un (by omega), goU_ge _ _ _ (by omega) 5, goU_ge _ _ _ (by omega) 5]
    · split
      · unfold lesF comeH
        rw [pk_un (by omega), pk_un (by omega)]
      · split
        · rw [goU_ge _ _ _ (by omega) 5]
        · rfl
  unfold nite endF
  rw [pk_un h0, birU_lt _ _ (by omega) h3 5, birU_lt _ _ (by omega) h3 5, a _ _ _ (tn_lt f)]
  exact E54_wbF f _ _ j (by omega)
theorem ngU_lo (f : Nat → Int32) {j : Nat} (hj : j < 20) (h0 : j ≠ 0) (h2 : j ≠ 2) (h3 : j ≠ 3) : ∀ k, ngU f k j = f j
  | 0 => rfl
  | k + 1 => (nite_lo (ngU f k) hj h0 h2 h3).trans (ngU_lo f hj h0 h2 h3 k)
/-- a Border doesn't speak of the draw's number -/
theorem wB_z {ct : Nat → ClassId} {a : Nat → Nat} {f f' : Nat → Int32} (h : ∀ j, j < 54 → j < 4 ∨ 15 ≤ j → f j = f' j) : weq (wB ct a f) (wB ct a f') :=
  wB_eq (h 1 (by omega) (by omega)) (h 0 (by omega) (by omega)) (h 2 (by omega) (by omega)) (h 3 (by omega) (by omega)) (fun j hj => h _ (by omega) (by omega)) (fun j hj => h _ (by omega) (by omega)) (fun j hj => h _ (by omega) (by omega)) (fun j hj => h _ (by omega) (by omega)) (fun j hj => h _ (by omega) (by omega)) (fun j hj => h _ (by omega) (by omega))
theorem drF_w (f : Nat → Int32) : ∀ j, j < 54 → j < 4 ∨ 15 ≤ j → upd f 1 (nI (dN (z1F f) % 10)) j = drF f j := by
  intro j hj h
  unfold drF upd
  have h4 : ¬ j = 4 := by omega
  rw [if_neg h4, if_neg h4, if_neg h4]
theorem seA_4 (f : Nat → Int32) : seA f 4 = drF f 4 := by
  unfold seA
  split
  · unfold laid; rw [pk_un (by omega), pk_un (by omega)]
  · rfl
theorem seA_N (f : Nat → Int32) : nN (seA f) = nN (drF f) := nN_e2 ((seA_0 f).trans (drF_0 f).symm)
theorem or0 (x : Int32) : x ||| 0 = x := Int32.or_zero
