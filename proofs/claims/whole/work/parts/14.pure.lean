/-! ===== ranges, and what follows of them ===== -/
abbrev Nt (m : Nat) (x : Int32) : Prop := ∃ n, n ≤ m ∧ x = nI n
def Rg (f : Nat → Int32) : Prop := (∀ s t, s < 2 → t < 5 → Nt 99 (f (22 + 17 * s + t)) ∧ Nt 99 (f (27 + 17 * s + t)) ∧ Nt 20 (f (32 + 17 * s + t))) ∧ Nt 9 (f 1) ∧ (∀ s, s < 2 → Nt 50 (f (20 + 17 * s)) ∧ Nt 9 (f (21 + 17 * s))) ∧ (∀ t, t < 5 → Nt 6 (f (15 + t))) ∧ Nt 9999 (f 0)
theorem Nt.pos {m : Nat} {x : Int32} (h : Nt m x) (hm : m < 2147483648) : 0 ≤ x := by
  obtain ⟨n, hn, rfl⟩ := h
  exact nI_pos' (by omega)
theorem pos_le {x : Int32} (h : ¬ x ≤ 0) : 0 ≤ x := Int32.le_of_lt (Int32.not_le.mp h)
theorem pos_pred {x : Int32} (h : ¬ x ≤ 0) : 0 ≤ x - 1 := by
  have h1 : 0 < x := Int32.not_le.mp h
  obtain ⟨j, hj, rfl⟩ := nI_of (x := x) (fun q => absurd (Int32.lt_trans h1 q) (Int32.lt_irrefl))
  cases j with
  | zero => exact absurd (Int32.le_refl _) h
  | succ j => rw [nI_pred]; exact nI_pos' (by omega)
theorem le0 {x : Int32} (h0 : 0 ≤ x) (h : x ≤ 0) : x = 0 := Int32.le_antisymm h h0
theorem prc0 (k w fr : Int32) : prc k w fr 0 = 0 := by unfold prc; by_cases h : k = 5 ∨ k = 6 <;> simp [h]
theorem sumN {f : Nat → Int32} {b : Nat} (h : ∀ t, t < 5 → Nt 99 (f (b + t))) : ∀ k, k ≤ 5 → ∃ n, n ≤ 99 * k ∧ sumU f b k = nI n ∧ ((∀ t, t < k → f (b + t) = 0) ↔ n = 0)
  | 0, _ => ⟨0, by omega, rfl, by simp⟩
  | k + 1, hk => by
    obtain ⟨n, h1, h2, h3⟩ := sumN h k (by omega)
    obtain ⟨m, h4, h5⟩ := h k (by omega)
    refine ⟨n + m, by omega, by rw [sumU, h2, h5, nI_add], ⟨fun q => ?_, fun q t ht => ?_⟩⟩
    · have a := h3.mp (fun t ht => q t (by omega))
      have b := q k (by omega)
      rw [h5] at b
      have c : m = 0 := by
        rcases Nat.eq_zero_or_pos m with e | e
        · exact e
        · exact absurd b (nI_ne0 e (by omega))
      omega
    · by_cases e : t = k
      · subst e
        rw [h5, show m = 0 by omega]
        rfl
      · exact h3.mpr (by omega) t (by omega)
theorem sum0 {f : Nat → Int32} (h : Rg f) {s : Nat} (hs : s < 2) : sumU f (27 + 17 * s) 5 ≤ 0 ↔ sumU f (27 + 17 * s) 5 = 0 := by
  obtain ⟨n, h1, h2, -⟩ := sumN (f := f) (b := 27 + 17 * s) (fun t ht => (h.1 s t hs ht).2.1) 5 (by omega)
  rw [h2]
  refine ⟨fun q => ?_, fun q => by rw [q]; exact Int32.le_refl _⟩
  have : ¬ 0 < n := fun r => nI_nle r (by omega) q
  rw [show n = 0 by omega]
  rfl
theorem heap_pos {f : Nat → Int32} (h : Rg f) {s t : Nat} (hs : s < 2) (ht : t < 5) : 0 ≤ f (27 + 17 * s + t) := (h.1 s t hs ht).2.1.pos (by omega)
theorem both_pos {f : Nat → Int32} (h : Rg f) {s t : Nat} (hs : s < 2) (ht : t < 5) : 0 ≤ f (22 + 17 * s + t) + f (27 + 17 * s + t) := by
  obtain ⟨⟨n, hn, e1⟩, ⟨m, hm, e2⟩, -⟩ := h.1 s t hs ht
  rw [e1, e2, nI_add]
  exact nI_pos' (by omega)
theorem nN_of {f : Nat → Int32} (h : Rg f) : f 0 = nI (nN f) ∧ nN f ≤ 9999 := by
  obtain ⟨n, hn, e⟩ := h.2.2.2.2
  have : nN f = n := by unfold nN; rw [e, nI_clamp (by omega)]
  rw [this]
  exact ⟨e, hn⟩
/-- of the row alone up to 54 -/
def E54 (f g : Nat → Int32) : Prop := ∀ j, j < 54 → f j = g j
theorem E54.sy {f g : Nat → Int32} (h : E54 f g) : E54 g f := fun j hj => (h j hj).symm
theorem E54.tr {f g k : Nat → Int32} (h : E54 f g) (h2 : E54 g k) : E54 f k := fun j hj => (h j hj).trans (h2 j hj)
theorem E54.up {f g : Nat → Int32} (h : E54 f g) (i : Nat) {x y : Int32} (e : x = y) : E54 (upd f i x) (upd g i y) := fun j hj => by
  subst e
  unfold upd
  by_cases q : j = i
  · rw [if_pos q, if_pos q]
  · rw [if_neg q, if_neg q, h j hj]
theorem E54.sk {f : Nat → Int32} {i : Nat} {x : Int32} (hi : 54 ≤ i) : E54 (upd f i x) f := fun j hj => pk_un (by omega)
theorem E54_pF {f g : Nat → Int32} (h : E54 f g) {s t : Nat} (hs : s < 2) (ht : t < 5) (n : Int32) : pF f s t n = pF g s t n := by
  unfold pF
  rw [h (15 + t) (by omega), h (32 + 17 * s + t) (by omega), h 1 (by omega)]
theorem E54_sumU {f g : Nat → Int32} (h : E54 f g) (b : Nat) : ∀ k, b + k ≤ 54 → sumU f b k = sumU g b k
  | 0, _ => rfl
  | k + 1, hk => by rw [sumU, sumU, E54_sumU h b k (by omega), h (b + k) (by omega)]
theorem E54_valU {f g : Nat → Int32} (h : E54 f g) {s w : Nat} (hs : s < 2) (hw : w < 2) : ∀ k, k ≤ 5 → valU f s w k = valU g s w k
  | 0, _ => rfl
  | k + 1, hk => by rw [valU, valU, E54_valU h hs hw k (by omega), E54_pF h hs (by omega), h (27 + 17 * w + k) (by omega)]
theorem E54_allU {f g : Nat → Int32} (h : E54 f g) {s : Nat} (hs : s < 2) : ∀ k, k ≤ 5 → allU f s k = allU g s k
  | 0, _ => rfl
  | k + 1, hk => by rw [allU, allU, E54_allU h hs k (by omega), E54_pF h hs (by omega), h (27 + 17 * s + k) (by omega), h (22 + 17 * s + k) (by omega)]
theorem E54_deed {f g : Nat → Int32} (h : E54 f g) {s : Nat} (hs : s < 2) : deed f s = deed g s := by
  unfold deed con
  rw [h (21 + 17 * s) (by omega), h (20 + 17 * s) (by omega), E54_sumU h (27 + 17 * s) 5 (by omega), E54_sumU h (27 + 17 * (1 - s)) 5 (by omega), E54_valU h hs hs 5 (by omega), E54_valU h hs (w := 1 - s) (by omega) 5 (by omega)]
theorem E54_oneF {f g : Nat → Int32} (h : E54 f g) {s t : Nat} (hs : s < 2) (ht : t < 5) : oneF f s t = oneF g s t := by
  unfold oneF
  rw [h (27 + 17 * s + t) (by omega), E54_pF h hs ht, E54_pF h hs ht]
theorem E54_deaU {f g : Nat → Int32} (h : E54 f g) {s : Nat} (hs : s < 2) : ∀ k, k ≤ 5 → deaU f s k = deaU g s k
  | 0, _ => rfl
  | k + 1, hk => by rw [deaU, deaU, E54_deaU h hs k (by omega), E54_oneF h hs (by omega), h (27 + 17 * s + k) (by omega)]
theorem E54_comeH {f g : Nat → Int32} (h : E54 f g) {s t : Nat} (hs : s < 2) (ht : t < 5) (n : Int32) : E54 (comeH f s t n) (comeH g s t n) := h.up _ (by rw [h (22 + 17 * s + t) (by omega)])
theorem E54_goU {f g : Nat → Int32} (h : E54 f g) {w s : Nat} (hw : w < 2) (hs : s < 2) : ∀ k, k ≤ 5 → E54 (goU f w s k) (goU g w s k)
  | 0, _ => h
  | k + 1, hk => by
    have ih := E54_goU h hw hs k (by omega)
    rw [goU, goU, ih (27 + 17 * w + k) (by omega)]
    exact E54_comeH (ih.up _ rfl) hs (by omega) _
theorem E54_truF {f g : Nat → Int32} (h : E54 f g) {s : Nat} (hs : s < 2) : E54 (truF f s) (truF g s) := h.up _ (by rw [h (21 + 17 * s) (by omega)])
theorem E54_birU {f g : Nat → Int32} (h : E54 f g) {s : Nat} (hs : s < 2) : ∀ k, k ≤ 5 → E54 (birU f s k) (birU g s k)
  | 0, _ => h
  | k + 1, hk => by
    have ih := E54_birU h hs k (by omega)
    rw [birU, birU, ih (27 + 17 * s + k) (by omega), ih (15 + k) (by omega), ih 1 (by omega), ih 3 (by omega)]
    exact (ih.up _ rfl).up _ rfl
theorem E54_lesF {f g : Nat → Int32} (h : E54 f g) {s t : Nat} (hs : s < 2) (ht : t < 5) : E54 (lesF f s t) (lesF g s t) := E54_comeH (h.up _ (by rw [h (27 + 17 * s + t) (by omega)])) hs ht 1
theorem dea_or (f : Nat → Int32) (s : Nat) : ∀ k, (deaU f s k).1 = -1 ∨ ∃ t, t < k ∧ (deaU f s k).1 = nI t ∧ 0 < f (27 + 17 * s + t)
  | 0 => Or.inl rfl
  | k + 1 => by
    unfold deaU
    by_cases c : 0 < f (27 + 17 * s + k) ∧ ((deaU f s k).1 < 0 ∨ (deaU f s k).2 < oneF f s k)
    · rw [if_pos c]
      exact Or.inr ⟨k, by omega, rfl, c.1⟩
    · rw [if_neg c]
      rcases dea_or f s k with h | ⟨t, h1, h2⟩
      · exact Or.inl h
      · exact Or.inr ⟨t, by omega, h2⟩
theorem dea_hit (f : Nat → Int32) (s : Nat) : ∀ k, k ≤ 5 → (∃ t, t < k ∧ 0 < f (27 + 17 * s + t)) → ∃ t, t < k ∧ (deaU f s k).1 = nI t ∧ 0 < f (27 + 17 * s + t)
  | 0, _, ⟨t, h, _⟩ => absurd h (by omega)
  | k + 1, hk, ⟨t, h1, h2⟩ => by
    unfold deaU
    by_cases c : 0 < f (27 + 17 * s + k) ∧ ((deaU f s k).1 < 0 ∨ (deaU f s k).2 < oneF f s k)
    · rw [if_pos c]
      exact ⟨k, by omega, rfl, c.1⟩
    · rw [if_neg c]
      by_cases e : t = k
      · subst e
        have c2 : ¬ (deaU f s t).1 < 0 := fun q => c ⟨h2, Or.inl q⟩
        rcases dea_or f s t with h | ⟨u, h3, h4⟩
        · rw [h] at c2
          exact absurd (by decide) c2
        · exact ⟨u, by omega, h4⟩
      · obtain ⟨u, h3, h4⟩ := dea_hit f s k (by omega) ⟨t, by omega, h2⟩
        exact ⟨u, by omega, h4⟩
theorem dea_lt (f : Nat → Int32) (s : Nat) : (deaU f s 5).1.toNatClampNeg < 5 := by
  rcases dea_or f s 5 with h | ⟨t, h1, h2, -⟩
  · rw [h]; decide
  · rw [h2, nI_clamp (by omega)]; exact h1
theorem E54_actF {f g : Nat → Int32} (h : E54 f g) {s : Nat} (hs : s < 2) (d : Int32) : E54 (actF f s d) (actF g s d) := by
  unfold actF
  have h1 := E54_truF (E54_truF (E54_goU (E54_goU h hs (s := 1 - s) (by omega) 5 (by omega)) (w := 1 - s) (s := s) (by omega) hs 5 (by omega)) hs) (s := 1 - s) (by omega)
  by_cases c1 : d = 1
  · rw [if_pos c1, if_pos c1]
    exact h1.up _ (by rw [h1 2 (by omega)])
  · rw [if_neg c1, if_neg c1]
    by_cases c2 : d = 2
    · rw [if_pos c2, if_pos c2, E54_deaU h hs 5 (by omega)]
      exact E54_lesF h hs (dea_lt g s)
    · rw [if_neg c2, if_neg c2]
      by_cases c3 : d = 3
      · rw [if_pos c3, if_pos c3]
        exact E54_goU h hs hs 5 (by omega)
      · rw [if_neg c3, if_neg c3]
        exact h
theorem E54_endF {f g : Nat → Int32} (h : E54 f g) : E54 (endF f) (endF g) := by
  have h1 := E54_birU (E54_birU h (s := 0) (by omega) 5 (by omega)) (s := 1) (by omega) 5 (by omega)
  exact h1.up _ (by rw [h1 0 (by omega)])
theorem E54_wbU (f : Nat → Int32) {b : Nat} (hb : 54 ≤ b) : ∀ k, E54 (wbU f b k) f
  | 0 => fun _ _ => rfl
  | k + 1 => ((E54.sk (by omega)).tr (E54.sk (by omega))).tr (E54_wbU f hb k)
theorem E54_wbF (f : Nat → Int32) (s : Nat) (d : Int32) : E54 (wbF f s d) f := ((E54_wbU _ (by omega) 5).tr (E54.sk (by omega))).tr ((E54.sk (by omega)).tr (E54.sk (by omega)))
theorem nite54 (f : Nat → Int32) : E54 (endF (actF f (tnF f) (deed f (tnF f)))) (nite f) := E54_endF (E54_actF (E54_wbF f _ _).sy (tn_lt f) _)
/-- ranges stay -/
theorem Rg_cong {f g : Nat → Int32} (h : E54 f g) (r : Rg f) : Rg g := by
  refine ⟨fun s t hs ht => ?_, ?_, fun s hs => ?_, fun t ht => ?_, ?_⟩
  · rw [← h (22 + 17 * s + t) (by omega), ← h (27 + 17 * s + t) (by omega), ← h (32 + 17 * s + t) (by omega)]
    exact r.1 s t hs ht
  · rw [← h 1 (by omega)]; exact r.2.1
  · rw [← h (20 + 17 * s) (by omega), ← h (21 + 17 * s) (by omega)]
    exact r.2.2.1 s hs
  · rw [← h (15 + t) (by omega)]; exact r.2.2.2.1 t ht
  · rw [← h 0 (by omega)]; exact r.2.2.2.2
theorem upd_or {P : Int32 → Prop} {f : Nat → Int32} {i j : Nat} {x : Int32} (hx : j = i → P x) (hf : P (f j)) : P (upd f i x j) := by
  unfold upd
  by_cases h : j = i
  · rw [if_pos h]; exact hx h
  · rw [if_neg h]; exact hf
theorem Rg.home {f : Nat → Int32} (r : Rg f) {s t : Nat} (hs : s < 2) (ht : t < 5) {x : Int32} (hx : Nt 99 x) : Rg (upd f (22 + 17 * s + t) x) :=
  ⟨fun s t hs ht => ⟨upd_or (fun _ => hx) (r.1 s t hs ht).1, upd_or (fun q => absurd q (by omega)) (r.1 s t hs ht).2.1, upd_or (fun q => absurd q (by omega)) (r.1 s t hs ht).2.2⟩, upd_or (fun q => absurd q (by omega)) r.2.1, fun s hs => ⟨upd_or (fun q => absurd q (by omega)) (r.2.2.1 s hs).1, upd_or (fun q => absurd q (by omega)) (r.2.2.1 s hs).2⟩, fun t ht => upd_or (fun q => absurd q (by omega)) (r.2.2.2.1 t ht), upd_or (fun q => absurd q (by omega)) r.2.2.2.2⟩
theorem Rg.heap {f : Nat → Int32} (r : Rg f) {s t : Nat} (hs : s < 2) (ht : t < 5) {x : Int32} (hx : Nt 99 x) : Rg (upd f (27 + 17 * s + t) x) :=
  ⟨fun s t hs ht => ⟨upd_or (fun q => absurd q (by omega)) (r.1 s t hs ht).1, upd_or (fun _ => hx) (r.1 s t hs ht).2.1, upd_or (fun q => absurd q (by omega)) (r.1 s t hs ht).2.2⟩, upd_or (fun q => absurd q (by omega)) r.2.1, fun s hs => ⟨upd_or (fun q => absurd q (by omega)) (r.2.2.1 s hs).1, upd_or (fun q => absurd q (by omega)) (r.2.2.1 s hs).2⟩, fun t ht => upd_or (fun q => absurd q (by omega)) (r.2.2.2.1 t ht), upd_or (fun q => absurd q (by omega)) r.2.2.2.2⟩
theorem Rg.worth {f : Nat → Int32} (r : Rg f) {s t : Nat} (hs : s < 2) (ht : t < 5) {x : Int32} (hx : Nt 20 x) : Rg (upd f (32 + 17 * s + t) x) :=
  ⟨fun s t hs ht => ⟨upd_or (fun q => absurd q (by omega)) (r.1 s t hs ht).1, upd_or (fun q => absurd q (by omega)) (r.1 s t hs ht).2.1, upd_or (fun _ => hx) (r.1 s t hs ht).2.2⟩, upd_or (fun q => absurd q (by omega)) r.2.1, fun s hs => ⟨upd_or (fun q => absurd q (by omega)) (r.2.2.1 s hs).1, upd_or (fun q => absurd q (by omega)) (r.2.2.1 s hs).2⟩, fun t ht => upd_or (fun q => absurd q (by omega)) (r.2.2.2.1 t ht), upd_or (fun q => absurd q (by omega)) r.2.2.2.2⟩
theorem Rg.frost {f : Nat → Int32} (r : Rg f)  {x : Int32} (hx : Nt 9 x) : Rg (upd f (1) x) :=
  ⟨fun s t hs ht => ⟨upd_or (fun q => absurd q (by omega)) (r.1 s t hs ht).1, upd_or (fun q => absurd q (by omega)) (r.1 s t hs ht).2.1, upd_or (fun q => absurd q (by omega)) (r.1 s t hs ht).2.2⟩, upd_or (fun _ => hx) r.2.1, fun s hs => ⟨upd_or (fun q => absurd q (by omega)) (r.2.2.1 s hs).1, upd_or (fun q => absurd q (by omega)) (r.2.2.1 s hs).2⟩, fun t ht => upd_or (fun q => absurd q (by omega)) (r.2.2.2.1 t ht), upd_or (fun q => absurd q (by omega)) r.2.2.2.2⟩
theorem Rg.greed {f : Nat → Int32} (r : Rg f) {s : Nat} (hs : s < 2) {x : Int32} (hx : Nt 50 x) : Rg (upd f (20 + 17 * s) x) :=
  ⟨fun s t hs ht => ⟨upd_or (fun q => absurd q (by omega)) (r.1 s t hs ht).1, upd_or (fun q => absurd q (by omega)) (r.1 s t hs ht).2.1, upd_or (fun q => absurd q (by omega)) (r.1 s t hs ht).2.2⟩, upd_or (fun q => absurd q (by omega)) r.2.1, fun s hs => ⟨upd_or (fun _ => hx) (r.2.2.1 s hs).1, upd_or (fun q => absurd q (by omega)) (r.2.2.1 s hs).2⟩, fun t ht => upd_or (fun q => absurd q (by omega)) (r.2.2.2.1 t ht), upd_or (fun q => absurd q (by omega)) r.2.2.2.2⟩
theorem Rg.trust {f : Nat → Int32} (r : Rg f) {s : Nat} (hs : s < 2) {x : Int32} (hx : Nt 9 x) : Rg (upd f (21 + 17 * s) x) :=
  ⟨fun s t hs ht => ⟨upd_or (fun q => absurd q (by omega)) (r.1 s t hs ht).1, upd_or (fun q => absurd q (by omega)) (r.1 s t hs ht).2.1, upd_or (fun q => absurd q (by omega)) (r.1 s t hs ht).2.2⟩, upd_or (fun q => absurd q (by omega)) r.2.1, fun s hs => ⟨upd_or (fun q => absurd q (by omega)) (r.2.2.1 s hs).1, upd_or (fun _ => hx) (r.2.2.1 s hs).2⟩, fun t ht => upd_or (fun q => absurd q (by omega)) (r.2.2.2.1 t ht), upd_or (fun q => absurd q (by omega)) r.2.2.2.2⟩
theorem Rg.kind {f : Nat → Int32} (r : Rg f) {t : Nat} (ht : t < 5) {x : Int32} (hx : Nt 6 x) : Rg (upd f (15 + t) x) :=
  ⟨fun s t hs ht => ⟨upd_or (fun q => absurd q (by omega)) (r.1 s t hs ht).1, upd_or (fun q => absurd q (by omega)) (r.1 s t hs ht).2.1, upd_or (fun q => absurd q (by omega)) (r.1 s t hs ht).2.2⟩, upd_or (fun q => absurd q (by omega)) r.2.1, fun s hs => ⟨upd_or (fun q => absurd q (by omega)) (r.2.2.1 s hs).1, upd_or (fun q => absurd q (by omega)) (r.2.2.1 s hs).2⟩, fun t ht => upd_or (fun _ => hx) (r.2.2.2.1 t ht), upd_or (fun q => absurd q (by omega)) r.2.2.2.2⟩
theorem Rg.night {f : Nat → Int32} (r : Rg f)  {x : Int32} (hx : Nt 9999 x) : Rg (upd f (0) x) :=
  ⟨fun s t hs ht => ⟨upd_or (fun q => absurd q (by omega)) (r.1 s t hs ht).1, upd_or (fun q => absurd q (by omega)) (r.1 s t hs ht).2.1, upd_or (fun q => absurd q (by omega)) (r.1 s t hs ht).2.2⟩, upd_or (fun q => absurd q (by omega)) r.2.1, fun s hs => ⟨upd_or (fun q => absurd q (by omega)) (r.2.2.1 s hs).1, upd_or (fun q => absurd q (by omega)) (r.2.2.1 s hs).2⟩, fun t ht => upd_or (fun q => absurd q (by omega)) (r.2.2.2.1 t ht), upd_or (fun _ => hx) r.2.2.2.2⟩
theorem Rg.free {f : Nat → Int32} (r : Rg f) {i : Nat} (hx : (2 ≤ i ∧ i < 15) ∨ 54 ≤ i) {x : Int32} : Rg (upd f (i) x) :=
  ⟨fun s t hs ht => ⟨upd_or (fun q => absurd q (by omega)) (r.1 s t hs ht).1, upd_or (fun q => absurd q (by omega)) (r.1 s t hs ht).2.1, upd_or (fun q => absurd q (by omega)) (r.1 s t hs ht).2.2⟩, upd_or (fun q => absurd q (by omega)) r.2.1, fun s hs => ⟨upd_or (fun q => absurd q (by omega)) (r.2.2.1 s hs).1, upd_or (fun q => absurd q (by omega)) (r.2.2.1 s hs).2⟩, fun t ht => upd_or (fun q => absurd q (by omega)) (r.2.2.2.1 t ht), upd_or (fun q => absurd q (by omega)) r.2.2.2.2⟩
theorem mn_nI {a b : Nat} (ha : a < 2147483648) (hb : b < 2147483648) : mn (nI a) (nI b) = nI (min a b) := by
  unfold mn
  by_cases h : b < a
  · rw [if_pos (nI_lt h ha), Nat.min_eq_right (by omega)]
  · rw [if_neg (nI_nlt (by omega) hb), Nat.min_eq_left (by omega)]
theorem mnNt {m n : Nat} {x : Int32} (hm : m < 1000) (h : Nt n x) (hn : n < 1000) : Nt m (mn (nI m) x) := by
  obtain ⟨k, hk, rfl⟩ := h
  rw [mn_nI (by omega) (by omega)]
  exact ⟨_, Nat.min_le_left _ _, rfl⟩
theorem Nt_add {m n : Nat} {x y : Int32} (h : Nt m x) (h2 : Nt n y) : Nt (m + n) (x + y) := by
  obtain ⟨a, ha, rfl⟩ := h
  obtain ⟨b, hb, rfl⟩ := h2
  exact ⟨a + b, by omega, nI_add a b⟩
theorem Rg_comeH {f : Nat → Int32} (r : Rg f) {s t : Nat} (hs : s < 2) (ht : t < 5) {n : Int32} (hn : Nt 99 n) : Rg (comeH f s t n) := r.home hs ht (mnNt (m := 99) (by omega) (Nt_add (r.1 s t hs ht).1 hn) (by omega))
theorem Rg_goU {f : Nat → Int32} (r : Rg f) {w s : Nat} (hw : w < 2) (hs : s < 2) : ∀ k, k ≤ 5 → Rg (goU f w s k)
  | 0, _ => r
  | k + 1, hk => by
    have ih := Rg_goU r hw hs k (by omega)
    exact Rg_comeH (ih.heap hw (by omega) ⟨0, by omega, rfl⟩) hs (by omega) (ih.1 w k hw (by omega)).2.1
theorem Rg_truF {f : Nat → Int32} (r : Rg f) {s : Nat} (hs : s < 2) : Rg (truF f s) := r.trust hs (mnNt (m := 9) (by omega) (Nt_add (r.2.2.1 s hs).2 (y := 1) ⟨1, Nat.le_refl 1, rfl⟩) (by omega))
theorem eatN {k fr : Int32} {n : Nat} (hn : n ≤ 99) : ∃ e, e ≤ n ∧ eat k fr (nI n) = nI e := by
  unfold eat
  by_cases c : k = 3
  · rw [if_pos c]
    by_cases c2 : 4 < fr
    · rw [if_pos c2]; exact ⟨0, by omega, rfl⟩
    · rw [if_neg c2]; exact ⟨min n 2, Nat.min_le_left _ _, mn_nI (by omega) (b := 2) (by omega)⟩
  · rw [if_neg c]
    by_cases c2 : k = 1
    · rw [if_pos c2]; exact ⟨min n 1, Nat.min_le_left _ _, mn_nI (by omega) (b := 1) (by omega)⟩
    · rw [if_neg c2]; exact ⟨0, by omega, rfl⟩
theorem Rg_birU {f : Nat → Int32} (r : Rg f) {s : Nat} (hs : s < 2) : ∀ k, k ≤ 5 → Rg (birU f s k)
  | 0, _ => r
  | k + 1, hk => by
    have ih := Rg_birU r hs k (by omega)
    obtain ⟨n, hn, en⟩ := (ih.1 s k hs (by omega)).2.1
    refine (ih.heap hs (by omega) ?_).free (by omega)
    rw [en]
    obtain ⟨e, he, ee⟩ := eatN (k := birU f s k (15 + k)) (fr := birU f s k 1) hn
    rw [ee, pk_sub he]
    exact ⟨_, by omega, rfl⟩
theorem Rg_lesF {f : Nat → Int32} (r : Rg f) {s t : Nat} (hs : s < 2) (ht : t < 5) (hp : 0 < f (27 + 17 * s + t)) : Rg (lesF f s t) := by
  refine Rg_comeH (r.heap hs ht ?_) hs ht ⟨1, by omega, rfl⟩
  obtain ⟨n, hn, e⟩ := (r.1 s t hs ht).2.1
  rw [e] at hp ⊢
  cases n with
  | zero => exact absurd hp (by decide)
  | succ n => rw [nI_pred]; exact ⟨n, by omega, rfl⟩
theorem heap_hit {f : Nat → Int32} (r : Rg f) {s : Nat} (hs : s < 2) (h : ¬ sumU f (27 + 17 * s) 5 = 0) : ∃ t, t < 5 ∧ 0 < f (27 + 17 * s + t) := by
  obtain ⟨n, h1, h2, h3⟩ := sumN (f := f) (b := 27 + 17 * s) (fun t ht => (r.1 s t hs ht).2.1) 5 (by omega)
  apply Classical.byContradiction
  intro q
  apply h
  rw [h2, h3.mp (fun t ht => ?_)]
  · rfl
  · obtain ⟨m, hm, e⟩ := (r.1 s t hs ht).2.1
    rw [e]
    rcases Nat.eq_zero_or_pos m with z | z
    · rw [z]; rfl
    · exact absurd ⟨t, ht, by rw [e]; exact nI_lt z (by omega)⟩ q
theorem deed2 {f : Nat → Int32} {s : Nat} (h : deed f s = 2) : ¬ sumU f (27 + 17 * s) 5 = 0 := by
  intro q
  unfold deed at h
  rw [q] at h
  by_cases a : f (21 + 17 * s) = 0
  · rw [if_pos a, if_pos rfl] at h; exact absurd h (by decide)
  · rw [if_neg a] at h
    by_cases b : con f s
    · rw [if_pos b] at h; exact absurd h (by decide)
    · rw [if_neg b, if_pos rfl] at h; exact absurd h (by decide)
theorem les_at {f : Nat → Int32} (r : Rg f) {s : Nat} (hs : s < 2) (h : deed f s = 2) : ∃ t, t < 5 ∧ (deaU f s 5).1 = nI t ∧ 0 < f (27 + 17 * s + t) := dea_hit f s 5 (by omega) (heap_hit r hs (deed2 h))
theorem Gd_of {f : Nat → Int32} (r : Rg f) : Gd f := by
  refine ⟨(nN_of r).1, fun h => ?_⟩
  obtain ⟨t, h1, h2, -⟩ := les_at r (tn_lt f) h
  exact ⟨t, h1, by rw [E54_deaU (E54_wbF f _ _) (tn_lt f) 5 (by omega)]; exact h2⟩
theorem actF1 {f : Nat → Int32} {s : Nat} {d : Int32} (h : d = 1) : actF f s d = upd (truF (truF (goU (goU f s (1 - s) 5) (1 - s) s 5) s) (1 - s)) 2 (truF (truF (goU (goU f s (1 - s) 5) (1 - s) s 5) s) (1 - s) 2 + 1) := if_pos h
theorem actF2 {f : Nat → Int32} {s : Nat} {d : Int32} (h : d = 2) {t : Nat} (ht : t < 5) (et : (deaU f s 5).1 = nI t) : actF f s d = lesF f s t := by
  subst h
  have e : actF f s 2 = lesF f s (deaU f s 5).1.toNatClampNeg := rfl
  rw [e, et, nI_clamp (by omega)]
theorem actF3 {f : Nat → Int32} {s : Nat} {d : Int32} (h : d = 3) : actF f s d = goU f s s 5 := by subst h; rfl
theorem actF0 {f : Nat → Int32} {s : Nat} {d : Int32} (h1 : ¬ d = 1) (h2 : ¬ d = 2) (h3 : ¬ d = 3) : actF f s d = f := (if_neg h1).trans ((if_neg h2).trans (if_neg h3))
theorem Rg_act {f : Nat → Int32} (r : Rg f) {s : Nat} (hs : s < 2) : Rg (actF f s (deed f s)) := by
  by_cases c1 : deed f s = 1
  · rw [actF1 c1]
    exact (Rg_truF (Rg_truF (Rg_goU (Rg_goU r hs (s := 1 - s) (by omega) 5 (by omega)) (w := 1 - s) (s := s) (by omega) hs 5 (by omega)) hs) (s := 1 - s) (by omega)).free (by omega)
  · by_cases c2 : deed f s = 2
    · obtain ⟨t, h1, h2, h3⟩ := les_at r hs c2
      rw [actF2 c2 h1 h2]
      exact Rg_lesF r hs h1 h3
    · by_cases c3 : deed f s = 3
      · rw [actF3 c3]
        exact Rg_goU r hs hs 5 (by omega)
      · rw [actF0 c1 c2 c3]
        exact r
theorem goU_ge (f : Nat → Int32) (w s : Nat) {j : Nat} (hj : j < 22) : ∀ k, goU f w s k j = f j
  | 0 => rfl
  | k + 1 => by
    rw [goU, comeH, pk_un (by omega), pk_un (by omega)]
    exact goU_ge f w s hj k
theorem birU_lt (f : Nat → Int32) (s : Nat) {j : Nat} (hj : j < 27) (h3 : j ≠ 3) : ∀ k, birU f s k j = f j
  | 0 => rfl
  | k + 1 => by
    rw [birU, pk_un h3, pk_un (by omega)]
    exact birU_lt f s hj h3 k
theorem actF_0 {f : Nat → Int32} {s : Nat} (d : Int32) : actF f s d 0 = f 0 := by
  by_cases c1 : d = 1
  · rw [actF1 c1, pk_un (by omega), truF, pk_un (by omega), truF, pk_un (by omega), goU_ge _ _ _ (by omega), goU_ge _ _ _ (by omega)]
  · by_cases c2 : d = 2
    · subst c2
      show lesF f s (deaU f s 5).1.toNatClampNeg 0 = f 0
      rw [lesF, comeH, pk_un (by omega), pk_un (by omega)]
    · by_cases c3 : d = 3
      · rw [actF3 c3]
        exact goU_ge f s s (by omega) 5
      · rw [actF0 c1 c2 c3]
theorem nite_0 (f : Nat → Int32) : nite f 0 = f 0 + 1 := by
  rw [← nite54 f 0 (by omega), endF, pk_us, birU_lt _ _ (by omega) (by omega), birU_lt _ _ (by omega) (by omega), actF_0]
theorem nN_nite {f : Nat → Int32} (r : Rg f) (h : nN f < 9999) : nN (nite f) = nN f + 1 := by
  have e : nite f 0 = nI (nN f + 1) := by rw [nite_0, (nN_of r).1, nI_1]
  show (nite f 0).toNatClampNeg = _
  rw [e, nI_clamp (by omega)]
theorem Rg_nite {f : Nat → Int32} (r : Rg f) (h : nN f < 9999) : Rg (nite f) := by
  refine Rg_cong (nite54 f) ?_
  have a := Rg_birU (Rg_birU (Rg_act r (tn_lt f)) (s := 0) (by omega) 5 (by omega)) (s := 1) (by omega) 5 (by omega)
  refine a.night ?_
  rw [birU_lt _ _ (by omega) (by omega), birU_lt _ _ (by omega) (by omega), actF_0, (nN_of r).1, nI_1]
  exact ⟨_, by omega, rfl⟩
theorem Rg_ngU {f : Nat → Int32} (r : Rg f) : ∀ k, nN f + k ≤ 9999 → Rg (ngU f k) ∧ nN (ngU f k) = nN f + k
  | 0, _ => ⟨r, rfl⟩
  | k + 1, h => by
    obtain ⟨a, b⟩ := Rg_ngU r k (by omega)
    exact ⟨Rg_nite a (by omega), by rw [ngU, nN_nite a (by omega), b]; omega⟩
