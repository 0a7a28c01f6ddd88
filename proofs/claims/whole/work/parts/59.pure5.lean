/-! ===== the books: the class's rows g and the reference's f ===== -/
/-- what n nights write into the books of the class -/
def bkU (f g : Nat → Int32) : Nat → Nat → Int32
  | 0 => g
  | n + 1 => noF (bkU f g n) (ngU f n) (nN (ngU f n) % 12) (tnF (ngU f n)) (deed (ngU f n) (tnF (ngU f n)))
theorem nN_S {f : Nat → Int32} (r : Rg f) {k : Nat} (h : nN f + k < 9999) : nN (ngU f (k + 1)) = nN (ngU f k) + 1 := by
  rw [(Rg_ngU r (k + 1) (by omega)).2, (Rg_ngU r k (by omega)).2]
  omega
/-- the ranges of the books -/
def RB (f : Nat → Int32) : Prop := ∀ i, i < 12 → (∀ j, j < 10 → Nt 99 (f (57 + 13 * i + j))) ∧ Nt 9 (f (55 + 13 * i)) ∧ Nt 9 (f (56 + 13 * i))
/-- the class's rows say what the reference's say -/
def BkR (f g : Nat → Int32) : Prop := ∀ i, i < 12 → i < nN f → (∀ j, j < 10 → g (14 * i + j) = f (57 + 13 * i + j)) ∧ g (14 * i + 10) = f (55 + 13 * i) ∧ g (14 * i + 11) = f (56 + 13 * i) ∧ g (14 * i + 12) = nI (i % 2) ∧ g (14 * i + 13) = f (54 + 13 * i)
theorem noF_at (g f : Nat → Int32) (i s : Nat) (d : Int32) (q : Nat) : noF g f i s d q = if q = 14 * i + 13 then d else if q = 14 * i + 12 then nI s else if q = 14 * i + 11 then f (21 + 17 * s) else if q = 14 * i + 10 then f 1 else if 14 * i ≤ q ∧ q < 14 * i + 10 then f (27 + 17 * ((q - 14 * i) / 5) + (q - 14 * i) % 5) else g q := by
  unfold noF upd rcF
  rfl
theorem wbU_at (f : Nat → Int32) {b : Nat} (hb : 54 ≤ b) : ∀ k, k ≤ 5 → ∀ q, wbU f b k q = if b + 3 ≤ q ∧ q < b + 3 + k then f (27 + (q - (b + 3))) else if b + 8 ≤ q ∧ q < b + 8 + k then f (44 + (q - (b + 8))) else f q
  | 0, _, q => by
    rw [if_neg (by omega), if_neg (by omega)]; rfl
  | k + 1, hk, q => by
    have ih := wbU_at f hb k (by omega)
    unfold wbU
    by_cases h1 : q = b + 8 + k
    · subst h1
      rw [pk_us, ih (44 + k), if_neg (by omega), if_neg (by omega), if_neg (by omega), if_pos (by omega)]
      exact congrArg f (by omega)
    · rw [pk_un h1]
      by_cases h2 : q = b + 3 + k
      · subst h2
        rw [pk_us, ih (27 + k), if_neg (by omega), if_neg (by omega), if_pos (by omega)]
        exact congrArg f (by omega)
      · rw [pk_un h2, ih q]
        by_cases h3 : b + 3 ≤ q ∧ q < b + 3 + k
        · rw [if_pos h3, if_pos (by omega)]
        · rw [if_neg h3, if_neg (show ¬ (b + 3 ≤ q ∧ q < b + 3 + (k + 1)) by omega)]
          by_cases h4 : b + 8 ≤ q ∧ q < b + 8 + k
          · rw [if_pos h4, if_pos (by omega)]
          · rw [if_neg h4, if_neg (by omega)]
/-- the books behind a night -/
theorem goU_hi (f : Nat → Int32) {w s j : Nat} (hw : w < 2) (hs : s < 2) (hj : 54 ≤ j) : ∀ k, k ≤ 5 → goU f w s k j = f j
  | 0, _ => rfl
  | k + 1, hk => by
    unfold goU comeH
    rw [pk_un (by omega), pk_un (by omega), goU_hi f hw hs hj k (by omega)]
theorem birU_hi (f : Nat → Int32) {s j : Nat} (hs : s < 2) (hj : 54 ≤ j) : ∀ k, k ≤ 5 → birU f s k j = f j
  | 0, _ => rfl
  | k + 1, hk => by
    unfold birU
    rw [pk_un (by omega), pk_un (by omega), birU_hi f hs hj k (by omega)]
theorem actF_hi (f : Nat → Int32) {s j : Nat} (d : Int32) (hs : s < 2) (hj : 54 ≤ j) : actF f s d j = f j := by
  unfold actF
  split
  · unfold truF
    rw [pk_un (by omega), pk_un (by omega), pk_un (by omega), goU_hi _ (by omega) (by omega) hj 5 (by omega), goU_hi _ (by omega) (by omega) hj 5 (by omega)]
  · split
    · unfold lesF comeH
      have := dea_lt f s
      rw [pk_un (by omega), pk_un (by omega)]
    · split
      · rw [goU_hi _ hs hs hj 5 (by omega)]
      · rfl
theorem nite_hi (f : Nat → Int32) {j : Nat} (hj : 54 ≤ j) : nite f j = wbF f (tnF f) (deed f (tnF f)) j := by
  unfold nite endF
  rw [pk_un (by omega), birU_hi _ (by omega) hj 5 (by omega), birU_hi _ (by omega) hj 5 (by omega), actF_hi _ _ (tn_lt f) hj]
theorem wbF_at (f : Nat → Int32) {s : Nat} (hs : s < 2) (d : Int32) {q : Nat} (hq : 54 ≤ q) : wbF f s d q = if q = 54 + 13 * (nN f % 12) then d else if q = 55 + 13 * (nN f % 12) then f 1 else if q = 56 + 13 * (nN f % 12) then f (21 + 17 * s) else if 57 + 13 * (nN f % 12) ≤ q ∧ q < 57 + 13 * (nN f % 12) + 10 then f (27 + 17 * ((q - (57 + 13 * (nN f % 12))) / 5) + (q - (57 + 13 * (nN f % 12))) % 5) else f q := by
  unfold wbF
  rw [wbU_at _ (by omega) 5 (by omega)]
  by_cases h1 : 54 + 13 * (nN f % 12) + 3 ≤ q ∧ q < 54 + 13 * (nN f % 12) + 3 + 5
  · rw [if_pos h1, if_neg (by omega), if_neg (by omega), if_neg (by omega), if_pos (by omega)]
    rw [pk_un (by omega), pk_un (by omega), pk_un (by omega)]
    exact congrArg f (by omega)
  · rw [if_neg h1]
    by_cases h2 : 54 + 13 * (nN f % 12) + 8 ≤ q ∧ q < 54 + 13 * (nN f % 12) + 8 + 5
    · rw [if_pos h2, if_neg (by omega), if_neg (by omega), if_neg (by omega), if_pos (by omega)]
      rw [pk_un (by omega), pk_un (by omega), pk_un (by omega)]
      exact congrArg f (by omega)
    · rw [if_neg h2]
      by_cases h3 : q = 56 + 13 * (nN f % 12)
      · rw [h3, pk_us, if_neg (by omega), if_neg (by omega), if_pos rfl]
      · rw [pk_un h3]
        by_cases h4 : q = 55 + 13 * (nN f % 12)
        · rw [h4, pk_us, if_neg (by omega), if_pos rfl]
        · rw [pk_un h4]
          by_cases h5 : q = 54 + 13 * (nN f % 12)
          · rw [h5, pk_us, if_pos rfl]
          · rw [pk_un h5, if_neg h5, if_neg h4, if_neg h3, if_neg (by omega)]
theorem RB_nite {f : Nat → Int32} (r : Rg f) (b : RB f) : RB (nite f) := by
  intro i hi
  have hs := tn_lt f
  have H : ∀ j, j < 10 → Nt 99 (f (27 + 17 * (j / 5) + j % 5)) := fun j hj => (r.1 (j / 5) (j % 5) (by omega) (by omega)).2.1
  refine ⟨fun j hj => ?_, ?_, ?_⟩
  · rw [nite_hi f (by omega), wbF_at f hs _ (by omega), if_neg (by omega), if_neg (by omega), if_neg (by omega)]
    split
    · exact H _ (by omega)
    · exact (b i hi).1 j hj
  · rw [nite_hi f (by omega), wbF_at f hs _ (by omega), if_neg (by omega)]
    split
    · exact r.2.1
    · rw [if_neg (by omega), if_neg (by omega)]; exact (b i hi).2.1
  · rw [nite_hi f (by omega), wbF_at f hs _ (by omega), if_neg (by omega), if_neg (by omega)]
    split
    · exact (r.2.2.1 _ hs).2
    · rw [if_neg (by omega)]; exact (b i hi).2.2
theorem BkR_nite {f g : Nat → Int32} (r : Rg f) (h : nN f < 9999) (b : BkR f g) : BkR (nite f) (noF g f (nN f % 12) (tnF f) (deed f (tnF f))) := by
  intro i hi hn
  have hs := tn_lt f
  rw [nN_nite r h] at hn
  by_cases e : i = nN f % 12
  · have e2 : i % 2 = tnF f := by unfold tnF; omega
    refine ⟨fun j hj => ?_, ?_, ?_, ?_, ?_⟩
    · rw [noF_at, if_neg (by omega), if_neg (by omega), if_neg (by omega), if_neg (by omega), if_pos (by omega)]
      rw [nite_hi f (by omega), wbF_at f hs _ (by omega), if_neg (by omega), if_neg (by omega), if_neg (by omega), if_pos (by omega)]
      exact congrArg f (by omega)
    · rw [noF_at, if_neg (by omega), if_neg (by omega), if_neg (by omega), if_pos (by omega)]
      rw [nite_hi f (by omega), wbF_at f hs _ (by omega), if_neg (by omega), if_pos (by omega)]
    · rw [noF_at, if_neg (by omega), if_neg (by omega), if_pos (by omega)]
      rw [nite_hi f (by omega), wbF_at f hs _ (by omega), if_neg (by omega), if_neg (by omega), if_pos (by omega)]
    · rw [noF_at, if_neg (by omega), if_pos (by omega), e2]
    · rw [noF_at, if_pos (by omega)]
      rw [nite_hi f (by omega), wbF_at f hs _ (by omega), if_pos (by omega)]
  · have b := b i hi (by omega)
    refine ⟨fun j hj => ?_, ?_, ?_, ?_, ?_⟩
    · rw [noF_at, if_neg (by omega), if_neg (by omega), if_neg (by omega), if_neg (by omega), if_neg (by omega)]
      rw [nite_hi f (by omega), wbF_at f hs _ (by omega), if_neg (by omega), if_neg (by omega), if_neg (by omega), if_neg (by omega)]
      exact b.1 j hj
    · rw [noF_at, if_neg (by omega), if_neg (by omega), if_neg (by omega), if_neg (by omega), if_neg (by omega)]
      rw [nite_hi f (by omega), wbF_at f hs _ (by omega), if_neg (by omega), if_neg (by omega), if_neg (by omega), if_neg (by omega)]
      exact b.2.1
    · rw [noF_at, if_neg (by omega), if_neg (by omega), if_neg (by omega), if_neg (by omega), if_neg (by omega)]
      rw [nite_hi f (by omega), wbF_at f hs _ (by omega), if_neg (by omega), if_neg (by omega), if_neg (by omega), if_neg (by omega)]
      exact b.2.2.1
    · rw [noF_at, if_neg (by omega), if_neg (by omega), if_neg (by omega), if_neg (by omega), if_neg (by omega)]
      exact b.2.2.2.1
    · rw [noF_at, if_neg (by omega), if_neg (by omega), if_neg (by omega), if_neg (by omega), if_neg (by omega)]
      rw [nite_hi f (by omega), wbF_at f hs _ (by omega), if_neg (by omega), if_neg (by omega), if_neg (by omega), if_neg (by omega)]
      exact b.2.2.2.2
theorem BkR_ngU {f g : Nat → Int32} (r : Rg f) (b : BkR f g) (rb : RB f) : ∀ k, nN f + k ≤ 9999 → BkR (ngU f k) (bkU f g k) ∧ RB (ngU f k)
  | 0, _ => ⟨b, rb⟩
  | k + 1, h => by
    have ih := BkR_ngU r b rb k (by omega)
    have q := Rg_ngU r k (by omega)
    exact ⟨BkR_nite q.1 (by omega) ih.1, RB_nite q.1 ih.2⟩
theorem BkR_up {f g : Nat → Int32} (b : BkR f g) {i : Nat} {x : Int32} (h0 : i ≠ 0) (hi : i < 54) : BkR (upd f i x) g := by
  intro k hk hn
  have e : nN (upd f i x) = nN f := by unfold nN; rw [pk_un (Ne.symm h0)]
  rw [e] at hn
  have b := b k hk hn
  refine ⟨fun j hj => ?_, ?_, ?_, b.2.2.2.1, ?_⟩
  · rw [pk_un (by omega)]; exact b.1 j hj
  · rw [pk_un (by omega)]; exact b.2.1
  · rw [pk_un (by omega)]; exact b.2.2.1
  · rw [pk_un (by omega)]; exact b.2.2.2.2
theorem RB_up {f : Nat → Int32} (b : RB f) {i : Nat} {x : Int32} (hi : i < 54) : RB (upd f i x) := by
  intro k hk
  have b := b k hk
  refine ⟨fun j hj => ?_, ?_, ?_⟩
  · rw [pk_un (by omega)]; exact b.1 j hj
  · rw [pk_un (by omega)]; exact b.2.1
  · rw [pk_un (by omega)]; exact b.2.2
theorem cpB_12 (g w : Nat → Int32) {q : Nat} (hq : q < 168) : cpB g w 12 q = w q := if_pos (by omega)
theorem wR_cong {ct : Nat → ClassId} {bk : Nat} {rw : Nat → Nat} {nx sz : Int32} {g g' : Nat → Int32} (h : ∀ q, q < 168 → g q = g' q) : weq (wR ct bk rw nx sz g) (wR ct bk rw nx sz g') := weq.c (weq.c (weq.cons (ceq.arr (fun j hj => h _ (by omega))) (weq.cons (ceq.arr (fun j hj => h _ (by omega))) (weq.cons (ceq.arr (fun j hj => h _ (by omega))) (weq.cons (ceq.arr (fun j hj => h _ (by omega))) (weq.cons (ceq.arr (fun j hj => h _ (by omega))) (weq.cons (ceq.arr (fun j hj => h _ (by omega))) (weq.cons (ceq.arr (fun j hj => h _ (by omega))) (weq.cons (ceq.arr (fun j hj => h _ (by omega))) (weq.cons (ceq.arr (fun j hj => h _ (by omega))) (weq.cons (ceq.arr (fun j hj => h _ (by omega))) (weq.cons (ceq.arr (fun j hj => h _ (by omega))) (weq.cons (ceq.arr (fun j hj => h _ (by omega))) weq.nil)))))))))))))
