/-! ===== what the calls keep ===== -/
/-- kept of a row by most calls: the night, the draws, the spots, the books -/
def KP (f f' : Nat → Int32) : Prop := Rg f' ∧ ∀ j, (j = 0 ∨ 4 ≤ j ∧ j < 15 ∨ 54 ≤ j) → f' j = f j
theorem KP.rf {f : Nat → Int32} (r : Rg f) : KP f f := ⟨r, fun _ _ => rfl⟩
theorem KP.tr {f g k : Nat → Int32} (h : KP f g) (h2 : KP g k) : KP f k := ⟨h2.1, fun j hj => (h2.2 j hj).trans (h.2 j hj)⟩
theorem KP.up {f : Nat → Int32} {i : Nat} {x : Int32} (h : 1 ≤ i ∧ i < 4 ∨ 15 ≤ i ∧ i < 54) (r : Rg (upd f i x)) : KP f (upd f i x) := ⟨r, fun j hj => pk_un (by omega)⟩
/-- findings -/
def FD (c c' : Nat → Int32) : Prop := c' = c ∨ ∃ q, 1 ≤ q ∧ q ≤ 7 ∧ c' = fnd c q
theorem FD.rf (c : Nat → Int32) : FD c c := Or.inl rfl
theorem FD.bq (c : Nat → Int32) {q : Nat} (h : 1 ≤ q ∧ q ≤ 7) : FD c (fnd c q) := Or.inr ⟨q, h.1, h.2, rfl⟩
theorem stU_z (c : Nat → Int32) (x : Int32) : ∀ k, stU (upd c 0 x) k = stU c k
  | 0 => rfl
  | k + 1 => by rw [stU, stU, stU_z c x k, pk_un (by omega)]
theorem stU_lo (c : Nat → Int32) (x : Int32) {q : Nat} : ∀ k, k < q → stU (upd c q x) k = stU c k
  | 0, _ => rfl
  | k + 1, h => by rw [stU, stU, stU_lo c x k (by omega), pk_un (by omega)]
theorem stU_hi (c : Nat → Int32) {q : Nat} (hq : 1 ≤ q) : ∀ k, q ≤ k → stU (upd c q (c q + 1)) k = stU c k + 1
  | 0, h => by omega
  | k + 1, h => by
    by_cases e : q = k + 1
    · subst e
      rw [stU, stU, stU_lo c _ k (by omega), pk_us, Int32.add_assoc]
    · rw [stU, stU, stU_hi c hq k (by omega), pk_un (by omega), Int32.add_assoc, Int32.add_assoc, Int32.add_comm 1]
theorem FD.st {c c' : Nat → Int32} (h : FD c c') (e : c 0 = stU c 7) : c' 0 = stU c' 7 := by
  rcases h with rfl | ⟨q, h1, h2, rfl⟩
  · exact e
  · unfold fnd
    rw [pk_us, stU_z, stU_hi c h1 7 h2, e]
/-- a call that keeps what KP says -/
def OK2 (f c : Nat → Int32) (t : T2) : Prop := KP f t.2.1 ∧ FD c t.2.2
theorem OK_bq {f c : Nat → Int32} (r : Rg f) {x : Int32} {q : Nat} (h : 1 ≤ q ∧ q ≤ 7) : OK2 f c (bq f c x q) := ⟨KP.rf r, FD.bq c h⟩
theorem OK_eq {f c : Nat → Int32} (r : Rg f) {x : Int32} : OK2 f c (x, f, c) := ⟨KP.rf r, FD.rf c⟩
theorem OK_f {f c f' : Nat → Int32} (k : KP f f') {x : Int32} : OK2 f c (x, f', c) := ⟨k, FD.rf c⟩
theorem nt_m {x M : Int32} {m : Nat} (hM : M.toInt = m) (h : 0 ≤ x) (h2 : x ≤ M) : Nt m x := nI_of2 (M := M) hM (Int32.not_lt.mpr h) h2
theorem ok_kind {f : Nat → Int32} (r : Rg f) (c : Nat → Int32) (x1 x2 : Int32) : OK2 f c (sKind f c x1 x2) := by
  unfold sKind
  split
  · rename_i h
    obtain ⟨t, ht, rfl⟩ := gT_n h.1
    rw [show tn (nI t) = t from nI_clamp (by omega)]
    exact OK_f (KP.up (by omega) (r.kind ht (nt_m (M := 6) rfl h.2.1 h.2.2)))
  · exact OK_bq r (by decide)
theorem ok_of {f : Nat → Int32} (r : Rg f) (c : Nat → Int32) (x1 x2 x3 : Int32) : OK2 f c (sOf f c x1 x2 x3) := by
  unfold sOf kOf
  split
  · exact OK_eq r
  · exact OK_bq r (by decide)
theorem ok_change {f : Nat → Int32} (r : Rg f) (c : Nat → Int32) (x1 x2 x3 x4 : Int32) : OK2 f c (sChange f c x1 x2 x3 x4) := by
  unfold sChange kChange
  generalize hm : (if x3 = 2 then (20 : Int32) else 99) = mm
  split
  · rename_i h
    obtain ⟨h1, h2, h3, h4, h5⟩ := h
    obtain ⟨s, hs, rfl⟩ := gS_n h1
    obtain ⟨t, ht, rfl⟩ := gT_n h2
    obtain ⟨w, hw, rfl⟩ := nt_m (M := 2) (m := 2) rfl h3.1 h3.2
    rw [show tn (nI s) = s from nI_clamp (by omega), show tn (nI t) = t from nI_clamp (by omega)]
    rcases (show w = 0 ∨ w = 1 ∨ w = 2 by omega) with rfl | rfl | rfl
    · rw [← hm, if_neg (by decide)] at h5
      rw [fldE (s := s) (t := t) (show fld (nI 0) = 2 from by decide)]
      exact OK_f (KP.up (by omega) (r.home hs ht (nt_m (M := 99) rfl h4 h5)))
    · rw [← hm, if_neg (by decide)] at h5
      rw [fldE (s := s) (t := t) (show fld (nI 1) = 7 from by decide)]
      exact OK_f (KP.up (by omega) (r.heap hs ht (nt_m (M := 99) rfl h4 h5)))
    · rw [← hm, if_pos (by decide)] at h5
      rw [fldE (s := s) (t := t) (show fld (nI 2) = 12 from by decide)]
      exact OK_f (KP.up (by omega) (r.worth hs ht (nt_m (M := 20) rfl h4 h5)))
  · exact OK_bq r (by decide)
theorem ok_side {f : Nat → Int32} (r : Rg f) (c : Nat → Int32) (x1 x2 x3 : Int32) : OK2 f c (sSide f c x1 x2 x3) := by
  unfold sSide
  split
  · rename_i h
    obtain ⟨s, hs, rfl⟩ := gS_n h.1
    rw [show tn (nI s) = s from nI_clamp (by omega)]
    rcases h.2 with ⟨rfl, h3⟩ | ⟨rfl, h3⟩
    · rw [← kSide0]
      exact OK_f (KP.up (by omega) (r.greed hs (nt_m (M := 50) rfl h3.1 h3.2)))
    · rw [← kSide1]
      exact OK_f (KP.up (by omega) (r.trust hs (nt_m (M := 9) rfl h3.1 h3.2)))
  · exact OK_bq r (by decide)
theorem ok_frost {f : Nat → Int32} (r : Rg f) (c : Nat → Int32) (x1 : Int32) : OK2 f c (sFrost f c x1) := by
  unfold sFrost
  split
  · rename_i h
    exact OK_f (KP.up (by omega) (r.frost (nt_m (M := 9) rfl h.1 h.2)))
  · exact OK_bq r (by decide)
theorem ok_price {f : Nat → Int32} (r : Rg f) (c : Nat → Int32) (x1 x2 x3 : Int32) : OK2 f c (sPrice f c x1 x2 x3) := by
  unfold sPrice kPrice
  split
  · exact OK_eq r
  · exact OK_bq r (by decide)
theorem ok_value {f : Nat → Int32} (r : Rg f) (c : Nat → Int32) (x1 x2 : Int32) : OK2 f c (sValue f c x1 x2) := by
  unfold sValue kValue
  split
  · exact OK_eq r
  · exact OK_bq r (by decide)
theorem ok_eaten {f : Nat → Int32} (r : Rg f) (c : Nat → Int32) (x1 x2 : Int32) : OK2 f c (sEaten f c x1 x2) := by
  unfold sEaten kEaten
  split
  · exact OK_eq r
  · exact OK_bq r (by decide)
theorem ok_lay {f : Nat → Int32} (r : Rg f) (c : Nat → Int32) (x1 x2 x3 : Int32) : OK2 f c (sLay f c x1 x2 x3) := by
  unfold sLay kLay
  split
  · rename_i h
    obtain ⟨s, hs, rfl⟩ := gS_n h.1
    obtain ⟨t, ht, rfl⟩ := gT_n h.2.1
    obtain ⟨n, hn, rfl⟩ := nt_m (M := 99) (m := 99) rfl (Int32.le_trans (by decide) h.2.2.1) h.2.2.2
    rw [show tn (nI s) = s from nI_clamp (by omega), show tn (nI t) = t from nI_clamp (by omega)]
    split
    · rename_i h2
      refine OK_f ⟨Rg_laidN r hs ht hn h2, fun j hj => ?_⟩
      unfold laid
      rw [pk_un (by omega), pk_un (by omega)]
    · exact OK_bq r (by decide)
  · exact OK_bq r (by decide)
theorem ok_back {f : Nat → Int32} (r : Rg f) (c : Nat → Int32) (x1 x2 x3 : Int32) : OK2 f c (sBack f c x1 x2 x3) := by
  unfold sBack kBack
  split
  · rename_i h
    obtain ⟨s, hs, rfl⟩ := gS_n h.1
    obtain ⟨t, ht, rfl⟩ := gT_n h.2.1
    obtain ⟨n, hn, rfl⟩ := nt_m (M := 99) (m := 99) rfl (Int32.le_trans (by decide) h.2.2.1) h.2.2.2
    rw [show tn (nI s) = s from nI_clamp (by omega), show tn (nI t) = t from nI_clamp (by omega)]
    split
    · rename_i h2
      obtain ⟨a, ha, ea⟩ := (r.1 s t hs ht).1
      obtain ⟨b, hb, eb⟩ := (r.1 s t hs ht).2.1
      obtain ⟨m1, m2⟩ := h2
      rw [eb] at m1
      rw [ea, nI_add] at m2
      have k1 := (nI_leI (a := n) (b := b) (by omega) (by omega)).mp m1
      have k3 := (nI_leI (a := a + n) (b := 99) (by omega) (by omega)).mp m2
      refine OK_f ⟨?_, fun j hj => ?_⟩
      · refine (r.home hs ht ⟨a + n, by omega, ?_⟩).heap hs ht ⟨b - n, by omega, ?_⟩
        · rw [ea, nI_add]
        · rw [eb, pk_sub k1]
      · unfold bakF
        rw [pk_un (by omega), pk_un (by omega)]
    · exact OK_bq r (by decide)
  · exact OK_bq r (by decide)
theorem ok_content {f : Nat → Int32} (r : Rg f) (c : Nat → Int32) (x1 : Int32) : OK2 f c (sContent f c x1) := by
  unfold sContent kContent
  split
  · exact OK_eq r
  · exact OK_bq r (by decide)
theorem ok_does {f : Nat → Int32} (r : Rg f) (c : Nat → Int32) (x1 : Int32) : OK2 f c (sDoes f c x1) := by
  unfold sDoes kDoes
  split
  · exact OK_eq r
  · exact OK_bq r (by decide)
theorem ok_less {f : Nat → Int32} (r : Rg f) (c : Nat → Int32) (x1 : Int32) : OK2 f c (sLess f c x1) := by
  unfold sLess kLess
  split
  · split
    · exact OK_eq r
    · exact OK_bq r (by decide)
  · exact OK_bq r (by decide)
theorem ok_steal {f : Nat → Int32} (r : Rg f) (c : Nat → Int32) (x1 : Int32) : OK2 f c (sSteal f c x1) := by
  unfold sSteal kSteal
  split
  · rename_i h
    obtain ⟨s, hs, rfl⟩ := gS_n h
    rw [show tn (nI s) = s from nI_clamp (by omega)]
    split
    · exact OK_bq r (by decide)
    · refine OK_f ⟨(Rg_goU r (w := 1 - s) (s := s) (by omega) hs 5 (by omega)).trust (by omega) ⟨0, by omega, rfl⟩, fun j hj => ?_⟩
      rw [pk_un (by omega)]
      rcases Nat.lt_or_ge j 22 with q | q
      · exact goU_ge f _ _ q 5
      · exact goU_hi f (by omega) hs (by omega) 5 (by omega)
  · exact OK_bq r (by decide)
theorem ok_gift {f : Nat → Int32} (r : Rg f) (c : Nat → Int32) (x1 x2 x3 : Int32) : OK2 f c (sGift f c x1 x2 x3) := by
  unfold sGift kGift
  split
  · rename_i h
    obtain ⟨s, hs, rfl⟩ := gS_n h.1
    obtain ⟨t, ht, rfl⟩ := gT_n h.2.1
    obtain ⟨n, hn, rfl⟩ := nt_m (M := 99) (m := 99) rfl (Int32.le_trans (by decide) h.2.2.1) h.2.2.2
    rw [show tn (nI s) = s from nI_clamp (by omega), show tn (nI t) = t from nI_clamp (by omega)]
    split
    · rename_i h2
      obtain ⟨a, ha, ea⟩ := (r.1 s t hs ht).1
      rw [ea] at h2
      have k1 := (nI_leI (a := n) (b := a) (by omega) (by omega)).mp h2
      refine OK_f ⟨?_, fun j hj => ?_⟩
      · refine Rg_truF (Rg_comeH (r.home hs ht ⟨a - n, by omega, ?_⟩) (by omega) ht ⟨n, hn, rfl⟩) (by omega)
        rw [ea, pk_sub k1]
      · unfold gifF truF comeH
        rw [pk_un (by omega), pk_un (by omega), pk_un (by omega)]
    · exact OK_bq r (by decide)
  · exact OK_bq r (by decide)
theorem ok_now {f : Nat → Int32} (r : Rg f) (c : Nat → Int32) (x1 : Int32) : OK2 f c (sNow f c x1) := by
  unfold sNow
  repeat' split
  all_goals first | exact OK_eq r | exact OK_bq r (by decide)
theorem ok_ahead {f : Nat → Int32} (r : Rg f) (c : Nat → Int32) (x1 x2 : Int32) : OK2 f c (sAhead f c x1 x2) := by
  unfold sAhead kAhead
  split
  · split
    · exact OK_bq r (by decide)
    · exact OK_eq r
  · exact OK_bq r (by decide)
theorem OK_opt {f c : Nat → Int32} (r : Rg f) (o : Option Nat) : OK2 f c (kOpt f c o) := by
  cases o with
  | none => exact OK_bq r (by decide)
  | some m => exact OK_eq r
theorem ok_struck {f : Nat → Int32} (r : Rg f) (c : Nat → Int32) : OK2 f c (sStruck f c) := by
  unfold sStruck
  split
  · exact OK_bq r (by decide)
  · exact OK_opt r _
theorem ok_empty {f : Nat → Int32} (r : Rg f) (c : Nat → Int32) : OK2 f c (sEmpty f c) := by
  unfold sEmpty
  split
  · exact OK_bq r (by decide)
  · exact OK_opt r _
theorem ok_best {f : Nat → Int32} (r : Rg f) (c : Nat → Int32) (x1 x2 : Int32) (b : Bool) : OK2 f c (sBest f c x1 x2 b) := by
  unfold sBest kBest
  split
  · split
    · exact OK_bq r (by decide)
    · split
      · exact OK_eq r
      · exact OK_eq r
  · exact OK_bq r (by decide)
theorem ok_greed {f : Nat → Int32} (r : Rg f) (c : Nat → Int32) (x1 x2 : Int32) : OK2 f c (sGreed f c x1 x2) := by
  unfold sGreed kGreed
  split
  · split
    · exact OK_bq r (by decide)
    · exact OK_eq r
  · exact OK_bq r (by decide)
theorem ok_kindFor {f : Nat → Int32} (r : Rg f) (c : Nat → Int32) (x1 x2 : Int32) : OK2 f c (sKindFor f c x1 x2) := by
  unfold sKindFor kKindFor
  split
  · split
    · exact OK_bq r (by decide)
    · exact OK_eq r
  · exact OK_bq r (by decide)
theorem ok_tempt {f : Nat → Int32} (r : Rg f) (c : Nat → Int32) (x1 x2 : Int32) : OK2 f c (sTempt f c x1 x2) := by
  unfold sTempt kTempt
  split
  · split
    · exact OK_bq r (by decide)
    · exact OK_eq r
  · exact OK_bq r (by decide)
theorem ok_bundle {f : Nat → Int32} (r : Rg f) (c : Nat → Int32) : OK2 f c (sBundle f c) := by
  unfold sBundle
  split
  · exact OK_bq r (by decide)
  · exact OK_eq r
theorem ok_book {f : Nat → Int32} (r : Rg f) (c : Nat → Int32) (x1 x2 : Int32) : OK2 f c (sBook f c x1 x2) := by
  unfold sBook kBook
  split
  · split
    · exact OK_bq r (by decide)
    · exact OK_eq r
  · exact OK_bq r (by decide)
theorem ok_fits {f : Nat → Int32} (r : Rg f) (c : Nat → Int32) (x1 x2 : Int32) : OK2 f c (sFits f c x1 x2) := by
  unfold sFits kFits
  split
  · exact OK_eq r
  · exact OK_bq r (by decide)
theorem ok_greeds {f : Nat → Int32} (r : Rg f) (c : Nat → Int32) (x1 : Int32) : OK2 f c (sGreeds f c x1) := by
  unfold sGreeds kGreeds
  split
  · exact OK_eq r
  · exact OK_bq r (by decide)
theorem ok_known {f : Nat → Int32} (r : Rg f) (c : Nat → Int32) (x1 : Int32) : OK2 f c (sKnown f c x1) := by
  unfold sKnown kKnown
  split
  · exact OK_eq r
  · exact OK_bq r (by decide)
theorem ok_as {f : Nat → Int32} (r : Rg f) (c : Nat → Int32) (x1 x2 : Int32) : OK2 f c (sAs f c x1 x2) := by
  unfold sAs kAs
  repeat' split
  all_goals first | exact OK_eq r | exact OK_bq r (by decide)
theorem ok_count {f : Nat → Int32} (r : Rg f) (c : Nat → Int32) (ts x1 : Int32) : OK2 f c (sCount f c ts x1) := by
  unfold sCount
  repeat' split
  all_goals first | exact OK_eq r | exact OK_bq r (by decide)
theorem ok_load {f : Nat → Int32} (r : Rg f) (c wd sz nm : Nat → Int32) (x1 : Int32) : OK2 f c (sLoad f c wd sz nm x1) := by
  unfold sLoad kLoad
  split
  · split
    · exact OK_bq r (by decide)
    · exact OK_f ⟨Rg_ld r _ _ 5 (by omega), fun j hj => ld_at f nm _ _ (by omega) 5 (by omega)⟩
  · exact OK_bq r (by decide)
theorem ok_judge {f : Nat → Int32} (r : Rg f) (c wd sz nm : Nat → Int32) (x1 : Int32) : OK2 f c (sJudge f c wd sz nm x1) := by
  unfold sJudge kJudge
  split
  · split
    · exact OK_bq r (by decide)
    · split
      · exact OK_bq r (by decide)
      · exact OK_eq r
  · exact OK_bq r (by decide)
theorem ok_status (c : Nat → Int32) (x1 : Int32) : FD c (sStatus c x1).2 := by
  unfold sStatus
  split
  · exact FD.rf c
  · exact FD.bq c (by decide)
/-! texts -/
theorem wk6 (y : Nat → Int32) (n p : Nat) (h : 0 ≤ wkF y n p) : Nt 6 (wkF y n p) := by
  unfold wkF at h ⊢
  repeat' split
  all_goals first | exact ⟨0, by omega, rfl⟩ | exact ⟨1, by omega, rfl⟩ | exact ⟨2, by omega, rfl⟩ | exact ⟨3, by omega, rfl⟩ | exact ⟨4, by omega, rfl⟩ | exact ⟨5, by omega, rfl⟩ | exact ⟨6, by omega, rfl⟩ | skip
  simp_all
theorem kp_tlK {y : Nat → Int32} {n : Nat} {f : Nat → Int32} {p : Nat} {k : Int32} (r : Rg f) (hp : p ≤ n) (hk : Nt 6 k) : KP f (tlK y n f p k).2.2 := by
  unfold tlK
  split
  · rename_i h
    obtain ⟨v, h1, h2⟩ := nu_n (M := 4) hp h (by omega)
    show KP f (upd f (15 + tn (tV y n p)) k)
    rw [h2, show tn (nI v) = v from nI_clamp (by omega)]
    exact KP.up (by omega) (r.kind (by omega) hk)
  · exact KP.rf r
theorem kp_tlT {y : Nat → Int32} {n : Nat} {f : Nat → Int32} {p s : Nat} (r : Rg f) (hp : p ≤ n) (hs : s < 2) : KP f (tlT y n f p s).2.2 := by
  unfold tlT
  split
  · split
    · rename_i h
      obtain ⟨v, h1, h2⟩ := nu_n (M := 9) (tE_n hp) h (by omega)
      show KP f (upd f (21 + 17 * s) (tV y n (tE y n p)))
      rw [h2]
      exact KP.up (by omega) (r.trust hs ⟨v, h1, rfl⟩)
    · exact KP.rf r
  · exact KP.rf r
theorem kp_tlG {y : Nat → Int32} {n : Nat} {f : Nat → Int32} {p s : Nat} (r : Rg f) (hp : p ≤ n) (hs : s < 2) : KP f (tlG y n f p s).2.2 := by
  unfold tlG
  split
  · split
    · rename_i h
      obtain ⟨v, h1, h2⟩ := nu_n (M := 50) (tE_n hp) h (by omega)
      rw [h2]
      have k := KP.up (x := nI v) (by omega) (r.greed hs ⟨v, h1, rfl⟩)
      exact k.tr (kp_tlT k.1 (tE_n (tE_n hp)) hs)
    · exact KP.rf r
  · exact kp_tlT r hp hs
theorem kp_tlS {y : Nat → Int32} {n : Nat} {f : Nat → Int32} {p : Nat} (r : Rg f) (hp : p ≤ n) : KP f (tlS y n f p).2.2 := by
  unfold tlS
  split
  · rename_i h
    obtain ⟨v, h1, h2⟩ := nu_n (M := 1) hp h (by omega)
    rw [h2, show tn (nI v) = v from nI_clamp (by omega)]
    exact kp_tlG r (tE_n hp) (by omega)
  · exact KP.rf r
theorem kp_tlH {y : Nat → Int32} {n : Nat} {f : Nat → Int32} {p : Nat} {w : Int32} (r : Rg f) (hp : p ≤ n) (hw : w = 0 ∨ w = 1 ∨ w = 2) : KP f (tlH y n f p w).2.2 := by
  unfold tlH
  generalize hm : (if w = 2 then (20 : Int32) else 99) = mm
  split
  · rename_i h
    obtain ⟨s, hs, es⟩ := nu_n (M := 1) hp h (by omega)
    split
    · rename_i h3
      obtain ⟨t, ht, et⟩ := nu_n (M := 4) (tE_n hp) h3 (by omega)
      split
      · rename_i h4
        show KP f (upd f (20 + 17 * tn (tV y n p) + fld w + tn (tV y n (tE y n p))) (tV y n (tE y n (tE y n p))))
        rw [es, et, show tn (nI s) = s from nI_clamp (by omega), show tn (nI t) = t from nI_clamp (by omega)]
        rcases hw with rfl | rfl | rfl
        · rw [← hm, if_neg (by decide)] at h4
          obtain ⟨v, hv, ev⟩ := nu_n (M := 99) (tE_n (tE_n hp)) h4 (by omega)
          rw [ev, fldE (s := s) (t := t) (show fld 0 = 2 from by decide)]
          exact KP.up (by omega) (r.home (by omega) (by omega) ⟨v, hv, rfl⟩)
        · rw [← hm, if_neg (by decide)] at h4
          obtain ⟨v, hv, ev⟩ := nu_n (M := 99) (tE_n (tE_n hp)) h4 (by omega)
          rw [ev, fldE (s := s) (t := t) (show fld 1 = 7 from by decide)]
          exact KP.up (by omega) (r.heap (by omega) (by omega) ⟨v, hv, rfl⟩)
        · rw [← hm, if_pos rfl] at h4
          obtain ⟨v, hv, ev⟩ := nu_n (M := 20) (tE_n (tE_n hp)) h4 (by omega)
          rw [ev, fldE (s := s) (t := t) (show fld 2 = 12 from by decide)]
          exact KP.up (by omega) (r.worth (by omega) (by omega) ⟨v, hv, rfl⟩)
      · exact KP.rf r
    · exact KP.rf r
  · exact KP.rf r
theorem kp_tlF {y : Nat → Int32} {n : Nat} {f : Nat → Int32} {p : Nat} (r : Rg f) (hp : p ≤ n) : KP f (tlF y n f p).2.2 := by
  unfold tlF
  split
  · rename_i h
    obtain ⟨v, h1, h2⟩ := nu_n (M := 9) hp h (by omega)
    show KP f (upd f 1 (tV y n p))
    rw [h2]
    exact KP.up (by omega) (r.frost ⟨v, h1, rfl⟩)
  · exact KP.rf r
theorem kp_itF {y : Nat → Int32} {n : Nat} {f : Nat → Int32} {p : Nat} (r : Rg f) (hp : p ≤ n) : KP f (itF y n f p).2.2 := by
  unfold itF
  split
  · rename_i h
    exact kp_tlK r (tE_n hp) (wk6 y n p h)
  · split
    · exact kp_tlS r (tE_n hp)
    · split
      · exact kp_tlH r (tE_n hp) (Or.inl rfl)
      · split
        · exact kp_tlH r (tE_n hp) (Or.inr (Or.inl rfl))
        · split
          · exact kp_tlH r (tE_n hp) (Or.inr (Or.inr rfl))
          · split
            · exact kp_tlF r (tE_n hp)
            · exact KP.rf r
theorem kp_txU {y : Nat → Int32} {n : Nat} : ∀ (d i p : Nat) (f : Nat → Int32), Rg f → p ≤ n → KP f (txU y n d i p f).2
  | 0, _, _, _, r, _ => KP.rf r
  | d + 1, i, p, f, r, hp => by
    have k := kp_itF (y := y) r hp
    have hq := itF_n (y := y) (f := f) hp
    unfold txU
    split
    · exact k
    · split
      · exact k
      · split
        · exact k.tr (kp_txU d _ _ _ k.1 (tE_n hq))
        · exact k
theorem kp_txF {y : Nat → Int32} {n : Nat} {f : Nat → Int32} (r : Rg f) : KP f (txF y n f) := by
  unfold txF
  split
  · exact KP.rf r
  · exact kp_txU 120 1 0 f r (Nat.zero_le n)
/-! nights, seasons: what they keep -/
theorem actF_lo {f : Nat → Int32} {s : Nat} (d : Int32) {j : Nat} (hj : j < 15) (h2 : j ≠ 2) : actF f s d j = f j := by
  by_cases c1 : d = 1
  · rw [actF1 c1, pk_un (by omega), truF, pk_un (by omega), truF, pk_un (by omega), goU_ge _ _ _ (by omega), goU_ge _ _ _ (by omega)]
  · by_cases c2 : d = 2
    · subst c2
      show lesF f s (deaU f s 5).1.toNatClampNeg j = f j
      rw [lesF, comeH, pk_un (by omega), pk_un (by omega)]
    · by_cases c3 : d = 3
      · rw [actF3 c3]
        exact goU_ge f s s (by omega) 5
      · rw [actF0 c1 c2 c3]
theorem nite_sp (f : Nat → Int32) {j : Nat} (h : 4 ≤ j ∧ j < 15) : nite f j = f j := by
  rw [← nite54 f j (by omega), endF, pk_un (by omega), birU_lt _ _ (by omega) (by omega), birU_lt _ _ (by omega) (by omega), actF_lo _ h.2 (by omega)]
theorem ngU_sp (f : Nat → Int32) {j : Nat} (h : 4 ≤ j ∧ j < 15) : ∀ k, ngU f k j = f j
  | 0 => rfl
  | k + 1 => by rw [ngU, nite_sp _ h, ngU_sp f h k]
theorem seA_sp (f : Nat → Int32) {j : Nat} (h : 5 ≤ j ∧ j < 15) : seA f j = f j := by
  have e : drF f j = f j := by unfold drF; rw [pk_un (by omega), pk_un (by omega), pk_un (by omega), pk_un (by omega)]
  unfold seA
  split
  · unfold laid
    have := Nat.mod_lt (dN (z3F f)) (y := 5) (by omega)
    rw [pk_un (by omega), pk_un (by omega), e]
  · exact e
theorem seU_sp (f : Nat → Int32) {j : Nat} (h : 5 ≤ j ∧ j < 15) : ∀ k, seU f k j = f j
  | 0 => rfl
  | k + 1 => by rw [seU, ngU_sp _ (by omega), seA_sp _ h, seU_sp f h k]
/-! ===== the invariant's numbers ===== -/
/-- a state: ranges, books, spots -/
def FQ (f g : Nat → Int32) : Prop := Rg f ∧ RB f ∧ BkR f g ∧ RS f
def FA (ik zz s0 nx sx : Int32) (f y sz c g so v : Nat → Int32) : Prop := zz = f 4 ∧ (∀ j, j < 10 → so j = f (5 + j)) ∧ nx = nI (nN f % 12) ∧ sx = nI (min 12 (nN f)) ∧ FQ f g ∧ RZ sz ∧ c 0 = stU c 7 ∧ (∃ n, n ≤ 120 ∧ s0 = nI n ∧ v 8 = nI n ∧ ∀ j, j < n → by_ (y j)) ∧ ik = v 3
def FK (ik z2 : Int32) (mx my : Nat) (p h k : Nat → Int32) : Prop := ¬ ik = 0 → z2 = p 4 ∧ mx = nN p % 12 ∧ my = min 12 (nN p) ∧ FQ p h ∧ k = p
theorem KP.nN {f f' : Nat → Int32} (h : KP f f') : nN f' = nN f := nN_e2 (h.2 0 (Or.inl rfl))
theorem KP.FQ {f f' g : Nat → Int32} (h : KP f f') (q : FQ f g) : FQ f' g := by
  obtain ⟨-, rb, bk, rs⟩ := q
  refine ⟨h.1, fun i hi => ?_, fun i hi hn => ?_, fun j hj => ?_⟩
  · obtain ⟨a, b, c⟩ := rb i hi
    refine ⟨fun j hj => ?_, ?_, ?_⟩
    · rw [h.2 _ (by omega)]; exact a j hj
    · rw [h.2 _ (by omega)]; exact b
    · rw [h.2 _ (by omega)]; exact c
  · rw [h.nN] at hn
    obtain ⟨a, b, c, d, e⟩ := bk i hi hn
    refine ⟨fun j hj => ?_, ?_, ?_, d, ?_⟩
    · rw [h.2 _ (by omega)]; exact a j hj
    · rw [h.2 _ (by omega)]; exact b
    · rw [h.2 _ (by omega)]; exact c
    · rw [h.2 _ (by omega)]; exact e
  · rw [h.2 (5 + j) (by omega)]; exact rs j hj
theorem FA.ok {ik zz s0 nx sx : Int32} {f y sz c g so v f' c' : Nat → Int32} (a : FA ik zz s0 nx sx f y sz c g so v) (k : KP f f') (d : FD c c') : FA ik zz s0 nx sx f' y sz c' g so v := by
  obtain ⟨a1, a2, a3, a4, a5, a6, a7, a8, a9⟩ := a
  refine ⟨a1.trans (k.2 4 (by omega)).symm, fun j hj => (a2 j hj).trans (k.2 (5 + j) (by omega)).symm, ?_, ?_, k.FQ a5, a6, d.st a7, a8, a9⟩
  · rw [k.nN]; exact a3
  · rw [k.nN]; exact a4
theorem FA.v {ik zz s0 nx sx : Int32} {f y sz c g so v v' : Nat → Int32} (a : FA ik zz s0 nx sx f y sz c g so v) (h3 : v' 3 = v 3) (h8 : v' 8 = v 8) : FA ik zz s0 nx sx f y sz c g so v' := by
  obtain ⟨a1, a2, a3, a4, a5, a6, a7, ⟨n, b1, b2, b3, b4⟩, a9⟩ := a
  exact ⟨a1, a2, a3, a4, a5, a6, a7, ⟨n, b1, b2, h8.trans b3, b4⟩, a9.trans h3.symm⟩
theorem FA.c {ik zz s0 nx sx : Int32} {f y sz c g so v c' sz' : Nat → Int32} (a : FA ik zz s0 nx sx f y sz c g so v) (d : FD c c') (z : RZ sz') : FA ik zz s0 nx sx f y sz' c' g so v := by
  obtain ⟨a1, a2, a3, a4, a5, a6, a7, a8, a9⟩ := a
  exact ⟨a1, a2, a3, a4, a5, z, d.st a7, a8, a9⟩
theorem FA.so {ik zz s0 nx sx : Int32} {f y sz c g so v : Nat → Int32} (a : FA ik zz s0 nx sx f y sz c g so v) : FA ik zz s0 nx sx f y sz c g (fun j => f (5 + j)) v := by
  obtain ⟨a1, a2, a3, a4, a5, a6, a7, a8, a9⟩ := a
  exact ⟨a1, fun _ _ => rfl, a3, a4, a5, a6, a7, a8, a9⟩
/-- nights, seasons -/
theorem FA.ng {ik zz s0 nx sx : Int32} {f y sz c g so v f' c' g' : Nat → Int32} (a : FA ik zz s0 nx sx f y sz c g so v) (r : Rg f') (rb : RB f') (bk : BkR f' g') (sp : ∀ j, 5 ≤ j ∧ j < 15 → f' j = f j) (d : FD c c') : FA ik (f' 4) s0 (nI (nN f' % 12)) (nI (min 12 (nN f'))) f' y sz c' g' so v := by
  obtain ⟨a1, a2, a3, a4, a5, a6, a7, a8, a9⟩ := a
  refine ⟨rfl, fun j hj => (a2 j hj).trans (sp (5 + j) (by omega)).symm, rfl, rfl, ⟨r, rb, bk, fun j hj => ?_⟩, a6, d.st a7, a8, a9⟩
  rw [sp (5 + j) (by omega)]
  exact a5.2.2.2 j hj
theorem nights_keep {f g : Nat → Int32} (q : FQ f g) (c : Nat → Int32) (x1 : Int32) : Rg (sNights f c x1).2.1 ∧ RB (sNights f c x1).2.1 ∧ (∀ j, 4 ≤ j ∧ j < 15 → (sNights f c x1).2.1 j = f j) ∧ FD c (sNights f c x1).2.2 := by
  unfold sNights kNights
  split
  · rename_i h
    obtain ⟨n, h1, h2, rfl⟩ := g60_n h
    rw [show tn (nI n) = n from nI_clamp (by omega)]
    split
    · exact ⟨q.1, q.2.1, fun _ _ => rfl, FD.bq c (by decide)⟩
    · rename_i h3
      have hn := late_no q.1 h2 h3
      exact ⟨(Rg_ngU q.1 n hn).1, (BkR_ngU q.1 q.2.2.1 q.2.1 n hn).2, fun j hj => ngU_sp f hj n, FD.rf c⟩
  · exact ⟨q.1, q.2.1, fun _ _ => rfl, FD.bq c (by decide)⟩
theorem season_keep {f g : Nat → Int32} (q : FQ f g) (c : Nat → Int32) (x1 : Int32) : Rg (sSeason f c x1).2.1 ∧ RB (sSeason f c x1).2.1 ∧ (∀ j, 5 ≤ j ∧ j < 15 → (sSeason f c x1).2.1 j = f j) ∧ FD c (sSeason f c x1).2.2 := by
  unfold sSeason kSeason
  split
  · rename_i h
    obtain ⟨n, h1, h2, rfl⟩ := g12_n h
    rw [show tn (nI n) = n from nI_clamp (by omega)]
    split
    · exact ⟨q.1, q.2.1, fun _ _ => rfl, FD.bq c (by decide)⟩
    · rename_i h3
      have hn := late_no q.1 (n := 2 * n) (by omega) h3
      exact ⟨(Rg_seU q.1 n hn).1, (BkR_seU q.1 q.2.2.1 q.2.1 n hn).2, fun j hj => seU_sp f hj n, FD.rf c⟩
  · exact ⟨q.1, q.2.1, fun _ _ => rfl, FD.bq c (by decide)⟩
/-- the draws' number set -/
theorem FA.seed {ik zz s0 nx sx : Int32} {f y sz c g so v : Nat → Int32} (a : FA ik zz s0 nx sx f y sz c g so v) (x : Int32) : FA ik x s0 nx sx (upd f 4 x) y sz c g so v := by
  obtain ⟨a1, a2, a3, a4, ⟨r, rb, bk, rs⟩, a6, a7, a8, a9⟩ := a
  have e : nN (upd f 4 x) = nN f := nN_e2 (pk_un (by omega))
  refine ⟨pk_us.symm, fun j hj => (a2 j hj).trans (pk_un (by omega)).symm, by rw [e]; exact a3, by rw [e]; exact a4, ⟨r.free (Or.inl (by omega)), RB_up rb (by omega), BkR_up bk (by omega) (by omega), fun j hj => ?_⟩, a6, a7, a8, a9⟩
  rw [pk_un (by omega)]
  exact rs j hj
/-- a spot held -/
theorem FA.hold {ik zz s0 nx sx : Int32} {f y sz c g so v : Nat → Int32} (a : FA ik zz s0 nx sx f y sz c g so v) {i : Nat} (hi : i < 10) {x : Int32} (hx : x = -1 ∨ Nt 4 x) : FA ik zz s0 nx sx (upd f (5 + i) x) y sz c g (upd so i x) v := by
  obtain ⟨a1, a2, a3, a4, ⟨r, rb, bk, rs⟩, a6, a7, a8, a9⟩ := a
  have e : nN (upd f (5 + i) x) = nN f := nN_e2 (pk_un (by omega))
  refine ⟨a1.trans (pk_un (by omega)).symm, fun j hj => ?_, by rw [e]; exact a3, by rw [e]; exact a4, ⟨r.free (Or.inl (by omega)), RB_up rb (by omega), BkR_up bk (by omega) (by omega), fun j hj => ?_⟩, a6, a7, a8, a9⟩
  · unfold upd
    by_cases q : j = i
    · rw [if_pos q, if_pos (by omega)]
    · rw [if_neg q, if_neg (by omega)]; exact a2 j hj
  · refine upd_or (P := fun w => w = -1 ∨ Nt 4 w) (fun _ => hx) (rs j hj)
theorem hold_eq {f c so : Nat → Int32} {x1 x2 r r2 : Int32} {so' c' f2 c2 : Nat → Int32} (h1 : (r, so', c') = if (0 ≤ x1 ∧ x1 ≤ 9) ∧ (-1 ≤ x2 ∧ x2 ≤ 4) then (1, upd so (tn x1) x2, c) else (-1000001, so, fnd c 1)) (h2 : (r2, f2, c2) = sHold f c x1 x2) {ik zz s0 nx sx : Int32} {y sz g v : Nat → Int32} (a : FA ik zz s0 nx sx f y sz c g so v) : r2 = r ∧ c2 = c' ∧ FA ik zz s0 nx sx f2 y sz c' g so' v := by
  have key : (-1 ≤ x2 ∧ x2 ≤ 4) ↔ (x2 = -1 ∨ gT x2) := by
    constructor
    · intro q
      rcases Decidable.em (x2 < 0) with w | w
      · refine Or.inl (Int32.toInt_inj.mp ?_)
        have h1 : (-1 : Int) ≤ x2.toInt := Int32.le_iff_toInt_le.mp q.1
        have h2 : x2.toInt < 0 := Int32.lt_iff_toInt_lt.mp w
        rw [show (-1 : Int32).toInt = -1 from rfl]
        omega
      · exact Or.inr ⟨Int32.not_lt.mp w, q.2⟩
    · rintro (rfl | q)
      · decide
      · exact ⟨Int32.le_trans (by decide) q.1, q.2⟩
  unfold sHold at h2
  by_cases c1 : (0 ≤ x1 ∧ x1 ≤ 9) ∧ (-1 ≤ x2 ∧ x2 ≤ 4)
  · rw [if_pos c1] at h1
    rw [if_pos ⟨c1.1, key.mp c1.2⟩] at h2
    obtain ⟨i, hi, e⟩ := g9_n c1.1
    have e2 : tn x1 = i := by rw [e]; exact nI_clamp (by omega)
    rw [e2] at h1 h2
    cases h1
    cases h2
    refine ⟨rfl, rfl, a.hold hi ?_⟩
    rcases key.mp c1.2 with w | w
    · exact Or.inl w
    · exact Or.inr (nt_m (M := 4) rfl w.1 w.2)
  · rw [if_neg c1] at h1
    rw [if_neg (fun q => c1 ⟨q.1, key.mpr q.2⟩)] at h2
    cases h1
    cases h2
    obtain ⟨a1, a2, a3, a4, a5, a6, a7, a8, a9⟩ := a
    exact ⟨rfl, rfl, a1, a2, a3, a4, a5, a6, (FD.bq c (q := 1) (by decide)).st a7, a8, a9⟩
/-- the tape -/
theorem fdU_by {ty : Nat → Int32} {m : Nat} {b : Int32} {n : Nat} (h : ∀ j, j < m → by_ (ty j)) : ∀ k j, j < m + k → by_ (fdU ty m b n k j)
  | 0, j, hj => h j hj
  | k + 1, j, hj => by
    unfold fdU upd
    by_cases e : j = m + k
    · rw [if_pos e]; exact by_and _
    · rw [if_neg e]; exact fdU_by h k j (by omega)
theorem feed_n {ty c : Nat → Int32} {m : Nat} (hm : m ≤ 120) (hby : ∀ j, j < m → by_ (ty j)) (b x : Int32) : ∃ n, n ≤ 120 ∧ (sFeed (nI m) ty c b x).2.1 = nI n ∧ (∀ j, j < n → by_ ((sFeed (nI m) ty c b x).2.2.1 j)) ∧ FD c (sFeed (nI m) ty c b x).2.2.2 := by
  unfold sFeed kFeed
  split
  · rename_i h
    obtain ⟨n, h1, h2, rfl⟩ := g4_n h
    rw [show tn (nI n) = n from nI_clamp (by omega), show tn (nI m) = m from nI_clamp (by omega)]
    split
    · exact ⟨m, hm, rfl, hby, FD.bq c (by decide)⟩
    · rename_i h3
      rw [nI_add] at h3
      have := (nI_leI (a := m + n) (b := 120) (by omega) (by omega)).mp (Int32.not_lt.mp h3)
      exact ⟨m + n, this, nI_add m n, fdU_by hby n, FD.rf c⟩
  · exact ⟨m, hm, rfl, hby, FD.bq c (by decide)⟩
theorem FA.feed {ik zz s0 nx sx : Int32} {f y sz c g so v : Nat → Int32} (a : FA ik zz s0 nx sx f y sz c g so v) {x1 x2 r r2 s1 : Int32} {y1 c1 v2 y2 c2 : Nat → Int32} (h1 : (r, s1, y1, c1) = sFeed s0 y c x1 x2) (h2 : (r2, v2, y2, c2) = sFeedM v y c x1 x2) : r2 = r ∧ y2 = y1 ∧ c2 = c1 ∧ FA ik zz s1 nx sx f y1 sz c1 g so v2 := by
  obtain ⟨a1, a2, a3, a4, a5, a6, a7, ⟨n, b1, b2, b3, b4⟩, a9⟩ := a
  have e := feed_eq v y c x1 x2
  rw [← h2, b3, ← b2, ← h1] at e
  obtain ⟨e1, e2, e3⟩ := e
  obtain ⟨e4, e5⟩ := Prod.mk.inj e3
  obtain ⟨m, k1, k2, k3, k4⟩ := feed_n (c := c) b1 b4 x1 x2
  rw [← b2, ← h1] at k2 k3 k4
  have k2 : s1 = nI m := k2
  have e2 : v2 = upd v 8 s1 := e2
  refine ⟨e1, e4, e5, a1, a2, a3, a4, a5, a6, k4.st a7, ⟨m, k1, k2, ?_, k3⟩, ?_⟩
  · rw [e2, pk_us, k2]
  · rw [e2, pk_un (by omega)]; exact a9
theorem FA.wipe {ik zz s0 nx sx : Int32} {f y sz c g so v v' : Nat → Int32} (a : FA ik zz s0 nx sx f y sz c g so v) (h3 : v' 3 = v 3) (h8 : v' 8 = 0) : FA ik zz 0 nx sx f y sz c g so v' := by
  obtain ⟨a1, a2, a3, a4, a5, a6, a7, a8, a9⟩ := a
  exact ⟨a1, a2, a3, a4, a5, a6, a7, ⟨0, by omega, rfl, h8, fun j hj => absurd hj (by omega)⟩, a9.trans h3.symm⟩
/-- images -/
theorem FA.ik {ik zz s0 nx sx : Int32} {f y sz c g so v : Nat → Int32} (a : FA ik zz s0 nx sx f y sz c g so v) (x : Int32) : FA x zz s0 nx sx f y sz c g so (upd v 3 x) := by
  obtain ⟨a1, a2, a3, a4, a5, a6, a7, ⟨n, b1, b2, b3, b4⟩, a9⟩ := a
  exact ⟨a1, a2, a3, a4, a5, a6, a7, ⟨n, b1, b2, (pk_un (by omega)).trans b3, b4⟩, pk_us.symm⟩
theorem FA.kept {ik zz s0 nx sx : Int32} {f y sz c g so v : Nat → Int32} (a : FA ik zz s0 nx sx f y sz c g so v) (i : Int32) : FK i zz (nN f % 12) (min 12 (nN f)) f g f := fun _ => ⟨a.1, rfl, rfl, a.2.2.2.2.1, rfl⟩
theorem FK.no (z2 : Int32) (mx my : Nat) (p h k : Nat → Int32) : FK 0 z2 mx my p h k := fun q => absurd rfl q
/-- back to the image -/
theorem FA.undo {ik zz s0 nx sx z2 r r2 z1 : Int32} {f y sz c g so v p h k f1 g1 c1 f2 c2 : Nat → Int32} {mx my n1 n2 : Nat} (a : FA ik zz s0 nx sx f y sz c g so v) (b : FK ik z2 mx my p h k) (h1 : ik = 0 ∧ r = -1000004 ∧ (z1, f1, n1, n2, g1, c1) = (zz, f, nN f % 12, min 12 (nN f), g, fnd c 4) ∨ ¬ ik = 0 ∧ r = p 0 ∧ (z1, f1, n1, n2, g1, c1) = (z2, p, mx, my, h, c)) (h2 : (r2, f2, c2) = sUndo f k c (v 3)) : r2 = r ∧ f2 = f1 ∧ c2 = c1 ∧ FA ik z1 s0 (nI n1) (nI n2) f1 y sz c1 g1 (fun j => f1 (5 + j)) v := by
  obtain ⟨a1, a2, a3, a4, a5, a6, a7, a8, a9⟩ := a
  unfold sUndo at h2
  rcases h1 with ⟨q1, q2, q3⟩ | ⟨q1, q2, q3⟩
  · rw [if_pos (a9.symm.trans q1)] at h2
    cases q3
    cases h2
    exact ⟨q2.symm, rfl, rfl, a1, fun _ _ => rfl, rfl, rfl, a5, a6, (FD.bq c (q := 4) (by decide)).st a7, a8, a9⟩
  · rw [if_neg (fun q => q1 (a9.trans q))] at h2
    obtain ⟨b1, b2, b3, b4, b5⟩ := b q1
    cases q3
    cases h2
    subst b5
    subst b2
    subst b3
    exact ⟨q2.symm, rfl, rfl, b1, fun _ _ => rfl, rfl, rfl, b4, a6, a7, a8, a9⟩
/-- sheets -/
theorem sheet_keep {sz : Nat → Int32} (z : RZ sz) (wd nm c : Nat → Int32) (x1 x2 x3 : Int32) : RZ (sSheet wd sz nm c x1 x2 x3).2.2.1 ∧ FD c (sSheet wd sz nm c x1 x2 x3).2.2.2.2 := by
  unfold sSheet kSheet
  split
  · split
    · exact ⟨z, FD.bq c (by decide)⟩
    · rename_i h0
      split
      · exact ⟨z, FD.bq c (by decide)⟩
      · rename_i h1
        refine ⟨fun s hs => ?_, FD.rf c⟩
        refine upd_or (P := Nt 40) (fun _ => ?_) (z s hs)
        split
        · exact ⟨0, by omega, rfl⟩
        · exact nt_m (M := 40) rfl (Int32.not_lt.mp h0) (Int32.not_lt.mp h1)
  · exact ⟨z, FD.bq c (by decide)⟩
theorem write_keep {sz : Nat → Int32} (z : RZ sz) (wd nm c : Nat → Int32) (x1 x2 x3 : Int32) : RZ (sWrite wd sz nm c x1 x2 x3).2.2.1 ∧ FD c (sWrite wd sz nm c x1 x2 x3).2.2.2.2 := by
  unfold sWrite kWrite
  split
  · split
    · exact ⟨z, FD.bq c (by decide)⟩
    · split
      · exact ⟨z, FD.rf c⟩
      · exact ⟨z, FD.bq c (by decide)⟩
  · exact ⟨z, FD.bq c (by decide)⟩
theorem copy_keep {sz : Nat → Int32} (z : RZ sz) (wd nm c : Nat → Int32) (x1 x2 x3 x4 x5 : Int32) : RZ (sCopy wd sz nm c x1 x2 x3 x4 x5).2.2.1 ∧ FD c (sCopy wd sz nm c x1 x2 x3 x4 x5).2.2.2.2 := by
  unfold sCopy kCopy
  split
  · split
    · exact ⟨z, FD.bq c (by decide)⟩
    · split
      · exact ⟨z, FD.bq c (by decide)⟩
      · split
        · exact ⟨z, FD.rf c⟩
        · exact ⟨z, FD.bq c (by decide)⟩
  · exact ⟨z, FD.bq c (by decide)⟩
theorem FA.z4 {ik zz s0 nx sx : Int32} {f y sz c g so v : Nat → Int32} (a : FA ik zz s0 nx sx f y sz c g so v) : FA ik (f 4) s0 nx sx f y sz c g so v := by
  obtain ⟨-, a2⟩ := a
  exact ⟨rfl, a2⟩
theorem FA.nx {ik zz s0 nx sx : Int32} {f y sz c g so v : Nat → Int32} (a : FA ik zz s0 nx sx f y sz c g so v) : FA ik zz s0 (nI (nN f % 12)) (nI (min 12 (nN f))) f y sz c g so v := by
  obtain ⟨a1, a2, -, -, a5⟩ := a
  exact ⟨a1, a2, rfl, rfl, a5⟩
theorem rs_sp {f : Nat → Int32} (h : RS f) : ∀ i, i < 10 → 0 ≤ f (5 + i) → ∃ o, o < 5 ∧ f (5 + i) = nI o := fun i hi h0 => by
  rcases h i hi with e | ⟨n, h1, h2⟩
  · rw [e] at h0; exact absurd h0 (by decide)
  · exact ⟨n, by omega, h2⟩
/-- one segment said otherwise -/
theorem rep_P {D : va_G} {cl : List vw_C} {H : Heap} (pre : List va_W) {w1 w2 : va_W} (post : List va_W) (hw : weq w1 w2) (h : va_P D cl (pre ++ w1 :: post).flatten H) : va_P D cl (pre ++ w2 :: post).flatten H := by
  rw [List.flatten_append, List.flatten_cons] at h ⊢
  exact (weq.app (weq.rf _) (weq.app hw (weq.rf _))).P h
theorem rep_D {A : Nat → Prop} (pre : List va_W) {w1 w2 : va_W} (post : List va_W) (hw : weq w1 w2) (h : va_D A (pre ++ w1 :: post).flatten) : va_D A (pre ++ w2 :: post).flatten := by
  rw [List.flatten_append, List.flatten_cons] at h ⊢
  exact (weq.app (weq.rf _) (weq.app hw (weq.rf _))).D h
theorem sp_eq {ct : Nat → ClassId} {sp : Nat} {so f : Nat → Int32} (h : ∀ j, j < 10 → so j = f (5 + j)) : weq [ai ct sp 10 so] [ai ct sp 10 (fun j => f (5 + j))] := weq.cons (ceq.arr h) weq.nil
/-- a Border doesn't speak of the draws and the spots -/
theorem wB_up {ct : Nat → ClassId} {a : Nat → Nat} {f f' : Nat → Int32} (h : ∀ j, j < 4 ∨ 15 ≤ j ∧ j < 54 → f' j = f j) : weq (wB ct a f) (wB ct a f') :=
  wB_eq (h 1 (by omega)).symm (h 0 (by omega)).symm (h 2 (by omega)).symm (h 3 (by omega)).symm (fun j hj => (h _ (by omega)).symm) (fun j hj => (h _ (by omega)).symm) (fun j hj => (h _ (by omega)).symm) (fun j hj => (h _ (by omega)).symm) (fun j hj => (h _ (by omega)).symm) (fun j hj => (h _ (by omega)).symm)
theorem hold_B {f c f2 c2 : Nat → Int32} {x1 x2 r2 : Int32} (h2 : (r2, f2, c2) = sHold f c x1 x2) : ∀ j, j < 4 ∨ 15 ≤ j ∧ j < 54 → f2 j = f j := by
  unfold sHold at h2
  by_cases q : (0 ≤ x1 ∧ x1 ≤ 9) ∧ (x2 = -1 ∨ gT x2)
  · rw [if_pos q] at h2
    obtain ⟨i, hi, e⟩ := g9_n q.1
    have e2 : tn x1 = i := by rw [e]; exact nI_clamp (by omega)
    rw [e2] at h2
    cases h2
    exact fun j hj => pk_un (by omega)
  · rw [if_neg q] at h2
    cases h2
    exact fun _ _ => rfl
