/-- behind must that is not met, or was not before -/
def Fq (u v : Nat → Int32) : Prop := ∀ j, (j < 9 ∨ 13 < j) → u j = v j
/-- rows told, one by one -/
def apU (it : Nat → Int32) : Nat → (Nat → Int32) → Nat → Int32
  | 0, f => f
  | k + 1, f => upd (apU it k f) (tn (it (2 * k))) (it (2 * k + 1))
theorem apU_up {it : Nat → Int32} {m : Nat} {w x : Int32} (f : Nat → Int32) : ∀ k, k ≤ m → apU (upd (upd it (2 * m) w) (2 * m + 1) x) k f = apU it k f
  | 0, _ => rfl
  | k + 1, hk => by
    rw [apU, apU, apU_up f k (by omega), pk_un (by omega), pk_un (by omega), pk_un (by omega), pk_un (by omega)]
theorem apU_S {it : Nat → Int32} {m i : Nat} {x : Int32} (f : Nat → Int32) (hi : i < 2147483648) : apU (upd (upd it (2 * m) (nI i)) (2 * m + 1) x) (m + 1) f = upd (apU it m f) i x := by
  rw [apU, apU_up f m (Nat.le_refl _), pk_us, pk_un (by omega), pk_us, show tn (nI i) = i from nI_clamp hi]
/-- the rows' places -/
def RwO (it : Nat → Int32) (m : Nat) : Prop := ∀ k, k < m → ∃ i, i < 54 ∧ it (2 * k) = nI i
theorem RwO_S {it : Nat → Int32} {m i : Nat} {x : Int32} (h : RwO it m) (hi : i < 54) : RwO (upd (upd it (2 * m) (nI i)) (2 * m + 1) x) (m + 1) := by
  intro k hk
  by_cases e : k = m
  · subst e
    exact ⟨i, hi, by rw [pk_un (by omega), pk_us]⟩
  · obtain ⟨j, h1, h2⟩ := h k (by omega)
    exact ⟨j, h1, by rw [pk_un (by omega), pk_un (by omega)]; exact h2⟩
def ktF (y : Nat → Int32) (n p : Nat) : Nat → Int32
  | 0 => -1
  | k + 1 => if isW y n p k then nI k else ktF y n p k
theorem kt_none {y : Nat → Int32} {n p : Nat} : ∀ k, (∀ j, j < k → ¬ isW y n p j) → ktF y n p k = -1
  | 0, _ => rfl
  | k + 1, h => by
    rw [ktF, if_neg (h k (by omega)), kt_none k (fun j hj => h j (by omega))]
theorem kt_hit {y : Nat → Int32} {n p i : Nat} (hi : isW y n p i) (h14 : i < 14) : ∀ k, i < k → k ≤ 14 → ktF y n p k = nI i
  | k + 1, h, hk => by
    rw [ktF]
    by_cases e : k = i
    · subst e; rw [if_pos hi]
    · rw [if_neg (fun q => e (isW_one (by omega) h14 q hi)), kt_hit hi h14 k (by omega) (by omega)]
theorem wk_eq (y : Nat → Int32) (n p : Nat) : ktF y n p 7 = wkF y n p := by
  unfold wkF
  by_cases c0 : isW y n p 0
  · rw [if_pos c0, kt_hit c0 (by omega) 7 (by omega) (by omega)]; rfl
  · rw [if_neg c0]
    by_cases c1 : isW y n p 1
    · rw [if_pos c1, kt_hit c1 (by omega) 7 (by omega) (by omega)]; rfl
    · rw [if_neg c1]
      by_cases c2 : isW y n p 2
      · rw [if_pos c2, kt_hit c2 (by omega) 7 (by omega) (by omega)]; rfl
      · rw [if_neg c2]
        by_cases c3 : isW y n p 3
        · rw [if_pos c3, kt_hit c3 (by omega) 7 (by omega) (by omega)]; rfl
        · rw [if_neg c3]
          by_cases c4 : isW y n p 4
          · rw [if_pos c4, kt_hit c4 (by omega) 7 (by omega) (by omega)]; rfl
          · rw [if_neg c4]
            by_cases c5 : isW y n p 5
            · rw [if_pos c5, kt_hit c5 (by omega) 7 (by omega) (by omega)]; rfl
            · rw [if_neg c5]
              by_cases c6 : isW y n p 6
              · rw [if_pos c6, kt_hit c6 (by omega) 7 (by omega) (by omega)]; rfl
              · rw [if_neg c6]
                refine kt_none 7 (fun j hj => ?_)
                rcases (show j = 0 ∨ j = 1 ∨ j = 2 ∨ j = 3 ∨ j = 4 ∨ j = 5 ∨ j = 6 by omega) with rfl | rfl | rfl | rfl | rfl | rfl | rfl <;> assumption
