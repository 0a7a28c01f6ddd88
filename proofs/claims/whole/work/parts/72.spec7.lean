def sFeedM (v ty c : Nat → Int32) (b n : Int32) : Int32 × (Nat → Int32) × (Nat → Int32) × (Nat → Int32) := if 1 ≤ n ∧ n ≤ 4 then (if 120 < v 8 + n then (-1000002, v, ty, fnd c 2) else (v 8 + n, upd v 8 (v 8 + n), fdU ty (tn (v 8)) b (tn n) (tn n), c)) else (-1000001, v, ty, fnd c 1)
theorem feed_eq (v ty c : Nat → Int32) (b n : Int32) : (sFeedM v ty c b n).1 = (sFeed (v 8) ty c b n).1 ∧ (sFeedM v ty c b n).2.1 = upd v 8 (sFeed (v 8) ty c b n).2.1 ∧ (sFeedM v ty c b n).2.2 = (sFeed (v 8) ty c b n).2.2 := by
  unfold sFeedM sFeed
  by_cases h : 1 ≤ n ∧ n ≤ 4
  · obtain ⟨j, h1, h2, rfl⟩ := g4_n h
    rw [if_pos h, if_pos h]
    unfold kFeed
    rw [show tn (nI j) = j from nI_clamp (by omega)]
    by_cases h3 : 120 < v 8 + nI j
    · rw [if_pos h3, if_pos h3]; exact ⟨rfl, (upd_self v 8).symm, rfl⟩
    · rw [if_neg h3, if_neg h3]; exact ⟨rfl, rfl, rfl⟩
  · rw [if_neg h, if_neg h]; exact ⟨rfl, (upd_self v 8).symm, rfl⟩
