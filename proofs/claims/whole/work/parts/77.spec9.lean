theorem hs_noN {a n z : Int32} (hz : Nt 40 z) (c : cpP a n z) : 0 ≤ a ∧ 0 ≤ n ∧ a ≤ z ∧ n ≤ z - a := by
  obtain ⟨m, hm, em⟩ := hz
  exact hs_no hm em c
