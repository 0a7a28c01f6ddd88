def bcK (f : Nat → Int32) (s k : Nat) : Int32 := bcF (fiU f s (32 + 17 * s + k) 21)
def knU (f : Nat → Int32) (s : Nat) : Nat → Int32 × Int32
  | 0 => (-1, 0)
  | k + 1 => if (knU f s k).1 < 0 ∨ bcK f s k < (knU f s k).2 then (nI k, bcK f s k) else knU f s k
def knX (f : Nat → Int32) (s : Nat) : Nat → Int32 × Int32
  | 0 => (0, 22)
  | k + 1 => if bcK f s k < (knX f s k).2 then (nI k, bcK f s k) else knX f s k
def kKnown (f c : Nat → Int32) (s : Nat) : T2 := ((knU f s 5).1, f, c)
def sKnown (f c : Nat → Int32) (s : Int32) : T2 := if gS s then kKnown f c (tn s) else bq f c (-1000001) 1
theorem p8_32 : ∀ d, d < 32 → p8 d ≤ 5 := by decide +kernel
theorem bcK_n (f : Nat → Int32) (s k : Nat) : ∃ x, x ≤ 21 ∧ bcK f s k = nI x := by
  obtain ⟨n, h1, h2⟩ := fiN f s (32 + 17 * s + k) 21 (by omega)
  unfold bcK
  rw [h2, bcF_pc (by omega)]
  refine ⟨_, ?_, rfl⟩
  unfold pcN
  have a := p8l (n % 256) (by omega)
  have b := p8l (n / 256 % 256) (by omega)
  have c := p8_32 (n / 65536) (by omega)
  omega
theorem kn_eq (f : Nat → Int32) (s : Nat) : ∀ k, knX f s (k + 1) = knU f s (k + 1) ∧ ¬ (knU f s (k + 1)).1 < 0 ∨ 2147483648 ≤ k
  | 0 => by
    obtain ⟨x, h1, h2⟩ := bcK_n f s 0
    refine Or.inl ⟨?_, ?_⟩
    · rw [knX, knU, if_pos (by rw [h2]; exact nI_lt (b := 22) (by omega) (by omega)), if_pos (Or.inl (show (knU f s 0).1 < 0 from (by decide : (-1 : Int32) < 0)))]
    · rw [knU, if_pos (Or.inl (show (knU f s 0).1 < 0 from (by decide : (-1 : Int32) < 0)))]; exact nI_pos (by omega)
  | k + 1 => by
    by_cases hk : 2147483648 ≤ k + 1
    · exact Or.inr hk
    · rcases kn_eq f s k with ⟨a, b⟩ | w
      · refine Or.inl ⟨?_, ?_⟩
        · rw [knX, knU, a]
          by_cases c : bcK f s (k + 1) < (knU f s (k + 1)).2
          · rw [if_pos c, if_pos (Or.inr c)]
          · rw [if_neg c, if_neg (fun q => q.elim b c)]
        · rw [knU]
          split
          · exact nI_pos (by omega)
          · exact b
      · omega
theorem kn5 (f : Nat → Int32) (s : Nat) : (knX f s 5).1 = (knU f s 5).1 := by
  rcases kn_eq f s 4 with a | w
  · rw [a.1]
  · omega
