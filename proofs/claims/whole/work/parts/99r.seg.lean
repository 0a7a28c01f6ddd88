/-! ===== worlds as lists of segments, put into another order ===== -/
theorem P_mem {D : va_G} {cl : List vw_C} {ws : va_W} {H : Heap} : va_P D cl ws H ↔ ∀ q ∈ ws, va_at D cl q H := by
  constructor
  · intro h q hq
    obtain ⟨k, hk⟩ := List.getElem?_of_mem hq
    exact h k q hk
  · intro h k q hk
    exact h q (List.mem_of_getElem? hk)
theorem D_mem {A : Nat → Prop} {ws : va_W} : va_D A ws ↔ (ws.map Prod.fst).Nodup ∧ ∀ q ∈ ws, A q.1 := by
  constructor
  · intro h
    refine ⟨List.pairwise_iff_getElem.mpr (fun i j hi hj hij e => ?_), fun q hq => ?_⟩
    · rw [List.length_map] at hi hj
      rw [List.getElem_map, List.getElem_map] at e
      have := h.1 i j ws[i] ws[j] (List.getElem?_eq_getElem hi) (List.getElem?_eq_getElem hj) e
      omega
    · obtain ⟨k, hk⟩ := List.getElem?_of_mem hq
      exact h.2 k q hk
  · intro h
    refine ⟨fun i j p q hi hj e => ?_, fun k q hk => h.2 q (List.mem_of_getElem? hk)⟩
    obtain ⟨hi1, hi2⟩ := List.getElem?_eq_some_iff.mp hi
    obtain ⟨hj1, hj2⟩ := List.getElem?_eq_some_iff.mp hj
    have hp := List.pairwise_iff_getElem.mp h.1
    rcases Nat.lt_trichotomy i j with c | c | c
    · have := hp i j (by rw [List.length_map]; exact hi1) (by rw [List.length_map]; exact hj1) c
      rw [List.getElem_map, List.getElem_map, hi2, hj2] at this
      exact absurd e this
    · exact c
    · have := hp j i (by rw [List.length_map]; exact hj1) (by rw [List.length_map]; exact hi1) c
      rw [List.getElem_map, List.getElem_map, hi2, hj2] at this
      exact absurd e.symm this
theorem P_perm {D : va_G} {cl : List vw_C} {ws ws' : va_W} {H : Heap} (hp : ws.Perm ws') (h : va_P D cl ws H) : va_P D cl ws' H := P_mem.mpr (fun q hq => P_mem.mp h q (hp.mem_iff.mpr hq))
theorem D_perm {A : Nat → Prop} {ws ws' : va_W} (hp : ws.Perm ws') (h : va_D A ws) : va_D A ws' := D_mem.mpr ⟨((hp.map Prod.fst).nodup_iff).mp (D_mem.mp h).1, fun q hq => (D_mem.mp h).2 q (hp.mem_iff.mpr hq)⟩
theorem seg_perm {segs : List va_W} (σ : List Nat) (hσ : σ.isPerm (List.range segs.length) = true) : segs.Perm (σ.map (fun i => segs.getD i [])) := by
  have h1 : (σ.map (fun i => segs.getD i [])).Perm ((List.range segs.length).map (fun i => segs.getD i [])) := (List.isPerm_iff.mp hσ).map _
  have h2 : (List.range segs.length).map (fun i => segs.getD i []) = segs := by
    apply List.ext_getElem
    · rw [List.length_map, List.length_range]
    · intro k h3 h4
      rw [List.getElem_map, List.getElem_range, List.getD_eq_getElem?_getD, List.getElem?_eq_getElem h4]
      rfl
  rw [h2] at h1
  exact h1.symm
theorem seg_P {D : va_G} {cl : List vw_C} {segs T : List va_W} {H : Heap} (σ : List Nat) (hσ : σ.isPerm (List.range segs.length) = true) (hT : σ.map (fun i => segs.getD i []) = T) (h : va_P D cl segs.flatten H) : va_P D cl T.flatten H := by
  subst hT
  exact P_perm (seg_perm σ hσ).flatten h
theorem seg_D {A : Nat → Prop} {segs T : List va_W} (σ : List Nat) (hσ : σ.isPerm (List.range segs.length) = true) (hT : σ.map (fun i => segs.getD i []) = T) (h : va_D A segs.flatten) : va_D A T.flatten := by
  subst hT
  exact D_perm (seg_perm σ hσ).flatten h
