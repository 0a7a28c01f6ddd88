/-! ===== a call over a world of segments ===== -/
section SEGC
variable {p : Program} {l : Launch} {e : Env} {R : Room} {s : State} {m : MethodId} {args : Array Value} {below : List Frame} {meth : Method} {c : Code} {H : Heap} {locs : List Loc} {cells slots : Nat} {Q : State → Prop}
variable {pc : Nat} {ls : Array Slot} {rs st : List Value} {dC : Nat → ClassId} {dI : Nat → Nat → Nat} {ct : Nat → ClassId} {A : Nat → Prop} {pre : va_W}
theorem iSeg {S : Type} {post : Int32 → S → Prop} {wp : S → va_W} {a0 : Array Value} {segs rest P : List va_W} {Pn new : S → List va_W} (σ τ : List Nat) (hσ : σ.isPerm (List.range segs.length) = true) (h1 : σ.map (fun i => segs.getD i []) = rest ++ P) (h2 : P.flatten = pre) (h3 : ∀ u, (Pn u).flatten = wp u) (hτ : ∀ u, τ.isPerm (List.range (rest ++ Pn u).length) = true) (h4 : ∀ u, τ.map (fun i => (rest ++ Pn u).getD i []) = new u) (ad : List Nat) (had0 : pre.map Prod.fst = ad) (had : ∀ u, (wp u).map Prod.fst = ad)
    (hP : va_P (dC, dI) vwCl segs.flatten H) (hD : va_D A segs.flatten) (hS : va_S A s.heap H locs) (hA : ∀ q, s.heap.size ≤ q → A q)
    (hr : va_P (dC, dI) vwCl pre H → va_P (dC, dI) vwCl (rest.flatten ++ pre) H → va_D A (rest.flatten ++ pre) → va_Run p l e R s m args below meth c H locs cells slots 0 0 (F0 m pc ls st) rs (va_Qi post (fun u t => va_P (dC, dI) vwCl (wp u) t.heap) (va_A pre H.size) a0) (va_A pre H.size))
    (kk : ∀ (r : Int32) (u : S) (H1 : Heap) (locs1 : List Loc), post r u → va_P (dC, dI) vwCl (new u).flatten H1 → va_D A (new u).flatten → va_S A s.heap H1 locs1 → W p l e R s m args below meth c H1 locs1 cells slots Q (F0 m (pc + 3) ls (.int r :: rs))) : W p l e R s m args below meth c H locs cells slots Q (F0 m pc ls st) := by
  have hP1 : va_P (dC, dI) vwCl (rest.flatten ++ pre) H := by
    have h := seg_P σ hσ h1 hP
    rw [List.flatten_append, h2] at h
    exact h
  have hD1 : va_D A (rest.flatten ++ pre) := by
    have h := seg_D σ hσ h1 hD
    rw [List.flatten_append, h2] at h
    exact h
  have hPp : va_P (dC, dI) vwCl pre H := P_mem.mpr (fun q hq => P_mem.mp hP1 q (List.mem_append_right _ hq))
  have hDp : va_D A pre := hD1.sub ((List.range pre.length).map (fun i => rest.flatten.length + i)) (rgN _ _) (rgR rest.flatten pre)
  have hDs : va_D (va_A pre H.size) pre := (hDp.weaken (B := fun _ => True) (fun _ _ _ _ => trivial)).self (sz := H.size)
  have hF := va_free hD1 hS hA _ (rgR rest.flatten pre)
  refine va_calli (hr hPp hP1 hD1) hS (fun q _ h => hF q h) hF (fun r u t H1 locs1 ht hvm hp hB hz hk hS1 => ?_)
  rw [ht] at hB
  obtain ⟨a1, a2⟩ := va_join hP1 hD1 ((List.range pre.length).map (fun i => rest.flatten.length + i)) (List.range rest.flatten.length) (rgR rest.flatten pre) (rgL rest.flatten pre) (nd_of _ List.nodup_range) (fun i hi h => by
    have q1 := List.mem_range.mp hi
    obtain ⟨j, -, q2⟩ := List.mem_map.mp h
    omega) hk hF hB (dSame hDs (had0.trans (had u).symm))
  rw [← h3 u, ← List.flatten_append] at a1 a2
  exact kk r u H1 locs1 hp (seg_P τ (hτ u) (h4 u) a1) (seg_D τ (hτ u) (h4 u) a2) hS1
end SEGC
