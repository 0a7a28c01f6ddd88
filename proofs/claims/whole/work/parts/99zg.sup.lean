/-! ===== what the start gives ===== -/
def gvL : List Cond := flatC (Jvm.Cond.and given_1 narrow_1)
def ixS : List Nat := [100, 102, 104, 106, 108, 110, 112, 78, 86, 91, 93, 95, 123, 128]
abbrev tmS (i : Nat) : Term := Term.string "HedgeHeaps$Script" (ixS.getD i 0)
abbrev fvS (i : Nat) : Term := Term.field (tmS i) "java/lang/String" "value" "[B"
abbrev tmA : Term := Term.static "HedgeHeaps" "ABOVE" "[I"
set_option maxRecDepth 20000 in
theorem exS : ∀ i, i < 14 → Cond.exactly (tmS i) "java/lang/String" ∈ gvL := by decide +kernel
set_option maxRecDepth 20000 in
theorem coS : ∀ i, i < 14 → Cond.eq (.field (tmS i) "java/lang/String" "coder" "B") (.int 0) ∈ gvL := by decide +kernel
set_option maxRecDepth 20000 in
theorem arS : ∀ i, i < 14 → Cond.arrayOf (fvS i) .byte ∈ gvL := by decide +kernel
set_option maxRecDepth 20000 in
theorem leS : ∀ i, i < 14 → Cond.eq (.length (fvS i)) (.int (Int32.ofNat (lnS i))) ∈ gvL := by decide +kernel
set_option maxRecDepth 20000 in
theorem elS : ∀ i, i < 14 → ∀ j, j < lnS i → Cond.eq (.elem (fvS i) (.int (Int32.ofNat j))) (.int (chS i j)) ∈ gvL := by decide +kernel
theorem arA : Cond.arrayOf tmA .int ∈ gvL := by decide +kernel
theorem leA : Cond.eq (.length tmA) (.int (Int32.ofNat 7)) ∈ gvL := by decide +kernel
theorem elA : ∀ j, j < 7 → Cond.eq (.elem tmA (.int (Int32.ofNat j))) (.int (abv j)) ∈ gvL := by decide +kernel
theorem csA : Cond.eq (.static "java/lang/String" "COMPACT_STRINGS" "Z") (.int 1) ∈ gvL := by decide +kernel
theorem sfA : Cond.isRef (.static "jdk/internal/util/Preconditions" "SIOOBE_FORMATTER" "Ljava/util/function/BiFunction;") ∈ gvL := by decide +kernel
set_option maxRecDepth 20000 in
theorem srS : ∀ q ∈ (rfS ++ rfR) ++ rfM, Cond.stringRef q.1 q.2.1 q.2.2.1 ∈ lw_tbl := by decide +kernel
theorem stS : ∀ q ∈ rfS, q.1 = "HedgeHeaps$Script" ∧ q.2.1 = ixS.getD q.2.2.2 0 ∧ q.2.2.2 < 14 := by decide +kernel
set_option maxRecDepth 20000 in
theorem eqS : ∀ q ∈ rfR ++ rfM, q.2.2.2 < 14 ∧ Cond.eq (tmS q.2.2.2) (Term.string q.1 q.2.1) ∈ gvL := by decide +kernel
theorem sW {args : Array Value} {s : State} (hts : ∀ w ∈ lw_tbl, w.before args s = true) (hgv : (Jvm.Cond.and given_1 narrow_1).before args s = true) : ∃ K : Nat → Nat, K 0 = s.heap.size ∧ EHp K s s.heap ∧ ERf K rfL s := by
  have hs : ∀ w ∈ gvL, w.before args s = true := flat_of_before _ hgv
  generalize hB : (fun q : Nat => s.heap.size ≤ q) = B
  have hA : ∀ a : Nat, a < s.heap.size → ¬ B a := fun a h z => by
    rw [← hB] at z
    exact Nat.not_le.mpr h z
  have h1 : ∀ i : Nat, ∃ q : Nat × Nat, i < 14 → (tmS i).eval args s none [] s = some (.ref q.1) ∧ va_O "java/lang/String" q.1 B s s.heap ∧ va_OF "java/lang/String" "coder" "B" (.int 0) q.1 B s s.heap ∧ va_OF "java/lang/String" "value" "[B" (.ref q.2) q.1 B s s.heap ∧ va_T .byte q.2 (lnS i) (fun j => .int (chS i j)) B s s.heap := by
    intro i
    by_cases hi : i < 14
    · obtain ⟨a, c, cA, kA, q1, -⟩ := Cond.exactly_spec (args := args) (first := s) (o := none) (s := s) (idx := []) (t := tmS i) (cls := "java/lang/String") (hs _ (exS i hi))
      obtain ⟨t, ht, hT⟩ := va_Tof (tm := fvS i) (ty := .byte) (N := lnS i) (f := fun j => .int (chS i j)) (A := B) (by have := lnS_lt i hi; omega) (hs _ (arS i hi)) (va_eqt (hs _ (leS i hi))) (fun j hj => va_eqt (hs _ (elS i hi j hj))) hA
      exact ⟨(a, t), fun _ => ⟨q1, va_Oof (hs _ (exS i hi)) q1 hA, vk_OFof q1 (va_eqt (hs _ (coS i hi))) hA, vk_OFof q1 ht hA, hT⟩⟩
    · exact ⟨(0, 0), fun h => absurd h hi⟩
  obtain ⟨ad, had⟩ := Classical.axiomOfChoice h1
  obtain ⟨t, ht, hT⟩ := va_Tof (tm := tmA) (ty := .int) (N := 7) (f := fun j => .int (abv j)) (A := B) (by omega) (hs _ arA) (va_eqt (hs _ leA)) (fun j hj => va_eqt (hs _ (elA j hj))) hA
  obtain ⟨K, k0, k1, ks, kb⟩ : ∃ K : Nat → Nat, K 0 = s.heap.size ∧ K 1 = t ∧ (∀ i, i < 14 → K (2 + i) = (ad i).1) ∧ (∀ i, i < 14 → K (20 + i) = (ad i).2) := by
    refine ⟨fun k => if k = 0 then s.heap.size else if k = 1 then t else if k < 20 then (ad (k - 2)).1 else (ad (k - 20)).2, rfl, rfl, fun i hi => ?_, fun i hi => ?_⟩
    · show (if 2 + i = 0 then s.heap.size else if 2 + i = 1 then t else if 2 + i < 20 then (ad (2 + i - 2)).1 else (ad (2 + i - 20)).2) = _
      rw [if_neg (by omega), if_neg (by omega), if_pos (by omega), Nat.add_sub_cancel_left]
    · show (if 20 + i = 0 then s.heap.size else if 20 + i = 1 then t else if 20 + i < 20 then (ad (20 + i - 2)).1 else (ad (20 + i - 20)).2) = _
      rw [if_neg (by omega), if_neg (by omega), if_neg (by omega), Nat.add_sub_cancel_left]
  have hO : old K = B := by
    rw [← hB]
    funext q
    show (K 0 ≤ q) = _
    rw [k0]
  refine ⟨K, k0, ⟨?_, ?_, ?_, ?_, fun i hi => ?_⟩, fun q hq => ?_⟩
  · rw [hO, k1]
    exact va_Zof (args := args) (hts _ (by decide +kernel)) (hts _ (by decide +kernel)) ht hA
  · rw [hO, k1]
    exact hT
  · rw [hO]
    exact va_Zof (args := args) (hts _ (by decide +kernel)) (hts _ (by decide +kernel)) (va_eqi (hs _ csA)) hA
  · rw [hO]
    exact va_Zqof (args := args) (hts _ (by decide +kernel)) (hts _ (by decide +kernel)) (hs _ sfA) hA
  · obtain ⟨-, h2, h3, h4, h5⟩ := had i hi
    show va_O "java/lang/String" (K (2 + i)) (old K) s s.heap ∧ va_OF "java/lang/String" "coder" "B" (.int 0) (K (2 + i)) (old K) s s.heap ∧ va_OF "java/lang/String" "value" "[B" (.ref (K (20 + i))) (K (2 + i)) (old K) s s.heap ∧ va_T .byte (K (20 + i)) (lnS i) (fun j => .int (chS i j)) (old K) s s.heap
    rw [hO, ks i hi, kb i hi]
    exact ⟨h2, h3, h4, h5⟩
  · have hw := hts _ (srS q hq)
    refine vk_R.of (A := args) hw ?_
    rcases List.mem_append.mp hq with h | h
    · rcases List.mem_append.mp h with h | h
      · obtain ⟨e1, e2, e3⟩ := stS q h
        show (Term.string q.1 q.2.1).eval args s none [] s = some (.ref (K (2 + q.2.2.2)))
        rw [e1, e2, ks _ e3]
        exact (had _ e3).1
      · obtain ⟨e3, e4⟩ := eqS q (List.mem_append_left _ h)
        show (Term.string q.1 q.2.1).eval args s none [] s = some (.ref (K (2 + q.2.2.2)))
        rw [ks _ e3]
        exact va_eqR (hs _ e4) (had _ e3).1
    · obtain ⟨e3, e4⟩ := eqS q (List.mem_append_right _ h)
      show (Term.string q.1 q.2.1).eval args s none [] s = some (.ref (K (2 + q.2.2.2)))
      rw [ks _ e3]
      exact va_eqR (hs _ e4) (had _ e3).1
/-- the classes of the arrays -/
theorem cW0 {args : Array Value} {s : State} (hts : ∀ w ∈ lw_tbl, w.before args s = true) : ∃ ct : Nat → ClassId, ECl ct s ∧ (∀ (k : Nat) (q : ClassId × FieldType), (TY ct)[k]? = some q → ArrOfT s q.1 q.2 ∧ va_RA s q.1 q.2) ∧ AOA s ∧ va_AO "HedgeHeaps$Sheet" s ∧ va_AO "java/lang/String" s := by
  have w0 : (Cond.arrayClass .int).before args s = true := hts _ (by decide +kernel)
  have w1 : (Cond.arrayOver (.array .int)).before args s = true := hts _ (by decide +kernel)
  have w2 : (Cond.arrayOver (.object "HedgeHeaps$Sheet")).before args s = true := hts _ (by decide +kernel)
  have w3 : (Cond.arrayOver (.object "java/lang/String")).before args s = true := hts _ (by decide +kernel)
  obtain ⟨c0, k0, p0, f0, g0, h0⟩ := Cond.arrayClass_spec (args := args) (first := s) (o := none) (s := s) (idx := []) w0
  obtain ⟨p1, c1, k1, -, -, g1, h1, f1⟩ := arrayOverA_spec (args := args) (first := s) (o := none) (s := s) (idx := []) w1
  obtain ⟨p2, c2, k2, e2, -, g2, h2, f2⟩ := Cond.arrayOver_spec (args := args) (first := s) (o := none) (s := s) (idx := []) w2
  obtain ⟨p3, c3, k3, e3, -, g3, h3, f3⟩ := Cond.arrayOver_spec (args := args) (first := s) (o := none) (s := s) (idx := []) w3
  refine ⟨fun k => if k = 0 then c0 else if k = 1 then c1 else if k = 2 then c2 else c3, ⟨f0, f1, f2, f3⟩, fun k q hq => ?_, w1, va_AO.of w2, va_AO.of w3⟩
  match k, hq with
  | 0, hq => cases hq; exact ⟨fun N z => ⟨(fun k h => by cases h), k0, g0, p0, h0⟩, f0⟩
  | 1, hq => cases hq; exact ⟨fun N z => ⟨(fun k h => by cases h), k1, g1, p1, h1⟩, f1⟩
  | 2, hq => cases hq; exact ⟨fun N z => ⟨(fun k h => by cases h), k2, g2, p2, h2⟩, k2, p2, g2, h2, e2, f2⟩
  | 3, hq => cases hq; exact ⟨fun N z => ⟨(fun k h => by cases h), k3, g3, p3, h3⟩, k3, p3, g3, h3, e3, f3⟩
  | k + 4, hq => simp [TY] at hq
/-- the classes of the objects -/
theorem cW1 {args : Array Value} {s : State} (hts : ∀ w ∈ lw_tbl, w.before args s = true) : ∃ (dC : Nat → ClassId) (dI : Nat → Nat → Nat), ∀ (k : Nat) (q : vw_C), vwCl[k]? = some q → u_Kn s q.1 q.2.1 q.2.2 (dC k) (dI k) := by
  obtain ⟨c0, i0, h0⟩ := u_known (C := RX0) (T := TX0) (N := 3) (n := 3) hts inX0 (hts (.instantiable RX0 3) (by decide +kernel))
  obtain ⟨c1, i1, h1⟩ := u_known (C := RX1) (T := TX1) (N := 10) (n := 10) hts inX1 (hts (.instantiable RX1 10) (by decide +kernel))
  obtain ⟨c2, i2, h2⟩ := u_known (C := RX2) (T := TX2) (N := 6) (n := 6) hts inX2 (hts (.instantiable RX2 6) (by decide +kernel))
  obtain ⟨c3, i3, h3⟩ := u_known (C := RX3) (T := TX3) (N := 3) (n := 3) hts inX3 (hts (.instantiable RX3 3) (by decide +kernel))
  obtain ⟨c4, i4, h4⟩ := u_known (C := RX4) (T := TX4) (N := 4) (n := 4) hts inX4 (hts (.instantiable RX4 4) (by decide +kernel))
  obtain ⟨c5, i5, h5⟩ := u_known (C := RX5) (T := TX5) (N := 7) (n := 7) hts inX5 (hts (.instantiable RX5 7) (by decide +kernel))
  obtain ⟨c6, i6, h6⟩ := u_known (C := RX6) (T := TX6) (N := 22) (n := 22) hts inX6 (hts (.instantiable RX6 22) (by decide +kernel))
  refine ⟨fun k => if k = 0 then c0 else if k = 1 then c1 else if k = 2 then c2 else if k = 3 then c3 else if k = 4 then c4 else if k = 5 then c5 else c6, fun k => if k = 0 then i0 else if k = 1 then i1 else if k = 2 then i2 else if k = 3 then i3 else if k = 4 then i4 else if k = 5 then i5 else i6, fun k q hq => ?_⟩
  match k, hq with
  | 0, hq => cases hq; exact h0
  | 1, hq => cases hq; exact h1
  | 2, hq => cases hq; exact h2
  | 3, hq => cases hq; exact h3
  | 4, hq => cases hq; exact h4
  | 5, hq => cases hq; exact h5
  | 6, hq => cases hq; exact h6
  | k + 7, hq => simp [vwCl] at hq
theorem nlW {args : Array Value} {s : State} (hts : ∀ w ∈ lw_tbl, w.before args s = true) : ENl s := ⟨va_Nw.of rfl (hts _ (by decide +kernel)), va_Nw.of rfl (hts _ (by decide +kernel)), va_Nw.of rfl (hts _ (by decide +kernel)), va_Nw.of rfl (hts _ (by decide +kernel))⟩
/-- the numbers at the start -/
theorem f0_Rg : Rg f0 := by
  have h1 : ∀ s, s < 2 → ∀ t, t < 5 → (0 ≤ f0 (22 + 17 * s + t) ∧ f0 (22 + 17 * s + t) ≤ 99) ∧ (0 ≤ f0 (27 + 17 * s + t) ∧ f0 (27 + 17 * s + t) ≤ 99) ∧ (0 ≤ f0 (32 + 17 * s + t) ∧ f0 (32 + 17 * s + t) ≤ 20) := by decide +kernel
  have h2 : ∀ s, s < 2 → (0 ≤ f0 (20 + 17 * s) ∧ f0 (20 + 17 * s) ≤ 50) ∧ (0 ≤ f0 (21 + 17 * s) ∧ f0 (21 + 17 * s) ≤ 9) := by decide +kernel
  have h3 : ∀ t, t < 5 → 0 ≤ f0 (15 + t) ∧ f0 (15 + t) ≤ 6 := by decide +kernel
  refine ⟨fun s t hs ht => ?_, ⟨0, by omega, by decide +kernel⟩, fun s hs => ?_, fun t ht => ?_, ⟨0, by omega, by decide +kernel⟩⟩
  · obtain ⟨a, b, c⟩ := h1 s hs t ht
    exact ⟨nt_m (M := 99) rfl a.1 a.2, nt_m (M := 99) rfl b.1 b.2, nt_m (M := 20) rfl c.1 c.2⟩
  · obtain ⟨a, b⟩ := h2 s hs
    exact ⟨nt_m (M := 50) rfl a.1 a.2, nt_m (M := 9) rfl b.1 b.2⟩
  · exact nt_m (M := 6) rfl (h3 t ht).1 (h3 t ht).2
theorem f0_hi (j : Nat) (h : 54 ≤ j) : f0 j = 0 := by
  unfold f0
  rw [List.getD_eq_getElem?_getD, List.getElem?_eq_none (by simpa using h)]
  rfl
theorem f0_nN : nN f0 = 0 := by decide +kernel
theorem f0_FQ : FQ f0 (fun _ => 0) := by
  refine ⟨f0_Rg, fun i hi => ⟨fun j hj => ⟨0, by omega, f0_hi _ (by omega)⟩, ⟨0, by omega, f0_hi _ (by omega)⟩, ⟨0, by omega, f0_hi _ (by omega)⟩⟩, fun i hi hn => ?_, fun j hj => Or.inl ?_⟩
  · rw [f0_nN] at hn; omega
  · have h : ∀ j, j < 10 → f0 (5 + j) = -1 := by decide +kernel
    exact h j hj
theorem f0_FA : FA 0 1 0 0 0 f0 (fun _ => 0) (fun _ => 0) (fun _ => 0) (fun _ => 0) (fun j => f0 (5 + j)) (fun _ => 0) :=
  ⟨by decide +kernel, fun _ _ => rfl, by rw [f0_nN]; rfl, by rw [f0_nN]; rfl, f0_FQ, fun s hs => ⟨0, by omega, rfl⟩, by decide +kernel, ⟨0, by omega, rfl, rfl, fun j hj => absurd hj (by omega)⟩, rfl⟩
