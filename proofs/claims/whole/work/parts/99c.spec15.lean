def rfR : List (String × Nat × String × Nat) := [("HedgeHeapsModel", 296, "side", 7), ("HedgeHeapsModel", 301, "greed", 12), ("HedgeHeapsModel", 303, "trust", 13), ("HedgeHeapsModel", 305, "frost", 11), ("HedgeHeapsModel", 307, "worth", 10), ("HedgeHeapsModel", 309, "home", 8), ("HedgeHeapsModel", 311, "heap", 9)]
section LDCW
variable {p : Program} {l : Launch} {e : Env} {R : Room} {s : State} {m : MethodId} {args : Array Value} {below : List Frame} {meth : Method} {c : Code} {H : Heap} {locs : List Loc} {cells slots : Nat} {Q : State → Prop}
variable {cc : ByteArray} {pc : Nat} {ls : Array Slot} {rest : List Value}
theorem ldcSW {T : State} (X : Stand p l e R s m args below meth c T locs cells slots) (hexec : p.tables.exec = Jvm.exec) {own text : String} {index : Nat} {a : Addr} (hown : s.vm.findClass own = some m.cls)
    (hconst : (Cond.stringRef own index text).before #[] s = true) (hev : (Term.string own index).eval #[] s none [] s = some (.ref a)) {g : JFrame} (hg : g.method = m) (hdg : decode c.code g.pc = .ok (.ldc_w index, 3)) :
    ∀ target, Steps p.tables e below (T.setTop { g with pc := g.pc + 3, stack := .ref a :: g.stack }) target → Steps p.tables e below (T.setTop g) target := by
  obtain ⟨k, cf, i, a', hk, hcf, hcp, -, hr, hev'⟩ := Cond.stringRef_spec hown hconst
  cases hev.symm.trans hev'
  obtain ⟨k', hk', he⟩ := X.warmed.alike.2.2 _ _ hk
  have hr' : k'.resolved[index]? = some (some (.string a)) := by
    rcases X.warmed.entry hk hk' index with h | ⟨h, -⟩
    · rw [h]; exact hr
    · rw [hr] at h; cases h
  intro target hrest
  subst hg
  jvm_step X.here [hexec, hdg, ldc_w.wp_string (e := e) (s := T) (f := g) X.here.top hk' (by rw [he]; exact hcf) hcp hr']
  exact hrest
theorem va_ldcwS (hexec : p.tables.exec = Jvm.exec) (hb : c.code = cc) {own tx : String} {index q : Nat} (hown : s.vm.findClass own = some m.cls) (hZ : vk_R own index tx q s) (hdg : decode cc pc = .ok (.ldc_w index, 3))
    (k : W p l e R s m args below meth c H locs cells slots Q (F0 m (pc + 3) ls (.ref q :: rest))) : W p l e R s m args below meth c H locs cells slots Q (F0 m pc ls rest) := by
  intro T hT X
  obtain ⟨t, a1, b1⟩ := k T hT X
  exact ⟨t, ldcSW X hexec hown (text := tx) (a := q) hZ.1 hZ.2 (g := F0 m pc ls rest) rfl (by rw [hb]; exact hdg) t a1, b1⟩
end LDCW
theorem MT_up {v y : Nat → Int32} {n p j : Nat} {x : Int32} (h : MT v y n p) (hj : j < 9 ∨ 12 < j) : MT (upd v j x) y n p := by
  refine ⟨?_, ?_, ?_, ?_⟩
  · rw [pk_un (by omega)]; exact h.1
  · rw [pk_un (by omega)]; exact h.2.1
  · rw [pk_un (by omega)]; exact h.2.2.1
  · rw [pk_un (by omega)]; exact h.2.2.2
theorem MT_12 {v y : Nat → Int32} {n p : Nat} (hp : p ≤ n) (h : MT v y n p) : Nt 1000 (v 12) := by
  rw [h.2.2.2]
  split
  · rename_i c; exact tV_n hp c
  · exact ⟨0, by omega, rfl⟩
/-- what readItem leaves behind -/
def RI (y : Nat → Int32) (n : Nat) (v f0 f : Nat → Int32) (p : Nat) (u it : Nat → Int32) : Prop :=
  u 8 = nI n ∧ u 17 = v 17 + 1 ∧ (∀ j, j < 9 → u j = v j) ∧
  (((itF y n f p).1 = 0 ∧ ¬ u 13 = 0 ∧ u 9 = nI (tB y n (itF y n f p).2.1)) ∨
   ((itF y n f p).1 = 1 ∧ u 13 = 0 ∧ MT u y n (itF y n f p).2.1 ∧ ∃ m, u 16 = nI m ∧ m ≤ (itF y n f p).2.1 ∧ apU it m f0 = (itF y n f p).2.2 ∧ RwO it m))
theorem RI_bad {y : Nat → Int32} {n : Nat} {v f0 f : Nat → Int32} {p : Nat} {u it : Nat → Int32} {r : R3} (e : itF y n f p = r) (h0 : r.1 = 0) (h8 : u 8 = nI n) (h17 : u 17 = v 17 + 1) (h9 : ∀ j, j < 9 → u j = v j) (h13 : ¬ u 13 = 0) (hT : u 9 = nI (tB y n r.2.1)) : RI y n v f0 f p u it := by
  subst e
  exact ⟨h8, h17, h9, Or.inl ⟨h0, h13, hT⟩⟩
theorem RI_ok {y : Nat → Int32} {n : Nat} {v f0 f : Nat → Int32} {p : Nat} {u it : Nat → Int32} {r : R3} (m : Nat) (e : itF y n f p = r) (h0 : r.1 = 1) (h8 : u 8 = nI n) (h17 : u 17 = v 17 + 1) (h9 : ∀ j, j < 9 → u j = v j) (h13 : u 13 = 0) (hT : MT u y n r.2.1) (h16 : u 16 = nI m) (hm : m ≤ r.2.1) (hap : apU it m f0 = r.2.2) (hro : RwO it m) : RI y n v f0 f p u it := by
  subst e
  exact ⟨h8, h17, h9, Or.inr ⟨h0, h13, hT, m, h16, hm, hap, hro⟩⟩
theorem isW_lt {y : Nat → Int32} {n p i : Nat} (hp : p ≤ n) (h : isW y n p i) : p < tE y n p := by
  have a := tE_le (y := y) hp
  have b := (iwB_iff.mp h).1
  have c := a.2.2.2 (by omega)
  omega
theorem nuP_lt {y : Nat → Int32} {n p : Nat} {m : Int32} (hp : p ≤ n) (h : nuP y n p m) : p < tE y n p := by
  have a := tE_le (y := y) hp
  have b := h.1
  have c := a.2.2.2 (by omega)
  omega
theorem wk_lt {y : Nat → Int32} {n p : Nat} (hp : p ≤ n) (h : 0 ≤ wkF y n p) : p < tE y n p := by
  apply Classical.byContradiction
  intro q
  have z : ∀ i, ¬ isW y n p i := fun i w => q (isW_lt hp w)
  unfold wkF at h
  rw [if_neg (z 0), if_neg (z 1), if_neg (z 2), if_neg (z 3), if_neg (z 4), if_neg (z 5), if_neg (z 6)] at h
  exact absurd h (by decide)
/-- one word alone -/
theorem isW_no {y : Nat → Int32} {n p i j : Nat} (hi : i < 14) (hj : j < 14) (h : i ≠ j) (w : isW y n p i) : ¬ isW y n p j := fun q => h (isW_one hi hj w q)
theorem tlH_2 {y : Nat → Int32} {n : Nat} {f : Nat → Int32} {p : Nat} : tlH y n f p 2 = if nuP y n p 1 then (if nuP y n (tE y n p) 4 then (if nuP y n (tE y n (tE y n p)) 20 then (1, tE y n (tE y n (tE y n p)), upd f (20 + 17 * tn (tV y n p) + 12 + tn (tV y n (tE y n p))) (tV y n (tE y n (tE y n p)))) else (0, tE y n (tE y n p), f)) else (0, tE y n p, f)) else (0, p, f) := rfl
theorem tlH_0 {y : Nat → Int32} {n : Nat} {f : Nat → Int32} {p : Nat} : tlH y n f p 0 = if nuP y n p 1 then (if nuP y n (tE y n p) 4 then (if nuP y n (tE y n (tE y n p)) 99 then (1, tE y n (tE y n (tE y n p)), upd f (20 + 17 * tn (tV y n p) + 2 + tn (tV y n (tE y n p))) (tV y n (tE y n (tE y n p)))) else (0, tE y n (tE y n p), f)) else (0, tE y n p, f)) else (0, p, f) := rfl
theorem tlH_1 {y : Nat → Int32} {n : Nat} {f : Nat → Int32} {p : Nat} : tlH y n f p 1 = if nuP y n p 1 then (if nuP y n (tE y n p) 4 then (if nuP y n (tE y n (tE y n p)) 99 then (1, tE y n (tE y n (tE y n p)), upd f (20 + 17 * tn (tV y n p) + 7 + tn (tV y n (tE y n p))) (tV y n (tE y n (tE y n p)))) else (0, tE y n (tE y n p), f)) else (0, tE y n p, f)) else (0, p, f) := rfl
theorem i20 {k s t : Nat} : 20 + 17 * s + k + t = 20 + k + 17 * s + t := by omega
