/-! ===== constructors that call constructors; what the last part must bring of an array of arrays ===== -/
def AOA (U : State) : Prop := (Cond.arrayOver (.array .int)).before #[] U = true
def EC (U : State) : Prop := AOA U ∧ ENl U ∧ va_AO "HedgeHeaps$Sheet" U
def rmX0_init : Room := { frames := 1, cells := 13, slots := 180, locals := 12 }
theorem nmX0_init : NmV yX0_init RX0 0 := by unfold NmV; decide +kernel
/-- Books(): proved at the end, over the whole library -/
def LIB0 (l : Launch) : Prop := (∀ u U : State, u.vm.Alike U.vm → AOA u → AOA U) ∧ ∀ (dC : Nat → ClassId) (dI : Nat → Nat → Nat) (ct : Nat → ClassId) (a0 : Nat), MC (S := Nat → Nat) l yX0_init wsX0_init rmX0_init dC dI ct EC [.ref a0] [(a0, .inr (0, [.null, .int 0, .int 0]))] (fun rw => wR ct a0 rw 0 0 (fun _ => 0)) (fun _ => True) 13 180
theorem EC_b {l : Launch} (h0 : LIB0 l) : ∀ (U : State) (g : JFrame) (mk : MethodId) (a : Array Value), EC U → EC (U.calling g mk a) := fun U g mk a h => ⟨h0.1 U (U.calling g mk a) (Vm.Alike.refl U.vm) h.1, ENl.same (u := U) (U := U.calling g mk a) rfl h.2.1, va_AO.moved (u := U) (U := U.calling g mk a) (Vm.Alike.refl U.vm) h.2.2⟩
theorem EC_w {l : Launch} (h0 : LIB0 l) {s U : State} (hW : s.WarmedH U.vm) (h : EC s) : EC U := ⟨h0.1 s U hW.alike h.1, ENl.warm hW h.2.1, va_AO.moved hW.alike h.2.2⟩
theorem ceq.rar {a : Nat} {c : ClassId} {n : Nat} {f g : Nat → Option Nat} (h : ∀ j, j < n → f j = g j) : ceq (a, .inl (c, n, .inr (.inr (.inr (.inr f))))) (a, .inl (c, n, .inr (.inr (.inr (.inr g))))) := by
  refine ⟨rfl, fun D cl H hx => ?_⟩
  have hx1 : H[a]? = some (vp_cell c (n, .inr (.inr (.inr (.inr f))))) := hx
  have e : vp_cell c (n, .inr (.inr (.inr (.inr f)))) = vp_cell c (n, .inr (.inr (.inr (.inr g)))) := by
    rw [vp_cell_q, vp_cell_q]
    exact arr_ext (fun j hj => by rw [h j hj])
  show H[a]? = some (vp_cell c (n, .inr (.inr (.inr (.inr g)))))
  rw [← e]
  exact hx1
section CQ
variable {p : Program} {l : Launch} {e : Env} {R : Room} {s : State} {m : MethodId} {args : Array Value} {below : List Frame} {meth : Method} {c : Code} {H : Heap} {locs : List Loc} {cells slots : Nat} {Q : State → Prop}
variable {cc : ByteArray} {pc nL : Nat} {ls : Array Slot} {rest st : List Value} {dC : Nat → ClassId} {dI : Nat → Nat → Nat} {ct : Nat → ClassId} {A : Nat → Prop} {a : Nat} {ws ws' pre : va_W} {Ts : List Cond} {own : String}
/-- a new row of references -/
theorem nwQ (F : CallFix p m c cc nL s args Ts own) {C : String} {index : Nat} (hlk : Cond.classLink own index C ∈ Ts) (hover : va_AO C s) (t : Nat) (ht : (TY ct)[t]? = some (ct t, .object C)) (hK : va_K (dC, dI) vwCl (TY ct) s) (hP : va_P (dC, dI) vwCl ws H) (hD : va_D A ws) (hS : va_S A s.heap H locs) (hA : ∀ q, s.heap.size ≤ q → A q) {n : Int32} (N : Nat) (hn : n = nI N) (hN : N ≤ 100000) (hcells : cells + 1 ≤ R.cells) (hslots : slots + N ≤ R.slots) (hdg : decode cc pc = .ok (.anewarray index, 3))
    (kk : ∀ (q : Nat) (H1 : Heap), va_P (dC, dI) vwCl (ws ++ [(q, .inl (ct t, N, .inr (.inr (.inr (.inr (fun _ => none))))))]) H1 → va_D A (ws ++ [(q, .inl (ct t, N, .inr (.inr (.inr (.inr (fun _ => none))))))]) → va_S A s.heap H1 locs →
      W p l e R s m args below meth c H1 locs (cells + 1) (slots + N) Q (F0 m (pc + 3) ls (.ref q :: rest))) : W p l e R s m args below meth c H locs cells slots Q (F0 m pc ls (.int n :: rest)) := by
  subst hn
  refine va_newq (N' := N) F.1 F.2.1 F.2.2.2.1 (F.2.2.2.2 _ hlk) hover hK hP hD hS hA (nI_pos (by omega)) (nI_clamp (by omega)) (by omega) hcells hslots hdg (fun q cA H1 hK1 hP1 hD1 hS1 => ?_)
  obtain ⟨-, -, -, -, -, h1⟩ := (hK1.2 4 (cA, .object C) rfl).2
  obtain ⟨-, -, -, -, -, h2⟩ := (hK.2 t (ct t, .object C) ht).2
  have h3 : cA = ct t := Option.some.inj (h1.symm.trans h2)
  subst h3
  exact kk q H1 hP1 hD1 hS1
/-- an object put into a row -/
theorem asq (F : CallFix p m c cc nL s args Ts own) (hK : va_K (dC, dI) vwCl (TY ct) s) (hP : va_P (dC, dI) vwCl ws H) (hD : va_D A ws) (hS : va_S A s.heap H locs) (q0 t qk ci : Nat) {r : vw_C} {n v : Nat} {vs : List Value} {f : Nat → Option Nat} (ha : ws[q0]? = some (a, .inl (ct t, n, .inr (.inr (.inr (.inr f)))))) (ht : (TY ct)[t]? = some (ct t, .object r.1)) (hv : ws[qk]? = some (v, .inr (ci, vs))) (hc : vwCl[ci]? = some r) {i : Int32} (j : Nat) (hi : i = nI j) (hj : j < n) (hn : n < 2147483648) (hdg : decode cc pc = .ok (.aastore, 1)) (hw : weq (ws.set q0 (a, .inl (ct t, n, .inr (.inr (.inr (.inr (va_up f j (some v)))))))) ws')
    (kk : ∀ (H1 : Heap) (locs1 : List Loc), va_P (dC, dI) vwCl ws' H1 → va_D A ws' → va_S A s.heap H1 locs1 → W p l e R s m args below meth c H1 locs1 cells slots Q (F0 m (pc + 1) ls rest)) : W p l e R s m args below meth c H locs cells slots Q (F0 m pc ls (.ref v :: .int i :: .ref a :: rest)) := by
  subst hi
  refine va_astq F.1 F.2.1 hK hP hD hS q0 t qk ci ha ht hv hc (vp_in_nI hj hn) hdg (fun H1 locs1 h1 h2 h3 => ?_)
  rw [nI_clamp (by omega)] at h1 h2
  exact kk H1 locs1 (hw.P h1) (hw.D h2) h3
end CQ
theorem nd_of : ∀ l : List Nat, l.Nodup → va_nd l = true
  | [], _ => rfl
  | a :: l, h => by
    simp only [va_nd, Bool.and_eq_true, decide_eq_true_eq]
    exact ⟨(List.nodup_cons.mp h).1, nd_of l (List.nodup_cons.mp h).2⟩
theorem rgL (w x : va_W) : (List.range w.length).map (fun i => (w ++ x)[i]?) = w.map some := by
  apply List.ext_getElem?
  intro k
  rw [List.getElem?_map, List.getElem?_map]
  by_cases h : k < w.length
  · rw [List.getElem?_range h, List.getElem?_eq_getElem h]
    show some ((w ++ x)[k]?) = some (some w[k])
    rw [List.getElem?_append_left h, List.getElem?_eq_getElem h]
  · rw [List.getElem?_eq_none (by rw [List.length_range]; omega), List.getElem?_eq_none (by omega)]
    rfl
theorem rgR (w x : va_W) : ((List.range x.length).map (fun i => w.length + i)).map (fun i => (w ++ x)[i]?) = x.map some := by
  apply List.ext_getElem?
  intro k
  rw [List.getElem?_map, List.getElem?_map, List.getElem?_map]
  by_cases h : k < x.length
  · rw [List.getElem?_range h, List.getElem?_eq_getElem h]
    show some ((w ++ x)[w.length + k]?) = some (some x[k])
    rw [List.getElem?_append_right (Nat.le_add_right _ _), Nat.add_sub_cancel_left, List.getElem?_eq_getElem h]
  · rw [List.getElem?_eq_none (l := List.range x.length) (by rw [List.length_range]; omega), List.getElem?_eq_none (l := x) (by omega)]
    rfl
theorem rgN (n k : Nat) : va_nd ((List.range n).map (fun i => k + i)) = true := by
  refine nd_of _ (List.Pairwise.map (S := (· ≠ ·)) (fun i => k + i) (fun a b h e => h ?_) List.nodup_range)
  have h2 : k + a = k + b := e
  omega
section CL
variable {p : Program} {l : Launch} {e : Env} {R : Room} {s : State} {m : MethodId} {args : Array Value} {below : List Frame} {meth : Method} {c : Code} {H : Heap} {locs : List Loc} {cells slots : Nat} {Q : State → Prop}
variable {pc : Nat} {ls : Array Slot} {rest st : List Value} {dC : Nat → ClassId} {dI : Nat → Nat → Nat} {ct : Nat → ClassId} {A : Nat → Prop} {wr pre : va_W} {E : State → Prop}
/-- as iC, where the called cells stand last -/
theorem iL {S : Type} {post : S → Prop} {wp : S → va_W} {mc ms : Nat} {a0 : Array Value} (hr : va_Run p l e R s m args below meth c H locs cells slots mc ms (F0 m pc ls st) rest (va_Qv post (fun u t => va_P (dC, dI) vwCl (wp u) t.heap ∧ va_D (va_A pre H.size) (wp u)) (va_A pre H.size) a0) (va_A pre H.size)) (hP : va_P (dC, dI) vwCl (wr ++ pre) H) (hD : va_D A (wr ++ pre)) (hS : va_S A s.heap H locs) (hA : ∀ q, s.heap.size ≤ q → A q)
    (kk : ∀ (u : S) (H1 : Heap) (locs1 : List Loc), post u → va_P (dC, dI) vwCl (wr ++ wp u) H1 → va_D A (wr ++ wp u) → va_S A s.heap H1 locs1 → W p l e R s m args below meth c H1 locs1 (cells + mc) (slots + ms) Q (F0 m (pc + 3) ls rest)) : W p l e R s m args below meth c H locs cells slots Q (F0 m pc ls st) :=
  iC hr hP hD hS hA ((List.range pre.length).map (fun i => wr.length + i)) (List.range wr.length) (rgR wr pre) (rgL wr pre) (nd_of _ List.nodup_range) (fun i hi h => by
    have h1 := List.mem_range.mp hi
    obtain ⟨j, -, h2⟩ := List.mem_map.mp h
    omega) kk
theorem prL (hK : va_K (dC, dI) vwCl (TY ct) s) (hP : va_P (dC, dI) vwCl (wr ++ pre) H) (hD : va_D A (wr ++ pre)) (hE : ∀ U : State, U.heap = H → s.WarmedH U.vm → E U) {av : List Value} : ∀ U : State, U.heap = H → s.WarmedH U.vm → va_Pc av (PR dC dI ct E pre H.size) av.toArray U :=
  prU hK hP hD ((List.range pre.length).map (fun i => wr.length + i)) (rgN _ _) (rgR wr pre) hE
end CL
