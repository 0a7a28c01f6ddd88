/-! ===== shared shapes: the array classes, worlds whose cells are equal, contracts, rows ===== -/
abbrev TY (ct : Nat → ClassId) : List (ClassId × FieldType) := [(ct 0, .int), (ct 1, .array .int), (ct 2, .object "HedgeHeaps$Sheet"), (ct 3, .object "java/lang/String")]
/-- a row of ints -/
abbrev ai (ct : Nat → ClassId) (a n : Nat) (f : Nat → Int32) : Nat × va_E := (a, .inl (ct 0, n, .inl f))
theorem arr_ext {c : ClassId} {n : Nat} {f g : Nat → Value} (h : ∀ j, j < n → f j = g j) : arrV c n f = arrV c n g := by
  unfold arrV
  congr 1
  apply congrArg
  funext j
  exact h j.val j.isLt
def ceq (x y : Nat × va_E) : Prop := x.1 = y.1 ∧ ∀ (D : va_G) (cl : List vw_C) (H : Heap), va_at D cl x H → va_at D cl y H
theorem ceq.rf (x : Nat × va_E) : ceq x x := ⟨rfl, fun _ _ _ h => h⟩
theorem ceq.arr {a : Nat} {c : ClassId} {n : Nat} {f g : Nat → Int32} (h : ∀ j, j < n → f j = g j) : ceq (a, .inl (c, n, .inl f)) (a, .inl (c, n, .inl g)) := by
  refine ⟨rfl, fun D cl H hx => ?_⟩
  have hx1 : H[a]? = some (vp_cell c (n, .inl f)) := hx
  have e : vp_cell c (n, .inl f) = vp_cell c (n, .inl g) := by
    rw [vp_cell_i, vp_cell_i]
    exact arr_ext (fun j hj => by rw [h j hj])
  show H[a]? = some (vp_cell c (n, .inl g))
  rw [← e]
  exact hx1
def weq (ws ws' : va_W) : Prop := ws.length = ws'.length ∧ ∀ (k : Nat) (x y : Nat × va_E), ws[k]? = some x → ws'[k]? = some y → ceq x y
theorem weq.rf (ws : va_W) : weq ws ws := ⟨rfl, fun k x y hx hy => by rw [hx] at hy; cases hy; exact ceq.rf x⟩
theorem weq.of {ws ws' : va_W} (h : ws = ws') : weq ws ws' := h ▸ weq.rf ws
theorem weq.nil : weq [] [] := weq.rf []
theorem weq.cons {x y : Nat × va_E} {ws ws' : va_W} (h : ceq x y) (hw : weq ws ws') : weq (x :: ws) (y :: ws') := by
  refine ⟨by simp [hw.1], fun k a b ha hb => ?_⟩
  cases k with
  | zero =>
    simp only [List.getElem?_cons_zero, Option.some.injEq] at ha hb
    subst ha; subst hb
    exact h
  | succ k =>
    rw [List.getElem?_cons_succ] at ha hb
    exact hw.2 k a b ha hb
theorem weq.c {x : Nat × va_E} {ws ws' : va_W} (hw : weq ws ws') : weq (x :: ws) (x :: ws') := weq.cons (ceq.rf x) hw
theorem weq.app {x y z w : va_W} (h1 : weq x y) (h2 : weq z w) : weq (x ++ z) (y ++ w) := by
  refine ⟨by simp [h1.1, h2.1], fun k a b ha hb => ?_⟩
  by_cases hk : k < x.length
  · rw [List.getElem?_append_left hk] at ha
    rw [List.getElem?_append_left (by rw [← h1.1]; exact hk)] at hb
    exact h1.2 k a b ha hb
  · rw [List.getElem?_append_right (by omega)] at ha
    rw [List.getElem?_append_right (by rw [← h1.1]; omega), ← h1.1] at hb
    exact h2.2 _ a b ha hb
theorem weq.tr {x y z : va_W} (h1 : weq x y) (h2 : weq y z) : weq x z := by
  refine ⟨h1.1.trans h2.1, fun k a b ha hb => ?_⟩
  have hk : k < y.length := by rw [← h1.1]; exact (List.getElem?_eq_some_iff.mp ha).1
  have hy : y[k]? = some y[k] := List.getElem?_eq_getElem hk
  have e1 := h1.2 k a _ ha hy
  have e2 := h2.2 k _ b hy hb
  exact ⟨e1.1.trans e2.1, fun D cl H h => e2.2 D cl H (e1.2 D cl H h)⟩
theorem weq_al {x x' suf : va_W} {j : Nat} {e : Nat × va_E} (hj : j < x.length) (h : weq (x.set j e) x') : weq ((x ++ suf).set j e) (x' ++ suf) := by
  rw [List.set_append_left _ _ hj]
  exact weq.app h (weq.rf suf)
theorem weq_ar {x suf suf' : va_W} {q j : Nat} {e : Nat × va_E} (hq : q = x.length + j) (h : weq (suf.set j e) suf') : weq ((x ++ suf).set q e) (x ++ suf') := by
  subst hq
  rw [List.set_append_right _ _ (Nat.le_add_right _ _), Nat.add_sub_cancel_left]
  exact weq.app (weq.rf x) h
theorem weq.P {D : va_G} {cl : List vw_C} {ws ws' : va_W} {H : Heap} (hw : weq ws ws') (h : va_P D cl ws H) : va_P D cl ws' H := by
  intro k q hq
  have hk : k < ws.length := by rw [hw.1]; exact (List.getElem?_eq_some_iff.mp hq).1
  have hx : ws[k]? = some ws[k] := List.getElem?_eq_getElem hk
  exact (hw.2 k _ q hx hq).2 D cl H (h k _ hx)
theorem weq.D {A : Nat → Prop} {ws ws' : va_W} (hw : weq ws ws') (h : va_D A ws) : va_D A ws' := by
  have key : ∀ (k : Nat) (q : Nat × va_E), ws'[k]? = some q → ∃ x, ws[k]? = some x ∧ x.1 = q.1 := fun k q hq => by
    have hk : k < ws.length := by rw [hw.1]; exact (List.getElem?_eq_some_iff.mp hq).1
    have hx : ws[k]? = some ws[k] := List.getElem?_eq_getElem hk
    exact ⟨_, hx, (hw.2 k _ q hx hq).1⟩
  refine ⟨fun i j p q hi hj hpq => ?_, fun k q hq => ?_⟩
  · obtain ⟨x, h1, e1⟩ := key i p hi
    obtain ⟨y, h2, e2⟩ := key j q hj
    exact h.1 i j x y h1 h2 (e1.trans (hpq.trans e2.symm))
  · obtain ⟨x, h1, e1⟩ := key k q hq
    rw [← e1]
    exact h.2 k x h1
/-- apartness speaks of the addresses alone -/
theorem dSame {A : Nat → Prop} {ws ws' : va_W} (h : va_D A ws) (e : ws.map Prod.fst = ws'.map Prod.fst) : va_D A ws' := by
  have key : ∀ (k : Nat) (q : Nat × va_E), ws'[k]? = some q → ∃ x, ws[k]? = some x ∧ x.1 = q.1 := fun k q hq => by
    have h1 : (ws'.map Prod.fst)[k]? = some q.1 := by rw [List.getElem?_map, hq]; rfl
    rw [← e, List.getElem?_map] at h1
    cases hx : ws[k]? with
    | none => rw [hx] at h1; cases h1
    | some x => rw [hx] at h1; exact ⟨x, rfl, Option.some.inj h1⟩
  refine ⟨fun i j p q hi hj hpq => ?_, fun k q hq => ?_⟩
  · obtain ⟨x, h1, e1⟩ := key i p hi
    obtain ⟨y, h2, e2⟩ := key j q hj
    exact h.1 i j x y h1 h2 (e1.trans (hpq.trans e2.symm))
  · obtain ⟨x, h1, e1⟩ := key k q hq
    rw [← e1]
    exact h.2 k x h1
/-- cells put back at their places -/
def sA : va_W → List Nat → va_W → va_W
  | ws, i :: is, x :: xs => sA (ws.set i x) is xs
  | ws, _, _ => ws
theorem sA_at : ∀ (is : List Nat) (xs ws : va_W), is.length = xs.length → ∀ (k : Nat) (q : Nat × va_E), (sA ws is xs)[k]? = some q → (q ∈ xs ∧ k ∈ is) ∨ (ws[k]? = some q ∧ k ∉ is)
  | [], xs, ws, _, k, q, h => by
    cases xs <;> exact Or.inr ⟨h, by simp⟩
  | i :: is, [], ws, hl, k, q, h => by simp at hl
  | i :: is, x :: xs, ws, hl, k, q, h => by
    have h : (sA (ws.set i x) is xs)[k]? = some q := h
    rcases sA_at is xs (ws.set i x) (by simpa using hl) k q h with h1 | ⟨h1, h2⟩
    · exact Or.inl ⟨List.mem_cons_of_mem _ h1.1, List.mem_cons_of_mem _ h1.2⟩
    · by_cases hk : k = i
      · subst hk
        have hlt : k < ws.length := by have := (List.getElem?_eq_some_iff.mp h1).1; simpa using this
        rw [List.getElem?_set_self hlt] at h1
        cases h1
        exact Or.inl ⟨List.mem_cons_self, List.mem_cons_self⟩
      · rw [List.getElem?_set_ne (Ne.symm hk)] at h1
        exact Or.inr ⟨h1, by simp [hk, h2]⟩
theorem aft {A0 : Nat → Prop} {D : va_G} {cl : List vw_C} {ws pre w1 ws' : va_W} {H H1 : Heap} (hP : va_P D cl ws H) (hD : va_D A0 ws) (is : List Nat) (hpre : is.map (fun i => ws[i]?) = pre.map some) (hl : is.length = w1.length) (hw : sA ws is w1 = ws') (had : ws'.map Prod.fst = ws.map Prod.fst)
    (hk : ∀ q : Nat, q < H.size → ¬ va_A pre H.size q → H1[q]? = H[q]?) (hP1 : va_P D cl w1 H1) : va_P D cl ws' H1 ∧ va_D A0 ws' := by
  refine ⟨fun k q hq => ?_, dSame hD had.symm⟩
  subst hw
  rcases sA_at is w1 ws hl k q hq with ⟨h1, -⟩ | ⟨h1, h2⟩
  · obtain ⟨j, hj⟩ := List.getElem?_of_mem h1
    exact hP1 j q hj
  · have hlt := (hP k q h1).lt
    refine (hP k q h1).kept (hk q.1 hlt (fun hA => ?_))
    rcases hA with ⟨k2, e, h⟩ | h
    · have h3 : (is.map (fun i => ws[i]?))[k2]? = some (some (q.1, e)) := by rw [hpre, List.getElem?_map, h]; rfl
      rw [List.getElem?_map] at h3
      cases hi : is[k2]? with
      | none => rw [hi] at h3; cases h3
      | some i =>
        rw [hi] at h3
        have hij := hD.1 i k (q.1, e) q (Option.some.inj h3) h1 rfl
        subst hij
        exact h2 (List.mem_of_getElem? hi)
    · omega
/-! ===== contracts: a world before, a world behind (the same cells, in the same order) ===== -/
def eT : State → Prop := fun _ => True
def PR (dC : Nat → ClassId) (dI : Nat → Nat → Nat) (ct : Nat → ClassId) (E : State → Prop) (ws : va_W) (sz : Nat) (U : State) : Prop := U.heap.size = sz ∧ va_P (dC, dI) vwCl ws U.heap ∧ va_K (dC, dI) vwCl (TY ct) U ∧ va_D (fun _ => True) ws ∧ E U
def MI {S : Type} (l : Launch) (y : MethodName) (ws : List Cond) (rm : Room) (dC : Nat → ClassId) (dI : Nat → Nat → Nat) (ct : Nat → ClassId) (E : State → Prop) (av : List Value) (pre : va_W) (wp : S → va_W) (post : Int32 → S → Prop) : Prop :=
  ∀ sz : Nat, Met l y ws rm (va_Pc av (PR dC dI ct E pre sz)) (va_Qi post (fun u t => va_P (dC, dI) vwCl (wp u) t.heap) (va_A pre sz)) 0 0 (va_A pre sz)
def MV {S : Type} (l : Launch) (y : MethodName) (ws : List Cond) (rm : Room) (dC : Nat → ClassId) (dI : Nat → Nat → Nat) (ct : Nat → ClassId) (E : State → Prop) (av : List Value) (pre : va_W) (wp : S → va_W) (post : S → Prop) : Prop :=
  ∀ sz : Nat, Met l y ws rm (va_Pc av (PR dC dI ct E pre sz)) (va_Qv post (fun u t => va_P (dC, dI) vwCl (wp u) t.heap) (va_A pre sz)) 0 0 (va_A pre sz)
def MR {S : Type} (l : Launch) (y : MethodName) (ws : List Cond) (rm : Room) (dC : Nat → ClassId) (dI : Nat → Nat → Nat) (ct : Nat → ClassId) (E : State → Prop) (av : List Value) (pre : va_W) (wp : S → va_W) (post : Nat → S → Prop) : Prop :=
  ∀ sz : Nat, Met l y ws rm (va_Pc av (PR dC dI ct E pre sz)) (va_Qr (fun _ : S => True) (fun u ra t => post ra u ∧ va_P (dC, dI) vwCl (wp u) t.heap) (va_A pre sz)) 0 0 (va_A pre sz)
/-- what a body knows at its entry -/
def BD (l : Launch) (y : MethodName) (ws : List Cond) (rm : Room) (cc : ByteArray) (maxL : Nat) (ret : Option FieldType) (dC : Nat → ClassId) (dI : Nat → Nat → Nat) (ct : Nat → ClassId) (E : State → Prop) (av : List Value) (pre : va_W) (Qc : (Nat → Prop) → Array Value → State → Outcome → State → Prop) : Prop :=
  ∀ (p : Program) (e : Env) (s : State) (m : MethodId) (below : List Frame) (meth : Method) (c : Code) (A : Nat → Prop), CallFix p m c cc maxL s av.toArray ws y.cls → meth.sig.returnType = ret → meth.locks = false → (y.name = "<init>" → meth.name = "<init>") → va_K (dC, dI) vwCl (TY ct) s → va_P (dC, dI) vwCl pre s.heap → va_D A pre → (∀ q, s.heap.size ≤ q → A q) → va_S A s.heap s.heap [] → E s →
    ∀ ls : Array Slot, lv_has ls maxL (lv_args 0 av) → W p l e (headSpec ws rm).room s m av.toArray below meth c s.heap [] 0 0 (MQ below (Qc A) av.toArray s 0 0 A) (F0 m 0 ls [])
section BASE1
variable {l : Launch} {y : MethodName} {ws ws' : List Cond} {rm : Room} {cc : ByteArray} {maxL : Nat} {dC : Nat → ClassId} {dI : Nat → Nat → Nat} {ct : Nat → ClassId} {E : State → Prop} {av : List Value} {pre : va_W} {ret : Option FieldType}
set_option maxHeartbeats 4000000 in
theorem ofBD {Qc : (Nat → Prop) → Array Value → State → Outcome → State → Prop} (hy : plainName y.cls = true) (hw : ws = Cond.code y cc maxL ret :: ws') (hlen : (lg_sl av).length ≤ maxL) (h : BD l y ws rm cc maxL ret dC dI ct E av pre Qc) (sz : Nat) : Met l y ws rm (va_Pc av (PR dC dI ct E pre sz)) (Qc (va_A pre sz)) 0 0 (va_A pre sz) := by
  refine Met.ofW (cc := cc) (maxL := maxL) (ret := ret) hy hw ?_
  intro p e s m args below meth c s₁ B hml hv
  obtain ⟨rfl, hsz, hP, hK, hD0, hE⟩ := hv
  have hts := atoms_spec (ws := ws) B.pre
  have hown : s.vm.findClass y.cls = some m.cls := findClass_of_methodNamed B.named
  subst hsz
  rw [lg_entry_eq]
  exact h p e s m below meth c _ ⟨B.exec, B.bytes, hml, hown, hts⟩ B.returns B.notSynchronized (fun hn => (name_of_methodNamed B.named B.method).1.trans hn) hK hP (hD0.self (sz := s.heap.size)) (fun q hq => Or.inr hq) va_S.rf hE _ (lv_entry av hlen)
theorem MI.of {S : Type} {wp : S → va_W} {post : Int32 → S → Prop} (hy : plainName y.cls = true) (hw : ws = Cond.code y cc maxL ret :: ws') (hlen : (lg_sl av).length ≤ maxL) (h : BD l y ws rm cc maxL ret dC dI ct E av pre (fun A => va_Qi post (fun u t => va_P (dC, dI) vwCl (wp u) t.heap) A)) : MI l y ws rm dC dI ct E av pre wp post := fun sz => ofBD hy hw hlen h sz
theorem MV.of {S : Type} {wp : S → va_W} {post : S → Prop} (hy : plainName y.cls = true) (hw : ws = Cond.code y cc maxL ret :: ws') (hlen : (lg_sl av).length ≤ maxL) (h : BD l y ws rm cc maxL ret dC dI ct E av pre (fun A => va_Qv post (fun u t => va_P (dC, dI) vwCl (wp u) t.heap) A)) : MV l y ws rm dC dI ct E av pre wp post := fun sz => ofBD hy hw hlen h sz
theorem MR.of {S : Type} {wp : S → va_W} {post : Nat → S → Prop} (hy : plainName y.cls = true) (hw : ws = Cond.code y cc maxL ret :: ws') (hlen : (lg_sl av).length ≤ maxL) (h : BD l y ws rm cc maxL ret dC dI ct E av pre (fun A => va_Qr (fun _ : S => True) (fun u ra t => post ra u ∧ va_P (dC, dI) vwCl (wp u) t.heap) A)) : MR l y ws rm dC dI ct E av pre wp post := fun sz => ofBD hy hw hlen h sz
theorem blind (hE : ∀ U g mk a, E U → E (U.calling g mk a)) (sz : Nat) : FrameBlind (va_Pc av (PR dC dI ct E pre sz)) := fun a U g mk q => by
  obtain ⟨q0, q1, qP, qK, qD, qE⟩ := q
  exact ⟨q0, q1, qP, va_K.moved (u := U) (U := U.calling g mk a) (Vm.Alike.refl U.vm) qK, qD, hE U g mk a qE⟩
theorem eT_b : ∀ (U : State) (g : JFrame) (mk : MethodId) (a : Array Value), eT U → eT (U.calling g mk a) := fun _ _ _ _ _ => trivial
end BASE1
section BASE2
variable {p : Program} {l : Launch} {e : Env} {R : Room} {s : State} {m : MethodId} {args : Array Value} {below : List Frame} {meth : Method} {c : Code} {H : Heap} {locs : List Loc} {cells slots : Nat} {Q : State → Prop}
variable {cc : ByteArray} {pc nL : Nat} {ls : Array Slot} {rest st : List Value} {dC : Nat → ClassId} {dI : Nat → Nat → Nat} {ct : Nat → ClassId} {A : Nat → Prop} {a : Nat} {ws ws' pre : va_W} {H0 : Heap} {Ts : List Cond} {own : String} {E : State → Prop}
variable {D : va_G} {cl : List vw_C} {tys : List (ClassId × FieldType)}
/-- the number on top, said otherwise -/
theorem tp {x y : Int32} (h : x = y) (k : W p l e R s m args below meth c H locs cells slots Q (F0 m pc ls (.int y :: rest))) : W p l e R s m args below meth c H locs cells slots Q (F0 m pc ls (.int x :: rest)) := by
  subst h
  exact k
theorem gf (F : CallFix p m c cc nL s args Ts own) (hK : va_K D cl tys s) (hP : va_P D cl ws H) (q0 : Nat) {ci : Nat} {fs : List Value} (he : ws[q0]? = some (a, .inr (ci, fs))) {C : String} {T : u_T} {N : Nat} (hc : cl[ci]? = some (C, T, N)) (hin : ∀ w ∈ u_ws C T N, w ∈ Ts) (k : Nat) (hk : k < N) {index : Nat} (hlk : Cond.fieldLink own index (T k).1 (T k).2.1 (T k).2.2.1 ∈ Ts) {v : Value} (hv : fs[k]? = some v) (hdg : decode cc pc = .ok (.getfield index, 3))
    (kk : W p l e R s m args below meth c H locs cells slots Q (F0 m (pc + 3) ls (v :: rest))) : W p l e R s m args below meth c H locs cells slots Q (F0 m pc ls (.ref a :: rest)) :=
  va_get F.1 F.2.1 F.2.2.2.2 hin F.2.2.2.1 hK hP q0 he hc k hk (F.2.2.2.2 _ hlk) (fun _ h => h) hv hdg kk
theorem pf (F : CallFix p m c cc nL s args Ts own) (hK : va_K D cl tys s) (hP : va_P D cl ws H) (hD : va_D A ws) (hS : va_S A H0 H locs) (q0 : Nat) {ci : Nat} {fs : List Value} (he : ws[q0]? = some (a, .inr (ci, fs))) {C : String} {T : u_T} {N : Nat} (hc : cl[ci]? = some (C, T, N)) (hin : ∀ w ∈ u_ws C T N, w ∈ Ts) (ty0 : Nat → FieldType) (hty : ∀ k, k < N → parseFieldDescriptor (T k).2.2.1 = some (ty0 k)) (hnm : ∀ a, a < N → ∀ b, b < N → a ≠ b → (T a).2.1 ≠ (T b).2.1)
    (k : Nat) (hk : k < N) {index : Nat} (hlk : Cond.fieldLink own index (T k).1 (T k).2.1 (T k).2.2.1 ∈ Ts) (hfin : (T k).2.2.2 = false) {v : Value} (hn : narrow (ty0 k) v = v) (hfit : fits (ty0 k) v = true) (hl : k < fs.length) (hdg : decode cc pc = .ok (.putfield index, 3)) (hw : weq (ws.set q0 (a, .inr (ci, fs.set k v))) ws')
    (kk : ∀ (H1 : Heap) (locs1 : List Loc), va_P D cl ws' H1 → va_D A ws' → va_S A H0 H1 locs1 → W p l e R s m args below meth c H1 locs1 cells slots Q (F0 m (pc + 3) ls rest)) : W p l e R s m args below meth c H locs cells slots Q (F0 m pc ls (v :: .ref a :: rest)) :=
  va_put F.1 F.2.1 F.2.2.2.2 hin ty0 hty hnm F.2.2.2.1 hK hP hD hS q0 he hc k hk (F.2.2.2.2 _ hlk) (fun _ h => h) hfin (hty k hk) hn hfit hl hdg (fun H1 locs1 h1 h2 h3 => kk H1 locs1 (hw.P h1) (hw.D h2) h3)
theorem al (F : CallFix p m c cc nL s args Ts own) (hK : va_K D cl tys s) (hP : va_P D cl ws H) (q0 t0 : Nat) {cA : ClassId} {n : Nat} {f : Nat → Int32} (he : ws[q0]? = some (a, .inl (cA, n, .inl f))) (ht : tys[t0]? = some (cA, .int)) {i : Int32} (j : Nat) (hi : i = nI j) (hj : j < n) (hn : n < 2147483648) {v : Int32} (hv : f j = v) (hdg : decode cc pc = .ok (.iaload, 1))
    (kk : W p l e R s m args below meth c H locs cells slots Q (F0 m (pc + 1) ls (.int v :: rest))) : W p l e R s m args below meth c H locs cells slots Q (F0 m pc ls (.int i :: .ref a :: rest)) := by
  subst hi
  refine va_iald F.1 F.2.1 hK hP q0 t0 he ht (vp_in_nI hj hn) hdg ?_
  rw [nI_clamp (by omega), hv]
  exact kk
theorem ast (F : CallFix p m c cc nL s args Ts own) (hK : va_K D cl tys s) (hP : va_P D cl ws H) (hD : va_D A ws) (hS : va_S A H0 H locs) (q0 t0 : Nat) {cA : ClassId} {n : Nat} {f : Nat → Int32} (he : ws[q0]? = some (a, .inl (cA, n, .inl f))) (ht : tys[t0]? = some (cA, .int)) {i x : Int32} (j : Nat) (hi : i = nI j) (hj : j < n) (hn : n < 2147483648) (hdg : decode cc pc = .ok (.iastore, 1)) (hw : weq (ws.set q0 (a, .inl (cA, n, .inl (upd f j x)))) ws')
    (kk : ∀ (H1 : Heap) (locs1 : List Loc), va_P D cl ws' H1 → va_D A ws' → va_S A H0 H1 locs1 → W p l e R s m args below meth c H1 locs1 cells slots Q (F0 m (pc + 1) ls rest)) : W p l e R s m args below meth c H locs cells slots Q (F0 m pc ls (.int x :: .int i :: .ref a :: rest)) := by
  subst hi
  refine va_iast F.1 F.2.1 hK hP hD hS q0 t0 he ht (vp_in_nI hj hn) hdg (fun H1 locs1 h1 h2 h3 => ?_)
  rw [nI_clamp (by omega)] at h1 h2
  exact kk H1 locs1 (hw.P h1) (hw.D h2) h3
/-- a place of an array of references -/
theorem alr (F : CallFix p m c cc nL s args Ts own) (hK : va_K D cl tys s) (hP : va_P D cl ws H) (q0 t0 : Nat) {cA : ClassId} {ty : FieldType} {n : Nat} {f : Nat → Option Nat} (he : ws[q0]? = some (a, .inl (cA, n, .inr (.inr (.inr (.inr f)))))) (ht : tys[t0]? = some (cA, ty)) (hrf : refKind ty = true) {i : Int32} (j : Nat) (hi : i = nI j) (hj : j < n) (hn : n < 2147483648) {b : Nat} (hv : f j = some b) (hdg : decode cc pc = .ok (.aaload, 1))
    (kk : W p l e R s m args below meth c H locs cells slots Q (F0 m (pc + 1) ls (.ref b :: rest))) : W p l e R s m args below meth c H locs cells slots Q (F0 m pc ls (.int i :: .ref a :: rest)) := by
  subst hi
  have hin := vp_in_nI hj hn
  have hlt : (nI j).toNatClampNeg < n := by rw [nI_clamp (by omega)]; exact hj
  refine W.aald (v := .ref b) (ty := ty) F.1 F.2.1 (hP q0 _ he) ((hK.2 t0 _ ht).1 n (fun j => va_rf (f j))) hrf (fun q => by cases q) (by show ¬ (nI j < 0 ∨ (arrV _ _ _).slots.size ≤ _); rw [arrV_size]; exact hin) (by show (arrV _ _ _).slots[_]? = _; rw [arrV_read _ _ hlt, nI_clamp (by omega), hv]; rfl) rfl rfl hdg kk
theorem cpy {index : Nat} (F : CallFix p m c cc nL s args Ts own) (hsz : ls.size = nL) (hlink : (Cond.methodLink own index arraycopyName).before args s = true) (hnat : (Cond.native arraycopyName).before args s = true) (hstat : (Cond.static arraycopyName).before args s = true) (hini : (Cond.initialized "java/lang/System").before args s = true) (hK : va_K D cl tys s) (hP : va_P D cl ws H) (hD : va_D A ws) (hS : va_S A H0 H locs) (q0 q1 t0 t1 : Nat) {a0 : Nat} {c0 c1 : ClassId} {n0 n1 : Nat} {f g : Nat → Int32} (ha0 : ws[q0]? = some (a0, .inl (c0, n0, .inl f))) (ha1 : ws[q1]? = some (a, .inl (c1, n1, .inl g))) (ht0 : tys[t0]? = some (c0, .int)) (ht1 : tys[t1]? = some (c1, .int)) (hb : n0 < 2147483648 ∧ n1 < 2147483648) {sp dp n : Int32} (i j k : Nat) (hi : sp = nI i) (hj : dp = nI j) (hk : n = nI k) (h4 : i + k ≤ n0) (h5 : j + k ≤ n1)
    (hframes : 1 ≤ R.frames) (hlocals : (rest.map fun v => v.category).sum + (nativeFrameWords "java/lang/System" "arraycopy" 5 + 11) ≤ R.locals) (hdg : decode cc pc = .ok (.invokestatic index, 3)) (hw : weq (ws.set q1 (a, .inl (c1, n1, .inl (va_cpy f g i j k)))) ws')
    (kk : ∀ (H1 : Heap) (locs1 : List Loc), va_P D cl ws' H1 → va_D A ws' → va_S A H0 H1 locs1 → W p l e R s m args below meth c H1 locs1 cells slots Q (F0 m (pc + 3) ls rest)) : W p l e R s m args below meth c H locs cells slots Q (F0 m pc ls (.int n :: .int dp :: .ref a :: .int sp :: .ref a0 :: rest)) := by
  subst hi; subst hj; subst hk
  have ei : (nI i).toNatClampNeg = i := nI_clamp (by omega)
  have ej : (nI j).toNatClampNeg = j := nI_clamp (by omega)
  have ek : (nI k).toNatClampNeg = k := nI_clamp (by omega)
  refine va_copyi F.1 F.2.1 (F.2.2.1.trans hsz.symm) F.2.2.2.1 hlink hnat hstat hini hK hP hD hS q0 q1 t0 t1 ha0 ha1 ht0 ht1 rfl (nI_pos (by omega)) (nI_pos (by omega)) (nI_pos (by omega)) (by rw [ei, ek]; exact h4) (by rw [ej, ek]; exact h5) (fun _ _ => rfl) hframes hlocals hdg (fun H1 locs1 h1 h2 h3 => ?_)
  rw [ei, ej, ek] at h1 h2
  exact kk H1 locs1 (hw.P h1) (hw.D h2) h3
section CALLS
variable {S : Type} {y : MethodName} {wsY wsY' : List Cond} {bytes : ByteArray} {maxL n index : Nat} {ret : Option FieldType} {rm : Room} {C : String} {b ci : Nat} {As : List Value} {fs : List Value} {q : vw_C} {wp : S → va_W}
theorem prU (hK : va_K (dC, dI) vwCl (TY ct) s) (hP : va_P (dC, dI) vwCl ws H) (hD : va_D A ws) (is : List Nat) (hnd : va_nd is = true) (hpre : is.map (fun i => ws[i]?) = pre.map some) (hE : ∀ U : State, U.heap = H → s.WarmedH U.vm → E U) {av : List Value} : ∀ U : State, U.heap = H → s.WarmedH U.vm → va_Pc av (PR dC dI ct E pre H.size) av.toArray U := fun U hU hW => by
  refine ⟨rfl, by rw [hU], ?_, va_K.moved hW.alike hK, (hD.sub is hnd hpre).weaken (fun _ _ _ _ => trivial), hE U hU hW⟩
  rw [hU]
  refine hP.sub is ?_
  have h2 : (is.map (fun i => ws[i]?)).filterMap id = (pre.map some).filterMap id := by rw [hpre]
  rw [List.filterMap_map, List.filterMap_map] at h2
  have h3 : pre.filterMap (id ∘ some) = pre := by
    show pre.filterMap some = pre
    exact List.filterMap_some
  exact h2.trans h3
theorem runI {post : Int32 → S → Prop} {wsp : S → va_W} {a0 : Array Value} (hr : va_Run p l e R s m args below meth c H locs cells slots 0 0 (F0 m pc ls st) rest (va_Qi post (fun u t => va_P (dC, dI) vwCl (wp u) t.heap) (va_A pre H.size) a0) (va_A pre H.size)) (hP : va_P (dC, dI) vwCl ws H) (hD : va_D A ws) (hS : va_S A H0 H locs) (hA : ∀ q, H0.size ≤ q → A q) (is : List Nat) (hpre : is.map (fun i => ws[i]?) = pre.map some) (hl : ∀ u, is.length = (wp u).length) (hw : ∀ u, sA ws is (wp u) = wsp u) (ad : List Nat) (had0 : ws.map Prod.fst = ad) (had : ∀ u, (wsp u).map Prod.fst = ad)
    (kk : ∀ (r : Int32) (u : S) (H1 : Heap) (locs1 : List Loc), post r u → va_P (dC, dI) vwCl (wsp u) H1 → va_D A (wsp u) → va_S A H0 H1 locs1 → W p l e R s m args below meth c H1 locs1 cells slots Q (F0 m (pc + 3) ls (.int r :: rest))) : W p l e R s m args below meth c H locs cells slots Q (F0 m pc ls st) := by
  have hF := va_free hD hS hA is hpre
  refine va_calli hr hS (fun q _ h => hF q h) hF (fun r u t H1 locs1 ht hvm hp hB hz hk hS1 => ?_)
  rw [ht] at hB
  obtain ⟨h1, h2⟩ := aft hP hD is hpre (hl u) (hw u) ((had u).trans had0.symm) hk hB
  exact kk r u H1 locs1 hp h1 h2 hS1
theorem runV {post : S → Prop} {wsp : S → va_W} {a0 : Array Value} (hr : va_Run p l e R s m args below meth c H locs cells slots 0 0 (F0 m pc ls st) rest (va_Qv post (fun u t => va_P (dC, dI) vwCl (wp u) t.heap) (va_A pre H.size) a0) (va_A pre H.size)) (hP : va_P (dC, dI) vwCl ws H) (hD : va_D A ws) (hS : va_S A H0 H locs) (hA : ∀ q, H0.size ≤ q → A q) (is : List Nat) (hpre : is.map (fun i => ws[i]?) = pre.map some) (hl : ∀ u, is.length = (wp u).length) (hw : ∀ u, sA ws is (wp u) = wsp u) (ad : List Nat) (had0 : ws.map Prod.fst = ad) (had : ∀ u, (wsp u).map Prod.fst = ad)
    (kk : ∀ (u : S) (H1 : Heap) (locs1 : List Loc), post u → va_P (dC, dI) vwCl (wsp u) H1 → va_D A (wsp u) → va_S A H0 H1 locs1 → W p l e R s m args below meth c H1 locs1 cells slots Q (F0 m (pc + 3) ls rest)) : W p l e R s m args below meth c H locs cells slots Q (F0 m pc ls st) := by
  have hF := va_free hD hS hA is hpre
  refine va_callv hr hS (fun q _ h => hF q h) hF (fun u t H1 locs1 ht hvm hp hB hz hk hS1 => ?_)
  rw [ht] at hB
  obtain ⟨h1, h2⟩ := aft hP hD is hpre (hl u) (hw u) ((had u).trans had0.symm) hk hB
  exact kk u H1 locs1 hp h1 h2 hS1
theorem runR {post : Nat → S → Prop} {wsp : S → va_W} {a0 : Array Value} (hr : va_Run p l e R s m args below meth c H locs cells slots 0 0 (F0 m pc ls st) rest (va_Qr (fun _ : S => True) (fun u ra t => post ra u ∧ va_P (dC, dI) vwCl (wp u) t.heap) (va_A pre H.size) a0) (va_A pre H.size)) (hP : va_P (dC, dI) vwCl ws H) (hD : va_D A ws) (hS : va_S A H0 H locs) (hA : ∀ q, H0.size ≤ q → A q) (is : List Nat) (hpre : is.map (fun i => ws[i]?) = pre.map some) (hl : ∀ u, is.length = (wp u).length) (hw : ∀ u, sA ws is (wp u) = wsp u) (ad : List Nat) (had0 : ws.map Prod.fst = ad) (had : ∀ u, (wsp u).map Prod.fst = ad)
    (kk : ∀ (r : Nat) (u : S) (H1 : Heap) (locs1 : List Loc), post r u → va_P (dC, dI) vwCl (wsp u) H1 → va_D A (wsp u) → va_S A H0 H1 locs1 → W p l e R s m args below meth c H1 locs1 cells slots Q (F0 m (pc + 3) ls (.ref r :: rest))) : W p l e R s m args below meth c H locs cells slots Q (F0 m pc ls st) := by
  have hF := va_free hD hS hA is hpre
  refine va_callr hr hS (fun q _ h => hF q h) hF (fun u r t H1 locs1 ht hvm _ hB hz hk hS1 => ?_)
  obtain ⟨hp, hB⟩ := hB
  rw [ht] at hB
  obtain ⟨h1, h2⟩ := aft hP hD is hpre (hl u) (hw u) ((had u).trans had0.symm) hk hB
  exact kk r u H1 locs1 hp h1 h2 hS1
/-- what a call of y needs of its name and its room -/
def NmV (y : MethodName) (C : String) (n : Nat) : Prop := y.cls = C ∧ y.cls ≠ "java/lang/invoke/MethodHandle" ∧ y.cls ≠ "java/lang/invoke/VarHandle" ∧ (parseMethodDescriptor y.desc).map (fun d => d.parameters.length) = some n
theorem goV {Pc : Array Value → State → Prop} {Qc : Array Value → State → Outcome → State → Prop} {fr : Addr → Prop} (F : CallFix p m c cc nL s args Ts own) (hM : Met l y wsY rm Pc Qc 0 0 fr) (hG : GoodIn Ts (wsV own index C y wsY)) (hwy : wsY = Cond.code y bytes maxL ret :: wsY') (hrm : rm.cells = 0 ∧ rm.slots = 0) (hy : NmV y C n) (hR : rm.frames + 1 ≤ R.frames ∧ 8 + (maxL + 11) + rm.locals ≤ R.locals)
    (hK : va_K (dC, dI) vwCl (TY ct) s) (hP : va_P (dC, dI) vwCl ws H) (q0 : Nat) (hc : vwCl[ci]? = some q) (hq : q.1 = C) (he : ws[q0]? = some (b, .inr (ci, fs))) (hbl : FrameBlind Pc) (hPc : ∀ U : State, U.heap = H → s.WarmedH U.vm → Pc (Value.ref b :: As).toArray U) (hst : st = As.reverse ++ .ref b :: rest) (hn : As.length = n) (hsz : ls.size = nL) (hrest : (rest.map fun v => v.category).sum ≤ 8) (hdg : decode cc pc = .ok (.invokevirtual index, 3)) (hcs : cells ≤ R.cells ∧ slots ≤ R.slots) :
    va_Run p l e R s m args below meth c H locs cells slots 0 0 (F0 m pc ls st) rest (Qc (Value.ref b :: As).toArray) fr := by
  subst hq
  exact va_runV F hM (cwV n F.2.2.2.2 hG hwy hrm.1 hrm.2 hy hR) ⟨hbl, va_recv hK hP hc he, hPc⟩ rfl hn hsz hst (lv_room hrest) hdg hcs
theorem goS {Pc : Array Value → State → Prop} {Qc : Array Value → State → Outcome → State → Prop} {fr : Addr → Prop} (F : CallFix p m c cc nL s args Ts own) (hM : Met l y wsY rm Pc Qc 0 0 fr) (hG : GoodIn Ts (va_wsS own index y wsY)) (hwy : wsY = Cond.code y bytes maxL ret :: wsY') (hrm : rm.cells = 0 ∧ rm.slots = 0) (hy : NmV y C n) (hR : rm.frames + 1 ≤ R.frames ∧ 8 + (maxL + 11) + rm.locals ≤ R.locals)
    (hbl : FrameBlind Pc) (hPc : ∀ U : State, U.heap = H → s.WarmedH U.vm → Pc As.toArray U) (hst : st = As.reverse ++ rest) (hn : As.length = n) (hsz : ls.size = nL) (hrest : (rest.map fun v => v.category).sum ≤ 8) (hdg : decode cc pc = .ok (.invokestatic index, 3)) (hcs : cells ≤ R.cells ∧ slots ≤ R.slots) :
    va_Run p l e R s m args below meth c H locs cells slots 0 0 (F0 m pc ls st) rest (Qc As.toArray) fr :=
  va_runS F hM (va_cwS n F.2.2.2.2 hG hwy hrm.1 hrm.2 hy.2 hR) ⟨hbl, hPc⟩ rfl hn hsz hst (lv_room hrest) hdg hcs
theorem iV {post : Int32 → S → Prop} {wsp : S → va_W} (F : CallFix p m c cc nL s args Ts own) (hM : MI l y wsY rm dC dI ct E (.ref b :: As) pre wp post) (hG : GoodIn Ts (wsV own index C y wsY)) (hwy : wsY = Cond.code y bytes maxL ret :: wsY') (hrm : rm.cells = 0 ∧ rm.slots = 0) (hy : NmV y C n) (hR : rm.frames + 1 ≤ R.frames ∧ 8 + (maxL + 11) + rm.locals ≤ R.locals)
    (hEb : ∀ (U : State) (g : JFrame) (mk : MethodId) (a : Array Value), E U → E (U.calling g mk a)) (hE : ∀ U : State, U.heap = H → s.WarmedH U.vm → E U) (hK : va_K (dC, dI) vwCl (TY ct) s) (hP : va_P (dC, dI) vwCl ws H) (hD : va_D A ws) (hS : va_S A H0 H locs) (hA : ∀ q, H0.size ≤ q → A q) (q0 : Nat) (hc : vwCl[ci]? = some q) (hq : q.1 = C) (he : ws[q0]? = some (b, .inr (ci, fs))) (is : List Nat) (hnd : va_nd is = true) (hpre : is.map (fun i => ws[i]?) = pre.map some) (hst : st = As.reverse ++ .ref b :: rest) (hn : As.length = n) (hsz : ls.size = nL) (hrest : (rest.map fun v => v.category).sum ≤ 8) (hdg : decode cc pc = .ok (.invokevirtual index, 3)) (hcs : cells ≤ R.cells ∧ slots ≤ R.slots)
    (hl : ∀ u, is.length = (wp u).length) (hw : ∀ u, sA ws is (wp u) = wsp u) (ad : List Nat) (had0 : ws.map Prod.fst = ad) (had : ∀ u, (wsp u).map Prod.fst = ad)
    (kk : ∀ (r : Int32) (u : S) (H1 : Heap) (locs1 : List Loc), post r u → va_P (dC, dI) vwCl (wsp u) H1 → va_D A (wsp u) → va_S A H0 H1 locs1 → W p l e R s m args below meth c H1 locs1 cells slots Q (F0 m (pc + 3) ls (.int r :: rest))) : W p l e R s m args below meth c H locs cells slots Q (F0 m pc ls st) :=
  runI (goV F (hM H.size) hG hwy hrm hy hR hK hP q0 hc hq he (blind hEb H.size) (prU hK hP hD is hnd hpre hE) hst hn hsz hrest hdg hcs) hP hD hS hA is hpre hl hw ad had0 had kk
theorem vV {post : S → Prop} {wsp : S → va_W} (F : CallFix p m c cc nL s args Ts own) (hM : MV l y wsY rm dC dI ct E (.ref b :: As) pre wp post) (hG : GoodIn Ts (wsV own index C y wsY)) (hwy : wsY = Cond.code y bytes maxL ret :: wsY') (hrm : rm.cells = 0 ∧ rm.slots = 0) (hy : NmV y C n) (hR : rm.frames + 1 ≤ R.frames ∧ 8 + (maxL + 11) + rm.locals ≤ R.locals)
    (hEb : ∀ (U : State) (g : JFrame) (mk : MethodId) (a : Array Value), E U → E (U.calling g mk a)) (hE : ∀ U : State, U.heap = H → s.WarmedH U.vm → E U) (hK : va_K (dC, dI) vwCl (TY ct) s) (hP : va_P (dC, dI) vwCl ws H) (hD : va_D A ws) (hS : va_S A H0 H locs) (hA : ∀ q, H0.size ≤ q → A q) (q0 : Nat) (hc : vwCl[ci]? = some q) (hq : q.1 = C) (he : ws[q0]? = some (b, .inr (ci, fs))) (is : List Nat) (hnd : va_nd is = true) (hpre : is.map (fun i => ws[i]?) = pre.map some) (hst : st = As.reverse ++ .ref b :: rest) (hn : As.length = n) (hsz : ls.size = nL) (hrest : (rest.map fun v => v.category).sum ≤ 8) (hdg : decode cc pc = .ok (.invokevirtual index, 3)) (hcs : cells ≤ R.cells ∧ slots ≤ R.slots)
    (hl : ∀ u, is.length = (wp u).length) (hw : ∀ u, sA ws is (wp u) = wsp u) (ad : List Nat) (had0 : ws.map Prod.fst = ad) (had : ∀ u, (wsp u).map Prod.fst = ad)
    (kk : ∀ (u : S) (H1 : Heap) (locs1 : List Loc), post u → va_P (dC, dI) vwCl (wsp u) H1 → va_D A (wsp u) → va_S A H0 H1 locs1 → W p l e R s m args below meth c H1 locs1 cells slots Q (F0 m (pc + 3) ls (rest))) : W p l e R s m args below meth c H locs cells slots Q (F0 m pc ls st) :=
  runV (goV F (hM H.size) hG hwy hrm hy hR hK hP q0 hc hq he (blind hEb H.size) (prU hK hP hD is hnd hpre hE) hst hn hsz hrest hdg hcs) hP hD hS hA is hpre hl hw ad had0 had kk
theorem rV {post : Nat → S → Prop} {wsp : S → va_W} (F : CallFix p m c cc nL s args Ts own) (hM : MR l y wsY rm dC dI ct E (.ref b :: As) pre wp post) (hG : GoodIn Ts (wsV own index C y wsY)) (hwy : wsY = Cond.code y bytes maxL ret :: wsY') (hrm : rm.cells = 0 ∧ rm.slots = 0) (hy : NmV y C n) (hR : rm.frames + 1 ≤ R.frames ∧ 8 + (maxL + 11) + rm.locals ≤ R.locals)
    (hEb : ∀ (U : State) (g : JFrame) (mk : MethodId) (a : Array Value), E U → E (U.calling g mk a)) (hE : ∀ U : State, U.heap = H → s.WarmedH U.vm → E U) (hK : va_K (dC, dI) vwCl (TY ct) s) (hP : va_P (dC, dI) vwCl ws H) (hD : va_D A ws) (hS : va_S A H0 H locs) (hA : ∀ q, H0.size ≤ q → A q) (q0 : Nat) (hc : vwCl[ci]? = some q) (hq : q.1 = C) (he : ws[q0]? = some (b, .inr (ci, fs))) (is : List Nat) (hnd : va_nd is = true) (hpre : is.map (fun i => ws[i]?) = pre.map some) (hst : st = As.reverse ++ .ref b :: rest) (hn : As.length = n) (hsz : ls.size = nL) (hrest : (rest.map fun v => v.category).sum ≤ 8) (hdg : decode cc pc = .ok (.invokevirtual index, 3)) (hcs : cells ≤ R.cells ∧ slots ≤ R.slots)
    (hl : ∀ u, is.length = (wp u).length) (hw : ∀ u, sA ws is (wp u) = wsp u) (ad : List Nat) (had0 : ws.map Prod.fst = ad) (had : ∀ u, (wsp u).map Prod.fst = ad)
    (kk : ∀ (r : Nat) (u : S) (H1 : Heap) (locs1 : List Loc), post r u → va_P (dC, dI) vwCl (wsp u) H1 → va_D A (wsp u) → va_S A H0 H1 locs1 → W p l e R s m args below meth c H1 locs1 cells slots Q (F0 m (pc + 3) ls (.ref r :: rest))) : W p l e R s m args below meth c H locs cells slots Q (F0 m pc ls st) :=
  runR (goV F (hM H.size) hG hwy hrm hy hR hK hP q0 hc hq he (blind hEb H.size) (prU hK hP hD is hnd hpre hE) hst hn hsz hrest hdg hcs) hP hD hS hA is hpre hl hw ad had0 had kk
theorem iS {post : Int32 → S → Prop} {wsp : S → va_W} (F : CallFix p m c cc nL s args Ts own) (hM : MI l y wsY rm dC dI ct E As pre wp post) (hG : GoodIn Ts (va_wsS own index y wsY)) (hwy : wsY = Cond.code y bytes maxL ret :: wsY') (hrm : rm.cells = 0 ∧ rm.slots = 0) (hy : NmV y C n) (hR : rm.frames + 1 ≤ R.frames ∧ 8 + (maxL + 11) + rm.locals ≤ R.locals)
    (hEb : ∀ (U : State) (g : JFrame) (mk : MethodId) (a : Array Value), E U → E (U.calling g mk a)) (hE : ∀ U : State, U.heap = H → s.WarmedH U.vm → E U) (hK : va_K (dC, dI) vwCl (TY ct) s) (hP : va_P (dC, dI) vwCl ws H) (hD : va_D A ws) (hS : va_S A H0 H locs) (hA : ∀ q, H0.size ≤ q → A q) (is : List Nat) (hnd : va_nd is = true) (hpre : is.map (fun i => ws[i]?) = pre.map some) (hst : st = As.reverse ++ rest) (hn : As.length = n) (hsz : ls.size = nL) (hrest : (rest.map fun v => v.category).sum ≤ 8) (hdg : decode cc pc = .ok (.invokestatic index, 3)) (hcs : cells ≤ R.cells ∧ slots ≤ R.slots)
    (hl : ∀ u, is.length = (wp u).length) (hw : ∀ u, sA ws is (wp u) = wsp u) (ad : List Nat) (had0 : ws.map Prod.fst = ad) (had : ∀ u, (wsp u).map Prod.fst = ad)
    (kk : ∀ (r : Int32) (u : S) (H1 : Heap) (locs1 : List Loc), post r u → va_P (dC, dI) vwCl (wsp u) H1 → va_D A (wsp u) → va_S A H0 H1 locs1 → W p l e R s m args below meth c H1 locs1 cells slots Q (F0 m (pc + 3) ls (.int r :: rest))) : W p l e R s m args below meth c H locs cells slots Q (F0 m pc ls st) :=
  runI (goS F (hM H.size) hG hwy hrm hy hR (blind hEb H.size) (prU hK hP hD is hnd hpre hE) hst hn hsz hrest hdg hcs) hP hD hS hA is hpre hl hw ad had0 had kk
theorem vS {post : S → Prop} {wsp : S → va_W} (F : CallFix p m c cc nL s args Ts own) (hM : MV l y wsY rm dC dI ct E As pre wp post) (hG : GoodIn Ts (va_wsS own index y wsY)) (hwy : wsY = Cond.code y bytes maxL ret :: wsY') (hrm : rm.cells = 0 ∧ rm.slots = 0) (hy : NmV y C n) (hR : rm.frames + 1 ≤ R.frames ∧ 8 + (maxL + 11) + rm.locals ≤ R.locals)
    (hEb : ∀ (U : State) (g : JFrame) (mk : MethodId) (a : Array Value), E U → E (U.calling g mk a)) (hE : ∀ U : State, U.heap = H → s.WarmedH U.vm → E U) (hK : va_K (dC, dI) vwCl (TY ct) s) (hP : va_P (dC, dI) vwCl ws H) (hD : va_D A ws) (hS : va_S A H0 H locs) (hA : ∀ q, H0.size ≤ q → A q) (is : List Nat) (hnd : va_nd is = true) (hpre : is.map (fun i => ws[i]?) = pre.map some) (hst : st = As.reverse ++ rest) (hn : As.length = n) (hsz : ls.size = nL) (hrest : (rest.map fun v => v.category).sum ≤ 8) (hdg : decode cc pc = .ok (.invokestatic index, 3)) (hcs : cells ≤ R.cells ∧ slots ≤ R.slots)
    (hl : ∀ u, is.length = (wp u).length) (hw : ∀ u, sA ws is (wp u) = wsp u) (ad : List Nat) (had0 : ws.map Prod.fst = ad) (had : ∀ u, (wsp u).map Prod.fst = ad)
    (kk : ∀ (u : S) (H1 : Heap) (locs1 : List Loc), post u → va_P (dC, dI) vwCl (wsp u) H1 → va_D A (wsp u) → va_S A H0 H1 locs1 → W p l e R s m args below meth c H1 locs1 cells slots Q (F0 m (pc + 3) ls (rest))) : W p l e R s m args below meth c H locs cells slots Q (F0 m pc ls st) :=
  runV (goS F (hM H.size) hG hwy hrm hy hR (blind hEb H.size) (prU hK hP hD is hnd hpre hE) hst hn hsz hrest hdg hcs) hP hD hS hA is hpre hl hw ad had0 had kk
theorem rS {post : Nat → S → Prop} {wsp : S → va_W} (F : CallFix p m c cc nL s args Ts own) (hM : MR l y wsY rm dC dI ct E As pre wp post) (hG : GoodIn Ts (va_wsS own index y wsY)) (hwy : wsY = Cond.code y bytes maxL ret :: wsY') (hrm : rm.cells = 0 ∧ rm.slots = 0) (hy : NmV y C n) (hR : rm.frames + 1 ≤ R.frames ∧ 8 + (maxL + 11) + rm.locals ≤ R.locals)
    (hEb : ∀ (U : State) (g : JFrame) (mk : MethodId) (a : Array Value), E U → E (U.calling g mk a)) (hE : ∀ U : State, U.heap = H → s.WarmedH U.vm → E U) (hK : va_K (dC, dI) vwCl (TY ct) s) (hP : va_P (dC, dI) vwCl ws H) (hD : va_D A ws) (hS : va_S A H0 H locs) (hA : ∀ q, H0.size ≤ q → A q) (is : List Nat) (hnd : va_nd is = true) (hpre : is.map (fun i => ws[i]?) = pre.map some) (hst : st = As.reverse ++ rest) (hn : As.length = n) (hsz : ls.size = nL) (hrest : (rest.map fun v => v.category).sum ≤ 8) (hdg : decode cc pc = .ok (.invokestatic index, 3)) (hcs : cells ≤ R.cells ∧ slots ≤ R.slots)
    (hl : ∀ u, is.length = (wp u).length) (hw : ∀ u, sA ws is (wp u) = wsp u) (ad : List Nat) (had0 : ws.map Prod.fst = ad) (had : ∀ u, (wsp u).map Prod.fst = ad)
    (kk : ∀ (r : Nat) (u : S) (H1 : Heap) (locs1 : List Loc), post r u → va_P (dC, dI) vwCl (wsp u) H1 → va_D A (wsp u) → va_S A H0 H1 locs1 → W p l e R s m args below meth c H1 locs1 cells slots Q (F0 m (pc + 3) ls (.ref r :: rest))) : W p l e R s m args below meth c H locs cells slots Q (F0 m pc ls st) :=
  runR (goS F (hM H.size) hG hwy hrm hy hR (blind hEb H.size) (prU hK hP hD is hnd hpre hE) hst hn hsz hrest hdg hcs) hP hD hS hA is hpre hl hw ad had0 had kk
end CALLS
theorem rtI {S : Type} {post : Int32 → S → Prop} {wp : S → va_W} {r : Int32} (u : S) (F : CallFix p m c cc nL s args Ts own) (hr : meth.sig.returnType = some .int) (hlk : meth.locks = false) (hP : va_P (dC, dI) vwCl ws H) (hS : va_S A s.heap H locs) (hw : ws = wp u) (hp : post r u) (hdg : decode cc pc = .ok (.ireturn, 1)) : W p l e R s m args below meth c H locs cells slots (MQ below (va_Qi post (fun u t => va_P (dC, dI) vwCl (wp u) t.heap) A) args s cells slots A) (F0 m pc ls [.int r]) := by
  subst hw
  exact W.iret F.1 F.2.1 hr (fun t ht _ => ⟨⟨r, u, rfl, hp, (show va_P (dC, dI) vwCl (wp u) t.heap by rw [ht]; exact hP)⟩, hS.F ht⟩) hS.2.2 hdg hlk
theorem rtZ {S : Type} {post : Int32 → S → Prop} {wp : S → va_W} {r : Int32} (u : S) (F : CallFix p m c cc nL s args Ts own) (hr : meth.sig.returnType = some .boolean) (hlk : meth.locks = false) (hP : va_P (dC, dI) vwCl ws H) (hS : va_S A s.heap H locs) (hw : ws = wp u) (hp : post r u) (hz : r = 0 ∨ r = 1) (hdg : decode cc pc = .ok (.ireturn, 1)) : W p l e R s m args below meth c H locs cells slots (MQ below (va_Qi post (fun u t => va_P (dC, dI) vwCl (wp u) t.heap) A) args s cells slots A) (F0 m pc ls [.int r]) := by
  subst hw
  exact W.zret F.1 F.2.1 hr (by rcases hz with h | h <;> rw [h] <;> rfl) (fun t ht _ => ⟨⟨r, u, rfl, hp, (show va_P (dC, dI) vwCl (wp u) t.heap by rw [ht]; exact hP)⟩, hS.F ht⟩) hS.2.2 hdg hlk
theorem rtV {S : Type} {post : S → Prop} {wp : S → va_W} (u : S) (F : CallFix p m c cc nL s args Ts own) (hr : meth.sig.returnType = none) (hlk : meth.locks = false) (hP : va_P (dC, dI) vwCl ws H) (hS : va_S A s.heap H locs) (hw : ws = wp u) (hp : post u) (hdg : decode cc pc = .ok (.return_, 1)) : W p l e R s m args below meth c H locs cells slots (MQ below (va_Qv post (fun u t => va_P (dC, dI) vwCl (wp u) t.heap) A) args s cells slots A) (F0 m pc ls []) := by
  subst hw
  exact W.vret F.1 F.2.1 hr (fun t ht _ => ⟨⟨u, rfl, hp, (show va_P (dC, dI) vwCl (wp u) t.heap by rw [ht]; exact hP)⟩, hS.F ht⟩) hS.2.2 hdg hlk
theorem rtR {S : Type} {post : Nat → S → Prop} {wp : S → va_W} {r : Nat} {ty : FieldType} (u : S) (F : CallFix p m c cc nL s args Ts own) (hr : meth.sig.returnType = some (.array ty)) (hlk : meth.locks = false) (hP : va_P (dC, dI) vwCl ws H) (hS : va_S A s.heap H locs) (hw : ws = wp u) (hp : post r u) (hdg : decode cc pc = .ok (.areturn, 1)) : W p l e R s m args below meth c H locs cells slots (MQ below (va_Qr (fun _ : S => True) (fun u ra t => post ra u ∧ va_P (dC, dI) vwCl (wp u) t.heap) A) args s cells slots A) (F0 m pc ls [.ref r]) := by
  subst hw
  exact W.aret F.1 F.2.1 hr (Or.inr ⟨_, rfl⟩) (Or.inr ⟨_, rfl⟩) (fun t ht _ => ⟨⟨u, r, rfl, trivial, hp, (show va_P (dC, dI) vwCl (wp u) t.heap by rw [ht]; exact hP)⟩, hS.F ht⟩) hS.2.2 hdg hlk
end BASE2
theorem ad2 {x y : Int32} {a b c : Nat} (hx : x = nI a) (hy : y = nI b) (h : a + b = c) : x + y = nI c := by rw [hx, hy, nI_add, h]
theorem ml2 {x y : Int32} {a b c : Nat} (hx : x = nI a) (hy : y = nI b) (h : a * b = c) : x * y = nI c := by rw [hx, hy, pk_mul, h]
theorem sb2 {x y : Int32} {a b c : Nat} (hx : x = nI a) (hy : y = nI b) (h : b + c = a) : x - y = nI c := by rw [hx, hy, pk_sub (by omega), ← h]; congr 1; omega
theorem b01 (P : Prop) [Decidable P] : (if P then (1 : Int32) else 0) = 0 ∨ (if P then (1 : Int32) else 0) = 1 := by by_cases h : P <;> simp [h]
theorem b01t {P : Prop} [Decidable P] {r : Int32} (h : r = if P then (1 : Int32) else 0) (hr : ¬ r = 0) : P := by
  by_cases q : P
  · exact q
  · rw [if_neg q] at h; exact absurd h hr
theorem b01f {P : Prop} [Decidable P] {r : Int32} (h : r = if P then (1 : Int32) else 0) (hr : r = 0) : ¬ P := by
  intro q
  rw [if_pos q, hr] at h
  exact absurd h (by decide)
theorem ts_out {x : Int32} {lo hi : Int} (h : ∀ i : Int, lo ≤ i → i ≤ hi → ¬ x = Int32.ofInt i) : x.toInt < lo ∨ hi < x.toInt := by
  rcases Int.lt_or_le x.toInt lo with q | q
  · exact Or.inl q
  · rcases Int.lt_or_le hi x.toInt with r | r
    · exact Or.inr r
    · exact absurd (Int32.ofInt_toInt x).symm (h x.toInt q r)
theorem ti_ne {x : Int32} {i : Int} (h : ¬ x = Int32.ofInt i) : ¬ i = x.toInt := fun e => h (by rw [e]; exact (Int32.ofInt_toInt x).symm)
