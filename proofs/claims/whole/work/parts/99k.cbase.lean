/-! ===== constructors: contracts that make cells ===== -/
def MC {S : Type} (l : Launch) (y : MethodName) (ws : List Cond) (rm : Room) (dC : Nat → ClassId) (dI : Nat → Nat → Nat) (ct : Nat → ClassId) (E : State → Prop) (av : List Value) (pre : va_W) (wp : S → va_W) (post : S → Prop) (mc ms : Nat) : Prop :=
  ∀ sz : Nat, Met l y ws rm (va_Pc av (PR dC dI ct E pre sz)) (va_Qv post (fun u t => va_P (dC, dI) vwCl (wp u) t.heap ∧ va_D (va_A pre sz) (wp u)) (va_A pre sz)) mc ms (va_A pre sz)
def BDc (l : Launch) (y : MethodName) (ws : List Cond) (rm : Room) (cc : ByteArray) (maxL : Nat) (dC : Nat → ClassId) (dI : Nat → Nat → Nat) (ct : Nat → ClassId) (E : State → Prop) (av : List Value) (pre : va_W) (mc ms : Nat) (Qc : (Nat → Prop) → Array Value → State → Outcome → State → Prop) : Prop :=
  ∀ (p : Program) (e : Env) (s : State) (m : MethodId) (below : List Frame) (meth : Method) (c : Code) (A : Nat → Prop), CallFix p m c cc maxL s av.toArray ws y.cls → meth.sig.returnType = none → meth.locks = false → (y.name = "<init>" → meth.name = "<init>") → va_K (dC, dI) vwCl (TY ct) s → va_P (dC, dI) vwCl pre s.heap → va_D A pre → (∀ q, s.heap.size ≤ q → A q) → va_S A s.heap s.heap [] → (∀ q, A q → va_A pre s.heap.size q) → E s →
    ∀ ls : Array Slot, lv_has ls maxL (lv_args 0 av) → W p l e (headSpec ws rm).room s m av.toArray below meth c s.heap [] 0 0 (MQ below (Qc A) av.toArray s mc ms A) (F0 m 0 ls [])
section CBASE
variable {l : Launch} {y : MethodName} {ws ws' : List Cond} {rm : Room} {cc : ByteArray} {maxL mc ms : Nat} {dC : Nat → ClassId} {dI : Nat → Nat → Nat} {ct : Nat → ClassId} {E : State → Prop} {av : List Value} {pre : va_W}
set_option maxHeartbeats 4000000 in
theorem MC.of {S : Type} {wp : S → va_W} {post : S → Prop} (hy : plainName y.cls = true) (hw : ws = Cond.code y cc maxL none :: ws') (hlen : (lg_sl av).length ≤ maxL) (h : BDc l y ws rm cc maxL dC dI ct E av pre mc ms (fun A => va_Qv post (fun u t => va_P (dC, dI) vwCl (wp u) t.heap ∧ va_D A (wp u)) A)) : MC l y ws rm dC dI ct E av pre wp post mc ms := fun sz => by
  refine Met.ofW (cc := cc) (maxL := maxL) (ret := none) hy hw ?_
  intro p e s m args below meth c s₁ B hml hv
  obtain ⟨rfl, hsz, hP, hK, hD0, hE⟩ := hv
  have hts := atoms_spec (ws := ws) B.pre
  have hown : s.vm.findClass y.cls = some m.cls := findClass_of_methodNamed B.named
  subst hsz
  rw [lg_entry_eq]
  exact h p e s m below meth c _ ⟨B.exec, B.bytes, hml, hown, hts⟩ B.returns B.notSynchronized (fun hn => (name_of_methodNamed B.named B.method).1.trans hn) hK hP (hD0.self (sz := s.heap.size)) (fun q hq => Or.inr hq) va_S.rf (fun _ z => z) hE _ (lv_entry av hlen)
end CBASE
section CCALL
variable {p : Program} {l : Launch} {e : Env} {R : Room} {s : State} {m : MethodId} {args : Array Value} {below : List Frame} {meth : Method} {c : Code} {H : Heap} {locs : List Loc} {cells slots : Nat} {Q : State → Prop}
variable {cc : ByteArray} {pc nL : Nat} {ls : Array Slot} {rest st : List Value} {dC : Nat → ClassId} {dI : Nat → Nat → Nat} {ct : Nat → ClassId} {A : Nat → Prop} {a : Nat} {ws ws' pre : va_W} {Ts : List Cond} {own : String} {E : State → Prop}
/-- behind a call of a constructor: the other cells first, then the callee's -/
theorem iC {S : Type} {post : S → Prop} {wp : S → va_W} {mc ms : Nat} {wr : va_W} {a0 : Array Value} (hr : va_Run p l e R s m args below meth c H locs cells slots mc ms (F0 m pc ls st) rest (va_Qv post (fun u t => va_P (dC, dI) vwCl (wp u) t.heap ∧ va_D (va_A pre H.size) (wp u)) (va_A pre H.size) a0) (va_A pre H.size)) (hP : va_P (dC, dI) vwCl ws H) (hD : va_D A ws) (hS : va_S A s.heap H locs) (hA : ∀ q, s.heap.size ≤ q → A q) (is isR : List Nat) (hpre : is.map (fun i => ws[i]?) = pre.map some) (hR : isR.map (fun i => ws[i]?) = wr.map some) (hn : va_nd isR = true) (hdis : ∀ i ∈ isR, i ∉ is)
    (kk : ∀ (u : S) (H1 : Heap) (locs1 : List Loc), post u → va_P (dC, dI) vwCl (wr ++ wp u) H1 → va_D A (wr ++ wp u) → va_S A s.heap H1 locs1 → W p l e R s m args below meth c H1 locs1 (cells + mc) (slots + ms) Q (F0 m (pc + 3) ls rest)) : W p l e R s m args below meth c H locs cells slots Q (F0 m pc ls st) := by
  have hF := va_free hD hS hA is hpre
  refine va_callv hr hS (fun q _ h => hF q h) hF (fun u t H1 locs1 ht hvm hp hB hz hk hS1 => ?_)
  obtain ⟨hB1, hB2⟩ := hB
  rw [ht] at hB1
  obtain ⟨h1, h2⟩ := va_join hP hD is isR hpre hR hn hdis hk hF hB1 hB2
  exact kk u H1 locs1 hp h1 h2 hS1
/-- a new row of numbers -/
theorem nwI (F : CallFix p m c cc nL s args Ts own) (hlk : Cond.arrayClass .int ∈ Ts) (hK : va_K (dC, dI) vwCl (TY ct) s) (hP : va_P (dC, dI) vwCl ws H) (hD : va_D A ws) (hS : va_S A s.heap H locs) (hA : ∀ q, s.heap.size ≤ q → A q) {n : Int32} (N : Nat) (hn : n = nI N) (hN : N ≤ 100000) (hcells : cells + 1 ≤ R.cells) (hslots : slots + N ≤ R.slots) (hdg : decode cc pc = .ok (.newarray .int, 2))
    (kk : ∀ (q : Nat) (H1 : Heap), va_P (dC, dI) vwCl (ws ++ [ai ct q N (fun _ => 0)]) H1 → va_D A (ws ++ [ai ct q N (fun _ => 0)]) → va_S A s.heap H1 locs →
      W p l e R s m args below meth c H1 locs (cells + 1) (slots + N) Q (F0 m (pc + 2) ls (.ref q :: rest))) : W p l e R s m args below meth c H locs cells slots Q (F0 m pc ls (.int n :: rest)) := by
  subst hn
  refine va_newa (atype := .int) (ty := .int) (N' := N) (a0 := (N, .inl (fun _ => 0))) F.1 F.2.1 (F.2.2.2.2 _ hlk) rfl hK hP hD hS hA (fun _ => rfl) (nI_pos (by omega)) (nI_clamp (by omega)) (show N * 4 ≤ _ by omega) hcells hslots hdg (fun q cA H1 hK1 hP1 hD1 hS1 => ?_)
  have h1 : s.vm.findClass "[I" = some cA := (hK1.2 4 (cA, .int) rfl).2
  have h2 : s.vm.findClass "[I" = some (ct 0) := (hK1.2 0 (ct 0, .int) rfl).2
  have h3 : cA = ct 0 := Option.some.inj (h1.symm.trans h2)
  subst h3
  exact kk q H1 hP1 hD1 hS1
/-- a field of the object under construction, final or not -/
theorem pfF (F : CallFix p m c cc nL s args Ts own) (hin2 : meth.name = "<init>") (hK : va_K (dC, dI) vwCl (TY ct) s) (hP : va_P (dC, dI) vwCl ws H) (hD : va_D A ws) (hS : va_S A s.heap H locs) (q0 : Nat) {ci : Nat} {fs : List Value} (he : ws[q0]? = some (a, .inr (ci, fs))) {C : String} {T : u_T} {N : Nat} (hc : vwCl[ci]? = some (C, T, N)) (hin : ∀ w ∈ u_ws C T N, w ∈ Ts) (ty0 : Nat → FieldType) (hty : ∀ k, k < N → parseFieldDescriptor (T k).2.2.1 = some (ty0 k)) (hnm : ∀ a, a < N → ∀ b, b < N → a ≠ b → (T a).2.1 ≠ (T b).2.1)
    (k : Nat) (hk : k < N) {index : Nat} (hlk : Cond.fieldLink own index (T k).1 (T k).2.1 (T k).2.2.1 ∈ Ts) (hfin : (T k).2.2.2 = true) (hdecl : (T k).1 = own) {v : Value} (hn : narrow (ty0 k) v = v) (hfit : fits (ty0 k) v = true) (hl : k < fs.length) (hdg : decode cc pc = .ok (.putfield index, 3)) (hw : weq (ws.set q0 (a, .inr (ci, fs.set k v))) ws')
    (kk : ∀ (H1 : Heap) (locs1 : List Loc), va_P (dC, dI) vwCl ws' H1 → va_D A ws' → va_S A s.heap H1 locs1 → W p l e R s m args below meth c H1 locs1 cells slots Q (F0 m (pc + 3) ls rest)) : W p l e R s m args below meth c H locs cells slots Q (F0 m pc ls (v :: .ref a :: rest)) :=
  va_putF F.1 F.2.1 F.2.2.2.2 hin ty0 hty hnm F.2.2.2.1 hK hP hD hS q0 he hc k hk (F.2.2.2.2 _ hlk) (fun _ h => h) hfin hin2 hdecl (hty k hk) hn hfit hl hdg (fun H1 locs1 h1 h2 h3 => kk H1 locs1 (hw.P h1) (hw.D h2) h3)
/-- a new object -/
theorem nwO (F : CallFix p m c cc nL s args Ts own) (hK : va_K (dC, dI) vwCl (TY ct) s) (hP : va_P (dC, dI) vwCl ws H) (hD : va_D A ws) (hS : va_S A s.heap H locs) (hA : ∀ q, s.heap.size ≤ q → A q) {ci : Nat} {C : String} {T : u_T} {N index : Nat} (hc : vwCl[ci]? = some (C, T, N)) (hin : ∀ w ∈ u_ws C T N, w ∈ Ts) (ty0 : Nat → FieldType) (hty : ∀ k, k < N → parseFieldDescriptor (T k).2.2.1 = some (ty0 k)) (hcl : Cond.classLink own index C ∈ Ts) (hinst : Cond.instantiable C N ∈ Ts) (hini : Cond.initialized C ∈ Ts) (fs : List Value) (hfs : ∀ j, j < N → defaultValue (ty0 j) = vp_V fs j) (hcells : cells + 1 ≤ R.cells) (hslots : slots + N ≤ R.slots) (hdg : decode cc pc = .ok (.new index, 3))
    (kk : ∀ (q : Nat) (H1 : Heap), va_P (dC, dI) vwCl (ws ++ [(q, .inr (ci, fs))]) H1 → va_D A (ws ++ [(q, .inr (ci, fs))]) → va_S A s.heap H1 locs →
      W p l e R s m args below meth c H1 locs (cells + 1) (slots + N) Q (F0 m (pc + 3) ls (.ref q :: rest))) : W p l e R s m args below meth c H locs cells slots Q (F0 m pc ls rest) :=
  va_new F.1 F.2.1 F.2.2.2.2 hin ty0 hty F.2.2.2.1 (F.2.2.2.2 _ hcl) (F.2.2.2.2 _ hinst) (F.2.2.2.2 _ hini) hK hP hD hS hA hc hfs hcells hslots hdg (fun q H1 h1 h2 h3 => kk q H1 h1 h2 h3)
/-- Object() -/
theorem oI (F : CallFix p m c cc nL s args Ts own) {index : Nat} (h1 : Cond.methodLink own index objectInit ∈ Ts) (h2 : Cond.instanceMethod objectInit ∈ Ts) (h3 : Cond.code objectInit ⟨#[0xb1]⟩ 1 none ∈ Ts) (hsz : ls.size = nL) (hdg : decode cc pc = .ok (.invokespecial index, 3)) (hR : 1 ≤ R.frames ∧ 12 ≤ R.locals) (kk : W p l e R s m args below meth c H locs cells slots Q (F0 m (pc + 3) ls [])) : W p l e R s m args below meth c H locs cells slots Q (F0 m pc ls [.ref a]) :=
  W.objInit F.1 F.2.1 F.2.2.2.1 (F.2.2.2.2 _ h1) (F.2.2.2.2 _ h2) (F.2.2.2.2 _ h3) rfl (by rw [F.2.2.1]; exact hsz) rfl hdg hR.1 hR.2 kk
theorem rtC {S : Type} {post : S → Prop} {wp : S → va_W} (u : S) (F : CallFix p m c cc nL s args Ts own) (hr : meth.sig.returnType = none) (hlk : meth.locks = false) (hP : va_P (dC, dI) vwCl ws H) (hD : va_D A ws) (hS : va_S A s.heap H locs) (hw : weq ws (wp u)) (hp : post u) (hdg : decode cc pc = .ok (.return_, 1)) : W p l e R s m args below meth c H locs cells slots (MQ below (va_Qv post (fun u t => va_P (dC, dI) vwCl (wp u) t.heap ∧ va_D A (wp u)) A) args s cells slots A) (F0 m pc ls []) :=
  W.vret F.1 F.2.1 hr (fun t ht _ => ⟨⟨u, rfl, hp, (show va_P (dC, dI) vwCl (wp u) t.heap by rw [ht]; exact hw.P hP), hw.D hD⟩, hS.F ht⟩) hS.2.2 hdg hlk
end CCALL
section LOOPC
variable {p : Program} {l : Launch} {e : Env} {R : Room} {s : State} {m : MethodId} {args : Array Value} {below : List Frame} {meth : Method} {c : Code} {H : Heap} {locs : List Loc} {Q : State → Prop} {pc : Nat} {ls : Array Slot} {st : List Value}
/-- as loopN, with cells that each turn makes -/
theorem loopC {I : Nat → Heap → List Loc → Array Slot → Prop} (cs ss : Nat → Nat) (N : Nat) (h0 : I 0 H locs ls) (hdone : ∀ H locs ls, I N H locs ls → W p l e R s m args below meth c H locs (cs N) (ss N) Q (F0 m pc ls st))
    (step : ∀ k, k < N → ∀ H locs ls, I k H locs ls → (∀ H' locs' ls', I (k + 1) H' locs' ls' → W p l e R s m args below meth c H' locs' (cs (k + 1)) (ss (k + 1)) Q (F0 m pc ls' st)) → W p l e R s m args below meth c H locs (cs k) (ss k) Q (F0 m pc ls st)) : W p l e R s m args below meth c H locs (cs 0) (ss 0) Q (F0 m pc ls st) := by
  have key : ∀ (n k : Nat), k + n = N → ∀ H locs ls, I k H locs ls → W p l e R s m args below meth c H locs (cs k) (ss k) Q (F0 m pc ls st) := by
    intro n
    induction n with
    | zero =>
      intro k hk H locs ls h
      have hk : k = N := by omega
      subst hk
      exact hdone H locs ls h
    | succ n ih =>
      intro k hk H locs ls h
      exact step k (by omega) H locs ls h (fun H' locs' ls' h' => ih (k + 1) (by omega) H' locs' ls' h')
  exact key N 0 (by omega) H locs ls h0
end LOOPC
/-- the row as it begins -/
def f0 : Nat → Int32 := fun j => ([0, 0, 0, 0, 1, -1, -1, -1, -1, -1, -1, -1, -1, -1, -1, 0, 0, 0, 0, 0, 2, 5, 10, 10, 10, 10, 10, 0, 0, 0, 0, 0, 5, 5, 5, 5, 5, 2, 5, 10, 10, 10, 10, 10, 0, 0, 0, 0, 0, 5, 5, 5, 5, 5] : List Int32).getD j 0
theorem dfX0 : ∀ j, j < 3 → defaultValue (tyX0 j) = vp_V [.null, .int 0, .int 0] j := by
  intro j hj
  match j, hj with
  | 0, _ | 1, _ | 2, _ => rfl
theorem dfX1 : ∀ j, j < 10 → defaultValue (tyX1 j) = vp_V [.null, .null, .null, .null, .null, .null, .int 0, .int 0, .int 0, .int 0] j := by
  intro j hj
  match j, hj with
  | 0, _ | 1, _ | 2, _ | 3, _ | 4, _ | 5, _ | 6, _ | 7, _ | 8, _ | 9, _ => rfl
theorem dfX2 : ∀ j, j < 6 → defaultValue (tyX2 j) = vp_V [.null, .int 0, .int 0, .int 0, .int 0, .int 0] j := by
  intro j hj
  match j, hj with
  | 0, _ | 1, _ | 2, _ | 3, _ | 4, _ | 5, _ => rfl
theorem dfX3 : ∀ j, j < 3 → defaultValue (tyX3 j) = vp_V [.null, .int 0, .int 0] j := by
  intro j hj
  match j, hj with
  | 0, _ | 1, _ | 2, _ => rfl
theorem dfX4 : ∀ j, j < 4 → defaultValue (tyX4 j) = vp_V [.null, .null, .null, .int 0] j := by
  intro j hj
  match j, hj with
  | 0, _ | 1, _ | 2, _ | 3, _ => rfl
