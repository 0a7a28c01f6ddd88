/-! ===== constructor of the reference: rows, strings ===== -/
def E6 (K : Nat → Nat) (ct : Nat → ClassId) (a0 : Nat) (U : State) : Prop := EQ K ct rfM [a0] U ∧ va_AO "java/lang/String" U
theorem va_O.any {E : String} {t : Nat} {A : Nat → Prop} {s : State} {H : Heap} (h : va_O E t A s H) : va_Any E s H t := by
  obtain ⟨cell, h1, h2, h3, -⟩ := h
  obtain ⟨kE, hkE, -⟩ := Vm.findClass_spec h3
  refine ⟨cell, h1, h2, ⟨kE, hkE⟩, fun comp hc => ?_⟩
  have h4 : comp = cell.cls := Option.some.inj (hc.symm.trans h3)
  subst h4
  exact va_asg _ _
theorem eAny {K : Nat → Nat} {s : State} {A : Nat → Prop} {H : Heap} {locs : List Loc} (h : EHp K s s.heap) (hS : va_S A s.heap H locs) (hz : ∀ q, A q → K 0 ≤ q) (i : Nat) (hi : i < 14) : va_Any "java/lang/String" s H (kS K i) :=
  ((EHp.kept h (fun a ha hn => hS.2.1 a ha (fun z => hn (hz a z)))).2.2.2.2 i hi).1.any
section CM
variable {p : Program} {l : Launch} {e : Env} {R : Room} {s : State} {m : MethodId} {args : Array Value} {below : List Frame} {meth : Method} {c : Code} {H : Heap} {locs : List Loc} {cells slots : Nat} {Q : State → Prop}
variable {cc : ByteArray} {pc nL : Nat} {ls : Array Slot} {rest st : List Value} {dC : Nat → ClassId} {dI : Nat → Nat → Nat} {ct : Nat → ClassId} {A : Nat → Prop} {a : Nat} {ws ws' pre : va_W} {Ts : List Cond} {own : String}
/-- a String put into a row -/
theorem asM (F : CallFix p m c cc nL s args Ts own) (hK : va_K (dC, dI) vwCl (TY ct) s) (hP : va_P (dC, dI) vwCl ws H) (hD : va_D A ws) (hS : va_S A s.heap H locs) (q0 t : Nat) {E : String} {n v : Nat} {f : Nat → Option Nat} (ha : ws[q0]? = some (a, .inl (ct t, n, .inr (.inr (.inr (.inr f)))))) (ht : (TY ct)[t]? = some (ct t, .object E)) (hr : va_Any E s H v) {i : Int32} (j : Nat) (hi : i = nI j) (hj : j < n) (hn : n < 2147483648) (hdg : decode cc pc = .ok (.aastore, 1)) (hw : weq (ws.set q0 (a, .inl (ct t, n, .inr (.inr (.inr (.inr (va_up f j (some v)))))))) ws')
    (kk : ∀ (H1 : Heap) (locs1 : List Loc), va_P (dC, dI) vwCl ws' H1 → va_D A ws' → va_S A s.heap H1 locs1 → W p l e R s m args below meth c H1 locs1 cells slots Q (F0 m (pc + 1) ls rest)) : W p l e R s m args below meth c H locs cells slots Q (F0 m pc ls (.ref v :: .int i :: .ref a :: rest)) := by
  subst hi
  refine va_astqM F.1 F.2.1 hK hP hD hS q0 t ha ht hr (vp_in_nI hj hn) hdg (fun H1 locs1 h1 h2 h3 => ?_)
  rw [nI_clamp (by omega)] at h1 h2
  exact kk H1 locs1 (hw.P h1) (hw.D h2) h3
end CM
