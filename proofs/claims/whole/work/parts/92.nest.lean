section NEST
variable {p : Program} {l : Launch} {e : Env} {R : Room} {s : State} {m : MethodId} {args : Array Value} {below : List Frame} {meth : Method} {c : Code} {H : Heap} {locs : List Loc} {cells slots : Nat} {Q : State → Prop}
variable {cc : ByteArray} {pc nL : Nat} {ls : Array Slot} {rest st : List Value} {dC : Nat → ClassId} {dI : Nat → Nat → Nat} {ct : Nat → ClassId} {A : Nat → Prop} {ws : va_W} {Ts : List Cond} {own host : String}
variable {y : MethodName} {wsY wsY' : List Cond} {bytes : ByteArray} {maxL n index : Nat} {ret : Option FieldType} {rm : Room} {C : String} {As : List Value}
/-- a private static of a nest mate, that touches no cell -/
theorem iSN {post : Int32 → Unit → Prop} (F : CallFix p m c cc nL s args Ts own) (hM : MI l y wsY rm dC dI ct eT As [] (fun _ => []) post) (hG : GoodIn Ts wsY) (hwy : wsY = Cond.code y bytes maxL ret :: wsY') (hrm : rm.cells = 0 ∧ rm.slots = 0) (hN : va_Nw (.methodLinkNest own index y host) s) (hini : Cond.initialized y.cls ∈ Ts) (hst0 : Cond.static y ∈ Ts) (hy : NmV y C n) (hR : rm.frames + 1 ≤ R.frames ∧ 8 + (maxL + 11) + rm.locals ≤ R.locals)
    (hK : va_K (dC, dI) vwCl (TY ct) s) (hP : va_P (dC, dI) vwCl ws H) (hD : va_D A ws) (hS : va_S A s.heap H locs) (hA : ∀ q, s.heap.size ≤ q → A q) (hst : st = As.reverse ++ rest) (hn : As.length = n) (hsz : ls.size = nL) (hrest : (rest.map fun v => v.category).sum ≤ 8) (hdg : decode cc pc = .ok (.invokestatic index, 3)) (hcs : cells ≤ R.cells ∧ slots ≤ R.slots) (ad : List Nat) (had : ws.map Prod.fst = ad)
    (kk : ∀ (r : Int32) (H1 : Heap) (locs1 : List Loc), post r () → va_P (dC, dI) vwCl ws H1 → va_D A ws → va_S A s.heap H1 locs1 → W p l e R s m args below meth c H1 locs1 cells slots Q (F0 m (pc + 3) ls (.int r :: rest))) : W p l e R s m args below meth c H locs cells slots Q (F0 m pc ls st) :=
  runI (wsp := fun _ => ws) (va_runSN F (hM H.size) ⟨va_cnB n F.2.2.2.2 hG hwy hrm.1 hrm.2 hN (F.2.2.2.2 _ hini) hy.2 hR, F.2.2.2.2 _ hst0, trivial⟩ ⟨blind eT_b H.size, prU hK hP hD [] (by decide) rfl (fun _ _ _ => trivial)⟩ rfl hn hsz hst (lv_room hrest) hdg hcs) hP hD hS hA [] rfl (fun _ => rfl) (fun _ => rfl) ad had (fun _ => had) (fun r u H1 locs1 a1 a2 a3 a4 => kk r H1 locs1 a1 a2 a3 a4)
end NEST
theorem nu_n {y : Nat → Int32} {n p M : Nat} (hp : p ≤ n) (h : nuP y n p (nI M)) (hM : M ≤ 1000) : ∃ v, v ≤ M ∧ tV y n p = nI v := by
  obtain ⟨v, h1, h2⟩ := tV_n hp h.1
  have h3 := h.2
  rw [h2] at h3
  exact ⟨v, (nI_leI (by omega) (by omega)).mp h3, h2⟩
