/-! ===== what lies in the heap from the start and is only read: ABOVE, the String constants, classes of arrays ===== -/
def abv : Nat → Int32 := fun j => ([-1, 0, 0, 1, 2, 0, 5] : List Int32).getD j 0
def lenS : List Nat := [5, 4, 5, 4, 3, 4, 4, 4, 4, 4, 5, 5, 5, 5]
def bytS : List (List Int32) := [[116, 104, 105, 110, 103], [102, 111, 111, 100], [99, 108, 111, 116, 104], [109, 101, 97, 116], [102, 117, 114], [116, 111, 111, 108], [100, 111, 108, 108], [115, 105, 100, 101], [104, 111, 109, 101], [104, 101, 97, 112], [119, 111, 114, 116, 104], [102, 114, 111, 115, 116], [103, 114, 101, 101, 100], [116, 114, 117, 115, 116]]
def lnS (i : Nat) : Nat := lenS.getD i 0
def chS (i k : Nat) : Int32 := (bytS.getD i []).getD k 0
abbrev kS (K : Nat → Nat) (i : Nat) : Nat := K (2 + i)
abbrev btS (K : Nat → Nat) (i : Nat) : Nat := K (20 + i)
/-- the places of the constants: class, entry, text, which -/
def rfS : List (String × Nat × String × Nat) := [("HedgeHeaps$Script", 100, "thing", 0), ("HedgeHeaps$Script", 102, "food", 1), ("HedgeHeaps$Script", 104, "cloth", 2), ("HedgeHeaps$Script", 106, "meat", 3), ("HedgeHeaps$Script", 108, "fur", 4), ("HedgeHeaps$Script", 110, "tool", 5), ("HedgeHeaps$Script", 112, "doll", 6), ("HedgeHeaps$Script", 78, "side", 7), ("HedgeHeaps$Script", 86, "home", 8), ("HedgeHeaps$Script", 91, "heap", 9), ("HedgeHeaps$Script", 93, "worth", 10), ("HedgeHeaps$Script", 95, "frost", 11), ("HedgeHeaps$Script", 123, "greed", 12), ("HedgeHeaps$Script", 128, "trust", 13)]
def rfM : List (String × Nat × String × Nat) := [("HedgeHeapsModel", 27, "thing", 0), ("HedgeHeapsModel", 29, "food", 1), ("HedgeHeapsModel", 31, "cloth", 2), ("HedgeHeapsModel", 33, "meat", 3), ("HedgeHeapsModel", 35, "fur", 4), ("HedgeHeapsModel", 37, "tool", 5), ("HedgeHeapsModel", 39, "doll", 6)]
abbrev old (K : Nat → Nat) : Nat → Prop := fun q => K 0 ≤ q
def ESt (K : Nat → Nat) (U : State) (H : Heap) (i : Nat) : Prop := va_O "java/lang/String" (kS K i) (old K) U H ∧ va_OF "java/lang/String" "coder" "B" (.int 0) (kS K i) (old K) U H ∧ va_OF "java/lang/String" "value" "[B" (.ref (btS K i)) (kS K i) (old K) U H ∧ va_T .byte (btS K i) (lnS i) (fun j => .int (chS i j)) (old K) U H
def ENl (U : State) : Prop := va_Nw (.methodLinkNest RX4 20 yX0_init "HedgeHeaps") U ∧ va_Nw (.methodLinkNest RX5 32 yX2_init "HedgeHeaps") U ∧ va_Nw (.methodLinkNest RX5 47 yX3_init "HedgeHeaps") U ∧ va_Nw (.methodLinkNest RX2 133 yX5_mostOf "HedgeHeaps") U
theorem ENl.warm {s U : State} (hW : s.WarmedH U.vm) (h : ENl s) : ENl U := ⟨va_Nw.warmM hW h.1, va_Nw.warmM hW h.2.1, va_Nw.warmM hW h.2.2.1, va_Nw.warmM hW h.2.2.2⟩
theorem ENl.same {u U : State} (hv : U.vm = u.vm) (h : ENl u) : ENl U := ⟨va_Nw.same rfl hv.symm h.1, va_Nw.same rfl hv.symm h.2.1, va_Nw.same rfl hv.symm h.2.2.1, va_Nw.same rfl hv.symm h.2.2.2⟩
def ECl (ct : Nat → ClassId) (U : State) : Prop := U.vm.findClass "[I" = some (ct 0) ∧ U.vm.findClass "[[I" = some (ct 1) ∧ U.vm.findClass "[LHedgeHeaps$Sheet;" = some (ct 2) ∧ U.vm.findClass "[Ljava/lang/String;" = some (ct 3)
def EHp (K : Nat → Nat) (U : State) (H : Heap) : Prop := va_Z "HedgeHeaps" "ABOVE" "[I" (.ref (K 1)) (old K) U H ∧ va_T .int (K 1) 7 (fun j => .int (abv j)) (old K) U H ∧ va_Z "java/lang/String" "COMPACT_STRINGS" "Z" (.int 1) (old K) U H ∧ va_Zq "jdk/internal/util/Preconditions" "SIOOBE_FORMATTER" "Ljava/util/function/BiFunction;" (old K) U H ∧ ∀ i, i < 14 → ESt K U H i
def ERf (K : Nat → Nat) (rf : List (String × Nat × String × Nat)) (U : State) : Prop := ∀ q ∈ rf, vk_R q.1 q.2.1 q.2.2.1 (kS K q.2.2.2) U
def EQ (K : Nat → Nat) (ct : Nat → ClassId) (rf : List (String × Nat × String × Nat)) (as : List Nat) (U : State) : Prop := K 0 ≤ U.heap.size ∧ (∀ q ∈ as, K 0 ≤ q) ∧ EHp K U U.heap ∧ ERf K rf U ∧ ECl ct U ∧ ENl U
theorem EHp.moved {K : Nat → Nat} {u U : State} {H : Heap} (hvm : u.vm.Alike U.vm) (h : EHp K u H) : EHp K U H :=
  ⟨h.1.moved hvm, h.2.1.moved hvm, h.2.2.1.moved hvm, h.2.2.2.1.moved hvm, fun i hi => ⟨(h.2.2.2.2 i hi).1.moved hvm, (h.2.2.2.2 i hi).2.1.moved hvm, (h.2.2.2.2 i hi).2.2.1.moved hvm, (h.2.2.2.2 i hi).2.2.2.moved hvm⟩⟩
theorem EHp.kept {K : Nat → Nat} {U : State} {H H1 : Heap} (h : EHp K U H) (hq : ∀ a : Nat, a < H.size → ¬ old K a → H1[a]? = H[a]?) : EHp K U H1 :=
  ⟨h.1.kept hq, h.2.1.kept hq, h.2.2.1.kept hq, h.2.2.2.1.kept hq, fun i hi => ⟨(h.2.2.2.2 i hi).1.kept hq, (h.2.2.2.2 i hi).2.1.kept hq, (h.2.2.2.2 i hi).2.2.1.kept hq, (h.2.2.2.2 i hi).2.2.2.kept hq⟩⟩
theorem EQ_b {K : Nat → Nat} {ct : Nat → ClassId} {rf : List (String × Nat × String × Nat)} {as : List Nat} : ∀ (U : State) (g : JFrame) (mk : MethodId) (a : Array Value), EQ K ct rf as U → EQ K ct rf as (U.calling g mk a) := fun U g mk a h =>
  ⟨h.1, h.2.1, EHp.moved (u := U) (U := U.calling g mk a) (Vm.Alike.refl U.vm) h.2.2.1, fun q hq => vk_R.same (u := U) (U := U.calling g mk a) rfl (h.2.2.2.1 q hq), h.2.2.2.2.1, ENl.same (u := U) (U := U.calling g mk a) rfl h.2.2.2.2.2⟩
theorem EQ_call {K : Nat → Nat} {ct : Nat → ClassId} {rf : List (String × Nat × String × Nat)} {as as' : List Nat} {s : State} {A : Nat → Prop} {H : Heap} {locs : List Loc} (h : EQ K ct rf as s) (hS : va_S A s.heap H locs) (hz : ∀ q, A q → K 0 ≤ q) (is : List Nat) (has : is.map (fun i => as[i]?) = as'.map some) : ∀ U : State, U.heap = H → s.WarmedH U.vm → EQ K ct rf as' U := by
  intro U hU hW
  refine ⟨by rw [hU]; exact Nat.le_trans h.1 hS.1, fun q hq => ?_, ?_, fun q hq => vk_R.warm hW (h.2.2.2.1 q hq), ?_, ENl.warm hW h.2.2.2.2.2⟩
  · have h1 : some q ∈ as'.map some := List.mem_map_of_mem hq
    rw [← has] at h1
    obtain ⟨i, -, hi⟩ := List.mem_map.mp h1
    exact h.2.1 q (List.mem_of_getElem? hi)
  · rw [hU]
    exact (h.2.2.1.moved hW.alike).kept (fun a ha hn => hS.2.1 a ha (fun z => hn (hz a z)))
  · obtain ⟨h1, h2, h3, h4⟩ := h.2.2.2.2.1
    exact ⟨(by first | (rw [hW.alike.findClass]; exact h1) | (rw [← hW.alike.findClass]; exact h1)), (by first | (rw [hW.alike.findClass]; exact h2) | (rw [← hW.alike.findClass]; exact h2)), (by first | (rw [hW.alike.findClass]; exact h3) | (rw [← hW.alike.findClass]; exact h3)), (by first | (rw [hW.alike.findClass]; exact h4) | (rw [← hW.alike.findClass]; exact h4))⟩
theorem EQ_z {K : Nat → Nat} {ct : Nat → ClassId} {rf : List (String × Nat × String × Nat)} {pre : va_W} {s : State} {A : Nat → Prop} (h : EQ K ct rf (pre.map Prod.fst) s) (hAz : ∀ q, A q → va_A pre s.heap.size q) : ∀ q, A q → K 0 ≤ q := by
  intro q hq
  rcases hAz q hq with ⟨k, e, hk⟩ | hk
  · exact h.2.1 q (List.mem_map.mpr ⟨(q, e), List.mem_of_getElem? hk, rfl⟩)
  · exact Nat.le_trans h.1 hk
/-- as BD, with the cells that may change told -/
def BDz (l : Launch) (y : MethodName) (ws : List Cond) (rm : Room) (cc : ByteArray) (maxL : Nat) (ret : Option FieldType) (dC : Nat → ClassId) (dI : Nat → Nat → Nat) (ct : Nat → ClassId) (E : State → Prop) (av : List Value) (pre : va_W) (Qc : (Nat → Prop) → Array Value → State → Outcome → State → Prop) : Prop :=
  ∀ (p : Program) (e : Env) (s : State) (m : MethodId) (below : List Frame) (meth : Method) (c : Code) (A : Nat → Prop), CallFix p m c cc maxL s av.toArray ws y.cls → meth.sig.returnType = ret → meth.locks = false → (y.name = "<init>" → meth.name = "<init>") → va_K (dC, dI) vwCl (TY ct) s → va_P (dC, dI) vwCl pre s.heap → va_D A pre → (∀ q, s.heap.size ≤ q → A q) → va_S A s.heap s.heap [] → (∀ q, A q → va_A pre s.heap.size q) → E s →
    ∀ ls : Array Slot, lv_has ls maxL (lv_args 0 av) → W p l e (headSpec ws rm).room s m av.toArray below meth c s.heap [] 0 0 (MQ below (Qc A) av.toArray s 0 0 A) (F0 m 0 ls [])
section ZBASE
variable {l : Launch} {y : MethodName} {ws ws' : List Cond} {rm : Room} {cc : ByteArray} {maxL : Nat} {dC : Nat → ClassId} {dI : Nat → Nat → Nat} {ct : Nat → ClassId} {E : State → Prop} {av : List Value} {pre : va_W} {ret : Option FieldType}
set_option maxHeartbeats 4000000 in
theorem ofBDz {Qc : (Nat → Prop) → Array Value → State → Outcome → State → Prop} (hy : plainName y.cls = true) (hw : ws = Cond.code y cc maxL ret :: ws') (hlen : (lg_sl av).length ≤ maxL) (h : BDz l y ws rm cc maxL ret dC dI ct E av pre Qc) (sz : Nat) : Met l y ws rm (va_Pc av (PR dC dI ct E pre sz)) (Qc (va_A pre sz)) 0 0 (va_A pre sz) := by
  refine Met.ofW (cc := cc) (maxL := maxL) (ret := ret) hy hw ?_
  intro p e s m args below meth c s₁ B hml hv
  obtain ⟨rfl, hsz, hP, hK, hD0, hE⟩ := hv
  have hts := atoms_spec (ws := ws) B.pre
  have hown : s.vm.findClass y.cls = some m.cls := findClass_of_methodNamed B.named
  subst hsz
  rw [lg_entry_eq]
  exact h p e s m below meth c _ ⟨B.exec, B.bytes, hml, hown, hts⟩ B.returns B.notSynchronized (fun hn => (name_of_methodNamed B.named B.method).1.trans hn) hK hP (hD0.self (sz := s.heap.size)) (fun q hq => Or.inr hq) va_S.rf (fun _ z => z) hE _ (lv_entry av hlen)
theorem MI.ofz {S : Type} {wp : S → va_W} {post : Int32 → S → Prop} (hy : plainName y.cls = true) (hw : ws = Cond.code y cc maxL ret :: ws') (hlen : (lg_sl av).length ≤ maxL) (h : BDz l y ws rm cc maxL ret dC dI ct E av pre (fun A => va_Qi post (fun u t => va_P (dC, dI) vwCl (wp u) t.heap) A)) : MI l y ws rm dC dI ct E av pre wp post := fun sz => ofBDz hy hw hlen h sz
theorem MV.ofz {S : Type} {wp : S → va_W} {post : S → Prop} (hy : plainName y.cls = true) (hw : ws = Cond.code y cc maxL ret :: ws') (hlen : (lg_sl av).length ≤ maxL) (h : BDz l y ws rm cc maxL ret dC dI ct E av pre (fun A => va_Qv post (fun u t => va_P (dC, dI) vwCl (wp u) t.heap) A)) : MV l y ws rm dC dI ct E av pre wp post := fun sz => ofBDz hy hw hlen h sz
set_option maxHeartbeats 4000000 in
theorem ofBDFz {Qc : (Nat → Prop) → Array Value → State → Outcome → State → Prop} (hy : plainFor y = true) (hw : ws = Cond.code y cc maxL ret :: ws') (hlen : (lg_sl av).length ≤ maxL) (h : BDz l y ws rm cc maxL ret dC dI ct E av pre Qc) (sz : Nat) : Met l y ws rm (va_Pc av (PR dC dI ct E pre sz)) (Qc (va_A pre sz)) 0 0 (va_A pre sz) := by
  have hmem : Cond.code y cc maxL ret ∈ ws := hw ▸ List.mem_cons_self
  refine MetFree.of_bodySF (code := cc) (maxLocals := maxL) (ret := ret) hy (fun a t k ha hn => ?_) (fun p e s m args below meth c s₁ B hml hv _ => ?_)
  · have q := Cond.code_spec hn (atoms_spec (ws := ws) ha _ hmem)
    obtain ⟨g, d, q1, q2, q3, q4, q5, q6, -⟩ := q
    exact ⟨g, d, q1, q2, q3, q4, q5, q6⟩
  · obtain ⟨rfl, hsz, hP, hK, hD0, hE⟩ := hv
    subst hsz
    have z := h p e s m below meth c _ ⟨B.exec, B.bytes, hml, findClass_of_methodNamed B.named, atoms_spec (ws := ws) B.pre⟩ B.returns B.notSynchronized (fun hn => (name_of_methodNamed B.named B.method).1.trans hn) hK hP (hD0.self (sz := s.heap.size)) (fun q hq => Or.inr hq) va_S.rf (fun _ z => z) hE _ (lv_entry av hlen)
    rw [← lg_entry_eq] at z
    obtain ⟨t, r1, o, r2, r3, r4⟩ := z s₁ (by rw [B.state]; rfl) (Stand.of_body B)
    exact ⟨t, o, r1, r2, r3, ⟨r4.1, r4.2⟩⟩
theorem MI.ofFz {S : Type} {wp : S → va_W} {post : Int32 → S → Prop} (hy : plainFor y = true) (hw : ws = Cond.code y cc maxL ret :: ws') (hlen : (lg_sl av).length ≤ maxL) (h : BDz l y ws rm cc maxL ret dC dI ct E av pre (fun A => va_Qi post (fun u t => va_P (dC, dI) vwCl (wp u) t.heap) A)) : MI l y ws rm dC dI ct E av pre wp post := fun sz => ofBDFz hy hw hlen h sz
theorem MV.ofFz {S : Type} {wp : S → va_W} {post : S → Prop} (hy : plainFor y = true) (hw : ws = Cond.code y cc maxL ret :: ws') (hlen : (lg_sl av).length ≤ maxL) (h : BDz l y ws rm cc maxL ret dC dI ct E av pre (fun A => va_Qv post (fun u t => va_P (dC, dI) vwCl (wp u) t.heap) A)) : MV l y ws rm dC dI ct E av pre wp post := fun sz => ofBDFz hy hw hlen h sz
end ZBASE
section ZCALL
variable {p : Program} {l : Launch} {e : Env} {R : Room} {s : State} {m : MethodId} {args : Array Value} {below : List Frame} {meth : Method} {c : Code} {H : Heap} {locs : List Loc} {cells slots : Nat} {Q : State → Prop}
variable {cc : ByteArray} {pc nL : Nat} {ls : Array Slot} {rest st : List Value} {dC : Nat → ClassId} {dI : Nat → Nat → Nat} {ct : Nat → ClassId} {A : Nat → Prop} {ws pre : va_W} {Ts : List Cond} {own : String} {E : State → Prop}
variable {S : Type} {y : MethodName} {wsY wsY' : List Cond} {bytes : ByteArray} {maxL n index : Nat} {ret : Option FieldType} {rm : Room} {C : String} {b : Nat} {As : List Value} {wp : S → va_W}
/-- a call on a constant object -/
theorem iVk {post : Int32 → Unit → Prop} (F : CallFix p m c cc nL s args Ts own) (hM : MI l y wsY rm dC dI ct E (.ref b :: As) [] (fun _ => []) post) (hG : GoodIn Ts (wsV own index C y wsY)) (hwy : wsY = Cond.code y bytes maxL ret :: wsY') (hrm : rm.cells = 0 ∧ rm.slots = 0) (hy : NmV y C n) (hR : rm.frames + 1 ≤ R.frames ∧ 8 + (maxL + 11) + rm.locals ≤ R.locals)
    (hEb : ∀ (U : State) (g : JFrame) (mk : MethodId) (a : Array Value), E U → E (U.calling g mk a)) (hE : ∀ U : State, U.heap = H → s.WarmedH U.vm → E U) (hK : va_K (dC, dI) vwCl (TY ct) s) (hP : va_P (dC, dI) vwCl ws H) (hD : va_D A ws) (hS : va_S A s.heap H locs) (hA : ∀ q, s.heap.size ≤ q → A q) (hr : ∃ cell : Cell, H[b]? = some cell ∧ cell.vm.isStatics = false ∧ s.vm.findClass C = some cell.cls) (hst : st = As.reverse ++ .ref b :: rest) (hn : As.length = n) (hsz : ls.size = nL) (hrest : (rest.map fun v => v.category).sum ≤ 8) (hdg : decode cc pc = .ok (.invokevirtual index, 3)) (hcs : cells ≤ R.cells ∧ slots ≤ R.slots) (ad : List Nat) (had : ws.map Prod.fst = ad)
    (kk : ∀ (r : Int32) (H1 : Heap) (locs1 : List Loc), post r () → va_P (dC, dI) vwCl ws H1 → va_D A ws → va_S A s.heap H1 locs1 → W p l e R s m args below meth c H1 locs1 cells slots Q (F0 m (pc + 3) ls (.int r :: rest))) : W p l e R s m args below meth c H locs cells slots Q (F0 m pc ls st) :=
  runI (wsp := fun _ => ws) (va_runV F (hM H.size) (cwV n F.2.2.2.2 hG hwy hrm.1 hrm.2 hy hR) ⟨blind hEb H.size, hr, prU hK hP hD [] (by decide) rfl hE⟩ rfl hn hsz hst (lv_room hrest) hdg hcs) hP hD hS hA [] rfl (fun _ => rfl) (fun _ => rfl) ad had (fun _ => had) (fun r u H1 locs1 a1 a2 a3 a4 => kk r H1 locs1 a1 a2 a3 a4)
theorem rtN {post : Int32 → Unit → Prop} {r : Int32} {ty : FieldType} (F : CallFix p m c cc nL s args Ts own) (hr : meth.sig.returnType = some ty) (hn : narrow ty (.int r) = .int r) (hlk : meth.locks = false) (hP : va_P (dC, dI) vwCl ws H) (hS : va_S A s.heap H locs) (hp : post r ()) (hdg : decode cc pc = .ok (.ireturn, 1)) : W p l e R s m args below meth c H locs cells slots (MQ below (va_Qi post (fun _ t => va_P (dC, dI) vwCl ws t.heap) A) args s cells slots A) (F0 m pc ls [.int r]) :=
  W.zret F.1 F.2.1 hr hn (fun t ht _ => ⟨⟨r, (), rfl, hp, (show va_P (dC, dI) vwCl ws t.heap by rw [ht]; exact hP)⟩, hS.F ht⟩) hS.2.2 hdg hlk
theorem gsZ {v : Value} {Cn nm d ref : String} {K : Nat → Nat} (F : CallFix p m c cc nL s args Ts own) (hZ : va_Z Cn nm d v (old K) s s.heap) (hz : ∀ q, A q → K 0 ≤ q) (hS : va_S A s.heap H locs) (hlk : Cond.fieldLink own index ref nm d ∈ Ts) (hsame : ref = Cn) (hdg : decode cc pc = .ok (.getstatic index, 3)) (kk : W p l e R s m args below meth c H locs cells slots Q (F0 m (pc + 3) ls (v :: rest))) : W p l e R s m args below meth c H locs cells slots Q (F0 m pc ls rest) := by
  subst hsame
  exact va_gets F.1 F.2.1 (hZ.narrow hz) hS F.2.2.2.1 (F.2.2.2.2 _ hlk) (fun _ h => h) hdg kk
end ZCALL
theorem chS_ok : ∀ i, i < 14 → ∀ k, k < lnS i → (chS i k &&& 255).toUInt32 % 65536 = (chS i k).toUInt32 ∧ chS i k &&& 255 = chS i k ∧ narrow .char (.int (chS i k)) = .int (chS i k) := by decide +kernel
theorem lnS_lt : ∀ i, i < 14 → lnS i ≤ 5 := by decide +kernel
theorem rcv {C : String} {b : Nat} {K : Nat → Nat} {s : State} {A : Nat → Prop} {H : Heap} {locs : List Loc} (h : va_O C b (old K) s s.heap) (hz : ∀ q, A q → K 0 ≤ q) (hS : va_S A s.heap H locs) : ∃ cell : Cell, H[b]? = some cell ∧ cell.vm.isStatics = false ∧ s.vm.findClass C = some cell.cls := by
  obtain ⟨cell, h1, h2, h3, -⟩ := (h.narrow hz).kept hS.2.1
  exact ⟨cell, h1, h2, h3⟩
theorem chS_ch : ∀ i, i < 14 → ∀ k, k < lnS i → ((chS i k).toUInt32 % 65536).toInt32 = chS i k := by decide +kernel
