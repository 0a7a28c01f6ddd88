-- methods of the library's own classes: their names aren't plain, but the table of natives holds no row for them
section LIBBASE
variable {l : Launch} {y : MethodName} {ws ws' : List Cond} {rm : Room} {cc : ByteArray} {maxL : Nat} {dC : Nat → ClassId} {dI : Nat → Nat → Nat} {ct : Nat → ClassId} {E : State → Prop} {av : List Value} {pre : va_W} {ret : Option FieldType}
set_option maxHeartbeats 4000000 in
theorem ofBDF {Qc : (Nat → Prop) → Array Value → State → Outcome → State → Prop} (hy : plainFor y = true) (hw : ws = Cond.code y cc maxL ret :: ws') (hlen : (lg_sl av).length ≤ maxL) (h : BD l y ws rm cc maxL ret dC dI ct E av pre Qc) (sz : Nat) : Met l y ws rm (va_Pc av (PR dC dI ct E pre sz)) (Qc (va_A pre sz)) 0 0 (va_A pre sz) := by
  have hmem : Cond.code y cc maxL ret ∈ ws := hw ▸ List.mem_cons_self
  refine MetFree.of_bodySF (code := cc) (maxLocals := maxL) (ret := ret) hy (fun a t k ha hn => ?_) (fun p e s m args below meth c s₁ B hml hv _ => ?_)
  · have q := Cond.code_spec hn (atoms_spec (ws := ws) ha _ hmem)
    obtain ⟨g, d, q1, q2, q3, q4, q5, q6, -⟩ := q
    exact ⟨g, d, q1, q2, q3, q4, q5, q6⟩
  · obtain ⟨rfl, hsz, hP, hK, hD0, hE⟩ := hv
    subst hsz
    have z := h p e s m below meth c _ ⟨B.exec, B.bytes, hml, findClass_of_methodNamed B.named, atoms_spec (ws := ws) B.pre⟩ B.returns B.notSynchronized (fun hn => (name_of_methodNamed B.named B.method).1.trans hn) hK hP (hD0.self (sz := s.heap.size)) (fun q hq => Or.inr hq) va_S.rf hE _ (lv_entry av hlen)
    rw [← lg_entry_eq] at z
    obtain ⟨t, r1, o, r2, r3, r4⟩ := z s₁ (by rw [B.state]; rfl) (Stand.of_body B)
    exact ⟨t, o, r1, r2, r3, ⟨r4.1, r4.2⟩⟩
theorem MI.ofF {S : Type} {wp : S → va_W} {post : Int32 → S → Prop} (hy : plainFor y = true) (hw : ws = Cond.code y cc maxL ret :: ws') (hlen : (lg_sl av).length ≤ maxL) (h : BD l y ws rm cc maxL ret dC dI ct E av pre (fun A => va_Qi post (fun u t => va_P (dC, dI) vwCl (wp u) t.heap) A)) : MI l y ws rm dC dI ct E av pre wp post := fun sz => ofBDF hy hw hlen h sz
theorem MV.ofF {S : Type} {wp : S → va_W} {post : S → Prop} (hy : plainFor y = true) (hw : ws = Cond.code y cc maxL ret :: ws') (hlen : (lg_sl av).length ≤ maxL) (h : BD l y ws rm cc maxL ret dC dI ct E av pre (fun A => va_Qv post (fun u t => va_P (dC, dI) vwCl (wp u) t.heap) A)) : MV l y ws rm dC dI ct E av pre wp post := fun sz => ofBDF hy hw hlen h sz
end LIBBASE
