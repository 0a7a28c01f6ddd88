def rmX6_isTooLate : Room := { frames := 0, cells := 0, slots := 0, locals := 0 }
theorem nmX6_isTooLate : NmV yX6_isTooLate RX6 1 := by unfold NmV; decide +kernel
theorem hiX6_isTooLate_6 : ∀ w ∈ u_ws RX6 TX6 22, w ∈ wsX6_isTooLate := by decide +kernel
set_option maxHeartbeats 4000000 in
set_option maxRecDepth 100000 in
theorem kX6_isTooLate (l : Launch) (dC : Nat → ClassId) (dI : Nat → Nat → Nat) (ct : Nat → ClassId) (a : Nat → Nat) (v f : Nat → Int32) (n : Int32) : MI (S := Unit) l yX6_isTooLate wsX6_isTooLate rmX6_isTooLate dC dI ct eT [.ref (a 0), .int n] (oM a v :: [ai ct (a 1) 210 f]) (fun _ => oM a v :: [ai ct (a 1) 210 f]) (fun r _ => r = if 9999 < f 0 + n then 1 else 0) := by
  refine MI.of (cc := cX6_isTooLate) (maxL := 2) (ret := (some .boolean)) (by decide) rfl (Nat.le_of_ble_eq_true rfl) ?_
  intro pg en z mi below meth cd A F hr hlk hin hK hP hD hA hS hE ls hl
  have F : CallFix pg mi cd cX6_isTooLate 2 z _ wsX6_isTooLate RX6 := F
  have hl : lv_has ls 2 [(0, .ref (a 0)), (1, .int n)] := hl
  refine lv_aload_n F.1 F.2.1 dX6_isTooLate_0 rfl (lv_at hl 0 rfl) ?_
  refine gf F hK hP 0 rfl rfl hiX6_isTooLate_6 0 (by decide) (List.mem_of_getElem? (i := 1) rfl) rfl dX6_isTooLate_1 ?_
  refine lv_iconst (v := 0) F.1 F.2.1 dX6_isTooLate_4 (by decide) ?_
  refine al (v := f 0) F hK hP 1 0 rfl rfl 0 rfl (by omega) (by decide) rfl dX6_isTooLate_5 ?_
  refine lv_iload_n F.1 F.2.1 dX6_isTooLate_6 rfl (lv_at hl 1 rfl) ?_
  refine lv_iadd F.1 F.2.1 dX6_isTooLate_7 ?_
  refine lv_sipush (v := 9999) F.1 F.2.1 dX6_isTooLate_8 (by decide) ?_
  refine lv_icmp_le (tgt := 18) F.1 F.2.1 dX6_isTooLate_11 (by decide) (fun c_11 => ?_) (fun c_11 => ?_)
  · refine lv_iconst (v := 0) F.1 F.2.1 dX6_isTooLate_18 (by decide) ?_
    exact rtZ () F hr hlk hP hS rfl (by simp [c_11, Int32.not_lt.mpr c_11]) (Or.inl rfl) dX6_isTooLate_19
  · refine lv_iconst (v := 1) F.1 F.2.1 dX6_isTooLate_14 (by decide) ?_
    refine lv_goto (tgt := 19) F.1 F.2.1 dX6_isTooLate_15 (by decide) ?_
    exact rtZ () F hr hlk hP hS rfl (by simp [c_11, Int32.not_le.mp c_11]) (Or.inr rfl) dX6_isTooLate_19

def rmX6_isLate : Room := { frames := 1, cells := 0, slots := 0, locals := 21 }
theorem nmX6_isLate : NmV yX6_isLate RX6 0 := by unfold NmV; decide +kernel
set_option maxHeartbeats 4000000 in
set_option maxRecDepth 100000 in
theorem kX6_isLate (l : Launch) (dC : Nat → ClassId) (dI : Nat → Nat → Nat) (ct : Nat → ClassId) (a : Nat → Nat) (v f : Nat → Int32) : MI (S := Unit) l yX6_isLate wsX6_isLate rmX6_isLate dC dI ct eT [.ref (a 0)] (oM a v :: [ai ct (a 1) 210 f]) (fun _ => oM a v :: [ai ct (a 1) 210 f]) (fun r _ => r = if 9999 < f 0 + 60 then 1 else 0) := by
  refine MI.of (cc := cX6_isLate) (maxL := 1) (ret := (some .boolean)) (by decide) rfl (Nat.le_of_ble_eq_true rfl) ?_
  intro pg en z mi below meth cd A F hr hlk hin hK hP hD hA hS hE ls hl
  have F : CallFix pg mi cd cX6_isLate 1 z _ wsX6_isLate RX6 := F
  have hl : lv_has ls 1 [(0, .ref (a 0))] := hl
  refine lv_aload_n F.1 F.2.1 dX6_isLate_0 rfl (lv_at hl 0 rfl) ?_
  refine lv_bipush (v := 60) F.1 F.2.1 dX6_isLate_1 (by decide) ?_
  refine iV (rest := []) (wsp := fun _ => oM a v :: [ai ct (a 1) 210 f]) F (kX6_isTooLate l dC dI ct a v f 60) gX6_isLate_X6_isTooLate rfl ⟨rfl, rfl⟩ nmX6_isTooLate ⟨Nat.le_of_ble_eq_true rfl, Nat.le_of_ble_eq_true rfl⟩ eT_b (fun _ _ _ => trivial) hK hP hD hS hA 0 rfl rfl rfl [0, 1] (by decide) rfl rfl rfl hl.1 (Nat.le_of_ble_eq_true rfl) dX6_isLate_3 ⟨Nat.zero_le _, Nat.zero_le _⟩ (fun _ => rfl) (fun _ => rfl) [a 0, a 1] rfl (fun _ => rfl) (fun r_3 u_3 H locs e_3 hP hD hS => ?_)
  obtain rfl := e_3
  exact rtZ () F hr hlk hP hS rfl rfl (b01 _) dX6_isLate_6

def rmX6_inHeaps : Room := { frames := 3, cells := 0, slots := 0, locals := 67 }
theorem nmX6_inHeaps : NmV yX6_inHeaps RX6 0 := by unfold NmV; decide +kernel
set_option maxHeartbeats 4000000 in
set_option maxRecDepth 100000 in
theorem kX6_inHeaps (l : Launch) (dC : Nat → ClassId) (dI : Nat → Nat → Nat) (ct : Nat → ClassId) (a : Nat → Nat) (v f : Nat → Int32) : MI (S := Unit) l yX6_inHeaps wsX6_inHeaps rmX6_inHeaps dC dI ct eT [.ref (a 0)] (oM a v :: [ai ct (a 1) 210 f]) (fun _ => oM a v :: [ai ct (a 1) 210 f]) (fun r _ => r = sumU f 27 5 + sumU f 44 5) := by
  refine MI.of (cc := cX6_inHeaps) (maxL := 1) (ret := (some .int)) (by decide) rfl (Nat.le_of_ble_eq_true rfl) ?_
  intro pg en z mi below meth cd A F hr hlk hin hK hP hD hA hS hE ls hl
  have F : CallFix pg mi cd cX6_inHeaps 1 z _ wsX6_inHeaps RX6 := F
  have hl : lv_has ls 1 [(0, .ref (a 0))] := hl
  refine lv_aload_n F.1 F.2.1 dX6_inHeaps_0 rfl (lv_at hl 0 rfl) ?_
  refine lv_iconst (v := 0) F.1 F.2.1 dX6_inHeaps_1 (by decide) ?_
  refine lv_bipush (v := 7) F.1 F.2.1 dX6_inHeaps_2 (by decide) ?_
  refine iV (rest := []) (wsp := fun _ => oM a v :: [ai ct (a 1) 210 f]) F (kX6_sum l dC dI ct a v f 0 7 27 (by omega) (by omega)) gX6_inHeaps_X6_sum rfl ⟨rfl, rfl⟩ nmX6_sum ⟨Nat.le_of_ble_eq_true rfl, Nat.le_of_ble_eq_true rfl⟩ eT_b (fun _ _ _ => trivial) hK hP hD hS hA 0 rfl rfl rfl [0, 1] (by decide) rfl rfl rfl hl.1 (Nat.le_of_ble_eq_true rfl) dX6_inHeaps_4 ⟨Nat.zero_le _, Nat.zero_le _⟩ (fun _ => rfl) (fun _ => rfl) [a 0, a 1] rfl (fun _ => rfl) (fun r_4 u_4 H locs e_4 hP hD hS => ?_)
  obtain rfl := e_4
  refine lv_aload_n F.1 F.2.1 dX6_inHeaps_7 rfl (lv_at hl 0 rfl) ?_
  refine lv_iconst (v := 1) F.1 F.2.1 dX6_inHeaps_8 (by decide) ?_
  refine lv_bipush (v := 7) F.1 F.2.1 dX6_inHeaps_9 (by decide) ?_
  refine iV (rest := [.int (sumU f 27 5)]) (wsp := fun _ => oM a v :: [ai ct (a 1) 210 f]) F (kX6_sum l dC dI ct a v f 1 7 44 (by omega) (by omega)) gX6_inHeaps_X6_sum rfl ⟨rfl, rfl⟩ nmX6_sum ⟨Nat.le_of_ble_eq_true rfl, Nat.le_of_ble_eq_true rfl⟩ eT_b (fun _ _ _ => trivial) hK hP hD hS hA 0 rfl rfl rfl [0, 1] (by decide) rfl rfl rfl hl.1 (Nat.le_of_ble_eq_true rfl) dX6_inHeaps_11 ⟨Nat.zero_le _, Nat.zero_le _⟩ (fun _ => rfl) (fun _ => rfl) [a 0, a 1] rfl (fun _ => rfl) (fun r_11 u_11 H locs e_11 hP hD hS => ?_)
  obtain rfl := e_11
  refine lv_iadd F.1 F.2.1 dX6_inHeaps_14 ?_
  exact rtI () F hr hlk hP hS rfl rfl dX6_inHeaps_15

def rmX6_finding : Room := { frames := 0, cells := 0, slots := 0, locals := 0 }
theorem nmX6_finding : NmV yX6_finding RX6 1 := by unfold NmV; decide +kernel
theorem hiX6_finding_6 : ∀ w ∈ u_ws RX6 TX6 22, w ∈ wsX6_finding := by decide +kernel
set_option maxHeartbeats 4000000 in
set_option maxRecDepth 100000 in
theorem kX6_finding (l : Launch) (dC : Nat → ClassId) (dI : Nat → Nat → Nat) (ct : Nat → ClassId) (a : Nat → Nat) (v c : Nat → Int32) (w : Int32) (q : Nat) (hw : (-1000001) - w + 1 = nI q) (h1 : 1 ≤ q) (h8 : q < 8) : MI (S := Unit) l yX6_finding wsX6_finding rmX6_finding dC dI ct eT [.ref (a 0), .int w] (oM a v :: [ai ct (a 4) 8 c]) (fun _ => oM a v :: [ai ct (a 4) 8 (fnd c q)]) (fun r _ => r = w) := by
  refine MI.of (cc := cX6_finding) (maxL := 2) (ret := (some .int)) (by decide) rfl (Nat.le_of_ble_eq_true rfl) ?_
  intro pg en z mi below meth cd A F hr hlk hin hK hP hD hA hS hE ls hl
  have F : CallFix pg mi cd cX6_finding 2 z _ wsX6_finding RX6 := F
  have hl : lv_has ls 2 [(0, .ref (a 0)), (1, .int w)] := hl
  refine lv_aload_n F.1 F.2.1 dX6_finding_0 rfl (lv_at hl 0 rfl) ?_
  refine gf F hK hP 0 rfl rfl hiX6_finding_6 4 (by decide) (List.mem_of_getElem? (i := 1) rfl) rfl dX6_finding_1 ?_
  refine lv_ldc (v := (-1000001)) F.1 F.2.1 F.2.2.2.1 (F.2.2.2.2 _ (List.mem_of_getElem? (i := 2) rfl)) dX6_finding_4 ?_
  refine lv_iload_n F.1 F.2.1 dX6_finding_6 rfl (lv_at hl 1 rfl) ?_
  refine lv_isub F.1 F.2.1 dX6_finding_7 ?_
  refine lv_iconst (v := 1) F.1 F.2.1 dX6_finding_8 (by decide) ?_
  refine lv_iadd F.1 F.2.1 dX6_finding_9 ?_
  refine tp (y := nI q) hw ?_
  refine lv_dup2_11 F.1 F.2.1 dX6_finding_10 rfl rfl ?_
  refine al (v := c q) F hK hP 1 0 rfl rfl q rfl (by omega) (by decide) rfl dX6_finding_11 ?_
  refine lv_iconst (v := 1) F.1 F.2.1 dX6_finding_12 (by decide) ?_
  refine lv_iadd F.1 F.2.1 dX6_finding_13 ?_
  refine ast (ws' := oM a v :: [ai ct (a 4) 8 (upd c q ((c q) + 1))]) F hK hP hD hS 1 0 rfl rfl q rfl (by omega) (by decide) dX6_finding_14 (weq.rf _) (fun H locs hP hD hS => ?_)
  refine lv_aload_n F.1 F.2.1 dX6_finding_15 rfl (lv_at hl 0 rfl) ?_
  refine gf F hK hP 0 rfl rfl hiX6_finding_6 4 (by decide) (List.mem_of_getElem? (i := 1) rfl) rfl dX6_finding_16 ?_
  refine lv_iconst (v := 0) F.1 F.2.1 dX6_finding_19 (by decide) ?_
  refine lv_dup2_11 F.1 F.2.1 dX6_finding_20 rfl rfl ?_
  refine al (v := (upd c q ((c q) + 1)) 0) F hK hP 1 0 rfl rfl 0 rfl (by omega) (by decide) rfl dX6_finding_21 ?_
  refine tp (y := c 0) (pk_un (by omega)) ?_
  refine lv_iconst (v := 1) F.1 F.2.1 dX6_finding_22 (by decide) ?_
  refine lv_iadd F.1 F.2.1 dX6_finding_23 ?_
  refine ast (ws' := oM a v :: [ai ct (a 4) 8 (upd (upd c q ((c q) + 1)) 0 ((c 0) + 1))]) F hK hP hD hS 1 0 rfl rfl 0 rfl (by omega) (by decide) dX6_finding_24 (weq.rf _) (fun H locs hP hD hS => ?_)
  refine lv_iload_n F.1 F.2.1 dX6_finding_25 rfl (lv_at hl 1 rfl) ?_
  exact rtI () F hr hlk hP hS rfl rfl dX6_finding_26

def rmX6_copyRow : Room := { frames := 0, cells := 0, slots := 0, locals := 0 }
theorem nmX6_copyRow : NmV yX6_copyRow RX6 2 := by unfold NmV; decide +kernel
set_option maxHeartbeats 4000000 in
set_option maxRecDepth 100000 in
theorem kX6_copyRow (l : Launch) (dC : Nat → ClassId) (dI : Nat → Nat → Nat) (ct : Nat → ClassId) (xa ya : Nat) (f g : Nat → Int32) : MV (S := Unit) l yX6_copyRow wsX6_copyRow rmX6_copyRow dC dI ct eT [.ref xa, .ref ya] (ai ct xa 210 f :: [ai ct ya 210 g]) (fun _ => ai ct xa 210 f :: [ai ct ya 210 f]) (fun _ => True) := by
  refine MV.of (cc := cX6_copyRow) (maxL := 3) (ret := none) (by decide) rfl (Nat.le_of_ble_eq_true rfl) ?_
  intro pg en z mi below meth cd A F hr hlk hin hK hP hD hA hS hE ls hl
  have F : CallFix pg mi cd cX6_copyRow 3 z _ wsX6_copyRow RX6 := F
  have hl : lv_has ls 3 [(0, .ref xa), (1, .ref ya)] := hl
  refine lv_iconst (v := 0) F.1 F.2.1 dX6_copyRow_0 (by decide) ?_
  refine lv_istore_n (lv' := [(2, .int 0), (0, .ref xa), (1, .ref ya)]) F.1 F.2.1 dX6_copyRow_1 rfl hl (by decide) rfl (fun ls hl => ?_)
  refine loopN (I := fun k H locs ls => va_P (dC, dI) vwCl (ai ct xa 210 f :: [ai ct ya 210 (cpU f g k)]) H ∧ va_D A (ai ct xa 210 f :: [ai ct ya 210 (cpU f g k)]) ∧ va_S A z.heap H locs ∧ lv_has ls 3 [(2, .int (nI k)), (0, .ref xa), (1, .ref ya)]) 210 0 (by omega) ⟨hP, hD, hS, lv_sub hl [0, 1, 2] rfl⟩ (fun H locs ls hI => ?_) (fun k hk_k H locs ls hI ih_2 => ?_)
  · obtain ⟨hP, hD, hS, hl⟩ := hI
    refine lv_iload_n F.1 F.2.1 dX6_copyRow_2 rfl (lv_at hl 0 rfl) ?_
    refine lv_sipush (v := 210) F.1 F.2.1 dX6_copyRow_3 (by decide) ?_
    refine lv_icmp_ge (tgt := 21) F.1 F.2.1 dX6_copyRow_6 (by decide) (fun c_6 => ?_) (fun c_6 => ?_)
    · have hD := (weq.c (x := ai ct xa 210 f) (cp_eq (ct := ct) (a := ya) (f := f) (g := g))).D hD
      have hP := (weq.c (x := ai ct xa 210 f) (cp_eq (ct := ct) (a := ya) (f := f) (g := g))).P hP
      exact rtV () F hr hlk hP hS rfl trivial dX6_copyRow_21
    · exact absurd (nI_le (Nat.le_refl _) (by decide)) c_6
  · obtain ⟨hP, hD, hS, hl⟩ := hI
    refine lv_iload_n F.1 F.2.1 dX6_copyRow_2 rfl (lv_at hl 0 rfl) ?_
    refine lv_sipush (v := 210) F.1 F.2.1 dX6_copyRow_3 (by decide) ?_
    refine lv_icmp_ge (tgt := 21) F.1 F.2.1 dX6_copyRow_6 (by decide) (fun c_6 => ?_) (fun c_6 => ?_)
    · exact absurd c_6 (nI_ge hk_k (by decide))
    · refine lv_aload_n F.1 F.2.1 dX6_copyRow_9 rfl (lv_at hl 2 rfl) ?_
      refine lv_iload_n F.1 F.2.1 dX6_copyRow_10 rfl (lv_at hl 0 rfl) ?_
      refine lv_aload_n F.1 F.2.1 dX6_copyRow_11 rfl (lv_at hl 1 rfl) ?_
      refine lv_iload_n F.1 F.2.1 dX6_copyRow_12 rfl (lv_at hl 0 rfl) ?_
      refine al (v := f k) F hK hP 0 0 rfl rfl k rfl (by omega) (by decide) rfl dX6_copyRow_13 ?_
      refine ast (ws' := ai ct xa 210 f :: [ai ct ya 210 (upd (cpU f g k) k (f k))]) F hK hP hD hS 1 0 rfl rfl k rfl (by omega) (by decide) dX6_copyRow_14 (weq.rf _) (fun H locs hP hD hS => ?_)
      refine lv_iinc (v := nI (k + 1)) (lv' := [(2, .int (nI (k + 1))), (0, .ref xa), (1, .ref ya)]) F.1 F.2.1 dX6_copyRow_15 hl (k := 0) rfl (by rw [show Int32.ofInt 1 = nI 1 from rfl, nI_add]) (by decide) rfl (fun ls hl => ?_)
      refine lv_goto (tgt := 2) F.1 F.2.1 dX6_copyRow_18 (by decide) ?_
      exact ih_2 _ _ _ ⟨hP, hD, hS, lv_sub hl [0, 1, 2] rfl⟩

def rmX6_putBack : Room := { frames := 1, cells := 0, slots := 0, locals := 22 }
theorem nmX6_putBack : NmV yX6_putBack RX6 1 := by unfold NmV; decide +kernel
theorem hiX6_putBack_6 : ∀ w ∈ u_ws RX6 TX6 22, w ∈ wsX6_putBack := by decide +kernel
set_option maxHeartbeats 4000000 in
set_option maxRecDepth 100000 in
theorem kX6_putBack (l : Launch) (dC : Nat → ClassId) (dI : Nat → Nat → Nat) (ct : Nat → ClassId) (a : Nat → Nat) (v f g : Nat → Int32) (x : Int32) : MI (S := Unit) l yX6_putBack wsX6_putBack rmX6_putBack dC dI ct eT [.ref (a 0), .int x] (oM a v :: ai ct (a 1) 210 f :: [ai ct (a 3) 210 g]) (fun _ => oM a v :: ai ct (a 1) 210 g :: [ai ct (a 3) 210 g]) (fun r _ => r = x) := by
  refine MI.of (cc := cX6_putBack) (maxL := 2) (ret := (some .int)) (by decide) rfl (Nat.le_of_ble_eq_true rfl) ?_
  intro pg en z mi below meth cd A F hr hlk hin hK hP hD hA hS hE ls hl
  have F : CallFix pg mi cd cX6_putBack 2 z _ wsX6_putBack RX6 := F
  have hl : lv_has ls 2 [(0, .ref (a 0)), (1, .int x)] := hl
  refine lv_aload_n F.1 F.2.1 dX6_putBack_0 rfl (lv_at hl 0 rfl) ?_
  refine gf F hK hP 0 rfl rfl hiX6_putBack_6 2 (by decide) (List.mem_of_getElem? (i := 1) rfl) rfl dX6_putBack_1 ?_
  refine lv_aload_n F.1 F.2.1 dX6_putBack_4 rfl (lv_at hl 0 rfl) ?_
  refine gf F hK hP 0 rfl rfl hiX6_putBack_6 0 (by decide) (List.mem_of_getElem? (i := 2) rfl) rfl dX6_putBack_5 ?_
  refine vS (rest := []) (wsp := fun _ => oM a v :: ai ct (a 1) 210 g :: [ai ct (a 3) 210 g]) F (kX6_copyRow l dC dI ct (a 3) (a 1) g f) gX6_putBack_X6_copyRow rfl ⟨rfl, rfl⟩ nmX6_copyRow ⟨Nat.le_of_ble_eq_true rfl, Nat.le_of_ble_eq_true rfl⟩ eT_b (fun _ _ _ => trivial) hK hP hD hS hA [2, 1] (by decide) rfl rfl rfl hl.1 (Nat.le_of_ble_eq_true rfl) dX6_putBack_8 ⟨Nat.zero_le _, Nat.zero_le _⟩ (fun _ => rfl) (fun _ => rfl) [a 0, a 1, a 3] rfl (fun _ => rfl) (fun u_8 H locs e_8 hP hD hS => ?_)
  refine lv_iload_n F.1 F.2.1 dX6_putBack_11 rfl (lv_at hl 1 rfl) ?_
  exact rtI () F hr hlk hP hS rfl rfl dX6_putBack_12
