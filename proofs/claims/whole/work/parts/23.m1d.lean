def rmX6_comesHome : Room := { frames := 2, cells := 0, slots := 0, locals := 43 }
theorem nmX6_comesHome : NmV yX6_comesHome RX6 3 := by unfold NmV; decide +kernel
theorem hiX6_comesHome_6 : ∀ w ∈ u_ws RX6 TX6 22, w ∈ wsX6_comesHome := by decide +kernel
set_option maxHeartbeats 4000000 in
set_option maxRecDepth 100000 in
theorem kX6_comesHome (l : Launch) (dC : Nat → ClassId) (dI : Nat → Nat → Nat) (ct : Nat → ClassId) (a : Nat → Nat) (v f : Nat → Int32) (s t : Nat) (n : Int32) (hs : s < 2) (ht : t < 5) : MV (S := Unit) l yX6_comesHome wsX6_comesHome rmX6_comesHome dC dI ct eT [.ref (a 0), .int (nI s), .int (nI t), .int n] (oM a v :: [ai ct (a 1) 210 f]) (fun _ => oM a v :: [ai ct (a 1) 210 (comeH f s t n)]) (fun _ => True) := by
  refine MV.of (cc := cX6_comesHome) (maxL := 4) (ret := none) (by decide) rfl (Nat.le_of_ble_eq_true rfl) ?_
  intro pg en z mi below meth cd A F hr hlk hin hK hP hD hA hS hE ls hl
  have F : CallFix pg mi cd cX6_comesHome 4 z _ wsX6_comesHome RX6 := F
  have hl : lv_has ls 4 [(0, .ref (a 0)), (1, .int (nI s)), (2, .int (nI t)), (3, .int n)] := hl
  refine lv_aload_n F.1 F.2.1 dX6_comesHome_0 rfl (lv_at hl 0 rfl) ?_
  refine gf F hK hP 0 rfl rfl hiX6_comesHome_6 0 (by decide) (List.mem_of_getElem? (i := 1) rfl) rfl dX6_comesHome_1 ?_
  refine lv_iload_n F.1 F.2.1 dX6_comesHome_4 rfl (lv_at hl 1 rfl) ?_
  refine lv_iconst (v := 2) F.1 F.2.1 dX6_comesHome_5 (by decide) ?_
  refine lv_iload_n F.1 F.2.1 dX6_comesHome_6 rfl (lv_at hl 2 rfl) ?_
  refine lv_iadd F.1 F.2.1 dX6_comesHome_7 ?_
  refine tp (y := nI (2 + t)) (ad2 (a := 2) (b := t) (c := 2 + t) rfl rfl rfl) ?_
  refine iS (rest := [.ref (a 1)]) (wsp := fun _ => oM a v :: [ai ct (a 1) 210 f]) F (kX6_at l dC dI ct s (2 + t) (22 + 17 * s + t) (by omega)) gX6_comesHome_X6_at rfl ⟨rfl, rfl⟩ nmX6_at ⟨Nat.le_of_ble_eq_true rfl, Nat.le_of_ble_eq_true rfl⟩ eT_b (fun _ _ _ => trivial) hK hP hD hS hA [] (by decide) rfl rfl rfl hl.1 (Nat.le_of_ble_eq_true rfl) dX6_comesHome_8 ⟨Nat.zero_le _, Nat.zero_le _⟩ (fun _ => rfl) (fun _ => rfl) [a 0, a 1] rfl (fun _ => rfl) (fun r_8 u_8 H locs e_8 hP hD hS => ?_)
  obtain rfl := e_8
  refine lv_bipush (v := 99) F.1 F.2.1 dX6_comesHome_11 (by decide) ?_
  refine lv_aload_n F.1 F.2.1 dX6_comesHome_13 rfl (lv_at hl 0 rfl) ?_
  refine lv_iload_n F.1 F.2.1 dX6_comesHome_14 rfl (lv_at hl 1 rfl) ?_
  refine lv_iconst (v := 2) F.1 F.2.1 dX6_comesHome_15 (by decide) ?_
  refine lv_iload_n F.1 F.2.1 dX6_comesHome_16 rfl (lv_at hl 2 rfl) ?_
  refine lv_iadd F.1 F.2.1 dX6_comesHome_17 ?_
  refine tp (y := nI (2 + t)) (ad2 (a := 2) (b := t) (c := 2 + t) rfl rfl rfl) ?_
  refine iV (rest := [.int 99, .int (nI (22 + 17 * s + t)), .ref (a 1)]) (wsp := fun _ => oM a v :: [ai ct (a 1) 210 f]) F (kX6_sideIs l dC dI ct a v f s (2 + t) (22 + 17 * s + t) (by omega) (by omega)) gX6_comesHome_X6_sideIs rfl ⟨rfl, rfl⟩ nmX6_sideIs ⟨Nat.le_of_ble_eq_true rfl, Nat.le_of_ble_eq_true rfl⟩ eT_b (fun _ _ _ => trivial) hK hP hD hS hA 0 rfl rfl rfl [0, 1] (by decide) rfl rfl rfl hl.1 (Nat.le_of_ble_eq_true rfl) dX6_comesHome_18 ⟨Nat.zero_le _, Nat.zero_le _⟩ (fun _ => rfl) (fun _ => rfl) [a 0, a 1] rfl (fun _ => rfl) (fun r_18 u_18 H locs e_18 hP hD hS => ?_)
  obtain rfl := e_18
  refine lv_iload_n F.1 F.2.1 dX6_comesHome_21 rfl (lv_at hl 3 rfl) ?_
  refine lv_iadd F.1 F.2.1 dX6_comesHome_22 ?_
  refine va_mmin F.1 F.2.1 (F.2.2.1.trans hl.1.symm) F.2.2.2.1 (F.2.2.2.2 _ (List.mem_of_getElem? (i := 2) rfl)) (F.2.2.2.2 _ (List.mem_of_getElem? (i := 3) rfl)) (F.2.2.2.2 _ (List.mem_of_getElem? (i := 4) rfl)) (F.2.2.2.2 _ (List.mem_of_getElem? (i := 5) rfl)) (Nat.le_of_ble_eq_true rfl) (Nat.le_of_ble_eq_true rfl) (Nat.zero_le _) (Nat.zero_le _) dX6_comesHome_23 ?_
  refine tp (y := mn 99 ((f (22 + 17 * s + t)) + n)) rfl ?_
  refine ast (ws' := oM a v :: [ai ct (a 1) 210 (upd f (22 + 17 * s + t) (mn 99 ((f (22 + 17 * s + t)) + n)))]) F hK hP hD hS 1 0 rfl rfl (22 + 17 * s + t) rfl (by omega) (by decide) dX6_comesHome_26 (weq.rf _) (fun H locs hP hD hS => ?_)
  exact rtV () F hr hlk hP hS rfl trivial dX6_comesHome_27

def rmX6_goesHome : Room := { frames := 3, cells := 0, slots := 0, locals := 66 }
theorem nmX6_goesHome : NmV yX6_goesHome RX6 2 := by unfold NmV; decide +kernel
set_option maxHeartbeats 4000000 in
set_option maxRecDepth 100000 in
theorem kX6_goesHome (l : Launch) (dC : Nat → ClassId) (dI : Nat → Nat → Nat) (ct : Nat → ClassId) (a : Nat → Nat) (v f : Nat → Int32) (h s : Nat) (hh : h < 2) (hs : s < 2) : MV (S := Unit) l yX6_goesHome wsX6_goesHome rmX6_goesHome dC dI ct eT [.ref (a 0), .int (nI h), .int (nI s)] (oM a v :: [ai ct (a 1) 210 f]) (fun _ => oM a v :: [ai ct (a 1) 210 (goU f h s 5)]) (fun _ => True) := by
  refine MV.of (cc := cX6_goesHome) (maxL := 4) (ret := none) (by decide) rfl (Nat.le_of_ble_eq_true rfl) ?_
  intro pg en z mi below meth cd A F hr hlk hin hK hP hD hA hS hE ls hl
  have F : CallFix pg mi cd cX6_goesHome 4 z _ wsX6_goesHome RX6 := F
  have hl : lv_has ls 4 [(0, .ref (a 0)), (1, .int (nI h)), (2, .int (nI s))] := hl
  refine lv_iconst (v := 0) F.1 F.2.1 dX6_goesHome_0 (by decide) ?_
  refine lv_istore_n (lv' := [(3, .int 0), (0, .ref (a 0)), (1, .int (nI h)), (2, .int (nI s))]) F.1 F.2.1 dX6_goesHome_1 rfl hl (by decide) rfl (fun ls hl => ?_)
  refine loopN (I := fun k H locs ls => va_P (dC, dI) vwCl (oM a v :: [ai ct (a 1) 210 (goU f h s k)]) H ∧ va_D A (oM a v :: [ai ct (a 1) 210 (goU f h s k)]) ∧ va_S A z.heap H locs ∧ lv_has ls 4 [(3, .int (nI k)), (0, .ref (a 0)), (1, .int (nI h)), (2, .int (nI s))]) 5 0 (by omega) ⟨hP, hD, hS, lv_sub hl [0, 1, 2, 3] rfl⟩ (fun H locs ls hI => ?_) (fun k hk_k H locs ls hI ih_2 => ?_)
  · obtain ⟨hP, hD, hS, hl⟩ := hI
    refine lv_iload_n F.1 F.2.1 dX6_goesHome_2 rfl (lv_at hl 0 rfl) ?_
    refine lv_iconst (v := 5) F.1 F.2.1 dX6_goesHome_3 (by decide) ?_
    refine lv_icmp_ge (tgt := 32) F.1 F.2.1 dX6_goesHome_4 (by decide) (fun c_4 => ?_) (fun c_4 => ?_)
    · exact rtV () F hr hlk hP hS rfl trivial dX6_goesHome_32
    · exact absurd (nI_le (Nat.le_refl _) (by decide)) c_4
  · obtain ⟨hP, hD, hS, hl⟩ := hI
    refine lv_iload_n F.1 F.2.1 dX6_goesHome_2 rfl (lv_at hl 0 rfl) ?_
    refine lv_iconst (v := 5) F.1 F.2.1 dX6_goesHome_3 (by decide) ?_
    refine lv_icmp_ge (tgt := 32) F.1 F.2.1 dX6_goesHome_4 (by decide) (fun c_4 => ?_) (fun c_4 => ?_)
    · exact absurd c_4 (nI_ge hk_k (by decide))
    · refine lv_aload_n F.1 F.2.1 dX6_goesHome_7 rfl (lv_at hl 1 rfl) ?_
      refine lv_iload_n F.1 F.2.1 dX6_goesHome_8 rfl (lv_at hl 3 rfl) ?_
      refine lv_iload_n F.1 F.2.1 dX6_goesHome_9 rfl (lv_at hl 0 rfl) ?_
      refine lv_aload_n F.1 F.2.1 dX6_goesHome_10 rfl (lv_at hl 1 rfl) ?_
      refine lv_iload_n F.1 F.2.1 dX6_goesHome_11 rfl (lv_at hl 2 rfl) ?_
      refine lv_bipush (v := 7) F.1 F.2.1 dX6_goesHome_12 (by decide) ?_
      refine lv_iload_n F.1 F.2.1 dX6_goesHome_14 rfl (lv_at hl 0 rfl) ?_
      refine lv_iadd F.1 F.2.1 dX6_goesHome_15 ?_
      refine tp (y := nI (7 + k)) (ad2 (a := 7) (b := k) (c := 7 + k) rfl rfl rfl) ?_
      refine iS (rest := [.ref (a 0), .int (nI k), .int (nI s), .ref (a 0)]) (wsp := fun _ => oM a v :: [ai ct (a 1) 210 (goU f h s k)]) F (kX6_at l dC dI ct h (7 + k) (27 + 17 * h + k) (by omega)) gX6_goesHome_X6_at rfl ⟨rfl, rfl⟩ nmX6_at ⟨Nat.le_of_ble_eq_true rfl, Nat.le_of_ble_eq_true rfl⟩ eT_b (fun _ _ _ => trivial) hK hP hD hS hA [] (by decide) rfl rfl rfl hl.1 (Nat.le_of_ble_eq_true rfl) dX6_goesHome_16 ⟨Nat.zero_le _, Nat.zero_le _⟩ (fun _ => rfl) (fun _ => rfl) [a 0, a 1] rfl (fun _ => rfl) (fun r_16 u_16 H locs e_16 hP hD hS => ?_)
      obtain rfl := e_16
      refine lv_iconst (v := 0) F.1 F.2.1 dX6_goesHome_19 (by decide) ?_
      refine iV (rest := [.int (nI k), .int (nI s), .ref (a 0)]) (wsp := fun _ => oM a v :: [ai ct (a 1) 210 (upd (goU f h s k) (27 + 17 * h + k) 0)]) F (kX6_become l dC dI ct a v (goU f h s k) (27 + 17 * h + k) 0 (by omega)) gX6_goesHome_X6_become rfl ⟨rfl, rfl⟩ nmX6_become ⟨Nat.le_of_ble_eq_true rfl, Nat.le_of_ble_eq_true rfl⟩ eT_b (fun _ _ _ => trivial) hK hP hD hS hA 0 rfl rfl rfl [0, 1] (by decide) rfl rfl rfl hl.1 (Nat.le_of_ble_eq_true rfl) dX6_goesHome_20 ⟨Nat.zero_le _, Nat.zero_le _⟩ (fun _ => rfl) (fun _ => rfl) [a 0, a 1] rfl (fun _ => rfl) (fun r_20 u_20 H locs e_20 hP hD hS => ?_)
      obtain rfl := e_20
      refine vV (rest := []) (wsp := fun _ => oM a v :: [ai ct (a 1) 210 (comeH (upd (goU f h s k) (27 + 17 * h + k) 0) s k ((goU f h s k) (27 + 17 * h + k)))]) F (kX6_comesHome l dC dI ct a v (upd (goU f h s k) (27 + 17 * h + k) 0) s k ((goU f h s k) (27 + 17 * h + k)) (by omega) (by omega)) gX6_goesHome_X6_comesHome rfl ⟨rfl, rfl⟩ nmX6_comesHome ⟨Nat.le_of_ble_eq_true rfl, Nat.le_of_ble_eq_true rfl⟩ eT_b (fun _ _ _ => trivial) hK hP hD hS hA 0 rfl rfl rfl [0, 1] (by decide) rfl rfl rfl hl.1 (Nat.le_of_ble_eq_true rfl) dX6_goesHome_23 ⟨Nat.zero_le _, Nat.zero_le _⟩ (fun _ => rfl) (fun _ => rfl) [a 0, a 1] rfl (fun _ => rfl) (fun u_23 H locs e_23 hP hD hS => ?_)
      refine lv_iinc (v := nI (k + 1)) (lv' := [(3, .int (nI (k + 1))), (0, .ref (a 0)), (1, .int (nI h)), (2, .int (nI s))]) F.1 F.2.1 dX6_goesHome_26 hl (k := 0) rfl (by rw [show Int32.ofInt 1 = nI 1 from rfl, nI_add]) (by decide) rfl (fun ls hl => ?_)
      refine lv_goto (tgt := 2) F.1 F.2.1 dX6_goesHome_29 (by decide) ?_
      exact ih_2 _ _ _ ⟨hP, hD, hS, lv_sub hl [0, 1, 2, 3] rfl⟩

def rmX6_trusts : Room := { frames := 2, cells := 0, slots := 0, locals := 43 }
theorem nmX6_trusts : NmV yX6_trusts RX6 1 := by unfold NmV; decide +kernel
theorem hiX6_trusts_6 : ∀ w ∈ u_ws RX6 TX6 22, w ∈ wsX6_trusts := by decide +kernel
set_option maxHeartbeats 4000000 in
set_option maxRecDepth 100000 in
theorem kX6_trusts (l : Launch) (dC : Nat → ClassId) (dI : Nat → Nat → Nat) (ct : Nat → ClassId) (a : Nat → Nat) (v f : Nat → Int32) (s : Nat) (hs : s < 2) : MV (S := Unit) l yX6_trusts wsX6_trusts rmX6_trusts dC dI ct eT [.ref (a 0), .int (nI s)] (oM a v :: [ai ct (a 1) 210 f]) (fun _ => oM a v :: [ai ct (a 1) 210 (truF f s)]) (fun _ => True) := by
  refine MV.of (cc := cX6_trusts) (maxL := 2) (ret := none) (by decide) rfl (Nat.le_of_ble_eq_true rfl) ?_
  intro pg en z mi below meth cd A F hr hlk hin hK hP hD hA hS hE ls hl
  have F : CallFix pg mi cd cX6_trusts 2 z _ wsX6_trusts RX6 := F
  have hl : lv_has ls 2 [(0, .ref (a 0)), (1, .int (nI s))] := hl
  refine lv_aload_n F.1 F.2.1 dX6_trusts_0 rfl (lv_at hl 0 rfl) ?_
  refine gf F hK hP 0 rfl rfl hiX6_trusts_6 0 (by decide) (List.mem_of_getElem? (i := 1) rfl) rfl dX6_trusts_1 ?_
  refine lv_iload_n F.1 F.2.1 dX6_trusts_4 rfl (lv_at hl 1 rfl) ?_
  refine lv_iconst (v := 1) F.1 F.2.1 dX6_trusts_5 (by decide) ?_
  refine iS (rest := [.ref (a 1)]) (wsp := fun _ => oM a v :: [ai ct (a 1) 210 f]) F (kX6_at l dC dI ct s 1 (21 + 17 * s) (by omega)) gX6_trusts_X6_at rfl ⟨rfl, rfl⟩ nmX6_at ⟨Nat.le_of_ble_eq_true rfl, Nat.le_of_ble_eq_true rfl⟩ eT_b (fun _ _ _ => trivial) hK hP hD hS hA [] (by decide) rfl rfl rfl hl.1 (Nat.le_of_ble_eq_true rfl) dX6_trusts_6 ⟨Nat.zero_le _, Nat.zero_le _⟩ (fun _ => rfl) (fun _ => rfl) [a 0, a 1] rfl (fun _ => rfl) (fun r_6 u_6 H locs e_6 hP hD hS => ?_)
  obtain rfl := e_6
  refine lv_bipush (v := 9) F.1 F.2.1 dX6_trusts_9 (by decide) ?_
  refine lv_aload_n F.1 F.2.1 dX6_trusts_11 rfl (lv_at hl 0 rfl) ?_
  refine lv_iload_n F.1 F.2.1 dX6_trusts_12 rfl (lv_at hl 1 rfl) ?_
  refine lv_iconst (v := 1) F.1 F.2.1 dX6_trusts_13 (by decide) ?_
  refine iV (rest := [.int 9, .int (nI (21 + 17 * s)), .ref (a 1)]) (wsp := fun _ => oM a v :: [ai ct (a 1) 210 f]) F (kX6_sideIs l dC dI ct a v f s 1 (21 + 17 * s) (by omega) (by omega)) gX6_trusts_X6_sideIs rfl ⟨rfl, rfl⟩ nmX6_sideIs ⟨Nat.le_of_ble_eq_true rfl, Nat.le_of_ble_eq_true rfl⟩ eT_b (fun _ _ _ => trivial) hK hP hD hS hA 0 rfl rfl rfl [0, 1] (by decide) rfl rfl rfl hl.1 (Nat.le_of_ble_eq_true rfl) dX6_trusts_14 ⟨Nat.zero_le _, Nat.zero_le _⟩ (fun _ => rfl) (fun _ => rfl) [a 0, a 1] rfl (fun _ => rfl) (fun r_14 u_14 H locs e_14 hP hD hS => ?_)
  obtain rfl := e_14
  refine lv_iconst (v := 1) F.1 F.2.1 dX6_trusts_17 (by decide) ?_
  refine lv_iadd F.1 F.2.1 dX6_trusts_18 ?_
  refine va_mmin F.1 F.2.1 (F.2.2.1.trans hl.1.symm) F.2.2.2.1 (F.2.2.2.2 _ (List.mem_of_getElem? (i := 2) rfl)) (F.2.2.2.2 _ (List.mem_of_getElem? (i := 3) rfl)) (F.2.2.2.2 _ (List.mem_of_getElem? (i := 4) rfl)) (F.2.2.2.2 _ (List.mem_of_getElem? (i := 5) rfl)) (Nat.le_of_ble_eq_true rfl) (Nat.le_of_ble_eq_true rfl) (Nat.zero_le _) (Nat.zero_le _) dX6_trusts_19 ?_
  refine tp (y := mn 9 ((f (21 + 17 * s)) + 1)) rfl ?_
  refine ast (ws' := oM a v :: [ai ct (a 1) 210 (upd f (21 + 17 * s) (mn 9 ((f (21 + 17 * s)) + 1)))]) F hK hP hD hS 1 0 rfl rfl (21 + 17 * s) rfl (by omega) (by decide) dX6_trusts_22 (weq.rf _) (fun H locs hP hD hS => ?_)
  exact rtV () F hr hlk hP hS rfl trivial dX6_trusts_23

def rmX6_stolen : Room := { frames := 5, cells := 0, slots := 0, locals := 114 }
theorem nmX6_stolen : NmV yX6_stolen RX6 1 := by unfold NmV; decide +kernel
theorem hiX6_stolen_6 : ∀ w ∈ u_ws RX6 TX6 22, w ∈ wsX6_stolen := by decide +kernel
set_option maxHeartbeats 4000000 in
set_option maxRecDepth 100000 in
theorem kX6_stolen (l : Launch) (dC : Nat → ClassId) (dI : Nat → Nat → Nat) (ct : Nat → ClassId) (a : Nat → Nat) (v f : Nat → Int32) (s : Nat) (hs : s < 2) : MI (S := Unit) l yX6_stolen wsX6_stolen rmX6_stolen dC dI ct eT [.ref (a 0), .int (nI s)] (oM a v :: [ai ct (a 1) 210 f]) (fun _ => oM a v :: [ai ct (a 1) 210 (upd (goU f (1 - s) s 5) (21 + 17 * (1 - s)) 0)]) (fun r _ => r = valU f s (1 - s) 5) := by
  refine MI.of (cc := cX6_stolen) (maxL := 3) (ret := (some .int)) (by decide) rfl (Nat.le_of_ble_eq_true rfl) ?_
  intro pg en z mi below meth cd A F hr hlk hin hK hP hD hA hS hE ls hl
  have F : CallFix pg mi cd cX6_stolen 3 z _ wsX6_stolen RX6 := F
  have hl : lv_has ls 3 [(0, .ref (a 0)), (1, .int (nI s))] := hl
  refine lv_aload_n F.1 F.2.1 dX6_stolen_0 rfl (lv_at hl 0 rfl) ?_
  refine lv_iload_n F.1 F.2.1 dX6_stolen_1 rfl (lv_at hl 1 rfl) ?_
  refine lv_iconst (v := 1) F.1 F.2.1 dX6_stolen_2 (by decide) ?_
  refine lv_iload_n F.1 F.2.1 dX6_stolen_3 rfl (lv_at hl 1 rfl) ?_
  refine lv_isub F.1 F.2.1 dX6_stolen_4 ?_
  refine tp (y := nI (1 - s)) (sb2 (a := 1) (b := s) (c := 1 - s) rfl rfl (by omega)) ?_
  refine iV (rest := []) (wsp := fun _ => oM a v :: [ai ct (a 1) 210 f]) F (kX6_valueFor l dC dI ct a v f s (1 - s) (by omega) (by omega)) gX6_stolen_X6_valueFor rfl ⟨rfl, rfl⟩ nmX6_valueFor ⟨Nat.le_of_ble_eq_true rfl, Nat.le_of_ble_eq_true rfl⟩ eT_b (fun _ _ _ => trivial) hK hP hD hS hA 0 rfl rfl rfl [0, 1] (by decide) rfl rfl rfl hl.1 (Nat.le_of_ble_eq_true rfl) dX6_stolen_5 ⟨Nat.zero_le _, Nat.zero_le _⟩ (fun _ => rfl) (fun _ => rfl) [a 0, a 1] rfl (fun _ => rfl) (fun r_5 u_5 H locs e_5 hP hD hS => ?_)
  obtain rfl := e_5
  refine lv_istore_n (lv' := [(2, .int (valU f s (1 - s) 5)), (0, .ref (a 0)), (1, .int (nI s))]) F.1 F.2.1 dX6_stolen_8 rfl hl (by decide) rfl (fun ls hl => ?_)
  refine lv_aload_n F.1 F.2.1 dX6_stolen_9 rfl (lv_at hl 1 rfl) ?_
  refine lv_iconst (v := 1) F.1 F.2.1 dX6_stolen_10 (by decide) ?_
  refine lv_iload_n F.1 F.2.1 dX6_stolen_11 rfl (lv_at hl 2 rfl) ?_
  refine lv_isub F.1 F.2.1 dX6_stolen_12 ?_
  refine tp (y := nI (1 - s)) (sb2 (a := 1) (b := s) (c := 1 - s) rfl rfl (by omega)) ?_
  refine lv_iload_n F.1 F.2.1 dX6_stolen_13 rfl (lv_at hl 2 rfl) ?_
  refine vV (rest := []) (wsp := fun _ => oM a v :: [ai ct (a 1) 210 (goU f (1 - s) s 5)]) F (kX6_goesHome l dC dI ct a v f (1 - s) s (by omega) (by omega)) gX6_stolen_X6_goesHome rfl ⟨rfl, rfl⟩ nmX6_goesHome ⟨Nat.le_of_ble_eq_true rfl, Nat.le_of_ble_eq_true rfl⟩ eT_b (fun _ _ _ => trivial) hK hP hD hS hA 0 rfl rfl rfl [0, 1] (by decide) rfl rfl rfl hl.1 (Nat.le_of_ble_eq_true rfl) dX6_stolen_14 ⟨Nat.zero_le _, Nat.zero_le _⟩ (fun _ => rfl) (fun _ => rfl) [a 0, a 1] rfl (fun _ => rfl) (fun u_14 H locs e_14 hP hD hS => ?_)
  refine lv_aload_n F.1 F.2.1 dX6_stolen_17 rfl (lv_at hl 1 rfl) ?_
  refine gf F hK hP 0 rfl rfl hiX6_stolen_6 0 (by decide) (List.mem_of_getElem? (i := 1) rfl) rfl dX6_stolen_18 ?_
  refine lv_iconst (v := 1) F.1 F.2.1 dX6_stolen_21 (by decide) ?_
  refine lv_iload_n F.1 F.2.1 dX6_stolen_22 rfl (lv_at hl 2 rfl) ?_
  refine lv_isub F.1 F.2.1 dX6_stolen_23 ?_
  refine tp (y := nI (1 - s)) (sb2 (a := 1) (b := s) (c := 1 - s) rfl rfl (by omega)) ?_
  refine lv_iconst (v := 1) F.1 F.2.1 dX6_stolen_24 (by decide) ?_
  refine iS (rest := [.ref (a 1)]) (wsp := fun _ => oM a v :: [ai ct (a 1) 210 (goU f (1 - s) s 5)]) F (kX6_at l dC dI ct (1 - s) 1 (21 + 17 * (1 - s)) (by omega)) gX6_stolen_X6_at rfl ⟨rfl, rfl⟩ nmX6_at ⟨Nat.le_of_ble_eq_true rfl, Nat.le_of_ble_eq_true rfl⟩ eT_b (fun _ _ _ => trivial) hK hP hD hS hA [] (by decide) rfl rfl rfl hl.1 (Nat.le_of_ble_eq_true rfl) dX6_stolen_25 ⟨Nat.zero_le _, Nat.zero_le _⟩ (fun _ => rfl) (fun _ => rfl) [a 0, a 1] rfl (fun _ => rfl) (fun r_25 u_25 H locs e_25 hP hD hS => ?_)
  obtain rfl := e_25
  refine lv_iconst (v := 0) F.1 F.2.1 dX6_stolen_28 (by decide) ?_
  refine ast (ws' := oM a v :: [ai ct (a 1) 210 (upd (goU f (1 - s) s 5) (21 + 17 * (1 - s)) 0)]) F hK hP hD hS 1 0 rfl rfl (21 + 17 * (1 - s)) rfl (by omega) (by decide) dX6_stolen_29 (weq.rf _) (fun H locs hP hD hS => ?_)
  refine lv_iload_n F.1 F.2.1 dX6_stolen_30 rfl (lv_at hl 0 rfl) ?_
  exact rtI () F hr hlk hP hS rfl rfl dX6_stolen_31

def rmX6_bookAt : Room := { frames := 0, cells := 0, slots := 0, locals := 0 }
theorem nmX6_bookAt : NmV yX6_bookAt RX6 2 := by unfold NmV; decide +kernel
set_option maxHeartbeats 4000000 in
set_option maxRecDepth 100000 in
theorem kX6_bookAt (l : Launch) (dC : Nat → ClassId) (dI : Nat → Nat → Nat) (ct : Nat → ClassId) (n j i : Nat) (hn : n < 2147483648) (hi : 54 + 13 * (n % 12) + j = i) : MI (S := Unit) l yX6_bookAt wsX6_bookAt rmX6_bookAt dC dI ct eT [.int (nI n), .int (nI j)] ([] : va_W) (fun _ => ([] : va_W)) (fun r _ => r = nI i) := by
  refine MI.of (cc := cX6_bookAt) (maxL := 2) (ret := (some .int)) (by decide) rfl (Nat.le_of_ble_eq_true rfl) ?_
  intro pg en z mi below meth cd A F hr hlk hin hK hP hD hA hS hE ls hl
  have F : CallFix pg mi cd cX6_bookAt 2 z _ wsX6_bookAt RX6 := F
  have hl : lv_has ls 2 [(0, .int (nI n)), (1, .int (nI j))] := hl
  refine lv_bipush (v := 54) F.1 F.2.1 dX6_bookAt_0 (by decide) ?_
  refine lv_bipush (v := 13) F.1 F.2.1 dX6_bookAt_2 (by decide) ?_
  refine lv_iload_n F.1 F.2.1 dX6_bookAt_4 rfl (lv_at hl 0 rfl) ?_
  refine lv_bipush (v := 12) F.1 F.2.1 dX6_bookAt_5 (by decide) ?_
  refine lv_irem F.1 F.2.1 dX6_bookAt_7 (by decide) ?_
  refine tp (y := nI (n % 12)) (pk_rem (d := 12) hn (by decide) (by decide)) ?_
  refine lv_imul F.1 F.2.1 dX6_bookAt_8 ?_
  refine tp (y := nI (13 * (n % 12))) (ml2 (a := 13) (b := (n % 12)) (c := 13 * (n % 12)) rfl rfl rfl) ?_
  refine lv_iadd F.1 F.2.1 dX6_bookAt_9 ?_
  refine tp (y := nI (54 + 13 * (n % 12))) (ad2 (a := 54) (b := 13 * (n % 12)) (c := 54 + 13 * (n % 12)) rfl rfl rfl) ?_
  refine lv_iload_n F.1 F.2.1 dX6_bookAt_10 rfl (lv_at hl 1 rfl) ?_
  refine lv_iadd F.1 F.2.1 dX6_bookAt_11 ?_
  refine tp (y := nI (54 + 13 * (n % 12) + j)) (ad2 (a := 54 + 13 * (n % 12)) (b := j) (c := 54 + 13 * (n % 12) + j) rfl rfl rfl) ?_
  exact rtI () F hr hlk hP hS rfl (by rw [hi]) dX6_bookAt_12

def rmX6_writeBook : Room := { frames := 2, cells := 0, slots := 0, locals := 43 }
theorem nmX6_writeBook : NmV yX6_writeBook RX6 2 := by unfold NmV; decide +kernel
theorem hiX6_writeBook_6 : ∀ w ∈ u_ws RX6 TX6 22, w ∈ wsX6_writeBook := by decide +kernel
set_option maxHeartbeats 4000000 in
set_option maxRecDepth 100000 in
theorem kX6_writeBook (l : Launch) (dC : Nat → ClassId) (dI : Nat → Nat → Nat) (ct : Nat → ClassId) (a : Nat → Nat) (v f : Nat → Int32) (s : Nat) (d : Int32) (hN : f 0 = nI (nN f)) (hs : s < 2) : MV (S := Unit) l yX6_writeBook wsX6_writeBook rmX6_writeBook dC dI ct eT [.ref (a 0), .int (nI s), .int d] (oM a v :: [ai ct (a 1) 210 f]) (fun _ => oM a v :: [ai ct (a 1) 210 (wbF f s d)]) (fun _ => True) := by
  refine MV.of (cc := cX6_writeBook) (maxL := 5) (ret := none) (by decide) rfl (Nat.le_of_ble_eq_true rfl) ?_
  intro pg en z mi below meth cd A F hr hlk hin hK hP hD hA hS hE ls hl
  have F : CallFix pg mi cd cX6_writeBook 5 z _ wsX6_writeBook RX6 := F
  have hl : lv_has ls 5 [(0, .ref (a 0)), (1, .int (nI s)), (2, .int d)] := hl
  have hnN := nN_lt f
  refine lv_aload_n F.1 F.2.1 dX6_writeBook_0 rfl (lv_at hl 0 rfl) ?_
  refine gf F hK hP 0 rfl rfl hiX6_writeBook_6 0 (by decide) (List.mem_of_getElem? (i := 1) rfl) rfl dX6_writeBook_1 ?_
  refine lv_iconst (v := 0) F.1 F.2.1 dX6_writeBook_4 (by decide) ?_
  refine al (v := f 0) F hK hP 1 0 rfl rfl 0 rfl (by omega) (by decide) rfl dX6_writeBook_5 ?_
  refine tp (y := nI (nN f)) hN ?_
  refine lv_istore_n (lv' := [(3, .int (nI (nN f))), (0, .ref (a 0)), (1, .int (nI s)), (2, .int d)]) F.1 F.2.1 dX6_writeBook_6 rfl hl (by decide) rfl (fun ls hl => ?_)
  refine lv_aload_n F.1 F.2.1 dX6_writeBook_7 rfl (lv_at hl 1 rfl) ?_
  refine gf F hK hP 0 rfl rfl hiX6_writeBook_6 0 (by decide) (List.mem_of_getElem? (i := 1) rfl) rfl dX6_writeBook_8 ?_
  refine lv_iload_n F.1 F.2.1 dX6_writeBook_11 rfl (lv_at hl 0 rfl) ?_
  refine lv_iconst (v := 0) F.1 F.2.1 dX6_writeBook_12 (by decide) ?_
  refine iS (rest := [.ref (a 1)]) (wsp := fun _ => oM a v :: [ai ct (a 1) 210 f]) F (kX6_bookAt l dC dI ct (nN f) 0 (54 + 13 * (nN f % 12)) (by omega) (by omega)) gX6_writeBook_X6_bookAt rfl ⟨rfl, rfl⟩ nmX6_bookAt ⟨Nat.le_of_ble_eq_true rfl, Nat.le_of_ble_eq_true rfl⟩ eT_b (fun _ _ _ => trivial) hK hP hD hS hA [] (by decide) rfl rfl rfl hl.1 (Nat.le_of_ble_eq_true rfl) dX6_writeBook_13 ⟨Nat.zero_le _, Nat.zero_le _⟩ (fun _ => rfl) (fun _ => rfl) [a 0, a 1] rfl (fun _ => rfl) (fun r_13 u_13 H locs e_13 hP hD hS => ?_)
  obtain rfl := e_13
  refine lv_iload_n F.1 F.2.1 dX6_writeBook_16 rfl (lv_at hl 3 rfl) ?_
  refine ast (ws' := oM a v :: [ai ct (a 1) 210 (upd f (54 + 13 * (nN f % 12)) d)]) F hK hP hD hS 1 0 rfl rfl (54 + 13 * (nN f % 12)) rfl (by omega) (by decide) dX6_writeBook_17 (weq.rf _) (fun H locs hP hD hS => ?_)
  refine lv_aload_n F.1 F.2.1 dX6_writeBook_18 rfl (lv_at hl 1 rfl) ?_
  refine gf F hK hP 0 rfl rfl hiX6_writeBook_6 0 (by decide) (List.mem_of_getElem? (i := 1) rfl) rfl dX6_writeBook_19 ?_
  refine lv_iload_n F.1 F.2.1 dX6_writeBook_22 rfl (lv_at hl 0 rfl) ?_
  refine lv_iconst (v := 1) F.1 F.2.1 dX6_writeBook_23 (by decide) ?_
  refine iS (rest := [.ref (a 1)]) (wsp := fun _ => oM a v :: [ai ct (a 1) 210 (upd f (54 + 13 * (nN f % 12)) d)]) F (kX6_bookAt l dC dI ct (nN f) 1 (55 + 13 * (nN f % 12)) (by omega) (by omega)) gX6_writeBook_X6_bookAt rfl ⟨rfl, rfl⟩ nmX6_bookAt ⟨Nat.le_of_ble_eq_true rfl, Nat.le_of_ble_eq_true rfl⟩ eT_b (fun _ _ _ => trivial) hK hP hD hS hA [] (by decide) rfl rfl rfl hl.1 (Nat.le_of_ble_eq_true rfl) dX6_writeBook_24 ⟨Nat.zero_le _, Nat.zero_le _⟩ (fun _ => rfl) (fun _ => rfl) [a 0, a 1] rfl (fun _ => rfl) (fun r_24 u_24 H locs e_24 hP hD hS => ?_)
  obtain rfl := e_24
  refine lv_aload_n F.1 F.2.1 dX6_writeBook_27 rfl (lv_at hl 1 rfl) ?_
  refine gf F hK hP 0 rfl rfl hiX6_writeBook_6 0 (by decide) (List.mem_of_getElem? (i := 1) rfl) rfl dX6_writeBook_28 ?_
  refine lv_iconst (v := 1) F.1 F.2.1 dX6_writeBook_31 (by decide) ?_
  refine al (v := (upd f (54 + 13 * (nN f % 12)) d) 1) F hK hP 1 0 rfl rfl 1 rfl (by omega) (by decide) rfl dX6_writeBook_32 ?_
  refine tp (y := f 1) (pk_un (by omega)) ?_
  refine ast (ws' := oM a v :: [ai ct (a 1) 210 (upd (upd f (54 + 13 * (nN f % 12)) d) (55 + 13 * (nN f % 12)) (f 1))]) F hK hP hD hS 1 0 rfl rfl (55 + 13 * (nN f % 12)) rfl (by omega) (by decide) dX6_writeBook_33 (weq.rf _) (fun H locs hP hD hS => ?_)
  refine lv_aload_n F.1 F.2.1 dX6_writeBook_34 rfl (lv_at hl 1 rfl) ?_
  refine gf F hK hP 0 rfl rfl hiX6_writeBook_6 0 (by decide) (List.mem_of_getElem? (i := 1) rfl) rfl dX6_writeBook_35 ?_
  refine lv_iload_n F.1 F.2.1 dX6_writeBook_38 rfl (lv_at hl 0 rfl) ?_
  refine lv_iconst (v := 2) F.1 F.2.1 dX6_writeBook_39 (by decide) ?_
  refine iS (rest := [.ref (a 1)]) (wsp := fun _ => oM a v :: [ai ct (a 1) 210 (upd (upd f (54 + 13 * (nN f % 12)) d) (55 + 13 * (nN f % 12)) (f 1))]) F (kX6_bookAt l dC dI ct (nN f) 2 (56 + 13 * (nN f % 12)) (by omega) (by omega)) gX6_writeBook_X6_bookAt rfl ⟨rfl, rfl⟩ nmX6_bookAt ⟨Nat.le_of_ble_eq_true rfl, Nat.le_of_ble_eq_true rfl⟩ eT_b (fun _ _ _ => trivial) hK hP hD hS hA [] (by decide) rfl rfl rfl hl.1 (Nat.le_of_ble_eq_true rfl) dX6_writeBook_40 ⟨Nat.zero_le _, Nat.zero_le _⟩ (fun _ => rfl) (fun _ => rfl) [a 0, a 1] rfl (fun _ => rfl) (fun r_40 u_40 H locs e_40 hP hD hS => ?_)
  obtain rfl := e_40
  refine lv_aload_n F.1 F.2.1 dX6_writeBook_43 rfl (lv_at hl 1 rfl) ?_
  refine lv_iload_n F.1 F.2.1 dX6_writeBook_44 rfl (lv_at hl 2 rfl) ?_
  refine lv_iconst (v := 1) F.1 F.2.1 dX6_writeBook_45 (by decide) ?_
  refine iV (rest := [.int (nI (56 + 13 * (nN f % 12))), .ref (a 1)]) (wsp := fun _ => oM a v :: [ai ct (a 1) 210 (upd (upd f (54 + 13 * (nN f % 12)) d) (55 + 13 * (nN f % 12)) (f 1))]) F (kX6_sideIs l dC dI ct a v (upd (upd f (54 + 13 * (nN f % 12)) d) (55 + 13 * (nN f % 12)) (f 1)) s 1 (21 + 17 * s) (by omega) (by omega)) gX6_writeBook_X6_sideIs rfl ⟨rfl, rfl⟩ nmX6_sideIs ⟨Nat.le_of_ble_eq_true rfl, Nat.le_of_ble_eq_true rfl⟩ eT_b (fun _ _ _ => trivial) hK hP hD hS hA 0 rfl rfl rfl [0, 1] (by decide) rfl rfl rfl hl.1 (Nat.le_of_ble_eq_true rfl) dX6_writeBook_46 ⟨Nat.zero_le _, Nat.zero_le _⟩ (fun _ => rfl) (fun _ => rfl) [a 0, a 1] rfl (fun _ => rfl) (fun r_46 u_46 H locs e_46 hP hD hS => ?_)
  obtain rfl := e_46
  refine tp (y := f (21 + 17 * s)) ((pk_un (by omega)).trans (pk_un (by omega))) ?_
  refine ast (ws' := oM a v :: [ai ct (a 1) 210 (upd (upd (upd f (54 + 13 * (nN f % 12)) d) (55 + 13 * (nN f % 12)) (f 1)) (56 + 13 * (nN f % 12)) (f (21 + 17 * s)))]) F hK hP hD hS 1 0 rfl rfl (56 + 13 * (nN f % 12)) rfl (by omega) (by decide) dX6_writeBook_49 (weq.rf _) (fun H locs hP hD hS => ?_)
  refine lv_iconst (v := 0) F.1 F.2.1 dX6_writeBook_50 (by decide) ?_
  refine lv_istore (lv' := [(4, .int 0), (3, .int (nI (nN f))), (0, .ref (a 0)), (1, .int (nI s)), (2, .int d)]) F.1 F.2.1 dX6_writeBook_51 hl (by decide) rfl (fun ls hl => ?_)
  refine loopN (I := fun k H locs ls => va_P (dC, dI) vwCl (oM a v :: [ai ct (a 1) 210 (wbU (upd (upd (upd f (54 + 13 * (nN f % 12)) d) (55 + 13 * (nN f % 12)) (f 1)) (56 + 13 * (nN f % 12)) (f (21 + 17 * s))) (54 + 13 * (nN f % 12)) k)]) H ∧ va_D A (oM a v :: [ai ct (a 1) 210 (wbU (upd (upd (upd f (54 + 13 * (nN f % 12)) d) (55 + 13 * (nN f % 12)) (f 1)) (56 + 13 * (nN f % 12)) (f (21 + 17 * s))) (54 + 13 * (nN f % 12)) k)]) ∧ va_S A z.heap H locs ∧ lv_has ls 5 [(4, .int (nI k)), (3, .int (nI (nN f))), (0, .ref (a 0)), (1, .int (nI s)), (2, .int d)]) 5 0 (by omega) ⟨hP, hD, hS, lv_sub hl [0, 1, 2, 3, 4] rfl⟩ (fun H locs ls hI => ?_) (fun k hk_k H locs ls hI ih_53 => ?_)
  · obtain ⟨hP, hD, hS, hl⟩ := hI
    refine lv_iload F.1 F.2.1 dX6_writeBook_53 (lv_at hl 0 rfl) ?_
    refine lv_iconst (v := 5) F.1 F.2.1 dX6_writeBook_55 (by decide) ?_
    refine lv_icmp_ge (tgt := 112) F.1 F.2.1 dX6_writeBook_56 (by decide) (fun c_56 => ?_) (fun c_56 => ?_)
    · exact rtV () F hr hlk hP hS rfl trivial dX6_writeBook_112
    · exact absurd (nI_le (Nat.le_refl _) (by decide)) c_56
  · obtain ⟨hP, hD, hS, hl⟩ := hI
    refine lv_iload F.1 F.2.1 dX6_writeBook_53 (lv_at hl 0 rfl) ?_
    refine lv_iconst (v := 5) F.1 F.2.1 dX6_writeBook_55 (by decide) ?_
    refine lv_icmp_ge (tgt := 112) F.1 F.2.1 dX6_writeBook_56 (by decide) (fun c_56 => ?_) (fun c_56 => ?_)
    · exact absurd c_56 (nI_ge hk_k (by decide))
    · refine lv_aload_n F.1 F.2.1 dX6_writeBook_59 rfl (lv_at hl 2 rfl) ?_
      refine gf F hK hP 0 rfl rfl hiX6_writeBook_6 0 (by decide) (List.mem_of_getElem? (i := 1) rfl) rfl dX6_writeBook_60 ?_
      refine lv_iload_n F.1 F.2.1 dX6_writeBook_63 rfl (lv_at hl 1 rfl) ?_
      refine lv_iconst (v := 3) F.1 F.2.1 dX6_writeBook_64 (by decide) ?_
      refine lv_iload F.1 F.2.1 dX6_writeBook_65 (lv_at hl 0 rfl) ?_
      refine lv_iadd F.1 F.2.1 dX6_writeBook_67 ?_
      refine tp (y := nI (3 + k)) (ad2 (a := 3) (b := k) (c := 3 + k) rfl rfl rfl) ?_
      refine iS (rest := [.ref (a 1)]) (wsp := fun _ => oM a v :: [ai ct (a 1) 210 (wbU (upd (upd (upd f (54 + 13 * (nN f % 12)) d) (55 + 13 * (nN f % 12)) (f 1)) (56 + 13 * (nN f % 12)) (f (21 + 17 * s))) (54 + 13 * (nN f % 12)) k)]) F (kX6_bookAt l dC dI ct (nN f) (3 + k) (54 + 13 * (nN f % 12) + 3 + k) (by omega) (by omega)) gX6_writeBook_X6_bookAt rfl ⟨rfl, rfl⟩ nmX6_bookAt ⟨Nat.le_of_ble_eq_true rfl, Nat.le_of_ble_eq_true rfl⟩ eT_b (fun _ _ _ => trivial) hK hP hD hS hA [] (by decide) rfl rfl rfl hl.1 (Nat.le_of_ble_eq_true rfl) dX6_writeBook_68 ⟨Nat.zero_le _, Nat.zero_le _⟩ (fun _ => rfl) (fun _ => rfl) [a 0, a 1] rfl (fun _ => rfl) (fun r_68 u_68 H locs e_68 hP hD hS => ?_)
      obtain rfl := e_68
      refine lv_aload_n F.1 F.2.1 dX6_writeBook_71 rfl (lv_at hl 2 rfl) ?_
      refine lv_iconst (v := 0) F.1 F.2.1 dX6_writeBook_72 (by decide) ?_
      refine lv_bipush (v := 7) F.1 F.2.1 dX6_writeBook_73 (by decide) ?_
      refine lv_iload F.1 F.2.1 dX6_writeBook_75 (lv_at hl 0 rfl) ?_
      refine lv_iadd F.1 F.2.1 dX6_writeBook_77 ?_
      refine tp (y := nI (7 + k)) (ad2 (a := 7) (b := k) (c := 7 + k) rfl rfl rfl) ?_
      refine iV (rest := [.int (nI (54 + 13 * (nN f % 12) + 3 + k)), .ref (a 1)]) (wsp := fun _ => oM a v :: [ai ct (a 1) 210 (wbU (upd (upd (upd f (54 + 13 * (nN f % 12)) d) (55 + 13 * (nN f % 12)) (f 1)) (56 + 13 * (nN f % 12)) (f (21 + 17 * s))) (54 + 13 * (nN f % 12)) k)]) F (kX6_sideIs l dC dI ct a v (wbU (upd (upd (upd f (54 + 13 * (nN f % 12)) d) (55 + 13 * (nN f % 12)) (f 1)) (56 + 13 * (nN f % 12)) (f (21 + 17 * s))) (54 + 13 * (nN f % 12)) k) 0 (7 + k) (27 + k) (by omega) (by omega)) gX6_writeBook_X6_sideIs rfl ⟨rfl, rfl⟩ nmX6_sideIs ⟨Nat.le_of_ble_eq_true rfl, Nat.le_of_ble_eq_true rfl⟩ eT_b (fun _ _ _ => trivial) hK hP hD hS hA 0 rfl rfl rfl [0, 1] (by decide) rfl rfl rfl hl.1 (Nat.le_of_ble_eq_true rfl) dX6_writeBook_78 ⟨Nat.zero_le _, Nat.zero_le _⟩ (fun _ => rfl) (fun _ => rfl) [a 0, a 1] rfl (fun _ => rfl) (fun r_78 u_78 H locs e_78 hP hD hS => ?_)
      obtain rfl := e_78
      refine ast (ws' := oM a v :: [ai ct (a 1) 210 (upd (wbU (upd (upd (upd f (54 + 13 * (nN f % 12)) d) (55 + 13 * (nN f % 12)) (f 1)) (56 + 13 * (nN f % 12)) (f (21 + 17 * s))) (54 + 13 * (nN f % 12)) k) (54 + 13 * (nN f % 12) + 3 + k) ((wbU (upd (upd (upd f (54 + 13 * (nN f % 12)) d) (55 + 13 * (nN f % 12)) (f 1)) (56 + 13 * (nN f % 12)) (f (21 + 17 * s))) (54 + 13 * (nN f % 12)) k) (27 + k)))]) F hK hP hD hS 1 0 rfl rfl (54 + 13 * (nN f % 12) + 3 + k) rfl (by omega) (by decide) dX6_writeBook_81 (weq.rf _) (fun H locs hP hD hS => ?_)
      refine lv_aload_n F.1 F.2.1 dX6_writeBook_82 rfl (lv_at hl 2 rfl) ?_
      refine gf F hK hP 0 rfl rfl hiX6_writeBook_6 0 (by decide) (List.mem_of_getElem? (i := 1) rfl) rfl dX6_writeBook_83 ?_
      refine lv_iload_n F.1 F.2.1 dX6_writeBook_86 rfl (lv_at hl 1 rfl) ?_
      refine lv_bipush (v := 8) F.1 F.2.1 dX6_writeBook_87 (by decide) ?_
      refine lv_iload F.1 F.2.1 dX6_writeBook_89 (lv_at hl 0 rfl) ?_
      refine lv_iadd F.1 F.2.1 dX6_writeBook_91 ?_
      refine tp (y := nI (8 + k)) (ad2 (a := 8) (b := k) (c := 8 + k) rfl rfl rfl) ?_
      refine iS (rest := [.ref (a 1)]) (wsp := fun _ => oM a v :: [ai ct (a 1) 210 (upd (wbU (upd (upd (upd f (54 + 13 * (nN f % 12)) d) (55 + 13 * (nN f % 12)) (f 1)) (56 + 13 * (nN f % 12)) (f (21 + 17 * s))) (54 + 13 * (nN f % 12)) k) (54 + 13 * (nN f % 12) + 3 + k) ((wbU (upd (upd (upd f (54 + 13 * (nN f % 12)) d) (55 + 13 * (nN f % 12)) (f 1)) (56 + 13 * (nN f % 12)) (f (21 + 17 * s))) (54 + 13 * (nN f % 12)) k) (27 + k)))]) F (kX6_bookAt l dC dI ct (nN f) (8 + k) (54 + 13 * (nN f % 12) + 8 + k) (by omega) (by omega)) gX6_writeBook_X6_bookAt rfl ⟨rfl, rfl⟩ nmX6_bookAt ⟨Nat.le_of_ble_eq_true rfl, Nat.le_of_ble_eq_true rfl⟩ eT_b (fun _ _ _ => trivial) hK hP hD hS hA [] (by decide) rfl rfl rfl hl.1 (Nat.le_of_ble_eq_true rfl) dX6_writeBook_92 ⟨Nat.zero_le _, Nat.zero_le _⟩ (fun _ => rfl) (fun _ => rfl) [a 0, a 1] rfl (fun _ => rfl) (fun r_92 u_92 H locs e_92 hP hD hS => ?_)
      obtain rfl := e_92
      refine lv_aload_n F.1 F.2.1 dX6_writeBook_95 rfl (lv_at hl 2 rfl) ?_
      refine lv_iconst (v := 1) F.1 F.2.1 dX6_writeBook_96 (by decide) ?_
      refine lv_bipush (v := 7) F.1 F.2.1 dX6_writeBook_97 (by decide) ?_
      refine lv_iload F.1 F.2.1 dX6_writeBook_99 (lv_at hl 0 rfl) ?_
      refine lv_iadd F.1 F.2.1 dX6_writeBook_101 ?_
      refine tp (y := nI (7 + k)) (ad2 (a := 7) (b := k) (c := 7 + k) rfl rfl rfl) ?_
      refine iV (rest := [.int (nI (54 + 13 * (nN f % 12) + 8 + k)), .ref (a 1)]) (wsp := fun _ => oM a v :: [ai ct (a 1) 210 (upd (wbU (upd (upd (upd f (54 + 13 * (nN f % 12)) d) (55 + 13 * (nN f % 12)) (f 1)) (56 + 13 * (nN f % 12)) (f (21 + 17 * s))) (54 + 13 * (nN f % 12)) k) (54 + 13 * (nN f % 12) + 3 + k) ((wbU (upd (upd (upd f (54 + 13 * (nN f % 12)) d) (55 + 13 * (nN f % 12)) (f 1)) (56 + 13 * (nN f % 12)) (f (21 + 17 * s))) (54 + 13 * (nN f % 12)) k) (27 + k)))]) F (kX6_sideIs l dC dI ct a v (upd (wbU (upd (upd (upd f (54 + 13 * (nN f % 12)) d) (55 + 13 * (nN f % 12)) (f 1)) (56 + 13 * (nN f % 12)) (f (21 + 17 * s))) (54 + 13 * (nN f % 12)) k) (54 + 13 * (nN f % 12) + 3 + k) ((wbU (upd (upd (upd f (54 + 13 * (nN f % 12)) d) (55 + 13 * (nN f % 12)) (f 1)) (56 + 13 * (nN f % 12)) (f (21 + 17 * s))) (54 + 13 * (nN f % 12)) k) (27 + k))) 1 (7 + k) (44 + k) (by omega) (by omega)) gX6_writeBook_X6_sideIs rfl ⟨rfl, rfl⟩ nmX6_sideIs ⟨Nat.le_of_ble_eq_true rfl, Nat.le_of_ble_eq_true rfl⟩ eT_b (fun _ _ _ => trivial) hK hP hD hS hA 0 rfl rfl rfl [0, 1] (by decide) rfl rfl rfl hl.1 (Nat.le_of_ble_eq_true rfl) dX6_writeBook_102 ⟨Nat.zero_le _, Nat.zero_le _⟩ (fun _ => rfl) (fun _ => rfl) [a 0, a 1] rfl (fun _ => rfl) (fun r_102 u_102 H locs e_102 hP hD hS => ?_)
      obtain rfl := e_102
      refine tp (y := (wbU (upd (upd (upd f (54 + 13 * (nN f % 12)) d) (55 + 13 * (nN f % 12)) (f 1)) (56 + 13 * (nN f % 12)) (f (21 + 17 * s))) (54 + 13 * (nN f % 12)) k) (44 + k)) (pk_un (by omega)) ?_
      refine ast (ws' := oM a v :: [ai ct (a 1) 210 (upd (upd (wbU (upd (upd (upd f (54 + 13 * (nN f % 12)) d) (55 + 13 * (nN f % 12)) (f 1)) (56 + 13 * (nN f % 12)) (f (21 + 17 * s))) (54 + 13 * (nN f % 12)) k) (54 + 13 * (nN f % 12) + 3 + k) ((wbU (upd (upd (upd f (54 + 13 * (nN f % 12)) d) (55 + 13 * (nN f % 12)) (f 1)) (56 + 13 * (nN f % 12)) (f (21 + 17 * s))) (54 + 13 * (nN f % 12)) k) (27 + k))) (54 + 13 * (nN f % 12) + 8 + k) ((wbU (upd (upd (upd f (54 + 13 * (nN f % 12)) d) (55 + 13 * (nN f % 12)) (f 1)) (56 + 13 * (nN f % 12)) (f (21 + 17 * s))) (54 + 13 * (nN f % 12)) k) (44 + k)))]) F hK hP hD hS 1 0 rfl rfl (54 + 13 * (nN f % 12) + 8 + k) rfl (by omega) (by decide) dX6_writeBook_105 (weq.rf _) (fun H locs hP hD hS => ?_)
      refine lv_iinc (v := nI (k + 1)) (lv' := [(4, .int (nI (k + 1))), (3, .int (nI (nN f))), (0, .ref (a 0)), (1, .int (nI s)), (2, .int d)]) F.1 F.2.1 dX6_writeBook_106 hl (k := 0) rfl (by rw [show Int32.ofInt 1 = nI 1 from rfl, nI_add]) (by decide) rfl (fun ls hl => ?_)
      refine lv_goto (tgt := 53) F.1 F.2.1 dX6_writeBook_109 (by decide) ?_
      exact ih_53 _ _ _ ⟨hP, hD, hS, lv_sub hl [0, 1, 2, 3, 4] rfl⟩

def rmX6_birds : Room := { frames := 2, cells := 0, slots := 0, locals := 44 }
theorem nmX6_birds : NmV yX6_birds RX6 1 := by unfold NmV; decide +kernel
theorem hiX6_birds_6 : ∀ w ∈ u_ws RX6 TX6 22, w ∈ wsX6_birds := by decide +kernel
set_option maxHeartbeats 4000000 in
set_option maxRecDepth 100000 in
theorem kX6_birds (l : Launch) (dC : Nat → ClassId) (dI : Nat → Nat → Nat) (ct : Nat → ClassId) (a : Nat → Nat) (v f : Nat → Int32) (s : Nat) (hs : s < 2) : MV (S := Unit) l yX6_birds wsX6_birds rmX6_birds dC dI ct eT [.ref (a 0), .int (nI s)] (oM a v :: [ai ct (a 1) 210 f]) (fun _ => oM a v :: [ai ct (a 1) 210 (birU f s 5)]) (fun _ => True) := by
  refine MV.of (cc := cX6_birds) (maxL := 4) (ret := none) (by decide) rfl (Nat.le_of_ble_eq_true rfl) ?_
  intro pg en z mi below meth cd A F hr hlk hin hK hP hD hA hS hE ls hl
  have F : CallFix pg mi cd cX6_birds 4 z _ wsX6_birds RX6 := F
  have hl : lv_has ls 4 [(0, .ref (a 0)), (1, .int (nI s))] := hl
  refine lv_iconst (v := 0) F.1 F.2.1 dX6_birds_0 (by decide) ?_
  refine lv_istore_n (lv' := [(2, .int 0), (0, .ref (a 0)), (1, .int (nI s))]) F.1 F.2.1 dX6_birds_1 rfl hl (by decide) rfl (fun ls hl => ?_)
  refine loopN (I := fun k H locs ls => va_P (dC, dI) vwCl (oM a v :: [ai ct (a 1) 210 (birU f s k)]) H ∧ va_D A (oM a v :: [ai ct (a 1) 210 (birU f s k)]) ∧ va_S A z.heap H locs ∧ lv_has ls 4 [(2, .int (nI k)), (0, .ref (a 0)), (1, .int (nI s))]) 5 0 (by omega) ⟨hP, hD, hS, lv_sub hl [0, 1, 2] rfl⟩ (fun H locs ls hI => ?_) (fun k hk_k H locs ls hI ih_2 => ?_)
  · obtain ⟨hP, hD, hS, hl⟩ := hI
    refine lv_iload_n F.1 F.2.1 dX6_birds_2 rfl (lv_at hl 0 rfl) ?_
    refine lv_iconst (v := 5) F.1 F.2.1 dX6_birds_3 (by decide) ?_
    refine lv_icmp_ge (tgt := 55) F.1 F.2.1 dX6_birds_4 (by decide) (fun c_4 => ?_) (fun c_4 => ?_)
    · exact rtV () F hr hlk hP hS rfl trivial dX6_birds_55
    · exact absurd (nI_le (Nat.le_refl _) (by decide)) c_4
  · obtain ⟨hP, hD, hS, hl⟩ := hI
    refine lv_iload_n F.1 F.2.1 dX6_birds_2 rfl (lv_at hl 0 rfl) ?_
    refine lv_iconst (v := 5) F.1 F.2.1 dX6_birds_3 (by decide) ?_
    refine lv_icmp_ge (tgt := 55) F.1 F.2.1 dX6_birds_4 (by decide) (fun c_4 => ?_) (fun c_4 => ?_)
    · exact absurd c_4 (nI_ge hk_k (by decide))
    · refine lv_aload_n F.1 F.2.1 dX6_birds_7 rfl (lv_at hl 1 rfl) ?_
      refine lv_iload_n F.1 F.2.1 dX6_birds_8 rfl (lv_at hl 0 rfl) ?_
      refine lv_aload_n F.1 F.2.1 dX6_birds_9 rfl (lv_at hl 1 rfl) ?_
      refine lv_iload_n F.1 F.2.1 dX6_birds_10 rfl (lv_at hl 2 rfl) ?_
      refine lv_bipush (v := 7) F.1 F.2.1 dX6_birds_11 (by decide) ?_
      refine lv_iload_n F.1 F.2.1 dX6_birds_13 rfl (lv_at hl 0 rfl) ?_
      refine lv_iadd F.1 F.2.1 dX6_birds_14 ?_
      refine tp (y := nI (7 + k)) (ad2 (a := 7) (b := k) (c := 7 + k) rfl rfl rfl) ?_
      refine iV (rest := [.int (nI k), .ref (a 0)]) (wsp := fun _ => oM a v :: [ai ct (a 1) 210 (birU f s k)]) F (kX6_sideIs l dC dI ct a v (birU f s k) s (7 + k) (27 + 17 * s + k) (by omega) (by omega)) gX6_birds_X6_sideIs rfl ⟨rfl, rfl⟩ nmX6_sideIs ⟨Nat.le_of_ble_eq_true rfl, Nat.le_of_ble_eq_true rfl⟩ eT_b (fun _ _ _ => trivial) hK hP hD hS hA 0 rfl rfl rfl [0, 1] (by decide) rfl rfl rfl hl.1 (Nat.le_of_ble_eq_true rfl) dX6_birds_15 ⟨Nat.zero_le _, Nat.zero_le _⟩ (fun _ => rfl) (fun _ => rfl) [a 0, a 1] rfl (fun _ => rfl) (fun r_15 u_15 H locs e_15 hP hD hS => ?_)
      obtain rfl := e_15
      refine iV (rest := []) (wsp := fun _ => oM a v :: [ai ct (a 1) 210 (birU f s k)]) F (kX6_eatenOf l dC dI ct a v (birU f s k) k ((birU f s k) (27 + 17 * s + k)) (by omega)) gX6_birds_X6_eatenOf rfl ⟨rfl, rfl⟩ nmX6_eatenOf ⟨Nat.le_of_ble_eq_true rfl, Nat.le_of_ble_eq_true rfl⟩ eT_b (fun _ _ _ => trivial) hK hP hD hS hA 0 rfl rfl rfl [0, 1] (by decide) rfl rfl rfl hl.1 (Nat.le_of_ble_eq_true rfl) dX6_birds_18 ⟨Nat.zero_le _, Nat.zero_le _⟩ (fun _ => rfl) (fun _ => rfl) [a 0, a 1] rfl (fun _ => rfl) (fun r_18 u_18 H locs e_18 hP hD hS => ?_)
      obtain rfl := e_18
      refine lv_istore_n (lv' := [(3, .int (eat ((birU f s k) (15 + k)) ((birU f s k) 1) ((birU f s k) (27 + 17 * s + k)))), (2, .int (nI k)), (0, .ref (a 0)), (1, .int (nI s))]) F.1 F.2.1 dX6_birds_21 rfl hl (by decide) rfl (fun ls hl => ?_)
      refine lv_aload_n F.1 F.2.1 dX6_birds_22 rfl (lv_at hl 2 rfl) ?_
      refine gf F hK hP 0 rfl rfl hiX6_birds_6 0 (by decide) (List.mem_of_getElem? (i := 1) rfl) rfl dX6_birds_23 ?_
      refine lv_iload_n F.1 F.2.1 dX6_birds_26 rfl (lv_at hl 3 rfl) ?_
      refine lv_bipush (v := 7) F.1 F.2.1 dX6_birds_27 (by decide) ?_
      refine lv_iload_n F.1 F.2.1 dX6_birds_29 rfl (lv_at hl 1 rfl) ?_
      refine lv_iadd F.1 F.2.1 dX6_birds_30 ?_
      refine tp (y := nI (7 + k)) (ad2 (a := 7) (b := k) (c := 7 + k) rfl rfl rfl) ?_
      refine iS (rest := [.ref (a 1)]) (wsp := fun _ => oM a v :: [ai ct (a 1) 210 (birU f s k)]) F (kX6_at l dC dI ct s (7 + k) (27 + 17 * s + k) (by omega)) gX6_birds_X6_at rfl ⟨rfl, rfl⟩ nmX6_at ⟨Nat.le_of_ble_eq_true rfl, Nat.le_of_ble_eq_true rfl⟩ eT_b (fun _ _ _ => trivial) hK hP hD hS hA [] (by decide) rfl rfl rfl hl.1 (Nat.le_of_ble_eq_true rfl) dX6_birds_31 ⟨Nat.zero_le _, Nat.zero_le _⟩ (fun _ => rfl) (fun _ => rfl) [a 0, a 1] rfl (fun _ => rfl) (fun r_31 u_31 H locs e_31 hP hD hS => ?_)
      obtain rfl := e_31
      refine lv_dup2_11 F.1 F.2.1 dX6_birds_34 rfl rfl ?_
      refine al (v := (birU f s k) (27 + 17 * s + k)) F hK hP 1 0 rfl rfl (27 + 17 * s + k) rfl (by omega) (by decide) rfl dX6_birds_35 ?_
      refine lv_iload_n F.1 F.2.1 dX6_birds_36 rfl (lv_at hl 0 rfl) ?_
      refine lv_isub F.1 F.2.1 dX6_birds_37 ?_
      refine ast (ws' := oM a v :: [ai ct (a 1) 210 (upd (birU f s k) (27 + 17 * s + k) (((birU f s k) (27 + 17 * s + k)) - (eat ((birU f s k) (15 + k)) ((birU f s k) 1) ((birU f s k) (27 + 17 * s + k)))))]) F hK hP hD hS 1 0 rfl rfl (27 + 17 * s + k) rfl (by omega) (by decide) dX6_birds_38 (weq.rf _) (fun H locs hP hD hS => ?_)
      refine lv_aload_n F.1 F.2.1 dX6_birds_39 rfl (lv_at hl 2 rfl) ?_
      refine gf F hK hP 0 rfl rfl hiX6_birds_6 0 (by decide) (List.mem_of_getElem? (i := 1) rfl) rfl dX6_birds_40 ?_
      refine lv_iconst (v := 3) F.1 F.2.1 dX6_birds_43 (by decide) ?_
      refine lv_dup2_11 F.1 F.2.1 dX6_birds_44 rfl rfl ?_
      refine al (v := (upd (birU f s k) (27 + 17 * s + k) (((birU f s k) (27 + 17 * s + k)) - (eat ((birU f s k) (15 + k)) ((birU f s k) 1) ((birU f s k) (27 + 17 * s + k))))) 3) F hK hP 1 0 rfl rfl 3 rfl (by omega) (by decide) rfl dX6_birds_45 ?_
      refine tp (y := birU f s k 3) (pk_un (by omega)) ?_
      refine lv_iload_n F.1 F.2.1 dX6_birds_46 rfl (lv_at hl 0 rfl) ?_
      refine lv_iadd F.1 F.2.1 dX6_birds_47 ?_
      refine ast (ws' := oM a v :: [ai ct (a 1) 210 (upd (upd (birU f s k) (27 + 17 * s + k) (((birU f s k) (27 + 17 * s + k)) - (eat ((birU f s k) (15 + k)) ((birU f s k) 1) ((birU f s k) (27 + 17 * s + k))))) 3 ((birU f s k 3) + (eat ((birU f s k) (15 + k)) ((birU f s k) 1) ((birU f s k) (27 + 17 * s + k)))))]) F hK hP hD hS 1 0 rfl rfl 3 rfl (by omega) (by decide) dX6_birds_48 (weq.rf _) (fun H locs hP hD hS => ?_)
      refine lv_iinc (v := nI (k + 1)) (lv' := [(2, .int (nI (k + 1))), (3, .int (eat ((birU f s k) (15 + k)) ((birU f s k) 1) ((birU f s k) (27 + 17 * s + k)))), (0, .ref (a 0)), (1, .int (nI s))]) F.1 F.2.1 dX6_birds_49 hl (k := 1) rfl (by rw [show Int32.ofInt 1 = nI 1 from rfl, nI_add]) (by decide) rfl (fun ls hl => ?_)
      refine lv_goto (tgt := 2) F.1 F.2.1 dX6_birds_52 (by decide) ?_
      exact ih_2 _ _ _ ⟨hP, hD, hS, lv_sub hl [0, 2, 3] rfl⟩
