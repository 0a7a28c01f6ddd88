def rmX6_mayLay : Room := { frames := 2, cells := 0, slots := 0, locals := 43 }
theorem nmX6_mayLay : NmV yX6_mayLay RX6 3 := by unfold NmV; decide +kernel
set_option maxHeartbeats 4000000 in
set_option maxRecDepth 100000 in
theorem kX6_mayLay (l : Launch) (dC : Nat → ClassId) (dI : Nat → Nat → Nat) (ct : Nat → ClassId) (a : Nat → Nat) (v f : Nat → Int32) (s t : Nat) (n : Int32) (hs : s < 2) (ht : t < 5) : MI (S := Unit) l yX6_mayLay wsX6_mayLay rmX6_mayLay dC dI ct eT [.ref (a 0), .int (nI s), .int (nI t), .int n] (oM a v :: [ai ct (a 1) 210 f]) (fun _ => oM a v :: [ai ct (a 1) 210 f]) (fun r _ => r = if may f s t n then 1 else 0) := by
  refine MI.of (cc := cX6_mayLay) (maxL := 4) (ret := (some .boolean)) (by decide) rfl (Nat.le_of_ble_eq_true rfl) ?_
  intro pg en z mi below meth cd A F hr hlk hin hK hP hD hA hS hE ls hl
  have F : CallFix pg mi cd cX6_mayLay 4 z _ wsX6_mayLay RX6 := F
  have hl : lv_has ls 4 [(0, .ref (a 0)), (1, .int (nI s)), (2, .int (nI t)), (3, .int n)] := hl
  refine lv_aload_n F.1 F.2.1 dX6_mayLay_0 rfl (lv_at hl 0 rfl) ?_
  refine lv_iload_n F.1 F.2.1 dX6_mayLay_1 rfl (lv_at hl 1 rfl) ?_
  refine lv_iconst (v := 2) F.1 F.2.1 dX6_mayLay_2 (by decide) ?_
  refine lv_iload_n F.1 F.2.1 dX6_mayLay_3 rfl (lv_at hl 2 rfl) ?_
  refine lv_iadd F.1 F.2.1 dX6_mayLay_4 ?_
  refine tp (y := nI (2 + t)) (ad2 (a := 2) (b := t) (c := 2 + t) rfl rfl rfl) ?_
  refine iV (rest := []) (wsp := fun _ => oM a v :: [ai ct (a 1) 210 f]) F (kX6_sideIs l dC dI ct a v f s (2 + t) (22 + 17 * s + t) (by omega) (by omega)) gX6_mayLay_X6_sideIs rfl ⟨rfl, rfl⟩ nmX6_sideIs ⟨Nat.le_of_ble_eq_true rfl, Nat.le_of_ble_eq_true rfl⟩ eT_b (fun _ _ _ => trivial) hK hP hD hS hA 0 rfl rfl rfl [0, 1] (by decide) rfl rfl rfl hl.1 (Nat.le_of_ble_eq_true rfl) dX6_mayLay_5 ⟨Nat.zero_le _, Nat.zero_le _⟩ (fun _ => rfl) (fun _ => rfl) [a 0, a 1] rfl (fun _ => rfl) (fun r_5 u_5 H locs e_5 hP hD hS => ?_)
  obtain rfl := e_5
  refine lv_iload_n F.1 F.2.1 dX6_mayLay_8 rfl (lv_at hl 3 rfl) ?_
  refine lv_icmp_lt (tgt := 41) F.1 F.2.1 dX6_mayLay_9 (by decide) (fun c_9 => ?_) (fun c_9 => ?_)
  · refine lv_iconst (v := 0) F.1 F.2.1 dX6_mayLay_41 (by decide) ?_
    exact rtZ () F hr hlk hP hS rfl (by simp [may, c_9, Int32.not_le.mpr c_9]) (Or.inl rfl) dX6_mayLay_42
  · refine lv_aload_n F.1 F.2.1 dX6_mayLay_12 rfl (lv_at hl 0 rfl) ?_
    refine lv_iload_n F.1 F.2.1 dX6_mayLay_13 rfl (lv_at hl 1 rfl) ?_
    refine lv_iconst (v := 1) F.1 F.2.1 dX6_mayLay_14 (by decide) ?_
    refine iV (rest := []) (wsp := fun _ => oM a v :: [ai ct (a 1) 210 f]) F (kX6_sideIs l dC dI ct a v f s 1 (21 + 17 * s) (by omega) (by omega)) gX6_mayLay_X6_sideIs rfl ⟨rfl, rfl⟩ nmX6_sideIs ⟨Nat.le_of_ble_eq_true rfl, Nat.le_of_ble_eq_true rfl⟩ eT_b (fun _ _ _ => trivial) hK hP hD hS hA 0 rfl rfl rfl [0, 1] (by decide) rfl rfl rfl hl.1 (Nat.le_of_ble_eq_true rfl) dX6_mayLay_15 ⟨Nat.zero_le _, Nat.zero_le _⟩ (fun _ => rfl) (fun _ => rfl) [a 0, a 1] rfl (fun _ => rfl) (fun r_15 u_15 H locs e_15 hP hD hS => ?_)
    obtain rfl := e_15
    refine lv_if_le (tgt := 41) F.1 F.2.1 dX6_mayLay_18 (by decide) (fun c_18 => ?_) (fun c_18 => ?_)
    · refine lv_iconst (v := 0) F.1 F.2.1 dX6_mayLay_41 (by decide) ?_
      exact rtZ () F hr hlk hP hS rfl (by simp [may, c_9, c_18, Int32.not_lt.mp c_9, Int32.not_lt.mpr c_18]) (Or.inl rfl) dX6_mayLay_42
    · refine lv_aload_n F.1 F.2.1 dX6_mayLay_21 rfl (lv_at hl 0 rfl) ?_
      refine lv_iload_n F.1 F.2.1 dX6_mayLay_22 rfl (lv_at hl 1 rfl) ?_
      refine lv_bipush (v := 7) F.1 F.2.1 dX6_mayLay_23 (by decide) ?_
      refine lv_iload_n F.1 F.2.1 dX6_mayLay_25 rfl (lv_at hl 2 rfl) ?_
      refine lv_iadd F.1 F.2.1 dX6_mayLay_26 ?_
      refine tp (y := nI (7 + t)) (ad2 (a := 7) (b := t) (c := 7 + t) rfl rfl rfl) ?_
      refine iV (rest := []) (wsp := fun _ => oM a v :: [ai ct (a 1) 210 f]) F (kX6_sideIs l dC dI ct a v f s (7 + t) (27 + 17 * s + t) (by omega) (by omega)) gX6_mayLay_X6_sideIs rfl ⟨rfl, rfl⟩ nmX6_sideIs ⟨Nat.le_of_ble_eq_true rfl, Nat.le_of_ble_eq_true rfl⟩ eT_b (fun _ _ _ => trivial) hK hP hD hS hA 0 rfl rfl rfl [0, 1] (by decide) rfl rfl rfl hl.1 (Nat.le_of_ble_eq_true rfl) dX6_mayLay_27 ⟨Nat.zero_le _, Nat.zero_le _⟩ (fun _ => rfl) (fun _ => rfl) [a 0, a 1] rfl (fun _ => rfl) (fun r_27 u_27 H locs e_27 hP hD hS => ?_)
      obtain rfl := e_27
      refine lv_iload_n F.1 F.2.1 dX6_mayLay_30 rfl (lv_at hl 3 rfl) ?_
      refine lv_iadd F.1 F.2.1 dX6_mayLay_31 ?_
      refine lv_bipush (v := 99) F.1 F.2.1 dX6_mayLay_32 (by decide) ?_
      refine lv_icmp_gt (tgt := 41) F.1 F.2.1 dX6_mayLay_34 (by decide) (fun c_34 => ?_) (fun c_34 => ?_)
      · refine lv_iconst (v := 0) F.1 F.2.1 dX6_mayLay_41 (by decide) ?_
        exact rtZ () F hr hlk hP hS rfl (by simp [may, c_9, c_18, c_34, Int32.not_lt.mp c_9, Int32.not_le.mp c_18, Int32.not_le.mpr c_34]) (Or.inl rfl) dX6_mayLay_42
      · refine lv_iconst (v := 1) F.1 F.2.1 dX6_mayLay_37 (by decide) ?_
        refine lv_goto (tgt := 42) F.1 F.2.1 dX6_mayLay_38 (by decide) ?_
        exact rtZ () F hr hlk hP hS rfl (by simp [may, c_9, c_18, c_34, Int32.not_lt.mp c_9, Int32.not_le.mp c_18, Int32.not_lt.mp c_34]) (Or.inr rfl) dX6_mayLay_42

def rmX6_laid : Room := { frames := 2, cells := 0, slots := 0, locals := 43 }
theorem nmX6_laid : NmV yX6_laid RX6 3 := by unfold NmV; decide +kernel
theorem hiX6_laid_6 : ∀ w ∈ u_ws RX6 TX6 22, w ∈ wsX6_laid := by decide +kernel
set_option maxHeartbeats 4000000 in
set_option maxRecDepth 100000 in
theorem kX6_laid (l : Launch) (dC : Nat → ClassId) (dI : Nat → Nat → Nat) (ct : Nat → ClassId) (a : Nat → Nat) (v f : Nat → Int32) (s t : Nat) (n : Int32) (hs : s < 2) (ht : t < 5) : MI (S := Unit) l yX6_laid wsX6_laid rmX6_laid dC dI ct eT [.ref (a 0), .int (nI s), .int (nI t), .int n] (oM a v :: [ai ct (a 1) 210 f]) (fun _ => oM a v :: [ai ct (a 1) 210 (laid f s t n)]) (fun r _ => r = laid f s t n (27 + 17 * s + t)) := by
  refine MI.of (cc := cX6_laid) (maxL := 4) (ret := (some .int)) (by decide) rfl (Nat.le_of_ble_eq_true rfl) ?_
  intro pg en z mi below meth cd A F hr hlk hin hK hP hD hA hS hE ls hl
  have F : CallFix pg mi cd cX6_laid 4 z _ wsX6_laid RX6 := F
  have hl : lv_has ls 4 [(0, .ref (a 0)), (1, .int (nI s)), (2, .int (nI t)), (3, .int n)] := hl
  refine lv_aload_n F.1 F.2.1 dX6_laid_0 rfl (lv_at hl 0 rfl) ?_
  refine gf F hK hP 0 rfl rfl hiX6_laid_6 0 (by decide) (List.mem_of_getElem? (i := 1) rfl) rfl dX6_laid_1 ?_
  refine lv_iload_n F.1 F.2.1 dX6_laid_4 rfl (lv_at hl 1 rfl) ?_
  refine lv_iconst (v := 2) F.1 F.2.1 dX6_laid_5 (by decide) ?_
  refine lv_iload_n F.1 F.2.1 dX6_laid_6 rfl (lv_at hl 2 rfl) ?_
  refine lv_iadd F.1 F.2.1 dX6_laid_7 ?_
  refine tp (y := nI (2 + t)) (ad2 (a := 2) (b := t) (c := 2 + t) rfl rfl rfl) ?_
  refine iS (rest := [.ref (a 1)]) (wsp := fun _ => oM a v :: [ai ct (a 1) 210 f]) F (kX6_at l dC dI ct s (2 + t) (22 + 17 * s + t) (by omega)) gX6_laid_X6_at rfl ⟨rfl, rfl⟩ nmX6_at ⟨Nat.le_of_ble_eq_true rfl, Nat.le_of_ble_eq_true rfl⟩ eT_b (fun _ _ _ => trivial) hK hP hD hS hA [] (by decide) rfl rfl rfl hl.1 (Nat.le_of_ble_eq_true rfl) dX6_laid_8 ⟨Nat.zero_le _, Nat.zero_le _⟩ (fun _ => rfl) (fun _ => rfl) [a 0, a 1] rfl (fun _ => rfl) (fun r_8 u_8 H locs e_8 hP hD hS => ?_)
  obtain rfl := e_8
  refine lv_dup2_11 F.1 F.2.1 dX6_laid_11 rfl rfl ?_
  refine al (v := f (22 + 17 * s + t)) F hK hP 1 0 rfl rfl (22 + 17 * s + t) rfl (by omega) (by decide) rfl dX6_laid_12 ?_
  refine lv_iload_n F.1 F.2.1 dX6_laid_13 rfl (lv_at hl 3 rfl) ?_
  refine lv_isub F.1 F.2.1 dX6_laid_14 ?_
  refine ast (ws' := oM a v :: [ai ct (a 1) 210 (upd f (22 + 17 * s + t) ((f (22 + 17 * s + t)) - n))]) F hK hP hD hS 1 0 rfl rfl (22 + 17 * s + t) rfl (by omega) (by decide) dX6_laid_15 (weq.rf _) (fun H locs hP hD hS => ?_)
  refine lv_aload_n F.1 F.2.1 dX6_laid_16 rfl (lv_at hl 0 rfl) ?_
  refine gf F hK hP 0 rfl rfl hiX6_laid_6 0 (by decide) (List.mem_of_getElem? (i := 1) rfl) rfl dX6_laid_17 ?_
  refine lv_iload_n F.1 F.2.1 dX6_laid_20 rfl (lv_at hl 1 rfl) ?_
  refine lv_bipush (v := 7) F.1 F.2.1 dX6_laid_21 (by decide) ?_
  refine lv_iload_n F.1 F.2.1 dX6_laid_23 rfl (lv_at hl 2 rfl) ?_
  refine lv_iadd F.1 F.2.1 dX6_laid_24 ?_
  refine tp (y := nI (7 + t)) (ad2 (a := 7) (b := t) (c := 7 + t) rfl rfl rfl) ?_
  refine iS (rest := [.ref (a 1)]) (wsp := fun _ => oM a v :: [ai ct (a 1) 210 (upd f (22 + 17 * s + t) ((f (22 + 17 * s + t)) - n))]) F (kX6_at l dC dI ct s (7 + t) (27 + 17 * s + t) (by omega)) gX6_laid_X6_at rfl ⟨rfl, rfl⟩ nmX6_at ⟨Nat.le_of_ble_eq_true rfl, Nat.le_of_ble_eq_true rfl⟩ eT_b (fun _ _ _ => trivial) hK hP hD hS hA [] (by decide) rfl rfl rfl hl.1 (Nat.le_of_ble_eq_true rfl) dX6_laid_25 ⟨Nat.zero_le _, Nat.zero_le _⟩ (fun _ => rfl) (fun _ => rfl) [a 0, a 1] rfl (fun _ => rfl) (fun r_25 u_25 H locs e_25 hP hD hS => ?_)
  obtain rfl := e_25
  refine lv_dup2_11 F.1 F.2.1 dX6_laid_28 rfl rfl ?_
  refine al (v := (upd f (22 + 17 * s + t) ((f (22 + 17 * s + t)) - n)) (27 + 17 * s + t)) F hK hP 1 0 rfl rfl (27 + 17 * s + t) rfl (by omega) (by decide) rfl dX6_laid_29 ?_
  refine tp (y := f (27 + 17 * s + t)) (pk_un (by omega)) ?_
  refine lv_iload_n F.1 F.2.1 dX6_laid_30 rfl (lv_at hl 3 rfl) ?_
  refine lv_iadd F.1 F.2.1 dX6_laid_31 ?_
  refine ast (ws' := oM a v :: [ai ct (a 1) 210 (upd (upd f (22 + 17 * s + t) ((f (22 + 17 * s + t)) - n)) (27 + 17 * s + t) ((f (27 + 17 * s + t)) + n))]) F hK hP hD hS 1 0 rfl rfl (27 + 17 * s + t) rfl (by omega) (by decide) dX6_laid_32 (weq.rf _) (fun H locs hP hD hS => ?_)
  refine lv_aload_n F.1 F.2.1 dX6_laid_33 rfl (lv_at hl 0 rfl) ?_
  refine lv_iload_n F.1 F.2.1 dX6_laid_34 rfl (lv_at hl 1 rfl) ?_
  refine lv_bipush (v := 7) F.1 F.2.1 dX6_laid_35 (by decide) ?_
  refine lv_iload_n F.1 F.2.1 dX6_laid_37 rfl (lv_at hl 2 rfl) ?_
  refine lv_iadd F.1 F.2.1 dX6_laid_38 ?_
  refine tp (y := nI (7 + t)) (ad2 (a := 7) (b := t) (c := 7 + t) rfl rfl rfl) ?_
  refine iV (rest := []) (wsp := fun _ => oM a v :: [ai ct (a 1) 210 (upd (upd f (22 + 17 * s + t) ((f (22 + 17 * s + t)) - n)) (27 + 17 * s + t) ((f (27 + 17 * s + t)) + n))]) F (kX6_sideIs l dC dI ct a v (upd (upd f (22 + 17 * s + t) ((f (22 + 17 * s + t)) - n)) (27 + 17 * s + t) ((f (27 + 17 * s + t)) + n)) s (7 + t) (27 + 17 * s + t) (by omega) (by omega)) gX6_laid_X6_sideIs rfl ⟨rfl, rfl⟩ nmX6_sideIs ⟨Nat.le_of_ble_eq_true rfl, Nat.le_of_ble_eq_true rfl⟩ eT_b (fun _ _ _ => trivial) hK hP hD hS hA 0 rfl rfl rfl [0, 1] (by decide) rfl rfl rfl hl.1 (Nat.le_of_ble_eq_true rfl) dX6_laid_39 ⟨Nat.zero_le _, Nat.zero_le _⟩ (fun _ => rfl) (fun _ => rfl) [a 0, a 1] rfl (fun _ => rfl) (fun r_39 u_39 H locs e_39 hP hD hS => ?_)
  obtain rfl := e_39
  exact rtI () F hr hlk hP hS rfl rfl dX6_laid_42

def rmX6_isContent : Room := { frames := 5, cells := 0, slots := 0, locals := 114 }
theorem nmX6_isContent : NmV yX6_isContent RX6 1 := by unfold NmV; decide +kernel
set_option maxHeartbeats 4000000 in
set_option maxRecDepth 100000 in
theorem kX6_isContent (l : Launch) (dC : Nat → ClassId) (dI : Nat → Nat → Nat) (ct : Nat → ClassId) (a : Nat → Nat) (v f : Nat → Int32) (s : Nat) (hs : s < 2) : MI (S := Unit) l yX6_isContent wsX6_isContent rmX6_isContent dC dI ct eT [.ref (a 0), .int (nI s)] (oM a v :: [ai ct (a 1) 210 f]) (fun _ => oM a v :: [ai ct (a 1) 210 f]) (fun r _ => r = if con f s then 1 else 0) := by
  refine MI.of (cc := cX6_isContent) (maxL := 2) (ret := (some .boolean)) (by decide) rfl (Nat.le_of_ble_eq_true rfl) ?_
  intro pg en z mi below meth cd A F hr hlk hin hK hP hD hA hS hE ls hl
  have F : CallFix pg mi cd cX6_isContent 2 z _ wsX6_isContent RX6 := F
  have hl : lv_has ls 2 [(0, .ref (a 0)), (1, .int (nI s))] := hl
  refine lv_aload_n F.1 F.2.1 dX6_isContent_0 rfl (lv_at hl 0 rfl) ?_
  refine lv_iconst (v := 1) F.1 F.2.1 dX6_isContent_1 (by decide) ?_
  refine lv_iload_n F.1 F.2.1 dX6_isContent_2 rfl (lv_at hl 1 rfl) ?_
  refine lv_isub F.1 F.2.1 dX6_isContent_3 ?_
  refine tp (y := nI (1 - s)) (sb2 (a := 1) (b := s) (c := 1 - s) rfl rfl (by omega)) ?_
  refine iV (rest := []) (wsp := fun _ => oM a v :: [ai ct (a 1) 210 f]) F (kX6_isEmpty l dC dI ct a v f (1 - s) (by omega)) gX6_isContent_X6_isEmpty rfl ⟨rfl, rfl⟩ nmX6_isEmpty ⟨Nat.le_of_ble_eq_true rfl, Nat.le_of_ble_eq_true rfl⟩ eT_b (fun _ _ _ => trivial) hK hP hD hS hA 0 rfl rfl rfl [0, 1] (by decide) rfl rfl rfl hl.1 (Nat.le_of_ble_eq_true rfl) dX6_isContent_4 ⟨Nat.zero_le _, Nat.zero_le _⟩ (fun _ => rfl) (fun _ => rfl) [a 0, a 1] rfl (fun _ => rfl) (fun r_4 u_4 H locs e_4 hP hD hS => ?_)
  obtain rfl := e_4
  refine lv_if_ne (tgt := 38) F.1 F.2.1 dX6_isContent_7 (by decide) (fun c_7 => ?_) (fun c_7 => ?_)
  · have c_7 : sumU f (27 + 17 * (1 - s)) 5 = 0 := b01t rfl c_7
    refine lv_iconst (v := 0) F.1 F.2.1 dX6_isContent_38 (by decide) ?_
    exact rtZ () F hr hlk hP hS rfl (by simp [con, c_7]) (Or.inl rfl) dX6_isContent_39
  · have c_7 : ¬ (sumU f (27 + 17 * (1 - s)) 5 = 0) := b01f rfl c_7
    refine lv_aload_n F.1 F.2.1 dX6_isContent_10 rfl (lv_at hl 0 rfl) ?_
    refine lv_iload_n F.1 F.2.1 dX6_isContent_11 rfl (lv_at hl 1 rfl) ?_
    refine lv_iconst (v := 1) F.1 F.2.1 dX6_isContent_12 (by decide) ?_
    refine lv_iload_n F.1 F.2.1 dX6_isContent_13 rfl (lv_at hl 1 rfl) ?_
    refine lv_isub F.1 F.2.1 dX6_isContent_14 ?_
    refine tp (y := nI (1 - s)) (sb2 (a := 1) (b := s) (c := 1 - s) rfl rfl (by omega)) ?_
    refine iV (rest := []) (wsp := fun _ => oM a v :: [ai ct (a 1) 210 f]) F (kX6_valueFor l dC dI ct a v f s (1 - s) (by omega) (by omega)) gX6_isContent_X6_valueFor rfl ⟨rfl, rfl⟩ nmX6_valueFor ⟨Nat.le_of_ble_eq_true rfl, Nat.le_of_ble_eq_true rfl⟩ eT_b (fun _ _ _ => trivial) hK hP hD hS hA 0 rfl rfl rfl [0, 1] (by decide) rfl rfl rfl hl.1 (Nat.le_of_ble_eq_true rfl) dX6_isContent_15 ⟨Nat.zero_le _, Nat.zero_le _⟩ (fun _ => rfl) (fun _ => rfl) [a 0, a 1] rfl (fun _ => rfl) (fun r_15 u_15 H locs e_15 hP hD hS => ?_)
    obtain rfl := e_15
    refine lv_aload_n F.1 F.2.1 dX6_isContent_18 rfl (lv_at hl 0 rfl) ?_
    refine lv_iload_n F.1 F.2.1 dX6_isContent_19 rfl (lv_at hl 1 rfl) ?_
    refine lv_iload_n F.1 F.2.1 dX6_isContent_20 rfl (lv_at hl 1 rfl) ?_
    refine iV (rest := [.int (valU f s (1 - s) 5)]) (wsp := fun _ => oM a v :: [ai ct (a 1) 210 f]) F (kX6_valueFor l dC dI ct a v f s s (by omega) (by omega)) gX6_isContent_X6_valueFor rfl ⟨rfl, rfl⟩ nmX6_valueFor ⟨Nat.le_of_ble_eq_true rfl, Nat.le_of_ble_eq_true rfl⟩ eT_b (fun _ _ _ => trivial) hK hP hD hS hA 0 rfl rfl rfl [0, 1] (by decide) rfl rfl rfl hl.1 (Nat.le_of_ble_eq_true rfl) dX6_isContent_21 ⟨Nat.zero_le _, Nat.zero_le _⟩ (fun _ => rfl) (fun _ => rfl) [a 0, a 1] rfl (fun _ => rfl) (fun r_21 u_21 H locs e_21 hP hD hS => ?_)
    obtain rfl := e_21
    refine lv_aload_n F.1 F.2.1 dX6_isContent_24 rfl (lv_at hl 0 rfl) ?_
    refine lv_iload_n F.1 F.2.1 dX6_isContent_25 rfl (lv_at hl 1 rfl) ?_
    refine lv_iconst (v := 0) F.1 F.2.1 dX6_isContent_26 (by decide) ?_
    refine iV (rest := [.int (valU f s s 5), .int (valU f s (1 - s) 5)]) (wsp := fun _ => oM a v :: [ai ct (a 1) 210 f]) F (kX6_sideIs l dC dI ct a v f s 0 (20 + 17 * s) (by omega) (by omega)) gX6_isContent_X6_sideIs rfl ⟨rfl, rfl⟩ nmX6_sideIs ⟨Nat.le_of_ble_eq_true rfl, Nat.le_of_ble_eq_true rfl⟩ eT_b (fun _ _ _ => trivial) hK hP hD hS hA 0 rfl rfl rfl [0, 1] (by decide) rfl rfl rfl hl.1 (Nat.le_of_ble_eq_true rfl) dX6_isContent_27 ⟨Nat.zero_le _, Nat.zero_le _⟩ (fun _ => rfl) (fun _ => rfl) [a 0, a 1] rfl (fun _ => rfl) (fun r_27 u_27 H locs e_27 hP hD hS => ?_)
    obtain rfl := e_27
    refine lv_iadd F.1 F.2.1 dX6_isContent_30 ?_
    refine lv_icmp_lt (tgt := 38) F.1 F.2.1 dX6_isContent_31 (by decide) (fun c_31 => ?_) (fun c_31 => ?_)
    · refine lv_iconst (v := 0) F.1 F.2.1 dX6_isContent_38 (by decide) ?_
      exact rtZ () F hr hlk hP hS rfl (by simp [con, c_7, c_31, Int32.not_le.mpr c_31]) (Or.inl rfl) dX6_isContent_39
    · refine lv_iconst (v := 1) F.1 F.2.1 dX6_isContent_34 (by decide) ?_
      refine lv_goto (tgt := 39) F.1 F.2.1 dX6_isContent_35 (by decide) ?_
      exact rtZ () F hr hlk hP hS rfl (by simp [con, c_7, c_31, Int32.not_lt.mp c_31]) (Or.inr rfl) dX6_isContent_39

def rmX6_wouldDo : Room := { frames := 6, cells := 0, slots := 0, locals := 135 }
theorem nmX6_wouldDo : NmV yX6_wouldDo RX6 1 := by unfold NmV; decide +kernel
set_option maxHeartbeats 4000000 in
set_option maxRecDepth 100000 in
theorem kX6_wouldDo (l : Launch) (dC : Nat → ClassId) (dI : Nat → Nat → Nat) (ct : Nat → ClassId) (a : Nat → Nat) (v f : Nat → Int32) (s : Nat) (hs : s < 2) : MI (S := Unit) l yX6_wouldDo wsX6_wouldDo rmX6_wouldDo dC dI ct eT [.ref (a 0), .int (nI s)] (oM a v :: [ai ct (a 1) 210 f]) (fun _ => oM a v :: [ai ct (a 1) 210 f]) (fun r _ => r = deed f s) := by
  refine MI.of (cc := cX6_wouldDo) (maxL := 2) (ret := (some .int)) (by decide) rfl (Nat.le_of_ble_eq_true rfl) ?_
  intro pg en z mi below meth cd A F hr hlk hin hK hP hD hA hS hE ls hl
  have F : CallFix pg mi cd cX6_wouldDo 2 z _ wsX6_wouldDo RX6 := F
  have hl : lv_has ls 2 [(0, .ref (a 0)), (1, .int (nI s))] := hl
  refine lv_aload_n F.1 F.2.1 dX6_wouldDo_0 rfl (lv_at hl 0 rfl) ?_
  refine lv_iload_n F.1 F.2.1 dX6_wouldDo_1 rfl (lv_at hl 1 rfl) ?_
  refine lv_iconst (v := 1) F.1 F.2.1 dX6_wouldDo_2 (by decide) ?_
  refine iV (rest := []) (wsp := fun _ => oM a v :: [ai ct (a 1) 210 f]) F (kX6_sideIs l dC dI ct a v f s 1 (21 + 17 * s) (by omega) (by omega)) gX6_wouldDo_X6_sideIs rfl ⟨rfl, rfl⟩ nmX6_sideIs ⟨Nat.le_of_ble_eq_true rfl, Nat.le_of_ble_eq_true rfl⟩ eT_b (fun _ _ _ => trivial) hK hP hD hS hA 0 rfl rfl rfl [0, 1] (by decide) rfl rfl rfl hl.1 (Nat.le_of_ble_eq_true rfl) dX6_wouldDo_3 ⟨Nat.zero_le _, Nat.zero_le _⟩ (fun _ => rfl) (fun _ => rfl) [a 0, a 1] rfl (fun _ => rfl) (fun r_3 u_3 H locs e_3 hP hD hS => ?_)
  obtain rfl := e_3
  refine lv_if_ne (tgt := 23) F.1 F.2.1 dX6_wouldDo_6 (by decide) (fun c_6 => ?_) (fun c_6 => ?_)
  · refine lv_aload_n F.1 F.2.1 dX6_wouldDo_23 rfl (lv_at hl 0 rfl) ?_
    refine lv_iload_n F.1 F.2.1 dX6_wouldDo_24 rfl (lv_at hl 1 rfl) ?_
    refine iV (rest := []) (wsp := fun _ => oM a v :: [ai ct (a 1) 210 f]) F (kX6_isContent l dC dI ct a v f s (by omega)) gX6_wouldDo_X6_isContent rfl ⟨rfl, rfl⟩ nmX6_isContent ⟨Nat.le_of_ble_eq_true rfl, Nat.le_of_ble_eq_true rfl⟩ eT_b (fun _ _ _ => trivial) hK hP hD hS hA 0 rfl rfl rfl [0, 1] (by decide) rfl rfl rfl hl.1 (Nat.le_of_ble_eq_true rfl) dX6_wouldDo_25 ⟨Nat.zero_le _, Nat.zero_le _⟩ (fun _ => rfl) (fun _ => rfl) [a 0, a 1] rfl (fun _ => rfl) (fun r_25 u_25 H locs e_25 hP hD hS => ?_)
    obtain rfl := e_25
    refine lv_if_eq (tgt := 35) F.1 F.2.1 dX6_wouldDo_28 (by decide) (fun c_28 => ?_) (fun c_28 => ?_)
    · have c_28 : ¬ (con f s) := b01f rfl c_28
      refine lv_aload_n F.1 F.2.1 dX6_wouldDo_35 rfl (lv_at hl 0 rfl) ?_
      refine lv_iload_n F.1 F.2.1 dX6_wouldDo_36 rfl (lv_at hl 1 rfl) ?_
      refine iV (rest := []) (wsp := fun _ => oM a v :: [ai ct (a 1) 210 f]) F (kX6_isEmpty l dC dI ct a v f s (by omega)) gX6_wouldDo_X6_isEmpty rfl ⟨rfl, rfl⟩ nmX6_isEmpty ⟨Nat.le_of_ble_eq_true rfl, Nat.le_of_ble_eq_true rfl⟩ eT_b (fun _ _ _ => trivial) hK hP hD hS hA 0 rfl rfl rfl [0, 1] (by decide) rfl rfl rfl hl.1 (Nat.le_of_ble_eq_true rfl) dX6_wouldDo_37 ⟨Nat.zero_le _, Nat.zero_le _⟩ (fun _ => rfl) (fun _ => rfl) [a 0, a 1] rfl (fun _ => rfl) (fun r_37 u_37 H locs e_37 hP hD hS => ?_)
      obtain rfl := e_37
      refine lv_if_eq (tgt := 47) F.1 F.2.1 dX6_wouldDo_40 (by decide) (fun c_40 => ?_) (fun c_40 => ?_)
      · have c_40 : ¬ (sumU f (27 + 17 * s) 5 = 0) := b01f rfl c_40
        refine lv_iconst (v := 2) F.1 F.2.1 dX6_wouldDo_47 (by decide) ?_
        exact rtI () F hr hlk hP hS rfl (by simp [deed, c_6, c_28, c_40]) dX6_wouldDo_48
      · have c_40 : sumU f (27 + 17 * s) 5 = 0 := b01t rfl c_40
        refine lv_iconst (v := 0) F.1 F.2.1 dX6_wouldDo_43 (by decide) ?_
        refine lv_goto (tgt := 48) F.1 F.2.1 dX6_wouldDo_44 (by decide) ?_
        exact rtI () F hr hlk hP hS rfl (by simp [deed, c_6, c_28, c_40]) dX6_wouldDo_48
    · have c_28 : con f s := b01t rfl c_28
      refine lv_iconst (v := 1) F.1 F.2.1 dX6_wouldDo_31 (by decide) ?_
      refine lv_goto (tgt := 48) F.1 F.2.1 dX6_wouldDo_32 (by decide) ?_
      exact rtI () F hr hlk hP hS rfl (by simp [deed, c_6, c_28]) dX6_wouldDo_48
  · refine lv_aload_n F.1 F.2.1 dX6_wouldDo_9 rfl (lv_at hl 0 rfl) ?_
    refine lv_iload_n F.1 F.2.1 dX6_wouldDo_10 rfl (lv_at hl 1 rfl) ?_
    refine iV (rest := []) (wsp := fun _ => oM a v :: [ai ct (a 1) 210 f]) F (kX6_isEmpty l dC dI ct a v f s (by omega)) gX6_wouldDo_X6_isEmpty rfl ⟨rfl, rfl⟩ nmX6_isEmpty ⟨Nat.le_of_ble_eq_true rfl, Nat.le_of_ble_eq_true rfl⟩ eT_b (fun _ _ _ => trivial) hK hP hD hS hA 0 rfl rfl rfl [0, 1] (by decide) rfl rfl rfl hl.1 (Nat.le_of_ble_eq_true rfl) dX6_wouldDo_11 ⟨Nat.zero_le _, Nat.zero_le _⟩ (fun _ => rfl) (fun _ => rfl) [a 0, a 1] rfl (fun _ => rfl) (fun r_11 u_11 H locs e_11 hP hD hS => ?_)
    obtain rfl := e_11
    refine lv_if_eq (tgt := 21) F.1 F.2.1 dX6_wouldDo_14 (by decide) (fun c_14 => ?_) (fun c_14 => ?_)
    · have c_14 : ¬ (sumU f (27 + 17 * s) 5 = 0) := b01f rfl c_14
      refine lv_iconst (v := 3) F.1 F.2.1 dX6_wouldDo_21 (by decide) ?_
      exact rtI () F hr hlk hP hS rfl (by simp [deed, c_6, c_14]) dX6_wouldDo_22
    · have c_14 : sumU f (27 + 17 * s) 5 = 0 := b01t rfl c_14
      refine lv_iconst (v := 0) F.1 F.2.1 dX6_wouldDo_17 (by decide) ?_
      refine lv_goto (tgt := 22) F.1 F.2.1 dX6_wouldDo_18 (by decide) ?_
      exact rtI () F hr hlk hP hS rfl (by simp [deed, c_6, c_14]) dX6_wouldDo_22

def rmX6_dearest : Room := { frames := 4, cells := 0, slots := 0, locals := 90 }
theorem nmX6_dearest : NmV yX6_dearest RX6 1 := by unfold NmV; decide +kernel
set_option maxHeartbeats 4000000 in
set_option maxRecDepth 100000 in
theorem kX6_dearest (l : Launch) (dC : Nat → ClassId) (dI : Nat → Nat → Nat) (ct : Nat → ClassId) (a : Nat → Nat) (v f : Nat → Int32) (s : Nat) (hs : s < 2) : MI (S := Unit) l yX6_dearest wsX6_dearest rmX6_dearest dC dI ct eT [.ref (a 0), .int (nI s)] (oM a v :: [ai ct (a 1) 210 f]) (fun _ => oM a v :: [ai ct (a 1) 210 f]) (fun r _ => r = (deaU f s 5).1) := by
  refine MI.of (cc := cX6_dearest) (maxL := 7) (ret := (some .int)) (by decide) rfl (Nat.le_of_ble_eq_true rfl) ?_
  intro pg en z mi below meth cd A F hr hlk hin hK hP hD hA hS hE ls hl
  have F : CallFix pg mi cd cX6_dearest 7 z _ wsX6_dearest RX6 := F
  have hl : lv_has ls 7 [(0, .ref (a 0)), (1, .int (nI s))] := hl
  refine lv_iconst (v := (-1)) F.1 F.2.1 dX6_dearest_0 (by decide) ?_
  refine lv_istore_n (lv' := [(2, .int (-1)), (0, .ref (a 0)), (1, .int (nI s))]) F.1 F.2.1 dX6_dearest_1 rfl hl (by decide) rfl (fun ls hl => ?_)
  refine lv_iconst (v := 0) F.1 F.2.1 dX6_dearest_2 (by decide) ?_
  refine lv_istore_n (lv' := [(3, .int 0), (2, .int (-1)), (0, .ref (a 0)), (1, .int (nI s))]) F.1 F.2.1 dX6_dearest_3 rfl hl (by decide) rfl (fun ls hl => ?_)
  refine lv_iconst (v := 0) F.1 F.2.1 dX6_dearest_4 (by decide) ?_
  refine lv_istore (lv' := [(4, .int 0), (3, .int 0), (2, .int (-1)), (0, .ref (a 0)), (1, .int (nI s))]) F.1 F.2.1 dX6_dearest_5 hl (by decide) rfl (fun ls hl => ?_)
  refine loopN (I := fun k H locs ls => va_P (dC, dI) vwCl (oM a v :: [ai ct (a 1) 210 f]) H ∧ va_D A (oM a v :: [ai ct (a 1) 210 f]) ∧ va_S A z.heap H locs ∧ lv_has ls 7 [(4, .int (nI k)), (3, .int ((deaU f s k).2)), (2, .int ((deaU f s k).1)), (0, .ref (a 0)), (1, .int (nI s))]) 5 0 (by omega) ⟨hP, hD, hS, lv_sub hl [0, 1, 2, 3, 4] rfl⟩ (fun H locs ls hI => ?_) (fun k hk_k H locs ls hI ih_7 => ?_)
  · obtain ⟨hP, hD, hS, hl⟩ := hI
    refine lv_iload F.1 F.2.1 dX6_dearest_7 (lv_at hl 0 rfl) ?_
    refine lv_iconst (v := 5) F.1 F.2.1 dX6_dearest_9 (by decide) ?_
    refine lv_icmp_ge (tgt := 84) F.1 F.2.1 dX6_dearest_10 (by decide) (fun c_10 => ?_) (fun c_10 => ?_)
    · refine lv_iload_n F.1 F.2.1 dX6_dearest_84 rfl (lv_at hl 2 rfl) ?_
      exact rtI () F hr hlk hP hS rfl (by simp [c_10, Int32.not_lt.mpr c_10]) dX6_dearest_85
    · exact absurd (nI_le (Nat.le_refl _) (by decide)) c_10
  · obtain ⟨hP, hD, hS, hl⟩ := hI
    refine lv_iload F.1 F.2.1 dX6_dearest_7 (lv_at hl 0 rfl) ?_
    refine lv_iconst (v := 5) F.1 F.2.1 dX6_dearest_9 (by decide) ?_
    refine lv_icmp_ge (tgt := 84) F.1 F.2.1 dX6_dearest_10 (by decide) (fun c_10 => ?_) (fun c_10 => ?_)
    · exact absurd c_10 (nI_ge hk_k (by decide))
    · refine lv_aload_n F.1 F.2.1 dX6_dearest_13 rfl (lv_at hl 3 rfl) ?_
      refine lv_iload_n F.1 F.2.1 dX6_dearest_14 rfl (lv_at hl 4 rfl) ?_
      refine lv_bipush (v := 7) F.1 F.2.1 dX6_dearest_15 (by decide) ?_
      refine lv_iload F.1 F.2.1 dX6_dearest_17 (lv_at hl 0 rfl) ?_
      refine lv_iadd F.1 F.2.1 dX6_dearest_19 ?_
      refine tp (y := nI (7 + k)) (ad2 (a := 7) (b := k) (c := 7 + k) rfl rfl rfl) ?_
      refine iV (rest := []) (wsp := fun _ => oM a v :: [ai ct (a 1) 210 f]) F (kX6_sideIs l dC dI ct a v f s (7 + k) (27 + 17 * s + k) (by omega) (by omega)) gX6_dearest_X6_sideIs rfl ⟨rfl, rfl⟩ nmX6_sideIs ⟨Nat.le_of_ble_eq_true rfl, Nat.le_of_ble_eq_true rfl⟩ eT_b (fun _ _ _ => trivial) hK hP hD hS hA 0 rfl rfl rfl [0, 1] (by decide) rfl rfl rfl hl.1 (Nat.le_of_ble_eq_true rfl) dX6_dearest_20 ⟨Nat.zero_le _, Nat.zero_le _⟩ (fun _ => rfl) (fun _ => rfl) [a 0, a 1] rfl (fun _ => rfl) (fun r_20 u_20 H locs e_20 hP hD hS => ?_)
      obtain rfl := e_20
      refine lv_istore (lv' := [(5, .int (f (27 + 17 * s + k))), (4, .int (nI k)), (3, .int ((deaU f s k).2)), (2, .int ((deaU f s k).1)), (0, .ref (a 0)), (1, .int (nI s))]) F.1 F.2.1 dX6_dearest_23 hl (by decide) rfl (fun ls hl => ?_)
      refine lv_iload F.1 F.2.1 dX6_dearest_25 (lv_at hl 0 rfl) ?_
      refine lv_if_ne (tgt := 34) F.1 F.2.1 dX6_dearest_27 (by decide) (fun c_27 => ?_) (fun c_27 => ?_)
      · refine lv_aload_n F.1 F.2.1 dX6_dearest_34 rfl (lv_at hl 4 rfl) ?_
        refine lv_iload_n F.1 F.2.1 dX6_dearest_35 rfl (lv_at hl 5 rfl) ?_
        refine lv_iload F.1 F.2.1 dX6_dearest_36 (lv_at hl 1 rfl) ?_
        refine lv_iload F.1 F.2.1 dX6_dearest_38 (lv_at hl 0 rfl) ?_
        refine iV (rest := []) (wsp := fun _ => oM a v :: [ai ct (a 1) 210 f]) F (kX6_priceFor l dC dI ct a v f s k (f (27 + 17 * s + k)) (by omega) (by omega)) gX6_dearest_X6_priceFor rfl ⟨rfl, rfl⟩ nmX6_priceFor ⟨Nat.le_of_ble_eq_true rfl, Nat.le_of_ble_eq_true rfl⟩ eT_b (fun _ _ _ => trivial) hK hP hD hS hA 0 rfl rfl rfl [0, 1] (by decide) rfl rfl rfl hl.1 (Nat.le_of_ble_eq_true rfl) dX6_dearest_40 ⟨Nat.zero_le _, Nat.zero_le _⟩ (fun _ => rfl) (fun _ => rfl) [a 0, a 1] rfl (fun _ => rfl) (fun r_40 u_40 H locs e_40 hP hD hS => ?_)
        obtain rfl := e_40
        refine lv_aload_n F.1 F.2.1 dX6_dearest_43 rfl (lv_at hl 4 rfl) ?_
        refine lv_iload_n F.1 F.2.1 dX6_dearest_44 rfl (lv_at hl 5 rfl) ?_
        refine lv_iload F.1 F.2.1 dX6_dearest_45 (lv_at hl 1 rfl) ?_
        refine lv_iload F.1 F.2.1 dX6_dearest_47 (lv_at hl 0 rfl) ?_
        refine lv_iconst (v := 1) F.1 F.2.1 dX6_dearest_49 (by decide) ?_
        refine lv_isub F.1 F.2.1 dX6_dearest_50 ?_
        refine iV (rest := [.int (pF f s k (f (27 + 17 * s + k)))]) (wsp := fun _ => oM a v :: [ai ct (a 1) 210 f]) F (kX6_priceFor l dC dI ct a v f s k ((f (27 + 17 * s + k)) - 1) (by omega) (by omega)) gX6_dearest_X6_priceFor rfl ⟨rfl, rfl⟩ nmX6_priceFor ⟨Nat.le_of_ble_eq_true rfl, Nat.le_of_ble_eq_true rfl⟩ eT_b (fun _ _ _ => trivial) hK hP hD hS hA 0 rfl rfl rfl [0, 1] (by decide) rfl rfl rfl hl.1 (Nat.le_of_ble_eq_true rfl) dX6_dearest_51 ⟨Nat.zero_le _, Nat.zero_le _⟩ (fun _ => rfl) (fun _ => rfl) [a 0, a 1] rfl (fun _ => rfl) (fun r_51 u_51 H locs e_51 hP hD hS => ?_)
        obtain rfl := e_51
        refine lv_isub F.1 F.2.1 dX6_dearest_54 ?_
        refine lv_istore (lv' := [(6, .int ((pF f s k (f (27 + 17 * s + k))) - (pF f s k ((f (27 + 17 * s + k)) - 1)))), (5, .int (f (27 + 17 * s + k))), (4, .int (nI k)), (3, .int ((deaU f s k).2)), (2, .int ((deaU f s k).1)), (0, .ref (a 0)), (1, .int (nI s))]) F.1 F.2.1 dX6_dearest_55 hl (by decide) rfl (fun ls hl => ?_)
        refine lv_iload F.1 F.2.1 dX6_dearest_57 (lv_at hl 1 rfl) ?_
        refine lv_if_le (tgt := 78) F.1 F.2.1 dX6_dearest_59 (by decide) (fun c_59 => ?_) (fun c_59 => ?_)
        · refine lv_iinc (v := nI (k + 1)) (lv' := [(4, .int (nI (k + 1))), (6, .int ((pF f s k (f (27 + 17 * s + k))) - (pF f s k ((f (27 + 17 * s + k)) - 1)))), (5, .int (f (27 + 17 * s + k))), (3, .int ((deaU f s k).2)), (2, .int ((deaU f s k).1)), (0, .ref (a 0)), (1, .int (nI s))]) F.1 F.2.1 dX6_dearest_78 hl (k := 2) rfl (by rw [show Int32.ofInt 1 = nI 1 from rfl, nI_add]) (by decide) rfl (fun ls hl => ?_)
          refine lv_goto (tgt := 7) F.1 F.2.1 dX6_dearest_81 (by decide) ?_
          have eb : deaU f s (k + 1) = deaU f s k := if_neg (fun q => Int32.not_lt.mpr c_59 q.1)
          exact ih_7 _ _ _ ⟨hP, hD, hS, lv_sub hl [0, 3, 4, 5, 6] (by rw [eb]; rfl)⟩
        · refine lv_iload_n F.1 F.2.1 dX6_dearest_62 rfl (lv_at hl 4 rfl) ?_
          refine lv_if_lt (tgt := 72) F.1 F.2.1 dX6_dearest_63 (by decide) (fun c_63 => ?_) (fun c_63 => ?_)
          · refine lv_iload F.1 F.2.1 dX6_dearest_72 (lv_at hl 2 rfl) ?_
            refine lv_istore_n (lv' := [(2, .int (nI k)), (6, .int ((pF f s k (f (27 + 17 * s + k))) - (pF f s k ((f (27 + 17 * s + k)) - 1)))), (5, .int (f (27 + 17 * s + k))), (4, .int (nI k)), (3, .int ((deaU f s k).2)), (0, .ref (a 0)), (1, .int (nI s))]) F.1 F.2.1 dX6_dearest_74 rfl hl (by decide) rfl (fun ls hl => ?_)
            refine lv_iload F.1 F.2.1 dX6_dearest_75 (lv_at hl 1 rfl) ?_
            refine lv_istore_n (lv' := [(3, .int ((pF f s k (f (27 + 17 * s + k))) - (pF f s k ((f (27 + 17 * s + k)) - 1)))), (2, .int (nI k)), (6, .int ((pF f s k (f (27 + 17 * s + k))) - (pF f s k ((f (27 + 17 * s + k)) - 1)))), (5, .int (f (27 + 17 * s + k))), (4, .int (nI k)), (0, .ref (a 0)), (1, .int (nI s))]) F.1 F.2.1 dX6_dearest_77 rfl hl (by decide) rfl (fun ls hl => ?_)
            refine lv_iinc (v := nI (k + 1)) (lv' := [(4, .int (nI (k + 1))), (3, .int ((pF f s k (f (27 + 17 * s + k))) - (pF f s k ((f (27 + 17 * s + k)) - 1)))), (2, .int (nI k)), (6, .int ((pF f s k (f (27 + 17 * s + k))) - (pF f s k ((f (27 + 17 * s + k)) - 1)))), (5, .int (f (27 + 17 * s + k))), (0, .ref (a 0)), (1, .int (nI s))]) F.1 F.2.1 dX6_dearest_78 hl (k := 4) rfl (by rw [show Int32.ofInt 1 = nI 1 from rfl, nI_add]) (by decide) rfl (fun ls hl => ?_)
            refine lv_goto (tgt := 7) F.1 F.2.1 dX6_dearest_81 (by decide) ?_
            have eb : deaU f s (k + 1) = (nI k, oneF f s k) := if_pos ⟨Int32.not_le.mp c_59, Or.inl c_63⟩
            exact ih_7 _ _ _ ⟨hP, hD, hS, lv_sub hl [0, 1, 2, 5, 6] (by rw [eb]; rfl)⟩
          · refine lv_iload F.1 F.2.1 dX6_dearest_66 (lv_at hl 0 rfl) ?_
            refine lv_iload_n F.1 F.2.1 dX6_dearest_68 rfl (lv_at hl 3 rfl) ?_
            refine lv_icmp_le (tgt := 78) F.1 F.2.1 dX6_dearest_69 (by decide) (fun c_69 => ?_) (fun c_69 => ?_)
            · refine lv_iinc (v := nI (k + 1)) (lv' := [(4, .int (nI (k + 1))), (6, .int ((pF f s k (f (27 + 17 * s + k))) - (pF f s k ((f (27 + 17 * s + k)) - 1)))), (5, .int (f (27 + 17 * s + k))), (3, .int ((deaU f s k).2)), (2, .int ((deaU f s k).1)), (0, .ref (a 0)), (1, .int (nI s))]) F.1 F.2.1 dX6_dearest_78 hl (k := 2) rfl (by rw [show Int32.ofInt 1 = nI 1 from rfl, nI_add]) (by decide) rfl (fun ls hl => ?_)
              refine lv_goto (tgt := 7) F.1 F.2.1 dX6_dearest_81 (by decide) ?_
              have eb : deaU f s (k + 1) = deaU f s k := if_neg (fun q => q.2.elim c_63 (fun w => Int32.not_lt.mpr c_69 w))
              exact ih_7 _ _ _ ⟨hP, hD, hS, lv_sub hl [0, 3, 4, 5, 6] (by rw [eb]; rfl)⟩
            · refine lv_iload F.1 F.2.1 dX6_dearest_72 (lv_at hl 2 rfl) ?_
              refine lv_istore_n (lv' := [(2, .int (nI k)), (6, .int ((pF f s k (f (27 + 17 * s + k))) - (pF f s k ((f (27 + 17 * s + k)) - 1)))), (5, .int (f (27 + 17 * s + k))), (4, .int (nI k)), (3, .int ((deaU f s k).2)), (0, .ref (a 0)), (1, .int (nI s))]) F.1 F.2.1 dX6_dearest_74 rfl hl (by decide) rfl (fun ls hl => ?_)
              refine lv_iload F.1 F.2.1 dX6_dearest_75 (lv_at hl 1 rfl) ?_
              refine lv_istore_n (lv' := [(3, .int ((pF f s k (f (27 + 17 * s + k))) - (pF f s k ((f (27 + 17 * s + k)) - 1)))), (2, .int (nI k)), (6, .int ((pF f s k (f (27 + 17 * s + k))) - (pF f s k ((f (27 + 17 * s + k)) - 1)))), (5, .int (f (27 + 17 * s + k))), (4, .int (nI k)), (0, .ref (a 0)), (1, .int (nI s))]) F.1 F.2.1 dX6_dearest_77 rfl hl (by decide) rfl (fun ls hl => ?_)
              refine lv_iinc (v := nI (k + 1)) (lv' := [(4, .int (nI (k + 1))), (3, .int ((pF f s k (f (27 + 17 * s + k))) - (pF f s k ((f (27 + 17 * s + k)) - 1)))), (2, .int (nI k)), (6, .int ((pF f s k (f (27 + 17 * s + k))) - (pF f s k ((f (27 + 17 * s + k)) - 1)))), (5, .int (f (27 + 17 * s + k))), (0, .ref (a 0)), (1, .int (nI s))]) F.1 F.2.1 dX6_dearest_78 hl (k := 4) rfl (by rw [show Int32.ofInt 1 = nI 1 from rfl, nI_add]) (by decide) rfl (fun ls hl => ?_)
              refine lv_goto (tgt := 7) F.1 F.2.1 dX6_dearest_81 (by decide) ?_
              have eb : deaU f s (k + 1) = (nI k, oneF f s k) := if_pos ⟨Int32.not_le.mp c_59, Or.inr (Int32.not_le.mp c_69)⟩
              exact ih_7 _ _ _ ⟨hP, hD, hS, lv_sub hl [0, 1, 2, 5, 6] (by rw [eb]; rfl)⟩
      · refine lv_iconst (v := (-1)) F.1 F.2.1 dX6_dearest_30 (by decide) ?_
        refine lv_goto (tgt := 55) F.1 F.2.1 dX6_dearest_31 (by decide) ?_
        refine lv_istore (lv' := [(6, .int (-1)), (5, .int (f (27 + 17 * s + k))), (4, .int (nI k)), (3, .int ((deaU f s k).2)), (2, .int ((deaU f s k).1)), (0, .ref (a 0)), (1, .int (nI s))]) F.1 F.2.1 dX6_dearest_55 hl (by decide) rfl (fun ls hl => ?_)
        refine lv_iload F.1 F.2.1 dX6_dearest_57 (lv_at hl 1 rfl) ?_
        refine lv_if_le (tgt := 78) F.1 F.2.1 dX6_dearest_59 (by decide) (fun c_59 => ?_) (fun c_59 => ?_)
        · refine lv_iinc (v := nI (k + 1)) (lv' := [(4, .int (nI (k + 1))), (6, .int (-1)), (5, .int (f (27 + 17 * s + k))), (3, .int ((deaU f s k).2)), (2, .int ((deaU f s k).1)), (0, .ref (a 0)), (1, .int (nI s))]) F.1 F.2.1 dX6_dearest_78 hl (k := 2) rfl (by rw [show Int32.ofInt 1 = nI 1 from rfl, nI_add]) (by decide) rfl (fun ls hl => ?_)
          refine lv_goto (tgt := 7) F.1 F.2.1 dX6_dearest_81 (by decide) ?_
          have eb : deaU f s (k + 1) = deaU f s k := if_neg (fun q => Int32.not_lt.mpr c_59 q.1)
          exact ih_7 _ _ _ ⟨hP, hD, hS, lv_sub hl [0, 3, 4, 5, 6] (by rw [eb]; rfl)⟩
        · exact absurd (by rw [c_27]; decide) c_59
