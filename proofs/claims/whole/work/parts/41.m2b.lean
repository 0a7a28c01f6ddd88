def rmX6_less : Room := { frames := 7, cells := 0, slots := 0, locals := 156 }
theorem nmX6_less : NmV yX6_less RX6 1 := by unfold NmV; decide +kernel
set_option maxHeartbeats 4000000 in
set_option maxRecDepth 100000 in
theorem kX6_less (l : Launch) (dC : Nat → ClassId) (dI : Nat → Nat → Nat) (ct : Nat → ClassId) (a : Nat → Nat) (v f c : Nat → Int32) (x1 : Int32) : MI (S := (Nat → Int32) × (Nat → Int32)) l yX6_less wsX6_less rmX6_less dC dI ct eT [.ref (a 0), .int x1] (oM a v :: ai ct (a 1) 210 f :: [ai ct (a 4) 8 c]) (fun u => oM a v :: ai ct (a 1) 210 u.1 :: [ai ct (a 4) 8 u.2]) (fun r u => (r, u.1, u.2) = sLess f c x1) := by
  refine MI.of (cc := cX6_less) (maxL := 2) (ret := (some .int)) (by decide) rfl (Nat.le_of_ble_eq_true rfl) ?_
  intro pg en z mi below meth cd A F hr hlk hin hK hP hD hA hS hE ls hl
  have F : CallFix pg mi cd cX6_less 2 z _ wsX6_less RX6 := F
  have hl : lv_has ls 2 [(0, .ref (a 0)), (1, .int x1)] := hl
  refine lv_iload_n F.1 F.2.1 dX6_less_0 rfl (lv_at hl 1 rfl) ?_
  refine iS (rest := []) (wsp := fun _ => oM a v :: ai ct (a 1) 210 f :: [ai ct (a 4) 8 c]) F (kX6_isSide l dC dI ct x1) gX6_less_X6_isSide rfl ⟨rfl, rfl⟩ nmX6_isSide ⟨Nat.le_of_ble_eq_true rfl, Nat.le_of_ble_eq_true rfl⟩ eT_b (fun _ _ _ => trivial) hK hP hD hS hA [] (by decide) rfl rfl rfl hl.1 (Nat.le_of_ble_eq_true rfl) dX6_less_1 ⟨Nat.zero_le _, Nat.zero_le _⟩ (fun _ => rfl) (fun _ => rfl) [a 0, a 1, a 4] rfl (fun _ => rfl) (fun r_1 u_1 H locs e_1 hP hD hS => ?_)
  obtain rfl := e_1
  refine lv_if_ne (tgt := 14) F.1 F.2.1 dX6_less_4 (by decide) (fun c_4 => ?_) (fun c_4 => ?_)
  · have c_4 : 0 ≤ x1 ∧ x1 ≤ 1 := b01t rfl c_4
    obtain ⟨s, hs, rfl⟩ := gS_n c_4
    refine lv_aload_n F.1 F.2.1 dX6_less_14 rfl (lv_at hl 0 rfl) ?_
    refine lv_iload_n F.1 F.2.1 dX6_less_15 rfl (lv_at hl 1 rfl) ?_
    refine iV (rest := []) (wsp := fun _ => oM a v :: ai ct (a 1) 210 f :: [ai ct (a 4) 8 c]) F (kX6_wouldDo l dC dI ct a v f s (by omega)) gX6_less_X6_wouldDo rfl ⟨rfl, rfl⟩ nmX6_wouldDo ⟨Nat.le_of_ble_eq_true rfl, Nat.le_of_ble_eq_true rfl⟩ eT_b (fun _ _ _ => trivial) hK hP hD hS hA 0 rfl rfl rfl [0, 1] (by decide) rfl rfl rfl hl.1 (Nat.le_of_ble_eq_true rfl) dX6_less_16 ⟨Nat.zero_le _, Nat.zero_le _⟩ (fun _ => rfl) (fun _ => rfl) [a 0, a 1, a 4] rfl (fun _ => rfl) (fun r_16 u_16 H locs e_16 hP hD hS => ?_)
    obtain rfl := e_16
    refine lv_iconst (v := 2) F.1 F.2.1 dX6_less_19 (by decide) ?_
    refine lv_icmp_ne (tgt := 31) F.1 F.2.1 dX6_less_20 (by decide) (fun c_20 => ?_) (fun c_20 => ?_)
    · refine lv_aload_n F.1 F.2.1 dX6_less_31 rfl (lv_at hl 0 rfl) ?_
      refine lv_ldc (v := (-1000004)) F.1 F.2.1 F.2.2.2.1 (F.2.2.2.2 _ (List.mem_of_getElem? (i := 2) rfl)) dX6_less_32 ?_
      refine iV (rest := []) (wsp := fun _ => oM a v :: ai ct (a 1) 210 f :: [ai ct (a 4) 8 (fnd c 4)]) F (kX6_finding l dC dI ct a v c (-1000004) 4 (by decide) (by decide) (by decide)) gX6_less_X6_finding rfl ⟨rfl, rfl⟩ nmX6_finding ⟨Nat.le_of_ble_eq_true rfl, Nat.le_of_ble_eq_true rfl⟩ eT_b (fun _ _ _ => trivial) hK hP hD hS hA 0 rfl rfl rfl [0, 2] (by decide) rfl rfl rfl hl.1 (Nat.le_of_ble_eq_true rfl) dX6_less_34 ⟨Nat.zero_le _, Nat.zero_le _⟩ (fun _ => rfl) (fun _ => rfl) [a 0, a 1, a 4] rfl (fun _ => rfl) (fun r_34 u_34 H locs e_34 hP hD hS => ?_)
      obtain rfl := e_34
      exact rtI (f, (fnd c 4)) F hr hlk hP hS rfl (Eq.trans (by rw [show tn (nI s) = s from nI_clamp (by omega)]; try exact (if_neg c_20).symm) (if_pos c_4).symm) dX6_less_37
    · refine lv_aload_n F.1 F.2.1 dX6_less_23 rfl (lv_at hl 0 rfl) ?_
      refine lv_iload_n F.1 F.2.1 dX6_less_24 rfl (lv_at hl 1 rfl) ?_
      refine iV (rest := []) (wsp := fun _ => oM a v :: ai ct (a 1) 210 f :: [ai ct (a 4) 8 c]) F (kX6_dearest l dC dI ct a v f s (by omega)) gX6_less_X6_dearest rfl ⟨rfl, rfl⟩ nmX6_dearest ⟨Nat.le_of_ble_eq_true rfl, Nat.le_of_ble_eq_true rfl⟩ eT_b (fun _ _ _ => trivial) hK hP hD hS hA 0 rfl rfl rfl [0, 1] (by decide) rfl rfl rfl hl.1 (Nat.le_of_ble_eq_true rfl) dX6_less_25 ⟨Nat.zero_le _, Nat.zero_le _⟩ (fun _ => rfl) (fun _ => rfl) [a 0, a 1, a 4] rfl (fun _ => rfl) (fun r_25 u_25 H locs e_25 hP hD hS => ?_)
      obtain rfl := e_25
      refine lv_goto (tgt := 37) F.1 F.2.1 dX6_less_28 (by decide) ?_
      exact rtI (f, c) F hr hlk hP hS rfl (Eq.trans (by rw [show tn (nI s) = s from nI_clamp (by omega)]; try exact (if_pos c_20).symm) (if_pos c_4).symm) dX6_less_37
  · have c_4 : ¬ (0 ≤ x1 ∧ x1 ≤ 1) := b01f rfl c_4
    refine lv_aload_n F.1 F.2.1 dX6_less_7 rfl (lv_at hl 0 rfl) ?_
    refine lv_ldc (v := (-1000001)) F.1 F.2.1 F.2.2.2.1 (F.2.2.2.2 _ (List.mem_of_getElem? (i := 1) rfl)) dX6_less_8 ?_
    refine iV (rest := []) (wsp := fun _ => oM a v :: ai ct (a 1) 210 f :: [ai ct (a 4) 8 (fnd c 1)]) F (kX6_finding l dC dI ct a v c (-1000001) 1 (by decide) (by decide) (by decide)) gX6_less_X6_finding rfl ⟨rfl, rfl⟩ nmX6_finding ⟨Nat.le_of_ble_eq_true rfl, Nat.le_of_ble_eq_true rfl⟩ eT_b (fun _ _ _ => trivial) hK hP hD hS hA 0 rfl rfl rfl [0, 2] (by decide) rfl rfl rfl hl.1 (Nat.le_of_ble_eq_true rfl) dX6_less_10 ⟨Nat.zero_le _, Nat.zero_le _⟩ (fun _ => rfl) (fun _ => rfl) [a 0, a 1, a 4] rfl (fun _ => rfl) (fun r_10 u_10 H locs e_10 hP hD hS => ?_)
    obtain rfl := e_10
    exact rtI (f, (fnd c 1)) F hr hlk hP hS rfl ((if_neg (fun q => c_4 q)).symm) dX6_less_13

def rmX6_steal : Room := { frames := 6, cells := 0, slots := 0, locals := 136 }
theorem nmX6_steal : NmV yX6_steal RX6 1 := by unfold NmV; decide +kernel
set_option maxHeartbeats 4000000 in
set_option maxRecDepth 100000 in
theorem kX6_steal (l : Launch) (dC : Nat → ClassId) (dI : Nat → Nat → Nat) (ct : Nat → ClassId) (a : Nat → Nat) (v f c : Nat → Int32) (x1 : Int32) : MI (S := (Nat → Int32) × (Nat → Int32)) l yX6_steal wsX6_steal rmX6_steal dC dI ct eT [.ref (a 0), .int x1] (oM a v :: ai ct (a 1) 210 f :: [ai ct (a 4) 8 c]) (fun u => oM a v :: ai ct (a 1) 210 u.1 :: [ai ct (a 4) 8 u.2]) (fun r u => (r, u.1, u.2) = sSteal f c x1) := by
  refine MI.of (cc := cX6_steal) (maxL := 2) (ret := (some .int)) (by decide) rfl (Nat.le_of_ble_eq_true rfl) ?_
  intro pg en z mi below meth cd A F hr hlk hin hK hP hD hA hS hE ls hl
  have F : CallFix pg mi cd cX6_steal 2 z _ wsX6_steal RX6 := F
  have hl : lv_has ls 2 [(0, .ref (a 0)), (1, .int x1)] := hl
  refine lv_iload_n F.1 F.2.1 dX6_steal_0 rfl (lv_at hl 1 rfl) ?_
  refine iS (rest := []) (wsp := fun _ => oM a v :: ai ct (a 1) 210 f :: [ai ct (a 4) 8 c]) F (kX6_isSide l dC dI ct x1) gX6_steal_X6_isSide rfl ⟨rfl, rfl⟩ nmX6_isSide ⟨Nat.le_of_ble_eq_true rfl, Nat.le_of_ble_eq_true rfl⟩ eT_b (fun _ _ _ => trivial) hK hP hD hS hA [] (by decide) rfl rfl rfl hl.1 (Nat.le_of_ble_eq_true rfl) dX6_steal_1 ⟨Nat.zero_le _, Nat.zero_le _⟩ (fun _ => rfl) (fun _ => rfl) [a 0, a 1, a 4] rfl (fun _ => rfl) (fun r_1 u_1 H locs e_1 hP hD hS => ?_)
  obtain rfl := e_1
  refine lv_if_ne (tgt := 14) F.1 F.2.1 dX6_steal_4 (by decide) (fun c_4 => ?_) (fun c_4 => ?_)
  · have c_4 : 0 ≤ x1 ∧ x1 ≤ 1 := b01t rfl c_4
    obtain ⟨s, hs, rfl⟩ := gS_n c_4
    refine lv_aload_n F.1 F.2.1 dX6_steal_14 rfl (lv_at hl 0 rfl) ?_
    refine lv_iconst (v := 1) F.1 F.2.1 dX6_steal_15 (by decide) ?_
    refine lv_iload_n F.1 F.2.1 dX6_steal_16 rfl (lv_at hl 1 rfl) ?_
    refine lv_isub F.1 F.2.1 dX6_steal_17 ?_
    refine tp (y := nI (1 - s)) (sb2 (a := 1) (b := s) (c := 1 - s) rfl rfl (by omega)) ?_
    refine iV (rest := []) (wsp := fun _ => oM a v :: ai ct (a 1) 210 f :: [ai ct (a 4) 8 c]) F (kX6_isEmpty l dC dI ct a v f (1 - s) (by omega)) gX6_steal_X6_isEmpty rfl ⟨rfl, rfl⟩ nmX6_isEmpty ⟨Nat.le_of_ble_eq_true rfl, Nat.le_of_ble_eq_true rfl⟩ eT_b (fun _ _ _ => trivial) hK hP hD hS hA 0 rfl rfl rfl [0, 1] (by decide) rfl rfl rfl hl.1 (Nat.le_of_ble_eq_true rfl) dX6_steal_18 ⟨Nat.zero_le _, Nat.zero_le _⟩ (fun _ => rfl) (fun _ => rfl) [a 0, a 1, a 4] rfl (fun _ => rfl) (fun r_18 u_18 H locs e_18 hP hD hS => ?_)
    obtain rfl := e_18
    refine lv_if_eq (tgt := 33) F.1 F.2.1 dX6_steal_21 (by decide) (fun c_21 => ?_) (fun c_21 => ?_)
    · have c_21 : ¬ (sumU f (27 + 17 * (1 - s)) 5 = 0) := b01f rfl c_21
      refine lv_aload_n F.1 F.2.1 dX6_steal_33 rfl (lv_at hl 0 rfl) ?_
      refine lv_iload_n F.1 F.2.1 dX6_steal_34 rfl (lv_at hl 1 rfl) ?_
      refine iV (rest := []) (wsp := fun _ => oM a v :: ai ct (a 1) 210 (upd (goU f (1 - s) s 5) (21 + 17 * (1 - s)) 0) :: [ai ct (a 4) 8 c]) F (kX6_stolen l dC dI ct a v f s (by omega)) gX6_steal_X6_stolen rfl ⟨rfl, rfl⟩ nmX6_stolen ⟨Nat.le_of_ble_eq_true rfl, Nat.le_of_ble_eq_true rfl⟩ eT_b (fun _ _ _ => trivial) hK hP hD hS hA 0 rfl rfl rfl [0, 1] (by decide) rfl rfl rfl hl.1 (Nat.le_of_ble_eq_true rfl) dX6_steal_35 ⟨Nat.zero_le _, Nat.zero_le _⟩ (fun _ => rfl) (fun _ => rfl) [a 0, a 1, a 4] rfl (fun _ => rfl) (fun r_35 u_35 H locs e_35 hP hD hS => ?_)
      obtain rfl := e_35
      exact rtI ((upd (goU f (1 - s) s 5) (21 + 17 * (1 - s)) 0), c) F hr hlk hP hS rfl (Eq.trans (by rw [show tn (nI s) = s from nI_clamp (by omega)]; try exact (if_neg c_21).symm) (if_pos c_4).symm) dX6_steal_38
    · have c_21 : sumU f (27 + 17 * (1 - s)) 5 = 0 := b01t rfl c_21
      refine lv_aload_n F.1 F.2.1 dX6_steal_24 rfl (lv_at hl 0 rfl) ?_
      refine lv_ldc (v := (-1000005)) F.1 F.2.1 F.2.2.2.1 (F.2.2.2.2 _ (List.mem_of_getElem? (i := 2) rfl)) dX6_steal_25 ?_
      refine iV (rest := []) (wsp := fun _ => oM a v :: ai ct (a 1) 210 f :: [ai ct (a 4) 8 (fnd c 5)]) F (kX6_finding l dC dI ct a v c (-1000005) 5 (by decide) (by decide) (by decide)) gX6_steal_X6_finding rfl ⟨rfl, rfl⟩ nmX6_finding ⟨Nat.le_of_ble_eq_true rfl, Nat.le_of_ble_eq_true rfl⟩ eT_b (fun _ _ _ => trivial) hK hP hD hS hA 0 rfl rfl rfl [0, 2] (by decide) rfl rfl rfl hl.1 (Nat.le_of_ble_eq_true rfl) dX6_steal_27 ⟨Nat.zero_le _, Nat.zero_le _⟩ (fun _ => rfl) (fun _ => rfl) [a 0, a 1, a 4] rfl (fun _ => rfl) (fun r_27 u_27 H locs e_27 hP hD hS => ?_)
      obtain rfl := e_27
      refine lv_goto (tgt := 38) F.1 F.2.1 dX6_steal_30 (by decide) ?_
      exact rtI (f, (fnd c 5)) F hr hlk hP hS rfl (Eq.trans (by rw [show tn (nI s) = s from nI_clamp (by omega)]; try exact (if_pos c_21).symm) (if_pos c_4).symm) dX6_steal_38
  · have c_4 : ¬ (0 ≤ x1 ∧ x1 ≤ 1) := b01f rfl c_4
    refine lv_aload_n F.1 F.2.1 dX6_steal_7 rfl (lv_at hl 0 rfl) ?_
    refine lv_ldc (v := (-1000001)) F.1 F.2.1 F.2.2.2.1 (F.2.2.2.2 _ (List.mem_of_getElem? (i := 1) rfl)) dX6_steal_8 ?_
    refine iV (rest := []) (wsp := fun _ => oM a v :: ai ct (a 1) 210 f :: [ai ct (a 4) 8 (fnd c 1)]) F (kX6_finding l dC dI ct a v c (-1000001) 1 (by decide) (by decide) (by decide)) gX6_steal_X6_finding rfl ⟨rfl, rfl⟩ nmX6_finding ⟨Nat.le_of_ble_eq_true rfl, Nat.le_of_ble_eq_true rfl⟩ eT_b (fun _ _ _ => trivial) hK hP hD hS hA 0 rfl rfl rfl [0, 2] (by decide) rfl rfl rfl hl.1 (Nat.le_of_ble_eq_true rfl) dX6_steal_10 ⟨Nat.zero_le _, Nat.zero_le _⟩ (fun _ => rfl) (fun _ => rfl) [a 0, a 1, a 4] rfl (fun _ => rfl) (fun r_10 u_10 H locs e_10 hP hD hS => ?_)
    obtain rfl := e_10
    exact rtI (f, (fnd c 1)) F hr hlk hP hS rfl ((if_neg (fun q => c_4 q)).symm) dX6_steal_13

def rmX6_gift : Room := { frames := 3, cells := 0, slots := 0, locals := 66 }
theorem nmX6_gift : NmV yX6_gift RX6 3 := by unfold NmV; decide +kernel
theorem hiX6_gift_6 : ∀ w ∈ u_ws RX6 TX6 22, w ∈ wsX6_gift := by decide +kernel
set_option maxHeartbeats 4000000 in
set_option maxRecDepth 100000 in
theorem kX6_gift (l : Launch) (dC : Nat → ClassId) (dI : Nat → Nat → Nat) (ct : Nat → ClassId) (a : Nat → Nat) (v f c : Nat → Int32) (x1 x2 x3 : Int32) : MI (S := (Nat → Int32) × (Nat → Int32)) l yX6_gift wsX6_gift rmX6_gift dC dI ct eT [.ref (a 0), .int x1, .int x2, .int x3] (oM a v :: ai ct (a 1) 210 f :: [ai ct (a 4) 8 c]) (fun u => oM a v :: ai ct (a 1) 210 u.1 :: [ai ct (a 4) 8 u.2]) (fun r u => (r, u.1, u.2) = sGift f c x1 x2 x3) := by
  refine MI.of (cc := cX6_gift) (maxL := 4) (ret := (some .int)) (by decide) rfl (Nat.le_of_ble_eq_true rfl) ?_
  intro pg en z mi below meth cd A F hr hlk hin hK hP hD hA hS hE ls hl
  have F : CallFix pg mi cd cX6_gift 4 z _ wsX6_gift RX6 := F
  have hl : lv_has ls 4 [(0, .ref (a 0)), (1, .int x1), (2, .int x2), (3, .int x3)] := hl
  refine lv_iload_n F.1 F.2.1 dX6_gift_0 rfl (lv_at hl 1 rfl) ?_
  refine lv_iload_n F.1 F.2.1 dX6_gift_1 rfl (lv_at hl 2 rfl) ?_
  refine lv_iload_n F.1 F.2.1 dX6_gift_2 rfl (lv_at hl 3 rfl) ?_
  refine iS (rest := []) (wsp := fun _ => oM a v :: ai ct (a 1) 210 f :: [ai ct (a 4) 8 c]) F (kX6_areGood l dC dI ct x1 x2 x3) gX6_gift_X6_areGood rfl ⟨rfl, rfl⟩ nmX6_areGood ⟨Nat.le_of_ble_eq_true rfl, Nat.le_of_ble_eq_true rfl⟩ eT_b (fun _ _ _ => trivial) hK hP hD hS hA [] (by decide) rfl rfl rfl hl.1 (Nat.le_of_ble_eq_true rfl) dX6_gift_3 ⟨Nat.zero_le _, Nat.zero_le _⟩ (fun _ => rfl) (fun _ => rfl) [a 0, a 1, a 4] rfl (fun _ => rfl) (fun r_3 u_3 H locs e_3 hP hD hS => ?_)
  obtain rfl := e_3
  refine lv_if_ne (tgt := 16) F.1 F.2.1 dX6_gift_6 (by decide) (fun c_6 => ?_) (fun c_6 => ?_)
  · have c_6 : (0 ≤ x1 ∧ x1 ≤ 1) ∧ (0 ≤ x2 ∧ x2 ≤ 4) ∧ 1 ≤ x3 ∧ x3 ≤ 99 := b01t rfl c_6
    obtain ⟨s, hs, rfl⟩ := gS_n c_6.1
    obtain ⟨t, ht, rfl⟩ := gT_n c_6.2.1
    refine lv_aload_n F.1 F.2.1 dX6_gift_16 rfl (lv_at hl 0 rfl) ?_
    refine lv_iload_n F.1 F.2.1 dX6_gift_17 rfl (lv_at hl 1 rfl) ?_
    refine lv_iconst (v := 2) F.1 F.2.1 dX6_gift_18 (by decide) ?_
    refine lv_iload_n F.1 F.2.1 dX6_gift_19 rfl (lv_at hl 2 rfl) ?_
    refine lv_iadd F.1 F.2.1 dX6_gift_20 ?_
    refine tp (y := nI (2 + t)) (ad2 (a := 2) (b := t) (c := 2 + t) rfl rfl rfl) ?_
    refine iV (rest := []) (wsp := fun _ => oM a v :: ai ct (a 1) 210 f :: [ai ct (a 4) 8 c]) F (kX6_sideIs l dC dI ct a v f s (2 + t) (22 + 17 * s + t) (by omega) (by omega)) gX6_gift_X6_sideIs rfl ⟨rfl, rfl⟩ nmX6_sideIs ⟨Nat.le_of_ble_eq_true rfl, Nat.le_of_ble_eq_true rfl⟩ eT_b (fun _ _ _ => trivial) hK hP hD hS hA 0 rfl rfl rfl [0, 1] (by decide) rfl rfl rfl hl.1 (Nat.le_of_ble_eq_true rfl) dX6_gift_21 ⟨Nat.zero_le _, Nat.zero_le _⟩ (fun _ => rfl) (fun _ => rfl) [a 0, a 1, a 4] rfl (fun _ => rfl) (fun r_21 u_21 H locs e_21 hP hD hS => ?_)
    obtain rfl := e_21
    refine lv_iload_n F.1 F.2.1 dX6_gift_24 rfl (lv_at hl 3 rfl) ?_
    refine lv_icmp_ge (tgt := 35) F.1 F.2.1 dX6_gift_25 (by decide) (fun c_25 => ?_) (fun c_25 => ?_)
    · refine lv_aload_n F.1 F.2.1 dX6_gift_35 rfl (lv_at hl 0 rfl) ?_
      refine gf F hK hP 0 rfl rfl hiX6_gift_6 0 (by decide) (List.mem_of_getElem? (i := 3) rfl) rfl dX6_gift_36 ?_
      refine lv_iload_n F.1 F.2.1 dX6_gift_39 rfl (lv_at hl 1 rfl) ?_
      refine lv_iconst (v := 2) F.1 F.2.1 dX6_gift_40 (by decide) ?_
      refine lv_iload_n F.1 F.2.1 dX6_gift_41 rfl (lv_at hl 2 rfl) ?_
      refine lv_iadd F.1 F.2.1 dX6_gift_42 ?_
      refine tp (y := nI (2 + t)) (ad2 (a := 2) (b := t) (c := 2 + t) rfl rfl rfl) ?_
      refine iS (rest := [.ref (a 1)]) (wsp := fun _ => oM a v :: ai ct (a 1) 210 f :: [ai ct (a 4) 8 c]) F (kX6_at l dC dI ct s (2 + t) (22 + 17 * s + t) (by omega)) gX6_gift_X6_at rfl ⟨rfl, rfl⟩ nmX6_at ⟨Nat.le_of_ble_eq_true rfl, Nat.le_of_ble_eq_true rfl⟩ eT_b (fun _ _ _ => trivial) hK hP hD hS hA [] (by decide) rfl rfl rfl hl.1 (Nat.le_of_ble_eq_true rfl) dX6_gift_43 ⟨Nat.zero_le _, Nat.zero_le _⟩ (fun _ => rfl) (fun _ => rfl) [a 0, a 1, a 4] rfl (fun _ => rfl) (fun r_43 u_43 H locs e_43 hP hD hS => ?_)
      obtain rfl := e_43
      refine lv_dup2_11 F.1 F.2.1 dX6_gift_46 rfl rfl ?_
      refine al (v := f (22 + 17 * s + t)) F hK hP 1 0 rfl rfl (22 + 17 * s + t) rfl (by omega) (by decide) rfl dX6_gift_47 ?_
      refine lv_iload_n F.1 F.2.1 dX6_gift_48 rfl (lv_at hl 3 rfl) ?_
      refine lv_isub F.1 F.2.1 dX6_gift_49 ?_
      refine ast (ws' := oM a v :: ai ct (a 1) 210 (upd f (22 + 17 * s + t) ((f (22 + 17 * s + t)) - x3)) :: [ai ct (a 4) 8 c]) F hK hP hD hS 1 0 rfl rfl (22 + 17 * s + t) rfl (by omega) (by decide) dX6_gift_50 (weq.rf _) (fun H locs hP hD hS => ?_)
      refine lv_aload_n F.1 F.2.1 dX6_gift_51 rfl (lv_at hl 0 rfl) ?_
      refine lv_iconst (v := 1) F.1 F.2.1 dX6_gift_52 (by decide) ?_
      refine lv_iload_n F.1 F.2.1 dX6_gift_53 rfl (lv_at hl 1 rfl) ?_
      refine lv_isub F.1 F.2.1 dX6_gift_54 ?_
      refine tp (y := nI (1 - s)) (sb2 (a := 1) (b := s) (c := 1 - s) rfl rfl (by omega)) ?_
      refine lv_iload_n F.1 F.2.1 dX6_gift_55 rfl (lv_at hl 2 rfl) ?_
      refine lv_iload_n F.1 F.2.1 dX6_gift_56 rfl (lv_at hl 3 rfl) ?_
      refine vV (rest := []) (wsp := fun _ => oM a v :: ai ct (a 1) 210 (comeH (upd f (22 + 17 * s + t) ((f (22 + 17 * s + t)) - x3)) (1 - s) t x3) :: [ai ct (a 4) 8 c]) F (kX6_comesHome l dC dI ct a v (upd f (22 + 17 * s + t) ((f (22 + 17 * s + t)) - x3)) (1 - s) t x3 (by omega) (by omega)) gX6_gift_X6_comesHome rfl ⟨rfl, rfl⟩ nmX6_comesHome ⟨Nat.le_of_ble_eq_true rfl, Nat.le_of_ble_eq_true rfl⟩ eT_b (fun _ _ _ => trivial) hK hP hD hS hA 0 rfl rfl rfl [0, 1] (by decide) rfl rfl rfl hl.1 (Nat.le_of_ble_eq_true rfl) dX6_gift_57 ⟨Nat.zero_le _, Nat.zero_le _⟩ (fun _ => rfl) (fun _ => rfl) [a 0, a 1, a 4] rfl (fun _ => rfl) (fun u_57 H locs e_57 hP hD hS => ?_)
      refine lv_aload_n F.1 F.2.1 dX6_gift_60 rfl (lv_at hl 0 rfl) ?_
      refine lv_iconst (v := 1) F.1 F.2.1 dX6_gift_61 (by decide) ?_
      refine lv_iload_n F.1 F.2.1 dX6_gift_62 rfl (lv_at hl 1 rfl) ?_
      refine lv_isub F.1 F.2.1 dX6_gift_63 ?_
      refine tp (y := nI (1 - s)) (sb2 (a := 1) (b := s) (c := 1 - s) rfl rfl (by omega)) ?_
      refine vV (rest := []) (wsp := fun _ => oM a v :: ai ct (a 1) 210 (truF (comeH (upd f (22 + 17 * s + t) ((f (22 + 17 * s + t)) - x3)) (1 - s) t x3) (1 - s)) :: [ai ct (a 4) 8 c]) F (kX6_trusts l dC dI ct a v (comeH (upd f (22 + 17 * s + t) ((f (22 + 17 * s + t)) - x3)) (1 - s) t x3) (1 - s) (by omega)) gX6_gift_X6_trusts rfl ⟨rfl, rfl⟩ nmX6_trusts ⟨Nat.le_of_ble_eq_true rfl, Nat.le_of_ble_eq_true rfl⟩ eT_b (fun _ _ _ => trivial) hK hP hD hS hA 0 rfl rfl rfl [0, 1] (by decide) rfl rfl rfl hl.1 (Nat.le_of_ble_eq_true rfl) dX6_gift_64 ⟨Nat.zero_le _, Nat.zero_le _⟩ (fun _ => rfl) (fun _ => rfl) [a 0, a 1, a 4] rfl (fun _ => rfl) (fun u_64 H locs e_64 hP hD hS => ?_)
      refine lv_aload_n F.1 F.2.1 dX6_gift_67 rfl (lv_at hl 0 rfl) ?_
      refine lv_iconst (v := 1) F.1 F.2.1 dX6_gift_68 (by decide) ?_
      refine lv_iload_n F.1 F.2.1 dX6_gift_69 rfl (lv_at hl 1 rfl) ?_
      refine lv_isub F.1 F.2.1 dX6_gift_70 ?_
      refine tp (y := nI (1 - s)) (sb2 (a := 1) (b := s) (c := 1 - s) rfl rfl (by omega)) ?_
      refine lv_iconst (v := 1) F.1 F.2.1 dX6_gift_71 (by decide) ?_
      refine iV (rest := []) (wsp := fun _ => oM a v :: ai ct (a 1) 210 (truF (comeH (upd f (22 + 17 * s + t) ((f (22 + 17 * s + t)) - x3)) (1 - s) t x3) (1 - s)) :: [ai ct (a 4) 8 c]) F (kX6_sideIs l dC dI ct a v (truF (comeH (upd f (22 + 17 * s + t) ((f (22 + 17 * s + t)) - x3)) (1 - s) t x3) (1 - s)) (1 - s) 1 (21 + 17 * (1 - s)) (by omega) (by omega)) gX6_gift_X6_sideIs rfl ⟨rfl, rfl⟩ nmX6_sideIs ⟨Nat.le_of_ble_eq_true rfl, Nat.le_of_ble_eq_true rfl⟩ eT_b (fun _ _ _ => trivial) hK hP hD hS hA 0 rfl rfl rfl [0, 1] (by decide) rfl rfl rfl hl.1 (Nat.le_of_ble_eq_true rfl) dX6_gift_72 ⟨Nat.zero_le _, Nat.zero_le _⟩ (fun _ => rfl) (fun _ => rfl) [a 0, a 1, a 4] rfl (fun _ => rfl) (fun r_72 u_72 H locs e_72 hP hD hS => ?_)
      obtain rfl := e_72
      exact rtI ((truF (comeH (upd f (22 + 17 * s + t) ((f (22 + 17 * s + t)) - x3)) (1 - s) t x3) (1 - s)), c) F hr hlk hP hS rfl (Eq.trans (by rw [show tn (nI s) = s from nI_clamp (by omega), show tn (nI t) = t from nI_clamp (by omega)]; try exact (if_pos c_25).symm) (if_pos c_6).symm) dX6_gift_75
    · refine lv_aload_n F.1 F.2.1 dX6_gift_28 rfl (lv_at hl 0 rfl) ?_
      refine lv_ldc (v := (-1000005)) F.1 F.2.1 F.2.2.2.1 (F.2.2.2.2 _ (List.mem_of_getElem? (i := 2) rfl)) dX6_gift_29 ?_
      refine iV (rest := []) (wsp := fun _ => oM a v :: ai ct (a 1) 210 f :: [ai ct (a 4) 8 (fnd c 5)]) F (kX6_finding l dC dI ct a v c (-1000005) 5 (by decide) (by decide) (by decide)) gX6_gift_X6_finding rfl ⟨rfl, rfl⟩ nmX6_finding ⟨Nat.le_of_ble_eq_true rfl, Nat.le_of_ble_eq_true rfl⟩ eT_b (fun _ _ _ => trivial) hK hP hD hS hA 0 rfl rfl rfl [0, 2] (by decide) rfl rfl rfl hl.1 (Nat.le_of_ble_eq_true rfl) dX6_gift_31 ⟨Nat.zero_le _, Nat.zero_le _⟩ (fun _ => rfl) (fun _ => rfl) [a 0, a 1, a 4] rfl (fun _ => rfl) (fun r_31 u_31 H locs e_31 hP hD hS => ?_)
      obtain rfl := e_31
      exact rtI (f, (fnd c 5)) F hr hlk hP hS rfl (Eq.trans (by rw [show tn (nI s) = s from nI_clamp (by omega), show tn (nI t) = t from nI_clamp (by omega)]; try exact (if_neg c_25).symm) (if_pos c_6).symm) dX6_gift_34
  · have c_6 : ¬ ((0 ≤ x1 ∧ x1 ≤ 1) ∧ (0 ≤ x2 ∧ x2 ≤ 4) ∧ 1 ≤ x3 ∧ x3 ≤ 99) := b01f rfl c_6
    refine lv_aload_n F.1 F.2.1 dX6_gift_9 rfl (lv_at hl 0 rfl) ?_
    refine lv_ldc (v := (-1000001)) F.1 F.2.1 F.2.2.2.1 (F.2.2.2.2 _ (List.mem_of_getElem? (i := 1) rfl)) dX6_gift_10 ?_
    refine iV (rest := []) (wsp := fun _ => oM a v :: ai ct (a 1) 210 f :: [ai ct (a 4) 8 (fnd c 1)]) F (kX6_finding l dC dI ct a v c (-1000001) 1 (by decide) (by decide) (by decide)) gX6_gift_X6_finding rfl ⟨rfl, rfl⟩ nmX6_finding ⟨Nat.le_of_ble_eq_true rfl, Nat.le_of_ble_eq_true rfl⟩ eT_b (fun _ _ _ => trivial) hK hP hD hS hA 0 rfl rfl rfl [0, 2] (by decide) rfl rfl rfl hl.1 (Nat.le_of_ble_eq_true rfl) dX6_gift_12 ⟨Nat.zero_le _, Nat.zero_le _⟩ (fun _ => rfl) (fun _ => rfl) [a 0, a 1, a 4] rfl (fun _ => rfl) (fun r_12 u_12 H locs e_12 hP hD hS => ?_)
    obtain rfl := e_12
    exact rtI (f, (fnd c 1)) F hr hlk hP hS rfl ((if_neg (fun q => c_6 q)).symm) dX6_gift_15

def rmX6_nights : Room := { frames := 9, cells := 0, slots := 0, locals := 202 }
theorem nmX6_nights : NmV yX6_nights RX6 1 := by unfold NmV; decide +kernel
set_option maxHeartbeats 4000000 in
set_option maxRecDepth 100000 in
theorem kX6_nights (l : Launch) (dC : Nat → ClassId) (dI : Nat → Nat → Nat) (ct : Nat → ClassId) (a : Nat → Nat) (v f c : Nat → Int32) (x1 : Int32) (hRg : Rg f) : MI (S := (Nat → Int32) × (Nat → Int32)) l yX6_nights wsX6_nights rmX6_nights dC dI ct eT [.ref (a 0), .int x1] (oM a v :: ai ct (a 1) 210 f :: [ai ct (a 4) 8 c]) (fun u => oM a v :: ai ct (a 1) 210 u.1 :: [ai ct (a 4) 8 u.2]) (fun r u => (r, u.1, u.2) = sNights f c x1) := by
  refine MI.of (cc := cX6_nights) (maxL := 2) (ret := (some .int)) (by decide) rfl (Nat.le_of_ble_eq_true rfl) ?_
  intro pg en z mi below meth cd A F hr hlk hin hK hP hD hA hS hE ls hl
  have F : CallFix pg mi cd cX6_nights 2 z _ wsX6_nights RX6 := F
  have hl : lv_has ls 2 [(0, .ref (a 0)), (1, .int x1)] := hl
  refine lv_iload_n F.1 F.2.1 dX6_nights_0 rfl (lv_at hl 1 rfl) ?_
  refine lv_iconst (v := 1) F.1 F.2.1 dX6_nights_1 (by decide) ?_
  refine lv_bipush (v := 60) F.1 F.2.1 dX6_nights_2 (by decide) ?_
  refine iS (rest := []) (wsp := fun _ => oM a v :: ai ct (a 1) 210 f :: [ai ct (a 4) 8 c]) F (kX6_within l dC dI ct x1 1 60) gX6_nights_X6_within rfl ⟨rfl, rfl⟩ nmX6_within ⟨Nat.le_of_ble_eq_true rfl, Nat.le_of_ble_eq_true rfl⟩ eT_b (fun _ _ _ => trivial) hK hP hD hS hA [] (by decide) rfl rfl rfl hl.1 (Nat.le_of_ble_eq_true rfl) dX6_nights_4 ⟨Nat.zero_le _, Nat.zero_le _⟩ (fun _ => rfl) (fun _ => rfl) [a 0, a 1, a 4] rfl (fun _ => rfl) (fun r_4 u_4 H locs e_4 hP hD hS => ?_)
  obtain rfl := e_4
  refine lv_if_ne (tgt := 17) F.1 F.2.1 dX6_nights_7 (by decide) (fun c_7 => ?_) (fun c_7 => ?_)
  · have c_7 : 1 ≤ x1 ∧ x1 ≤ 60 := b01t rfl c_7
    obtain ⟨n, hn1, hn, rfl⟩ := g60_n c_7
    refine lv_aload_n F.1 F.2.1 dX6_nights_17 rfl (lv_at hl 0 rfl) ?_
    refine lv_iload_n F.1 F.2.1 dX6_nights_18 rfl (lv_at hl 1 rfl) ?_
    refine iV (rest := []) (wsp := fun _ => oM a v :: ai ct (a 1) 210 f :: [ai ct (a 4) 8 c]) F (kX6_isTooLate l dC dI ct a v f (nI n)) gX6_nights_X6_isTooLate rfl ⟨rfl, rfl⟩ nmX6_isTooLate ⟨Nat.le_of_ble_eq_true rfl, Nat.le_of_ble_eq_true rfl⟩ eT_b (fun _ _ _ => trivial) hK hP hD hS hA 0 rfl rfl rfl [0, 1] (by decide) rfl rfl rfl hl.1 (Nat.le_of_ble_eq_true rfl) dX6_nights_19 ⟨Nat.zero_le _, Nat.zero_le _⟩ (fun _ => rfl) (fun _ => rfl) [a 0, a 1, a 4] rfl (fun _ => rfl) (fun r_19 u_19 H locs e_19 hP hD hS => ?_)
    obtain rfl := e_19
    refine lv_if_eq (tgt := 34) F.1 F.2.1 dX6_nights_22 (by decide) (fun c_22 => ?_) (fun c_22 => ?_)
    · have c_22 : ¬ (9999 < f 0 + (nI n)) := b01f rfl c_22
      refine lv_aload_n F.1 F.2.1 dX6_nights_34 rfl (lv_at hl 0 rfl) ?_
      refine lv_iload_n F.1 F.2.1 dX6_nights_35 rfl (lv_at hl 1 rfl) ?_
      refine iV (rest := []) (wsp := fun _ => oM a v :: ai ct (a 1) 210 (ngU f n) :: [ai ct (a 4) 8 c]) F (kX6_nightsGo l dC dI ct a v f n (by omega) (fun k hk => Gd_of (Rg_all hRg (late_no hRg (by omega) c_22) k hk))) gX6_nights_X6_nightsGo rfl ⟨rfl, rfl⟩ nmX6_nightsGo ⟨Nat.le_of_ble_eq_true rfl, Nat.le_of_ble_eq_true rfl⟩ eT_b (fun _ _ _ => trivial) hK hP hD hS hA 0 rfl rfl rfl [0, 1] (by decide) rfl rfl rfl hl.1 (Nat.le_of_ble_eq_true rfl) dX6_nights_36 ⟨Nat.zero_le _, Nat.zero_le _⟩ (fun _ => rfl) (fun _ => rfl) [a 0, a 1, a 4] rfl (fun _ => rfl) (fun r_36 u_36 H locs e_36 hP hD hS => ?_)
      obtain rfl := e_36
      exact rtI ((ngU f n), c) F hr hlk hP hS rfl (Eq.trans (by rw [show tn (nI n) = n from nI_clamp (by omega)]; try exact (if_neg c_22).symm) (if_pos c_7).symm) dX6_nights_39
    · have c_22 : 9999 < f 0 + (nI n) := b01t rfl c_22
      refine lv_aload_n F.1 F.2.1 dX6_nights_25 rfl (lv_at hl 0 rfl) ?_
      refine lv_ldc (v := (-1000005)) F.1 F.2.1 F.2.2.2.1 (F.2.2.2.2 _ (List.mem_of_getElem? (i := 2) rfl)) dX6_nights_26 ?_
      refine iV (rest := []) (wsp := fun _ => oM a v :: ai ct (a 1) 210 f :: [ai ct (a 4) 8 (fnd c 5)]) F (kX6_finding l dC dI ct a v c (-1000005) 5 (by decide) (by decide) (by decide)) gX6_nights_X6_finding rfl ⟨rfl, rfl⟩ nmX6_finding ⟨Nat.le_of_ble_eq_true rfl, Nat.le_of_ble_eq_true rfl⟩ eT_b (fun _ _ _ => trivial) hK hP hD hS hA 0 rfl rfl rfl [0, 2] (by decide) rfl rfl rfl hl.1 (Nat.le_of_ble_eq_true rfl) dX6_nights_28 ⟨Nat.zero_le _, Nat.zero_le _⟩ (fun _ => rfl) (fun _ => rfl) [a 0, a 1, a 4] rfl (fun _ => rfl) (fun r_28 u_28 H locs e_28 hP hD hS => ?_)
      obtain rfl := e_28
      refine lv_goto (tgt := 39) F.1 F.2.1 dX6_nights_31 (by decide) ?_
      exact rtI (f, (fnd c 5)) F hr hlk hP hS rfl (Eq.trans (by rw [show tn (nI n) = n from nI_clamp (by omega)]; try exact (if_pos c_22).symm) (if_pos c_7).symm) dX6_nights_39
  · have c_7 : ¬ (1 ≤ x1 ∧ x1 ≤ 60) := b01f rfl c_7
    refine lv_aload_n F.1 F.2.1 dX6_nights_10 rfl (lv_at hl 0 rfl) ?_
    refine lv_ldc (v := (-1000001)) F.1 F.2.1 F.2.2.2.1 (F.2.2.2.2 _ (List.mem_of_getElem? (i := 1) rfl)) dX6_nights_11 ?_
    refine iV (rest := []) (wsp := fun _ => oM a v :: ai ct (a 1) 210 f :: [ai ct (a 4) 8 (fnd c 1)]) F (kX6_finding l dC dI ct a v c (-1000001) 1 (by decide) (by decide) (by decide)) gX6_nights_X6_finding rfl ⟨rfl, rfl⟩ nmX6_finding ⟨Nat.le_of_ble_eq_true rfl, Nat.le_of_ble_eq_true rfl⟩ eT_b (fun _ _ _ => trivial) hK hP hD hS hA 0 rfl rfl rfl [0, 2] (by decide) rfl rfl rfl hl.1 (Nat.le_of_ble_eq_true rfl) dX6_nights_13 ⟨Nat.zero_le _, Nat.zero_le _⟩ (fun _ => rfl) (fun _ => rfl) [a 0, a 1, a 4] rfl (fun _ => rfl) (fun r_13 u_13 H locs e_13 hP hD hS => ?_)
    obtain rfl := e_13
    exact rtI (f, (fnd c 1)) F hr hlk hP hS rfl ((if_neg (fun q => c_7 q)).symm) dX6_nights_16

def rmX6_now : Room := { frames := 3, cells := 0, slots := 0, locals := 67 }
theorem nmX6_now : NmV yX6_now RX6 1 := by unfold NmV; decide +kernel
theorem hiX6_now_6 : ∀ w ∈ u_ws RX6 TX6 22, w ∈ wsX6_now := by decide +kernel
set_option maxHeartbeats 4000000 in
set_option maxRecDepth 100000 in
theorem kX6_now (l : Launch) (dC : Nat → ClassId) (dI : Nat → Nat → Nat) (ct : Nat → ClassId) (a : Nat → Nat) (v f c : Nat → Int32) (x1 : Int32) : MI (S := (Nat → Int32) × (Nat → Int32)) l yX6_now wsX6_now rmX6_now dC dI ct eT [.ref (a 0), .int x1] (oM a v :: ai ct (a 1) 210 f :: [ai ct (a 4) 8 c]) (fun u => oM a v :: ai ct (a 1) 210 u.1 :: [ai ct (a 4) 8 u.2]) (fun r u => (r, u.1, u.2) = sNow f c x1) := by
  refine MI.of (cc := cX6_now) (maxL := 2) (ret := (some .int)) (by decide) rfl (Nat.le_of_ble_eq_true rfl) ?_
  intro pg en z mi below meth cd A F hr hlk hin hK hP hD hA hS hE ls hl
  have F : CallFix pg mi cd cX6_now 2 z _ wsX6_now RX6 := F
  have hl : lv_has ls 2 [(0, .ref (a 0)), (1, .int x1)] := hl
  refine lv_iload_n F.1 F.2.1 dX6_now_0 rfl (lv_at hl 1 rfl) ?_
  by_cases k1_0 : x1 = 0
  · refine tp k1_0 ?_
    refine lv_tableIn (x := 0) (tgt := 44) F.1 F.2.1 dX6_now_1 (by decide) (by decide) rfl (by decide) ?_
    refine lv_aload_n F.1 F.2.1 dX6_now_44 rfl (lv_at hl 0 rfl) ?_
    refine gf F hK hP 0 rfl rfl hiX6_now_6 0 (by decide) (List.mem_of_getElem? (i := 1) rfl) rfl dX6_now_45 ?_
    refine lv_iconst (v := 0) F.1 F.2.1 dX6_now_48 (by decide) ?_
    refine al (v := f 0) F hK hP 1 0 rfl rfl 0 rfl (by omega) (by decide) rfl dX6_now_49 ?_
    exact rtI (f, c) F hr hlk hP hS rfl (by unfold sNow; rw [if_pos k1_0]) dX6_now_50
  by_cases k1_1 : x1 = 1
  · refine tp k1_1 ?_
    refine lv_tableIn (x := 1) (tgt := 51) F.1 F.2.1 dX6_now_1 (by decide) (by decide) rfl (by decide) ?_
    refine lv_aload_n F.1 F.2.1 dX6_now_51 rfl (lv_at hl 0 rfl) ?_
    refine lv_iconst (v := 0) F.1 F.2.1 dX6_now_52 (by decide) ?_
    refine lv_bipush (v := 7) F.1 F.2.1 dX6_now_53 (by decide) ?_
    refine iV (rest := []) (wsp := fun _ => oM a v :: ai ct (a 1) 210 f :: [ai ct (a 4) 8 c]) F (kX6_sum l dC dI ct a v f 0 7 27 (by omega) (by omega)) gX6_now_X6_sum rfl ⟨rfl, rfl⟩ nmX6_sum ⟨Nat.le_of_ble_eq_true rfl, Nat.le_of_ble_eq_true rfl⟩ eT_b (fun _ _ _ => trivial) hK hP hD hS hA 0 rfl rfl rfl [0, 1] (by decide) rfl rfl rfl hl.1 (Nat.le_of_ble_eq_true rfl) dX6_now_55 ⟨Nat.zero_le _, Nat.zero_le _⟩ (fun _ => rfl) (fun _ => rfl) [a 0, a 1, a 4] rfl (fun _ => rfl) (fun r_55 u_55 H locs e_55 hP hD hS => ?_)
    obtain rfl := e_55
    exact rtI (f, c) F hr hlk hP hS rfl (by unfold sNow; rw [if_neg k1_0, if_pos k1_1]) dX6_now_58
  by_cases k1_2 : x1 = 2
  · refine tp k1_2 ?_
    refine lv_tableIn (x := 2) (tgt := 59) F.1 F.2.1 dX6_now_1 (by decide) (by decide) rfl (by decide) ?_
    refine lv_aload_n F.1 F.2.1 dX6_now_59 rfl (lv_at hl 0 rfl) ?_
    refine lv_iconst (v := 1) F.1 F.2.1 dX6_now_60 (by decide) ?_
    refine lv_bipush (v := 7) F.1 F.2.1 dX6_now_61 (by decide) ?_
    refine iV (rest := []) (wsp := fun _ => oM a v :: ai ct (a 1) 210 f :: [ai ct (a 4) 8 c]) F (kX6_sum l dC dI ct a v f 1 7 44 (by omega) (by omega)) gX6_now_X6_sum rfl ⟨rfl, rfl⟩ nmX6_sum ⟨Nat.le_of_ble_eq_true rfl, Nat.le_of_ble_eq_true rfl⟩ eT_b (fun _ _ _ => trivial) hK hP hD hS hA 0 rfl rfl rfl [0, 1] (by decide) rfl rfl rfl hl.1 (Nat.le_of_ble_eq_true rfl) dX6_now_63 ⟨Nat.zero_le _, Nat.zero_le _⟩ (fun _ => rfl) (fun _ => rfl) [a 0, a 1, a 4] rfl (fun _ => rfl) (fun r_63 u_63 H locs e_63 hP hD hS => ?_)
    obtain rfl := e_63
    exact rtI (f, c) F hr hlk hP hS rfl (by unfold sNow; rw [if_neg k1_0, if_neg k1_1, if_pos k1_2]) dX6_now_66
  by_cases k1_3 : x1 = 3
  · refine tp k1_3 ?_
    refine lv_tableIn (x := 3) (tgt := 67) F.1 F.2.1 dX6_now_1 (by decide) (by decide) rfl (by decide) ?_
    refine lv_aload_n F.1 F.2.1 dX6_now_67 rfl (lv_at hl 0 rfl) ?_
    refine lv_iconst (v := 0) F.1 F.2.1 dX6_now_68 (by decide) ?_
    refine lv_iconst (v := 2) F.1 F.2.1 dX6_now_69 (by decide) ?_
    refine iV (rest := []) (wsp := fun _ => oM a v :: ai ct (a 1) 210 f :: [ai ct (a 4) 8 c]) F (kX6_sum l dC dI ct a v f 0 2 22 (by omega) (by omega)) gX6_now_X6_sum rfl ⟨rfl, rfl⟩ nmX6_sum ⟨Nat.le_of_ble_eq_true rfl, Nat.le_of_ble_eq_true rfl⟩ eT_b (fun _ _ _ => trivial) hK hP hD hS hA 0 rfl rfl rfl [0, 1] (by decide) rfl rfl rfl hl.1 (Nat.le_of_ble_eq_true rfl) dX6_now_70 ⟨Nat.zero_le _, Nat.zero_le _⟩ (fun _ => rfl) (fun _ => rfl) [a 0, a 1, a 4] rfl (fun _ => rfl) (fun r_70 u_70 H locs e_70 hP hD hS => ?_)
    obtain rfl := e_70
    refine lv_aload_n F.1 F.2.1 dX6_now_73 rfl (lv_at hl 0 rfl) ?_
    refine lv_iconst (v := 1) F.1 F.2.1 dX6_now_74 (by decide) ?_
    refine lv_iconst (v := 2) F.1 F.2.1 dX6_now_75 (by decide) ?_
    refine iV (rest := [.int (sumU f 22 5)]) (wsp := fun _ => oM a v :: ai ct (a 1) 210 f :: [ai ct (a 4) 8 c]) F (kX6_sum l dC dI ct a v f 1 2 39 (by omega) (by omega)) gX6_now_X6_sum rfl ⟨rfl, rfl⟩ nmX6_sum ⟨Nat.le_of_ble_eq_true rfl, Nat.le_of_ble_eq_true rfl⟩ eT_b (fun _ _ _ => trivial) hK hP hD hS hA 0 rfl rfl rfl [0, 1] (by decide) rfl rfl rfl hl.1 (Nat.le_of_ble_eq_true rfl) dX6_now_76 ⟨Nat.zero_le _, Nat.zero_le _⟩ (fun _ => rfl) (fun _ => rfl) [a 0, a 1, a 4] rfl (fun _ => rfl) (fun r_76 u_76 H locs e_76 hP hD hS => ?_)
    obtain rfl := e_76
    refine lv_iadd F.1 F.2.1 dX6_now_79 ?_
    exact rtI (f, c) F hr hlk hP hS rfl (by unfold sNow; rw [if_neg k1_0, if_neg k1_1, if_neg k1_2, if_pos k1_3]) dX6_now_80
  by_cases k1_4 : x1 = 4
  · refine tp k1_4 ?_
    refine lv_tableIn (x := 4) (tgt := 81) F.1 F.2.1 dX6_now_1 (by decide) (by decide) rfl (by decide) ?_
    refine lv_bipush (v := 12) F.1 F.2.1 dX6_now_81 (by decide) ?_
    refine lv_aload_n F.1 F.2.1 dX6_now_83 rfl (lv_at hl 0 rfl) ?_
    refine gf F hK hP 0 rfl rfl hiX6_now_6 0 (by decide) (List.mem_of_getElem? (i := 1) rfl) rfl dX6_now_84 ?_
    refine lv_iconst (v := 0) F.1 F.2.1 dX6_now_87 (by decide) ?_
    refine al (v := f 0) F hK hP 1 0 rfl rfl 0 rfl (by omega) (by decide) rfl dX6_now_88 ?_
    refine va_mmin F.1 F.2.1 (F.2.2.1.trans hl.1.symm) F.2.2.2.1 (F.2.2.2.2 _ (List.mem_of_getElem? (i := 2) rfl)) (F.2.2.2.2 _ (List.mem_of_getElem? (i := 3) rfl)) (F.2.2.2.2 _ (List.mem_of_getElem? (i := 4) rfl)) (F.2.2.2.2 _ (List.mem_of_getElem? (i := 5) rfl)) (Nat.le_of_ble_eq_true rfl) (Nat.le_of_ble_eq_true rfl) (Nat.zero_le _) (Nat.zero_le _) dX6_now_89 ?_
    refine tp (y := mn 12 (f 0)) rfl ?_
    exact rtI (f, c) F hr hlk hP hS rfl (by unfold sNow; rw [if_neg k1_0, if_neg k1_1, if_neg k1_2, if_neg k1_3, if_pos k1_4]) dX6_now_92
  by_cases k1_5 : x1 = 5
  · refine tp k1_5 ?_
    refine lv_tableIn (x := 5) (tgt := 93) F.1 F.2.1 dX6_now_1 (by decide) (by decide) rfl (by decide) ?_
    refine lv_aload_n F.1 F.2.1 dX6_now_93 rfl (lv_at hl 0 rfl) ?_
    refine gf F hK hP 0 rfl rfl hiX6_now_6 0 (by decide) (List.mem_of_getElem? (i := 1) rfl) rfl dX6_now_94 ?_
    refine lv_iconst (v := 1) F.1 F.2.1 dX6_now_97 (by decide) ?_
    refine al (v := f 1) F hK hP 1 0 rfl rfl 1 rfl (by omega) (by decide) rfl dX6_now_98 ?_
    exact rtI (f, c) F hr hlk hP hS rfl (by unfold sNow; rw [if_neg k1_0, if_neg k1_1, if_neg k1_2, if_neg k1_3, if_neg k1_4, if_pos k1_5]) dX6_now_99
  by_cases k1_6 : x1 = 6
  · refine tp k1_6 ?_
    refine lv_tableIn (x := 6) (tgt := 100) F.1 F.2.1 dX6_now_1 (by decide) (by decide) rfl (by decide) ?_
    refine lv_aload_n F.1 F.2.1 dX6_now_100 rfl (lv_at hl 0 rfl) ?_
    refine gf F hK hP 0 rfl rfl hiX6_now_6 0 (by decide) (List.mem_of_getElem? (i := 1) rfl) rfl dX6_now_101 ?_
    refine lv_iconst (v := 2) F.1 F.2.1 dX6_now_104 (by decide) ?_
    refine al (v := f 2) F hK hP 1 0 rfl rfl 2 rfl (by omega) (by decide) rfl dX6_now_105 ?_
    exact rtI (f, c) F hr hlk hP hS rfl (by unfold sNow; rw [if_neg k1_0, if_neg k1_1, if_neg k1_2, if_neg k1_3, if_neg k1_4, if_neg k1_5, if_pos k1_6]) dX6_now_106
  refine lv_tableOut (tgt := 107) F.1 F.2.1 dX6_now_1 (ts_out (fun i h1 h2 => by rcases (show i = 0 ∨ i = 1 ∨ i = 2 ∨ i = 3 ∨ i = 4 ∨ i = 5 ∨ i = 6 by omega) with rfl | rfl | rfl | rfl | rfl | rfl | rfl <;> assumption)) (by decide) ?_
  refine lv_aload_n F.1 F.2.1 dX6_now_107 rfl (lv_at hl 0 rfl) ?_
  refine lv_ldc (v := (-1000001)) F.1 F.2.1 F.2.2.2.1 (F.2.2.2.2 _ (List.mem_of_getElem? (i := 6) rfl)) dX6_now_108 ?_
  refine iV (rest := []) (wsp := fun _ => oM a v :: ai ct (a 1) 210 f :: [ai ct (a 4) 8 (fnd c 1)]) F (kX6_finding l dC dI ct a v c (-1000001) 1 (by decide) (by decide) (by decide)) gX6_now_X6_finding rfl ⟨rfl, rfl⟩ nmX6_finding ⟨Nat.le_of_ble_eq_true rfl, Nat.le_of_ble_eq_true rfl⟩ eT_b (fun _ _ _ => trivial) hK hP hD hS hA 0 rfl rfl rfl [0, 2] (by decide) rfl rfl rfl hl.1 (Nat.le_of_ble_eq_true rfl) dX6_now_110 ⟨Nat.zero_le _, Nat.zero_le _⟩ (fun _ => rfl) (fun _ => rfl) [a 0, a 1, a 4] rfl (fun _ => rfl) (fun r_110 u_110 H locs e_110 hP hD hS => ?_)
  obtain rfl := e_110
  exact rtI (f, (fnd c 1)) F hr hlk hP hS rfl (by unfold sNow; rw [if_neg k1_0, if_neg k1_1, if_neg k1_2, if_neg k1_3, if_neg k1_4, if_neg k1_5, if_neg k1_6]; rfl) dX6_now_113

def rmX6_seed : Room := { frames := 1, cells := 0, slots := 0, locals := 23 }
theorem nmX6_seed : NmV yX6_seed RX6 1 := by unfold NmV; decide +kernel
set_option maxHeartbeats 4000000 in
set_option maxRecDepth 100000 in
theorem kX6_seed (l : Launch) (dC : Nat → ClassId) (dI : Nat → Nat → Nat) (ct : Nat → ClassId) (a : Nat → Nat) (v f : Nat → Int32) (x1 : Int32) : MI (S := (Nat → Int32)) l yX6_seed wsX6_seed rmX6_seed dC dI ct eT [.ref (a 0), .int x1] (oM a v :: [ai ct (a 1) 210 f]) (fun u => oM a v :: [ai ct (a 1) 210 u]) (fun r u => (r, u) = sSeed f x1) := by
  refine MI.of (cc := cX6_seed) (maxL := 2) (ret := (some .int)) (by decide) rfl (Nat.le_of_ble_eq_true rfl) ?_
  intro pg en z mi below meth cd A F hr hlk hin hK hP hD hA hS hE ls hl
  have F : CallFix pg mi cd cX6_seed 2 z _ wsX6_seed RX6 := F
  have hl : lv_has ls 2 [(0, .ref (a 0)), (1, .int x1)] := hl
  refine lv_aload_n F.1 F.2.1 dX6_seed_0 rfl (lv_at hl 0 rfl) ?_
  refine lv_iconst (v := 4) F.1 F.2.1 dX6_seed_1 (by decide) ?_
  refine lv_iload_n F.1 F.2.1 dX6_seed_2 rfl (lv_at hl 1 rfl) ?_
  refine iV (rest := []) (wsp := fun _ => oM a v :: [ai ct (a 1) 210 (upd f 4 x1)]) F (kX6_become l dC dI ct a v f 4 x1 (by omega)) gX6_seed_X6_become rfl ⟨rfl, rfl⟩ nmX6_become ⟨Nat.le_of_ble_eq_true rfl, Nat.le_of_ble_eq_true rfl⟩ eT_b (fun _ _ _ => trivial) hK hP hD hS hA 0 rfl rfl rfl [0, 1] (by decide) rfl rfl rfl hl.1 (Nat.le_of_ble_eq_true rfl) dX6_seed_3 ⟨Nat.zero_le _, Nat.zero_le _⟩ (fun _ => rfl) (fun _ => rfl) [a 0, a 1] rfl (fun _ => rfl) (fun r_3 u_3 H locs e_3 hP hD hS => ?_)
  obtain rfl := e_3
  exact rtI (upd f 4 x1) F hr hlk hP hS rfl rfl dX6_seed_6

def rmX6_hold : Room := { frames := 2, cells := 0, slots := 0, locals := 42 }
theorem nmX6_hold : NmV yX6_hold RX6 2 := by unfold NmV; decide +kernel
theorem hiX6_hold_6 : ∀ w ∈ u_ws RX6 TX6 22, w ∈ wsX6_hold := by decide +kernel
set_option maxHeartbeats 4000000 in
set_option maxRecDepth 100000 in
theorem kX6_hold (l : Launch) (dC : Nat → ClassId) (dI : Nat → Nat → Nat) (ct : Nat → ClassId) (a : Nat → Nat) (v f c : Nat → Int32) (x1 x2 : Int32) : MI (S := (Nat → Int32) × (Nat → Int32)) l yX6_hold wsX6_hold rmX6_hold dC dI ct eT [.ref (a 0), .int x1, .int x2] (oM a v :: ai ct (a 1) 210 f :: [ai ct (a 4) 8 c]) (fun u => oM a v :: ai ct (a 1) 210 u.1 :: [ai ct (a 4) 8 u.2]) (fun r u => (r, u.1, u.2) = sHold f c x1 x2) := by
  refine MI.of (cc := cX6_hold) (maxL := 3) (ret := (some .int)) (by decide) rfl (Nat.le_of_ble_eq_true rfl) ?_
  intro pg en z mi below meth cd A F hr hlk hin hK hP hD hA hS hE ls hl
  have F : CallFix pg mi cd cX6_hold 3 z _ wsX6_hold RX6 := F
  have hl : lv_has ls 3 [(0, .ref (a 0)), (1, .int x1), (2, .int x2)] := hl
  refine lv_iload_n F.1 F.2.1 dX6_hold_0 rfl (lv_at hl 1 rfl) ?_
  refine iS (rest := []) (wsp := fun _ => oM a v :: ai ct (a 1) 210 f :: [ai ct (a 4) 8 c]) F (kX6_isSpot l dC dI ct x1) gX6_hold_X6_isSpot rfl ⟨rfl, rfl⟩ nmX6_isSpot ⟨Nat.le_of_ble_eq_true rfl, Nat.le_of_ble_eq_true rfl⟩ eT_b (fun _ _ _ => trivial) hK hP hD hS hA [] (by decide) rfl rfl rfl hl.1 (Nat.le_of_ble_eq_true rfl) dX6_hold_1 ⟨Nat.zero_le _, Nat.zero_le _⟩ (fun _ => rfl) (fun _ => rfl) [a 0, a 1, a 4] rfl (fun _ => rfl) (fun r_1 u_1 H locs e_1 hP hD hS => ?_)
  obtain rfl := e_1
  refine lv_if_eq (tgt := 19) F.1 F.2.1 dX6_hold_4 (by decide) (fun c_4 => ?_) (fun c_4 => ?_)
  · have c_4 : ¬ (0 ≤ x1 ∧ x1 ≤ 9) := b01f rfl c_4
    refine lv_aload_n F.1 F.2.1 dX6_hold_19 rfl (lv_at hl 0 rfl) ?_
    refine lv_ldc (v := (-1000001)) F.1 F.2.1 F.2.2.2.1 (F.2.2.2.2 _ (List.mem_of_getElem? (i := 1) rfl)) dX6_hold_20 ?_
    refine iV (rest := []) (wsp := fun _ => oM a v :: ai ct (a 1) 210 f :: [ai ct (a 4) 8 (fnd c 1)]) F (kX6_finding l dC dI ct a v c (-1000001) 1 (by decide) (by decide) (by decide)) gX6_hold_X6_finding rfl ⟨rfl, rfl⟩ nmX6_finding ⟨Nat.le_of_ble_eq_true rfl, Nat.le_of_ble_eq_true rfl⟩ eT_b (fun _ _ _ => trivial) hK hP hD hS hA 0 rfl rfl rfl [0, 2] (by decide) rfl rfl rfl hl.1 (Nat.le_of_ble_eq_true rfl) dX6_hold_22 ⟨Nat.zero_le _, Nat.zero_le _⟩ (fun _ => rfl) (fun _ => rfl) [a 0, a 1, a 4] rfl (fun _ => rfl) (fun r_22 u_22 H locs e_22 hP hD hS => ?_)
    obtain rfl := e_22
    exact rtI (f, fnd c 1) F hr hlk hP hS rfl ((if_neg (fun q => c_4 q.1)).symm) dX6_hold_25
  · have c_4 : 0 ≤ x1 ∧ x1 ≤ 9 := b01t rfl c_4
    obtain ⟨i, hi, rfl⟩ := g9_n c_4
    refine lv_iload_n F.1 F.2.1 dX6_hold_7 rfl (lv_at hl 2 rfl) ?_
    refine lv_iconst (v := (-1)) F.1 F.2.1 dX6_hold_8 (by decide) ?_
    refine lv_icmp_eq (tgt := 26) F.1 F.2.1 dX6_hold_9 (by decide) (fun c_9 => ?_) (fun c_9 => ?_)
    · refine lv_aload_n F.1 F.2.1 dX6_hold_26 rfl (lv_at hl 0 rfl) ?_
      refine gf F hK hP 0 rfl rfl hiX6_hold_6 0 (by decide) (List.mem_of_getElem? (i := 2) rfl) rfl dX6_hold_27 ?_
      refine lv_iconst (v := 5) F.1 F.2.1 dX6_hold_30 (by decide) ?_
      refine lv_iload_n F.1 F.2.1 dX6_hold_31 rfl (lv_at hl 1 rfl) ?_
      refine lv_iadd F.1 F.2.1 dX6_hold_32 ?_
      refine tp (y := nI (5 + i)) (ad2 (a := 5) (b := i) (c := 5 + i) rfl rfl rfl) ?_
      refine lv_iload_n F.1 F.2.1 dX6_hold_33 rfl (lv_at hl 2 rfl) ?_
      refine ast (ws' := oM a v :: ai ct (a 1) 210 (upd f (5 + i) x2) :: [ai ct (a 4) 8 c]) F hK hP hD hS 1 0 rfl rfl (5 + i) rfl (by omega) (by decide) dX6_hold_34 (weq.rf _) (fun H locs hP hD hS => ?_)
      refine lv_iconst (v := 1) F.1 F.2.1 dX6_hold_35 (by decide) ?_
      exact rtI ((upd f (5 + i) x2), c) F hr hlk hP hS rfl (Eq.trans (by rw [show tn (nI i) = i from nI_clamp (by omega)]) (if_pos ⟨c_4, Or.inl c_9⟩).symm) dX6_hold_36
    · refine lv_iload_n F.1 F.2.1 dX6_hold_12 rfl (lv_at hl 2 rfl) ?_
      refine iS (rest := []) (wsp := fun _ => oM a v :: ai ct (a 1) 210 f :: [ai ct (a 4) 8 c]) F (kX6_isThing l dC dI ct x2) gX6_hold_X6_isThing rfl ⟨rfl, rfl⟩ nmX6_isThing ⟨Nat.le_of_ble_eq_true rfl, Nat.le_of_ble_eq_true rfl⟩ eT_b (fun _ _ _ => trivial) hK hP hD hS hA [] (by decide) rfl rfl rfl hl.1 (Nat.le_of_ble_eq_true rfl) dX6_hold_13 ⟨Nat.zero_le _, Nat.zero_le _⟩ (fun _ => rfl) (fun _ => rfl) [a 0, a 1, a 4] rfl (fun _ => rfl) (fun r_13 u_13 H locs e_13 hP hD hS => ?_)
      obtain rfl := e_13
      refine lv_if_ne (tgt := 26) F.1 F.2.1 dX6_hold_16 (by decide) (fun c_16 => ?_) (fun c_16 => ?_)
      · have c_16 : 0 ≤ x2 ∧ x2 ≤ 4 := b01t rfl c_16
        refine lv_aload_n F.1 F.2.1 dX6_hold_26 rfl (lv_at hl 0 rfl) ?_
        refine gf F hK hP 0 rfl rfl hiX6_hold_6 0 (by decide) (List.mem_of_getElem? (i := 2) rfl) rfl dX6_hold_27 ?_
        refine lv_iconst (v := 5) F.1 F.2.1 dX6_hold_30 (by decide) ?_
        refine lv_iload_n F.1 F.2.1 dX6_hold_31 rfl (lv_at hl 1 rfl) ?_
        refine lv_iadd F.1 F.2.1 dX6_hold_32 ?_
        refine tp (y := nI (5 + i)) (ad2 (a := 5) (b := i) (c := 5 + i) rfl rfl rfl) ?_
        refine lv_iload_n F.1 F.2.1 dX6_hold_33 rfl (lv_at hl 2 rfl) ?_
        refine ast (ws' := oM a v :: ai ct (a 1) 210 (upd f (5 + i) x2) :: [ai ct (a 4) 8 c]) F hK hP hD hS 1 0 rfl rfl (5 + i) rfl (by omega) (by decide) dX6_hold_34 (weq.rf _) (fun H locs hP hD hS => ?_)
        refine lv_iconst (v := 1) F.1 F.2.1 dX6_hold_35 (by decide) ?_
        exact rtI ((upd f (5 + i) x2), c) F hr hlk hP hS rfl (Eq.trans (by rw [show tn (nI i) = i from nI_clamp (by omega)]) (if_pos ⟨c_4, Or.inr c_16⟩).symm) dX6_hold_36
      · have c_16 : ¬ (0 ≤ x2 ∧ x2 ≤ 4) := b01f rfl c_16
        refine lv_aload_n F.1 F.2.1 dX6_hold_19 rfl (lv_at hl 0 rfl) ?_
        refine lv_ldc (v := (-1000001)) F.1 F.2.1 F.2.2.2.1 (F.2.2.2.2 _ (List.mem_of_getElem? (i := 1) rfl)) dX6_hold_20 ?_
        refine iV (rest := []) (wsp := fun _ => oM a v :: ai ct (a 1) 210 f :: [ai ct (a 4) 8 (fnd c 1)]) F (kX6_finding l dC dI ct a v c (-1000001) 1 (by decide) (by decide) (by decide)) gX6_hold_X6_finding rfl ⟨rfl, rfl⟩ nmX6_finding ⟨Nat.le_of_ble_eq_true rfl, Nat.le_of_ble_eq_true rfl⟩ eT_b (fun _ _ _ => trivial) hK hP hD hS hA 0 rfl rfl rfl [0, 2] (by decide) rfl rfl rfl hl.1 (Nat.le_of_ble_eq_true rfl) dX6_hold_22 ⟨Nat.zero_le _, Nat.zero_le _⟩ (fun _ => rfl) (fun _ => rfl) [a 0, a 1, a 4] rfl (fun _ => rfl) (fun r_22 u_22 H locs e_22 hP hD hS => ?_)
        obtain rfl := e_22
        exact rtI (f, fnd c 1) F hr hlk hP hS rfl ((if_neg (fun q => q.2.elim c_9 c_16)).symm) dX6_hold_25

def rmX6_status : Room := { frames := 1, cells := 0, slots := 0, locals := 22 }
theorem nmX6_status : NmV yX6_status RX6 1 := by unfold NmV; decide +kernel
theorem hiX6_status_6 : ∀ w ∈ u_ws RX6 TX6 22, w ∈ wsX6_status := by decide +kernel
set_option maxHeartbeats 4000000 in
set_option maxRecDepth 100000 in
theorem kX6_status (l : Launch) (dC : Nat → ClassId) (dI : Nat → Nat → Nat) (ct : Nat → ClassId) (a : Nat → Nat) (v c : Nat → Int32) (x1 : Int32) : MI (S := (Nat → Int32)) l yX6_status wsX6_status rmX6_status dC dI ct eT [.ref (a 0), .int x1] (oM a v :: [ai ct (a 4) 8 c]) (fun u => oM a v :: [ai ct (a 4) 8 u]) (fun r u => (r, u) = sStatus c x1) := by
  refine MI.of (cc := cX6_status) (maxL := 2) (ret := (some .int)) (by decide) rfl (Nat.le_of_ble_eq_true rfl) ?_
  intro pg en z mi below meth cd A F hr hlk hin hK hP hD hA hS hE ls hl
  have F : CallFix pg mi cd cX6_status 2 z _ wsX6_status RX6 := F
  have hl : lv_has ls 2 [(0, .ref (a 0)), (1, .int x1)] := hl
  refine lv_iload_n F.1 F.2.1 dX6_status_0 rfl (lv_at hl 1 rfl) ?_
  refine lv_iconst (v := (-1)) F.1 F.2.1 dX6_status_1 (by decide) ?_
  refine lv_bipush (v := 6) F.1 F.2.1 dX6_status_2 (by decide) ?_
  refine iS (rest := []) (wsp := fun _ => oM a v :: [ai ct (a 4) 8 c]) F (kX6_within l dC dI ct x1 (-1) 6) gX6_status_X6_within rfl ⟨rfl, rfl⟩ nmX6_within ⟨Nat.le_of_ble_eq_true rfl, Nat.le_of_ble_eq_true rfl⟩ eT_b (fun _ _ _ => trivial) hK hP hD hS hA [] (by decide) rfl rfl rfl hl.1 (Nat.le_of_ble_eq_true rfl) dX6_status_4 ⟨Nat.zero_le _, Nat.zero_le _⟩ (fun _ => rfl) (fun _ => rfl) [a 0, a 4] rfl (fun _ => rfl) (fun r_4 u_4 H locs e_4 hP hD hS => ?_)
  obtain rfl := e_4
  refine lv_if_eq (tgt := 21) F.1 F.2.1 dX6_status_7 (by decide) (fun c_7 => ?_) (fun c_7 => ?_)
  · have c_7 : ¬ ((-1) ≤ x1 ∧ x1 ≤ 6) := b01f rfl c_7
    refine lv_aload_n F.1 F.2.1 dX6_status_21 rfl (lv_at hl 0 rfl) ?_
    refine lv_ldc (v := (-1000001)) F.1 F.2.1 F.2.2.2.1 (F.2.2.2.2 _ (List.mem_of_getElem? (i := 2) rfl)) dX6_status_22 ?_
    refine iV (rest := []) (wsp := fun _ => oM a v :: [ai ct (a 4) 8 (fnd c 1)]) F (kX6_finding l dC dI ct a v c (-1000001) 1 (by decide) (by decide) (by decide)) gX6_status_X6_finding rfl ⟨rfl, rfl⟩ nmX6_finding ⟨Nat.le_of_ble_eq_true rfl, Nat.le_of_ble_eq_true rfl⟩ eT_b (fun _ _ _ => trivial) hK hP hD hS hA 0 rfl rfl rfl [0, 1] (by decide) rfl rfl rfl hl.1 (Nat.le_of_ble_eq_true rfl) dX6_status_24 ⟨Nat.zero_le _, Nat.zero_le _⟩ (fun _ => rfl) (fun _ => rfl) [a 0, a 4] rfl (fun _ => rfl) (fun r_24 u_24 H locs e_24 hP hD hS => ?_)
    obtain rfl := e_24
    exact rtI (fnd c 1) F hr hlk hP hS rfl ((if_neg c_7).symm) dX6_status_27
  · have c_7 : (-1) ≤ x1 ∧ x1 ≤ 6 := b01t rfl c_7
    obtain ⟨q, hq, eq⟩ := st_n c_7
    refine lv_aload_n F.1 F.2.1 dX6_status_10 rfl (lv_at hl 0 rfl) ?_
    refine gf F hK hP 0 rfl rfl hiX6_status_6 4 (by decide) (List.mem_of_getElem? (i := 1) rfl) rfl dX6_status_11 ?_
    refine lv_iload_n F.1 F.2.1 dX6_status_14 rfl (lv_at hl 1 rfl) ?_
    refine lv_iconst (v := 1) F.1 F.2.1 dX6_status_15 (by decide) ?_
    refine lv_iadd F.1 F.2.1 dX6_status_16 ?_
    refine tp (y := nI q) eq ?_
    refine al (v := c q) F hK hP 1 0 rfl rfl q rfl (by omega) (by decide) rfl dX6_status_17 ?_
    refine lv_goto (tgt := 27) F.1 F.2.1 dX6_status_18 (by decide) ?_
    exact rtI c F hr hlk hP hS rfl (Eq.trans (by rw [eq, show tn (nI q) = q from nI_clamp (by omega)]) (if_pos c_7).symm) dX6_status_27

def rmX6_as : Room := { frames := 2, cells := 0, slots := 0, locals := 42 }
theorem nmX6_as : NmV yX6_as RX6 2 := by unfold NmV; decide +kernel
theorem hiX6_as_6 : ∀ w ∈ u_ws RX6 TX6 22, w ∈ wsX6_as := by decide +kernel
set_option maxHeartbeats 4000000 in
set_option maxRecDepth 100000 in
theorem kX6_as (l : Launch) (dC : Nat → ClassId) (dI : Nat → Nat → Nat) (ct : Nat → ClassId) (a : Nat → Nat) (v f c : Nat → Int32) (x1 x2 : Int32) (hsp : ∀ i, i < 10 → 0 ≤ f (5 + i) → ∃ o, o < 5 ∧ f (5 + i) = nI o) : MI (S := (Nat → Int32) × (Nat → Int32)) l yX6_as wsX6_as rmX6_as dC dI ct eT [.ref (a 0), .int x1, .int x2] (oM a v :: ai ct (a 1) 210 f :: [ai ct (a 4) 8 c]) (fun u => oM a v :: ai ct (a 1) 210 u.1 :: [ai ct (a 4) 8 u.2]) (fun r u => (r, u.1, u.2) = sAs f c x1 x2) := by
  refine MI.of (cc := cX6_as) (maxL := 4) (ret := (some .int)) (by decide) rfl (Nat.le_of_ble_eq_true rfl) ?_
  intro pg en z mi below meth cd A F hr hlk hin hK hP hD hA hS hE ls hl
  have F : CallFix pg mi cd cX6_as 4 z _ wsX6_as RX6 := F
  have hl : lv_has ls 4 [(0, .ref (a 0)), (1, .int x1), (2, .int x2)] := hl
  refine lv_iload_n F.1 F.2.1 dX6_as_0 rfl (lv_at hl 1 rfl) ?_
  refine iS (rest := []) (wsp := fun _ => oM a v :: ai ct (a 1) 210 f :: [ai ct (a 4) 8 c]) F (kX6_isSpot l dC dI ct x1) gX6_as_X6_isSpot rfl ⟨rfl, rfl⟩ nmX6_isSpot ⟨Nat.le_of_ble_eq_true rfl, Nat.le_of_ble_eq_true rfl⟩ eT_b (fun _ _ _ => trivial) hK hP hD hS hA [] (by decide) rfl rfl rfl hl.1 (Nat.le_of_ble_eq_true rfl) dX6_as_1 ⟨Nat.zero_le _, Nat.zero_le _⟩ (fun _ => rfl) (fun _ => rfl) [a 0, a 1, a 4] rfl (fun _ => rfl) (fun r_1 u_1 H locs e_1 hP hD hS => ?_)
  obtain rfl := e_1
  refine lv_if_eq (tgt := 14) F.1 F.2.1 dX6_as_4 (by decide) (fun c_4 => ?_) (fun c_4 => ?_)
  · have c_4 : ¬ (0 ≤ x1 ∧ x1 ≤ 9) := b01f rfl c_4
    refine lv_aload_n F.1 F.2.1 dX6_as_14 rfl (lv_at hl 0 rfl) ?_
    refine lv_ldc (v := (-1000001)) F.1 F.2.1 F.2.2.2.1 (F.2.2.2.2 _ (List.mem_of_getElem? (i := 1) rfl)) dX6_as_15 ?_
    refine iV (rest := []) (wsp := fun _ => oM a v :: ai ct (a 1) 210 f :: [ai ct (a 4) 8 (fnd c 1)]) F (kX6_finding l dC dI ct a v c (-1000001) 1 (by decide) (by decide) (by decide)) gX6_as_X6_finding rfl ⟨rfl, rfl⟩ nmX6_finding ⟨Nat.le_of_ble_eq_true rfl, Nat.le_of_ble_eq_true rfl⟩ eT_b (fun _ _ _ => trivial) hK hP hD hS hA 0 rfl rfl rfl [0, 2] (by decide) rfl rfl rfl hl.1 (Nat.le_of_ble_eq_true rfl) dX6_as_17 ⟨Nat.zero_le _, Nat.zero_le _⟩ (fun _ => rfl) (fun _ => rfl) [a 0, a 1, a 4] rfl (fun _ => rfl) (fun r_17 u_17 H locs e_17 hP hD hS => ?_)
    obtain rfl := e_17
    exact rtI (f, fnd c 1) F hr hlk hP hS rfl ((if_neg (fun q => c_4 q.1)).symm) dX6_as_20
  · have c_4 : 0 ≤ x1 ∧ x1 ≤ 9 := b01t rfl c_4
    obtain ⟨i, hi, rfl⟩ := g9_n c_4
    refine lv_iload_n F.1 F.2.1 dX6_as_7 rfl (lv_at hl 2 rfl) ?_
    refine iS (rest := []) (wsp := fun _ => oM a v :: ai ct (a 1) 210 f :: [ai ct (a 4) 8 c]) F (kX6_isKind l dC dI ct x2) gX6_as_X6_isKind rfl ⟨rfl, rfl⟩ nmX6_isKind ⟨Nat.le_of_ble_eq_true rfl, Nat.le_of_ble_eq_true rfl⟩ eT_b (fun _ _ _ => trivial) hK hP hD hS hA [] (by decide) rfl rfl rfl hl.1 (Nat.le_of_ble_eq_true rfl) dX6_as_8 ⟨Nat.zero_le _, Nat.zero_le _⟩ (fun _ => rfl) (fun _ => rfl) [a 0, a 1, a 4] rfl (fun _ => rfl) (fun r_8 u_8 H locs e_8 hP hD hS => ?_)
    obtain rfl := e_8
    refine lv_if_ne (tgt := 21) F.1 F.2.1 dX6_as_11 (by decide) (fun c_11 => ?_) (fun c_11 => ?_)
    · have c_11 : 0 ≤ x2 ∧ x2 ≤ 6 := b01t rfl c_11
      refine lv_aload_n F.1 F.2.1 dX6_as_21 rfl (lv_at hl 0 rfl) ?_
      refine gf F hK hP 0 rfl rfl hiX6_as_6 0 (by decide) (List.mem_of_getElem? (i := 2) rfl) rfl dX6_as_22 ?_
      refine lv_iconst (v := 5) F.1 F.2.1 dX6_as_25 (by decide) ?_
      refine lv_iload_n F.1 F.2.1 dX6_as_26 rfl (lv_at hl 1 rfl) ?_
      refine lv_iadd F.1 F.2.1 dX6_as_27 ?_
      refine tp (y := nI (5 + i)) (ad2 (a := 5) (b := i) (c := 5 + i) rfl rfl rfl) ?_
      refine al (v := f (5 + i)) F hK hP 1 0 rfl rfl (5 + i) rfl (by omega) (by decide) rfl dX6_as_28 ?_
      refine lv_istore_n (lv' := [(3, .int (f (5 + i))), (0, .ref (a 0)), (1, .int (nI i)), (2, .int x2)]) F.1 F.2.1 dX6_as_29 rfl hl (by decide) rfl (fun ls hl => ?_)
      refine lv_iload_n F.1 F.2.1 dX6_as_30 rfl (lv_at hl 0 rfl) ?_
      refine lv_if_ge (tgt := 42) F.1 F.2.1 dX6_as_31 (by decide) (fun c_31 => ?_) (fun c_31 => ?_)
      · obtain ⟨o, ho, eo⟩ := hsp i (by omega) c_31
        refine lv_aload_n F.1 F.2.1 dX6_as_42 rfl (lv_at hl 1 rfl) ?_
        refine gf F hK hP 0 rfl rfl hiX6_as_6 0 (by decide) (List.mem_of_getElem? (i := 2) rfl) rfl dX6_as_43 ?_
        refine lv_bipush (v := 15) F.1 F.2.1 dX6_as_46 (by decide) ?_
        refine lv_iload_n F.1 F.2.1 dX6_as_48 rfl (lv_at hl 0 rfl) ?_
        refine tp (y := nI o) eo ?_
        refine lv_iadd F.1 F.2.1 dX6_as_49 ?_
        refine tp (y := nI (15 + o)) (ad2 (a := 15) (b := o) (c := 15 + o) rfl rfl rfl) ?_
        refine al (v := f (15 + o)) F hK hP 1 0 rfl rfl (15 + o) rfl (by omega) (by decide) rfl dX6_as_50 ?_
        refine lv_iload_n F.1 F.2.1 dX6_as_51 rfl (lv_at hl 3 rfl) ?_
        refine iS (rest := []) (wsp := fun _ => oM a v :: ai ct (a 1) 210 f :: [ai ct (a 4) 8 c]) F (kX6_isUnder l dC dI ct (f (15 + o)) x2) gX6_as_X6_isUnder rfl ⟨rfl, rfl⟩ nmX6_isUnder ⟨Nat.le_of_ble_eq_true rfl, Nat.le_of_ble_eq_true rfl⟩ eT_b (fun _ _ _ => trivial) hK hP hD hS hA [] (by decide) rfl rfl rfl hl.1 (Nat.le_of_ble_eq_true rfl) dX6_as_52 ⟨Nat.zero_le _, Nat.zero_le _⟩ (fun _ => rfl) (fun _ => rfl) [a 0, a 1, a 4] rfl (fun _ => rfl) (fun r_52 u_52 H locs e_52 hP hD hS => ?_)
        obtain rfl := e_52
        refine lv_if_eq (tgt := 62) F.1 F.2.1 dX6_as_55 (by decide) (fun c_55 => ?_) (fun c_55 => ?_)
        · refine lv_aload_n F.1 F.2.1 dX6_as_62 rfl (lv_at hl 1 rfl) ?_
          refine lv_ldcw (v := (-1000003)) F.1 F.2.1 F.2.2.2.1 (F.2.2.2.2 _ (List.mem_of_getElem? (i := 4) rfl)) dX6_as_63 ?_
          refine iV (rest := []) (wsp := fun _ => oM a v :: ai ct (a 1) 210 f :: [ai ct (a 4) 8 (fnd c 3)]) F (kX6_finding l dC dI ct a v c (-1000003) 3 (by decide) (by decide) (by decide)) gX6_as_X6_finding rfl ⟨rfl, rfl⟩ nmX6_finding ⟨Nat.le_of_ble_eq_true rfl, Nat.le_of_ble_eq_true rfl⟩ eT_b (fun _ _ _ => trivial) hK hP hD hS hA 0 rfl rfl rfl [0, 2] (by decide) rfl rfl rfl hl.1 (Nat.le_of_ble_eq_true rfl) dX6_as_66 ⟨Nat.zero_le _, Nat.zero_le _⟩ (fun _ => rfl) (fun _ => rfl) [a 0, a 1, a 4] rfl (fun _ => rfl) (fun r_66 u_66 H locs e_66 hP hD hS => ?_)
          obtain rfl := e_66
          exact rtI (f, fnd c 3) F hr hlk hP hS rfl (Eq.trans (by rw [show tn (nI i) = i from nI_clamp (by omega)]; unfold kAs; rw [if_neg (ag_n c_31 eo), eo, show tn (nI o) = o from nI_clamp (by omega), if_pos c_55]; rfl) (if_pos ⟨c_4, c_11⟩).symm) dX6_as_69
        · refine lv_iload_n F.1 F.2.1 dX6_as_58 rfl (lv_at hl 0 rfl) ?_
          refine lv_goto (tgt := 69) F.1 F.2.1 dX6_as_59 (by decide) ?_
          exact rtI (f, c) F hr hlk hP hS rfl (Eq.trans (by rw [show tn (nI i) = i from nI_clamp (by omega)]; unfold kAs; rw [if_neg (ag_n c_31 eo), eo, show tn (nI o) = o from nI_clamp (by omega), if_neg c_55]) (if_pos ⟨c_4, c_11⟩).symm) dX6_as_69
      · refine lv_aload_n F.1 F.2.1 dX6_as_34 rfl (lv_at hl 1 rfl) ?_
        refine lv_ldcw (v := (-1000006)) F.1 F.2.1 F.2.2.2.1 (F.2.2.2.2 _ (List.mem_of_getElem? (i := 3) rfl)) dX6_as_35 ?_
        refine iV (rest := []) (wsp := fun _ => oM a v :: ai ct (a 1) 210 f :: [ai ct (a 4) 8 (fnd c 6)]) F (kX6_finding l dC dI ct a v c (-1000006) 6 (by decide) (by decide) (by decide)) gX6_as_X6_finding rfl ⟨rfl, rfl⟩ nmX6_finding ⟨Nat.le_of_ble_eq_true rfl, Nat.le_of_ble_eq_true rfl⟩ eT_b (fun _ _ _ => trivial) hK hP hD hS hA 0 rfl rfl rfl [0, 2] (by decide) rfl rfl rfl hl.1 (Nat.le_of_ble_eq_true rfl) dX6_as_38 ⟨Nat.zero_le _, Nat.zero_le _⟩ (fun _ => rfl) (fun _ => rfl) [a 0, a 1, a 4] rfl (fun _ => rfl) (fun r_38 u_38 H locs e_38 hP hD hS => ?_)
        obtain rfl := e_38
        exact rtI (f, fnd c 6) F hr hlk hP hS rfl (Eq.trans (by rw [show tn (nI i) = i from nI_clamp (by omega)]; unfold kAs; rw [if_pos (Int32.not_le.mp c_31)]; rfl) (if_pos ⟨c_4, c_11⟩).symm) dX6_as_41
    · have c_11 : ¬ (0 ≤ x2 ∧ x2 ≤ 6) := b01f rfl c_11
      refine lv_aload_n F.1 F.2.1 dX6_as_14 rfl (lv_at hl 0 rfl) ?_
      refine lv_ldc (v := (-1000001)) F.1 F.2.1 F.2.2.2.1 (F.2.2.2.2 _ (List.mem_of_getElem? (i := 1) rfl)) dX6_as_15 ?_
      refine iV (rest := []) (wsp := fun _ => oM a v :: ai ct (a 1) 210 f :: [ai ct (a 4) 8 (fnd c 1)]) F (kX6_finding l dC dI ct a v c (-1000001) 1 (by decide) (by decide) (by decide)) gX6_as_X6_finding rfl ⟨rfl, rfl⟩ nmX6_finding ⟨Nat.le_of_ble_eq_true rfl, Nat.le_of_ble_eq_true rfl⟩ eT_b (fun _ _ _ => trivial) hK hP hD hS hA 0 rfl rfl rfl [0, 2] (by decide) rfl rfl rfl hl.1 (Nat.le_of_ble_eq_true rfl) dX6_as_17 ⟨Nat.zero_le _, Nat.zero_le _⟩ (fun _ => rfl) (fun _ => rfl) [a 0, a 1, a 4] rfl (fun _ => rfl) (fun r_17 u_17 H locs e_17 hP hD hS => ?_)
      obtain rfl := e_17
      exact rtI (f, fnd c 1) F hr hlk hP hS rfl ((if_neg (fun q => c_11 q.2)).symm) dX6_as_20
