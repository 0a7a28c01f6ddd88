def rmX5_price : Room := { frames := 2, cells := 0, slots := 0, locals := 42 }
theorem nmX5_price : NmV yX5_price RX5 3 := by unfold NmV; decide +kernel
theorem hiX5_price_4 : ∀ w ∈ u_ws RX4 TX4 4, w ∈ wsX5_price := by decide +kernel
theorem hiX5_price_5 : ∀ w ∈ u_ws RX5 TX5 7, w ∈ wsX5_price := by decide +kernel
set_option maxHeartbeats 4000000 in
set_option maxRecDepth 100000 in
theorem kX5_price (l : Launch) (dC : Nat → ClassId) (dI : Nat → Nat → Nat) (ct : Nat → ClassId) (x st kt sc sh fo bk sp : Nat) (tr b : Nat → Nat) (ik zz : Int32) (f c : Nat → Int32) (x1 x2 x3 : Int32) : MI (S := (Nat → Int32) × (Nat → Int32)) l yX5_price wsX5_price rmX5_price dC dI ct eT [.ref x, .int x1, .int x2, .int x3] ((x, .inr (5, [.ref st, .ref kt, .int ik, .ref (tr 0), .ref sc, .ref sh, .ref fo])) :: (st, .inr (4, [.ref (b 0), .ref bk, .ref sp, .int zz])) :: (wB ct b f ++ [ai ct fo 7 (fun j => c (j + 1))])) (fun u => (x, .inr (5, [.ref st, .ref kt, .int ik, .ref (tr 0), .ref sc, .ref sh, .ref fo])) :: (st, .inr (4, [.ref (b 0), .ref bk, .ref sp, .int zz])) :: (wB ct b u.1 ++ [ai ct fo 7 (fun j => u.2 (j + 1))])) (fun r u => (r, u.1, u.2) = sPrice f c x1 x2 x3) := by
  refine MI.of (cc := cX5_price) (maxL := 4) (ret := (some .int)) (by decide) rfl (Nat.le_of_ble_eq_true rfl) ?_
  intro pg en z mi below meth cd A F hr hlk hin hK hP hD hA hS hE ls hl
  have F : CallFix pg mi cd cX5_price 4 z _ wsX5_price RX5 := F
  have hl : lv_has ls 4 [(0, .ref x), (1, .int x1), (2, .int x2), (3, .int x3)] := hl
  refine lv_iload_n F.1 F.2.1 dX5_price_0 rfl (lv_at hl 1 rfl) ?_
  refine iS (rest := []) (wsp := fun _ => (x, .inr (5, [.ref st, .ref kt, .int ik, .ref (tr 0), .ref sc, .ref sh, .ref fo])) :: (st, .inr (4, [.ref (b 0), .ref bk, .ref sp, .int zz])) :: (wB ct b f ++ [ai ct fo 7 (fun j => c (j + 1))])) F (kX5_isSide l dC dI ct x1) gX5_price_X5_isSide rfl ⟨rfl, rfl⟩ nmX5_isSide ⟨Nat.le_of_ble_eq_true rfl, Nat.le_of_ble_eq_true rfl⟩ eT_b (fun _ _ _ => trivial) hK hP hD hS hA [] (by decide) rfl rfl rfl hl.1 (Nat.le_of_ble_eq_true rfl) dX5_price_1 ⟨Nat.zero_le _, Nat.zero_le _⟩ (fun _ => rfl) (fun _ => rfl) [x, st, b 0, b 1, b 2, b 3, b 4, b 5, b 6, fo] rfl (fun _ => rfl) (fun r_1 u_1 H locs e_1 hP hD hS => ?_)
  obtain rfl := e_1
  refine lv_if_eq (tgt := 24) F.1 F.2.1 dX5_price_4 (by decide) (fun c_4 => ?_) (fun c_4 => ?_)
  · have c_4 : ¬ (0 ≤ x1 ∧ x1 ≤ 1) := b01f rfl c_4
    refine lv_aload_n F.1 F.2.1 dX5_price_24 rfl (lv_at hl 0 rfl) ?_
    refine lv_iconst (v := 0) F.1 F.2.1 dX5_price_25 (by decide) ?_
    refine iV (rest := []) (wsp := fun _ => (x, .inr (5, [.ref st, .ref kt, .int ik, .ref (tr 0), .ref sc, .ref sh, .ref fo])) :: (st, .inr (4, [.ref (b 0), .ref bk, .ref sp, .int zz])) :: (wB ct b f ++ [ai ct fo 7 (fun j => (fnd c 1) (j + 1))])) F (kX5_finding l dC dI ct x st kt sc sh fo tr ik c 0 1 (-1000001) (by decide) (by decide) (by decide)) gX5_price_X5_finding rfl ⟨rfl, rfl⟩ nmX5_finding ⟨Nat.le_of_ble_eq_true rfl, Nat.le_of_ble_eq_true rfl⟩ eT_b (fun _ _ _ => trivial) hK hP hD hS hA 0 rfl rfl rfl [0, 9] (by decide) rfl rfl rfl hl.1 (Nat.le_of_ble_eq_true rfl) dX5_price_26 ⟨Nat.zero_le _, Nat.zero_le _⟩ (fun _ => rfl) (fun _ => rfl) [x, st, b 0, b 1, b 2, b 3, b 4, b 5, b 6, fo] rfl (fun _ => rfl) (fun r_26 u_26 H locs e_26 hP hD hS => ?_)
    obtain rfl := e_26
    exact rtI (f, (fnd c 1)) F hr hlk hP hS rfl ((if_neg (fun q => c_4 q.1)).symm) dX5_price_29
  · have c_4 : 0 ≤ x1 ∧ x1 ≤ 1 := b01t rfl c_4
    obtain ⟨s, hs, rfl⟩ := gS_n c_4
    refine lv_iload_n F.1 F.2.1 dX5_price_7 rfl (lv_at hl 2 rfl) ?_
    refine iS (rest := []) (wsp := fun _ => (x, .inr (5, [.ref st, .ref kt, .int ik, .ref (tr 0), .ref sc, .ref sh, .ref fo])) :: (st, .inr (4, [.ref (b 0), .ref bk, .ref sp, .int zz])) :: (wB ct b f ++ [ai ct fo 7 (fun j => c (j + 1))])) F (kX5_isThing l dC dI ct x2) gX5_price_X5_isThing rfl ⟨rfl, rfl⟩ nmX5_isThing ⟨Nat.le_of_ble_eq_true rfl, Nat.le_of_ble_eq_true rfl⟩ eT_b (fun _ _ _ => trivial) hK hP hD hS hA [] (by decide) rfl rfl rfl hl.1 (Nat.le_of_ble_eq_true rfl) dX5_price_8 ⟨Nat.zero_le _, Nat.zero_le _⟩ (fun _ => rfl) (fun _ => rfl) [x, st, b 0, b 1, b 2, b 3, b 4, b 5, b 6, fo] rfl (fun _ => rfl) (fun r_8 u_8 H locs e_8 hP hD hS => ?_)
    obtain rfl := e_8
    refine lv_if_eq (tgt := 24) F.1 F.2.1 dX5_price_11 (by decide) (fun c_11 => ?_) (fun c_11 => ?_)
    · have c_11 : ¬ (0 ≤ x2 ∧ x2 ≤ 4) := b01f rfl c_11
      refine lv_aload_n F.1 F.2.1 dX5_price_24 rfl (lv_at hl 0 rfl) ?_
      refine lv_iconst (v := 0) F.1 F.2.1 dX5_price_25 (by decide) ?_
      refine iV (rest := []) (wsp := fun _ => (x, .inr (5, [.ref st, .ref kt, .int ik, .ref (tr 0), .ref sc, .ref sh, .ref fo])) :: (st, .inr (4, [.ref (b 0), .ref bk, .ref sp, .int zz])) :: (wB ct b f ++ [ai ct fo 7 (fun j => (fnd c 1) (j + 1))])) F (kX5_finding l dC dI ct x st kt sc sh fo tr ik c 0 1 (-1000001) (by decide) (by decide) (by decide)) gX5_price_X5_finding rfl ⟨rfl, rfl⟩ nmX5_finding ⟨Nat.le_of_ble_eq_true rfl, Nat.le_of_ble_eq_true rfl⟩ eT_b (fun _ _ _ => trivial) hK hP hD hS hA 0 rfl rfl rfl [0, 9] (by decide) rfl rfl rfl hl.1 (Nat.le_of_ble_eq_true rfl) dX5_price_26 ⟨Nat.zero_le _, Nat.zero_le _⟩ (fun _ => rfl) (fun _ => rfl) [x, st, b 0, b 1, b 2, b 3, b 4, b 5, b 6, fo] rfl (fun _ => rfl) (fun r_26 u_26 H locs e_26 hP hD hS => ?_)
      obtain rfl := e_26
      exact rtI (f, (fnd c 1)) F hr hlk hP hS rfl ((if_neg (fun q => c_11 q.2.1)).symm) dX5_price_29
    · have c_11 : 0 ≤ x2 ∧ x2 ≤ 4 := b01t rfl c_11
      obtain ⟨t, ht, rfl⟩ := gT_n c_11
      refine lv_iload_n F.1 F.2.1 dX5_price_14 rfl (lv_at hl 3 rfl) ?_
      refine lv_iconst (v := 0) F.1 F.2.1 dX5_price_15 (by decide) ?_
      refine lv_bipush (v := 99) F.1 F.2.1 dX5_price_16 (by decide) ?_
      refine iS (rest := []) (wsp := fun _ => (x, .inr (5, [.ref st, .ref kt, .int ik, .ref (tr 0), .ref sc, .ref sh, .ref fo])) :: (st, .inr (4, [.ref (b 0), .ref bk, .ref sp, .int zz])) :: (wB ct b f ++ [ai ct fo 7 (fun j => c (j + 1))])) F (kX5_isIn l dC dI ct x3 0 99) gX5_price_X5_isIn rfl ⟨rfl, rfl⟩ nmX5_isIn ⟨Nat.le_of_ble_eq_true rfl, Nat.le_of_ble_eq_true rfl⟩ eT_b (fun _ _ _ => trivial) hK hP hD hS hA [] (by decide) rfl rfl rfl hl.1 (Nat.le_of_ble_eq_true rfl) dX5_price_18 ⟨Nat.zero_le _, Nat.zero_le _⟩ (fun _ => rfl) (fun _ => rfl) [x, st, b 0, b 1, b 2, b 3, b 4, b 5, b 6, fo] rfl (fun _ => rfl) (fun r_18 u_18 H locs e_18 hP hD hS => ?_)
      obtain rfl := e_18
      refine lv_if_ne (tgt := 30) F.1 F.2.1 dX5_price_21 (by decide) (fun c_21 => ?_) (fun c_21 => ?_)
      · have c_21 : 0 ≤ x3 ∧ x3 ≤ 99 := b01t rfl c_21
        refine lv_aload_n F.1 F.2.1 dX5_price_30 rfl (lv_at hl 0 rfl) ?_
        refine gf F hK hP 0 rfl rfl hiX5_price_5 0 (by decide) (List.mem_of_getElem? (i := 1) rfl) rfl dX5_price_31 ?_
        refine gf F hK hP 1 rfl rfl hiX5_price_4 0 (by decide) (List.mem_of_getElem? (i := 2) rfl) rfl dX5_price_34 ?_
        refine lv_iload_n F.1 F.2.1 dX5_price_37 rfl (lv_at hl 1 rfl) ?_
        refine lv_iload_n F.1 F.2.1 dX5_price_38 rfl (lv_at hl 2 rfl) ?_
        refine lv_iload_n F.1 F.2.1 dX5_price_39 rfl (lv_at hl 3 rfl) ?_
        refine iV (rest := []) (wsp := fun _ => (x, .inr (5, [.ref st, .ref kt, .int ik, .ref (tr 0), .ref sc, .ref sh, .ref fo])) :: (st, .inr (4, [.ref (b 0), .ref bk, .ref sp, .int zz])) :: (wB ct b f ++ [ai ct fo 7 (fun j => c (j + 1))])) F (kX1_priceOf l dC dI ct b f s t x3 (by omega) (by omega) c_21.1) gX5_price_X1_priceOf rfl ⟨rfl, rfl⟩ nmX1_priceOf ⟨Nat.le_of_ble_eq_true rfl, Nat.le_of_ble_eq_true rfl⟩ eT_b (fun _ _ _ => trivial) hK hP hD hS hA 2 rfl rfl rfl [2, 3, 4, 5, 6, 7, 8] (by decide) rfl rfl rfl hl.1 (Nat.le_of_ble_eq_true rfl) dX5_price_40 ⟨Nat.zero_le _, Nat.zero_le _⟩ (fun _ => rfl) (fun _ => rfl) [x, st, b 0, b 1, b 2, b 3, b 4, b 5, b 6, fo] rfl (fun _ => rfl) (fun r_40 u_40 H locs e_40 hP hD hS => ?_)
        obtain rfl := e_40
        exact rtI (f, c) F hr hlk hP hS rfl (Eq.trans (by rw [show tn (nI s) = s from nI_clamp (by omega), show tn (nI t) = t from nI_clamp (by omega)]; try exact rfl) (if_pos ⟨c_4, c_11, c_21⟩).symm) dX5_price_43
      · have c_21 : ¬ (0 ≤ x3 ∧ x3 ≤ 99) := b01f rfl c_21
        refine lv_aload_n F.1 F.2.1 dX5_price_24 rfl (lv_at hl 0 rfl) ?_
        refine lv_iconst (v := 0) F.1 F.2.1 dX5_price_25 (by decide) ?_
        refine iV (rest := []) (wsp := fun _ => (x, .inr (5, [.ref st, .ref kt, .int ik, .ref (tr 0), .ref sc, .ref sh, .ref fo])) :: (st, .inr (4, [.ref (b 0), .ref bk, .ref sp, .int zz])) :: (wB ct b f ++ [ai ct fo 7 (fun j => (fnd c 1) (j + 1))])) F (kX5_finding l dC dI ct x st kt sc sh fo tr ik c 0 1 (-1000001) (by decide) (by decide) (by decide)) gX5_price_X5_finding rfl ⟨rfl, rfl⟩ nmX5_finding ⟨Nat.le_of_ble_eq_true rfl, Nat.le_of_ble_eq_true rfl⟩ eT_b (fun _ _ _ => trivial) hK hP hD hS hA 0 rfl rfl rfl [0, 9] (by decide) rfl rfl rfl hl.1 (Nat.le_of_ble_eq_true rfl) dX5_price_26 ⟨Nat.zero_le _, Nat.zero_le _⟩ (fun _ => rfl) (fun _ => rfl) [x, st, b 0, b 1, b 2, b 3, b 4, b 5, b 6, fo] rfl (fun _ => rfl) (fun r_26 u_26 H locs e_26 hP hD hS => ?_)
        obtain rfl := e_26
        exact rtI (f, (fnd c 1)) F hr hlk hP hS rfl ((if_neg (fun q => c_21 q.2.2)).symm) dX5_price_29

def rmX5_value : Room := { frames := 2, cells := 0, slots := 0, locals := 48 }
theorem nmX5_value : NmV yX5_value RX5 2 := by unfold NmV; decide +kernel
theorem hiX5_value_4 : ∀ w ∈ u_ws RX4 TX4 4, w ∈ wsX5_value := by decide +kernel
theorem hiX5_value_5 : ∀ w ∈ u_ws RX5 TX5 7, w ∈ wsX5_value := by decide +kernel
set_option maxHeartbeats 4000000 in
set_option maxRecDepth 100000 in
theorem kX5_value (l : Launch) (dC : Nat → ClassId) (dI : Nat → Nat → Nat) (ct : Nat → ClassId) (x st kt sc sh fo bk sp : Nat) (tr b : Nat → Nat) (ik zz : Int32) (f c : Nat → Int32) (x1 x2 : Int32) (hRg : Rg f) : MI (S := (Nat → Int32) × (Nat → Int32)) l yX5_value wsX5_value rmX5_value dC dI ct eT [.ref x, .int x1, .int x2] ((x, .inr (5, [.ref st, .ref kt, .int ik, .ref (tr 0), .ref sc, .ref sh, .ref fo])) :: (st, .inr (4, [.ref (b 0), .ref bk, .ref sp, .int zz])) :: (wB ct b f ++ [ai ct fo 7 (fun j => c (j + 1))])) (fun u => (x, .inr (5, [.ref st, .ref kt, .int ik, .ref (tr 0), .ref sc, .ref sh, .ref fo])) :: (st, .inr (4, [.ref (b 0), .ref bk, .ref sp, .int zz])) :: (wB ct b u.1 ++ [ai ct fo 7 (fun j => u.2 (j + 1))])) (fun r u => (r, u.1, u.2) = sValue f c x1 x2) := by
  refine MI.of (cc := cX5_value) (maxL := 3) (ret := (some .int)) (by decide) rfl (Nat.le_of_ble_eq_true rfl) ?_
  intro pg en z mi below meth cd A F hr hlk hin hK hP hD hA hS hE ls hl
  have F : CallFix pg mi cd cX5_value 3 z _ wsX5_value RX5 := F
  have hl : lv_has ls 3 [(0, .ref x), (1, .int x1), (2, .int x2)] := hl
  refine lv_iload_n F.1 F.2.1 dX5_value_0 rfl (lv_at hl 1 rfl) ?_
  refine iS (rest := []) (wsp := fun _ => (x, .inr (5, [.ref st, .ref kt, .int ik, .ref (tr 0), .ref sc, .ref sh, .ref fo])) :: (st, .inr (4, [.ref (b 0), .ref bk, .ref sp, .int zz])) :: (wB ct b f ++ [ai ct fo 7 (fun j => c (j + 1))])) F (kX5_isSide l dC dI ct x1) gX5_value_X5_isSide rfl ⟨rfl, rfl⟩ nmX5_isSide ⟨Nat.le_of_ble_eq_true rfl, Nat.le_of_ble_eq_true rfl⟩ eT_b (fun _ _ _ => trivial) hK hP hD hS hA [] (by decide) rfl rfl rfl hl.1 (Nat.le_of_ble_eq_true rfl) dX5_value_1 ⟨Nat.zero_le _, Nat.zero_le _⟩ (fun _ => rfl) (fun _ => rfl) [x, st, b 0, b 1, b 2, b 3, b 4, b 5, b 6, fo] rfl (fun _ => rfl) (fun r_1 u_1 H locs e_1 hP hD hS => ?_)
  obtain rfl := e_1
  refine lv_if_eq (tgt := 14) F.1 F.2.1 dX5_value_4 (by decide) (fun c_4 => ?_) (fun c_4 => ?_)
  · have c_4 : ¬ (0 ≤ x1 ∧ x1 ≤ 1) := b01f rfl c_4
    refine lv_aload_n F.1 F.2.1 dX5_value_14 rfl (lv_at hl 0 rfl) ?_
    refine lv_iconst (v := 0) F.1 F.2.1 dX5_value_15 (by decide) ?_
    refine iV (rest := []) (wsp := fun _ => (x, .inr (5, [.ref st, .ref kt, .int ik, .ref (tr 0), .ref sc, .ref sh, .ref fo])) :: (st, .inr (4, [.ref (b 0), .ref bk, .ref sp, .int zz])) :: (wB ct b f ++ [ai ct fo 7 (fun j => (fnd c 1) (j + 1))])) F (kX5_finding l dC dI ct x st kt sc sh fo tr ik c 0 1 (-1000001) (by decide) (by decide) (by decide)) gX5_value_X5_finding rfl ⟨rfl, rfl⟩ nmX5_finding ⟨Nat.le_of_ble_eq_true rfl, Nat.le_of_ble_eq_true rfl⟩ eT_b (fun _ _ _ => trivial) hK hP hD hS hA 0 rfl rfl rfl [0, 9] (by decide) rfl rfl rfl hl.1 (Nat.le_of_ble_eq_true rfl) dX5_value_16 ⟨Nat.zero_le _, Nat.zero_le _⟩ (fun _ => rfl) (fun _ => rfl) [x, st, b 0, b 1, b 2, b 3, b 4, b 5, b 6, fo] rfl (fun _ => rfl) (fun r_16 u_16 H locs e_16 hP hD hS => ?_)
    obtain rfl := e_16
    exact rtI (f, (fnd c 1)) F hr hlk hP hS rfl ((if_neg (fun q => c_4 q.1)).symm) dX5_value_19
  · have c_4 : 0 ≤ x1 ∧ x1 ≤ 1 := b01t rfl c_4
    obtain ⟨s, hs, rfl⟩ := gS_n c_4
    refine lv_iload_n F.1 F.2.1 dX5_value_7 rfl (lv_at hl 2 rfl) ?_
    refine iS (rest := []) (wsp := fun _ => (x, .inr (5, [.ref st, .ref kt, .int ik, .ref (tr 0), .ref sc, .ref sh, .ref fo])) :: (st, .inr (4, [.ref (b 0), .ref bk, .ref sp, .int zz])) :: (wB ct b f ++ [ai ct fo 7 (fun j => c (j + 1))])) F (kX5_isSide l dC dI ct x2) gX5_value_X5_isSide rfl ⟨rfl, rfl⟩ nmX5_isSide ⟨Nat.le_of_ble_eq_true rfl, Nat.le_of_ble_eq_true rfl⟩ eT_b (fun _ _ _ => trivial) hK hP hD hS hA [] (by decide) rfl rfl rfl hl.1 (Nat.le_of_ble_eq_true rfl) dX5_value_8 ⟨Nat.zero_le _, Nat.zero_le _⟩ (fun _ => rfl) (fun _ => rfl) [x, st, b 0, b 1, b 2, b 3, b 4, b 5, b 6, fo] rfl (fun _ => rfl) (fun r_8 u_8 H locs e_8 hP hD hS => ?_)
    obtain rfl := e_8
    refine lv_if_ne (tgt := 20) F.1 F.2.1 dX5_value_11 (by decide) (fun c_11 => ?_) (fun c_11 => ?_)
    · have c_11 : 0 ≤ x2 ∧ x2 ≤ 1 := b01t rfl c_11
      obtain ⟨h, hh, rfl⟩ := gS_n c_11
      refine lv_aload_n F.1 F.2.1 dX5_value_20 rfl (lv_at hl 0 rfl) ?_
      refine gf F hK hP 0 rfl rfl hiX5_value_5 0 (by decide) (List.mem_of_getElem? (i := 1) rfl) rfl dX5_value_21 ?_
      refine gf F hK hP 1 rfl rfl hiX5_value_4 0 (by decide) (List.mem_of_getElem? (i := 2) rfl) rfl dX5_value_24 ?_
      refine lv_iload_n F.1 F.2.1 dX5_value_27 rfl (lv_at hl 1 rfl) ?_
      refine lv_iload_n F.1 F.2.1 dX5_value_28 rfl (lv_at hl 2 rfl) ?_
      refine iV (rest := []) (wsp := fun _ => (x, .inr (5, [.ref st, .ref kt, .int ik, .ref (tr 0), .ref sc, .ref sh, .ref fo])) :: (st, .inr (4, [.ref (b 0), .ref bk, .ref sp, .int zz])) :: (wB ct b f ++ [ai ct fo 7 (fun j => c (j + 1))])) F (kX1_heapValue l dC dI ct b f s h (by omega) (by omega) hRg) gX5_value_X1_heapValue rfl ⟨rfl, rfl⟩ nmX1_heapValue ⟨Nat.le_of_ble_eq_true rfl, Nat.le_of_ble_eq_true rfl⟩ eT_b (fun _ _ _ => trivial) hK hP hD hS hA 2 rfl rfl rfl [2, 3, 4, 5, 6, 7, 8] (by decide) rfl rfl rfl hl.1 (Nat.le_of_ble_eq_true rfl) dX5_value_29 ⟨Nat.zero_le _, Nat.zero_le _⟩ (fun _ => rfl) (fun _ => rfl) [x, st, b 0, b 1, b 2, b 3, b 4, b 5, b 6, fo] rfl (fun _ => rfl) (fun r_29 u_29 H locs e_29 hP hD hS => ?_)
      obtain rfl := e_29
      exact rtI (f, c) F hr hlk hP hS rfl (Eq.trans (by rw [show tn (nI s) = s from nI_clamp (by omega), show tn (nI h) = h from nI_clamp (by omega)]; try exact rfl) (if_pos ⟨c_4, c_11⟩).symm) dX5_value_32
    · have c_11 : ¬ (0 ≤ x2 ∧ x2 ≤ 1) := b01f rfl c_11
      refine lv_aload_n F.1 F.2.1 dX5_value_14 rfl (lv_at hl 0 rfl) ?_
      refine lv_iconst (v := 0) F.1 F.2.1 dX5_value_15 (by decide) ?_
      refine iV (rest := []) (wsp := fun _ => (x, .inr (5, [.ref st, .ref kt, .int ik, .ref (tr 0), .ref sc, .ref sh, .ref fo])) :: (st, .inr (4, [.ref (b 0), .ref bk, .ref sp, .int zz])) :: (wB ct b f ++ [ai ct fo 7 (fun j => (fnd c 1) (j + 1))])) F (kX5_finding l dC dI ct x st kt sc sh fo tr ik c 0 1 (-1000001) (by decide) (by decide) (by decide)) gX5_value_X5_finding rfl ⟨rfl, rfl⟩ nmX5_finding ⟨Nat.le_of_ble_eq_true rfl, Nat.le_of_ble_eq_true rfl⟩ eT_b (fun _ _ _ => trivial) hK hP hD hS hA 0 rfl rfl rfl [0, 9] (by decide) rfl rfl rfl hl.1 (Nat.le_of_ble_eq_true rfl) dX5_value_16 ⟨Nat.zero_le _, Nat.zero_le _⟩ (fun _ => rfl) (fun _ => rfl) [x, st, b 0, b 1, b 2, b 3, b 4, b 5, b 6, fo] rfl (fun _ => rfl) (fun r_16 u_16 H locs e_16 hP hD hS => ?_)
      obtain rfl := e_16
      exact rtI (f, (fnd c 1)) F hr hlk hP hS rfl ((if_neg (fun q => c_11 q.2)).symm) dX5_value_19

def rmX5_eaten : Room := { frames := 2, cells := 0, slots := 0, locals := 43 }
theorem nmX5_eaten : NmV yX5_eaten RX5 2 := by unfold NmV; decide +kernel
theorem hiX5_eaten_4 : ∀ w ∈ u_ws RX4 TX4 4, w ∈ wsX5_eaten := by decide +kernel
theorem hiX5_eaten_5 : ∀ w ∈ u_ws RX5 TX5 7, w ∈ wsX5_eaten := by decide +kernel
set_option maxHeartbeats 4000000 in
set_option maxRecDepth 100000 in
theorem kX5_eaten (l : Launch) (dC : Nat → ClassId) (dI : Nat → Nat → Nat) (ct : Nat → ClassId) (x st kt sc sh fo bk sp : Nat) (tr b : Nat → Nat) (ik zz : Int32) (f c : Nat → Int32) (x1 x2 : Int32) : MI (S := (Nat → Int32) × (Nat → Int32)) l yX5_eaten wsX5_eaten rmX5_eaten dC dI ct eT [.ref x, .int x1, .int x2] ((x, .inr (5, [.ref st, .ref kt, .int ik, .ref (tr 0), .ref sc, .ref sh, .ref fo])) :: (st, .inr (4, [.ref (b 0), .ref bk, .ref sp, .int zz])) :: (wB ct b f ++ [ai ct fo 7 (fun j => c (j + 1))])) (fun u => (x, .inr (5, [.ref st, .ref kt, .int ik, .ref (tr 0), .ref sc, .ref sh, .ref fo])) :: (st, .inr (4, [.ref (b 0), .ref bk, .ref sp, .int zz])) :: (wB ct b u.1 ++ [ai ct fo 7 (fun j => u.2 (j + 1))])) (fun r u => (r, u.1, u.2) = sEaten f c x1 x2) := by
  refine MI.of (cc := cX5_eaten) (maxL := 3) (ret := (some .int)) (by decide) rfl (Nat.le_of_ble_eq_true rfl) ?_
  intro pg en z mi below meth cd A F hr hlk hin hK hP hD hA hS hE ls hl
  have F : CallFix pg mi cd cX5_eaten 3 z _ wsX5_eaten RX5 := F
  have hl : lv_has ls 3 [(0, .ref x), (1, .int x1), (2, .int x2)] := hl
  refine lv_iload_n F.1 F.2.1 dX5_eaten_0 rfl (lv_at hl 1 rfl) ?_
  refine iS (rest := []) (wsp := fun _ => (x, .inr (5, [.ref st, .ref kt, .int ik, .ref (tr 0), .ref sc, .ref sh, .ref fo])) :: (st, .inr (4, [.ref (b 0), .ref bk, .ref sp, .int zz])) :: (wB ct b f ++ [ai ct fo 7 (fun j => c (j + 1))])) F (kX5_isThing l dC dI ct x1) gX5_eaten_X5_isThing rfl ⟨rfl, rfl⟩ nmX5_isThing ⟨Nat.le_of_ble_eq_true rfl, Nat.le_of_ble_eq_true rfl⟩ eT_b (fun _ _ _ => trivial) hK hP hD hS hA [] (by decide) rfl rfl rfl hl.1 (Nat.le_of_ble_eq_true rfl) dX5_eaten_1 ⟨Nat.zero_le _, Nat.zero_le _⟩ (fun _ => rfl) (fun _ => rfl) [x, st, b 0, b 1, b 2, b 3, b 4, b 5, b 6, fo] rfl (fun _ => rfl) (fun r_1 u_1 H locs e_1 hP hD hS => ?_)
  obtain rfl := e_1
  refine lv_if_eq (tgt := 17) F.1 F.2.1 dX5_eaten_4 (by decide) (fun c_4 => ?_) (fun c_4 => ?_)
  · have c_4 : ¬ (0 ≤ x1 ∧ x1 ≤ 4) := b01f rfl c_4
    refine lv_aload_n F.1 F.2.1 dX5_eaten_17 rfl (lv_at hl 0 rfl) ?_
    refine lv_iconst (v := 0) F.1 F.2.1 dX5_eaten_18 (by decide) ?_
    refine iV (rest := []) (wsp := fun _ => (x, .inr (5, [.ref st, .ref kt, .int ik, .ref (tr 0), .ref sc, .ref sh, .ref fo])) :: (st, .inr (4, [.ref (b 0), .ref bk, .ref sp, .int zz])) :: (wB ct b f ++ [ai ct fo 7 (fun j => (fnd c 1) (j + 1))])) F (kX5_finding l dC dI ct x st kt sc sh fo tr ik c 0 1 (-1000001) (by decide) (by decide) (by decide)) gX5_eaten_X5_finding rfl ⟨rfl, rfl⟩ nmX5_finding ⟨Nat.le_of_ble_eq_true rfl, Nat.le_of_ble_eq_true rfl⟩ eT_b (fun _ _ _ => trivial) hK hP hD hS hA 0 rfl rfl rfl [0, 9] (by decide) rfl rfl rfl hl.1 (Nat.le_of_ble_eq_true rfl) dX5_eaten_19 ⟨Nat.zero_le _, Nat.zero_le _⟩ (fun _ => rfl) (fun _ => rfl) [x, st, b 0, b 1, b 2, b 3, b 4, b 5, b 6, fo] rfl (fun _ => rfl) (fun r_19 u_19 H locs e_19 hP hD hS => ?_)
    obtain rfl := e_19
    exact rtI (f, (fnd c 1)) F hr hlk hP hS rfl ((if_neg (fun q => c_4 q.1)).symm) dX5_eaten_22
  · have c_4 : 0 ≤ x1 ∧ x1 ≤ 4 := b01t rfl c_4
    obtain ⟨t, ht, rfl⟩ := gT_n c_4
    refine lv_iload_n F.1 F.2.1 dX5_eaten_7 rfl (lv_at hl 2 rfl) ?_
    refine lv_iconst (v := 0) F.1 F.2.1 dX5_eaten_8 (by decide) ?_
    refine lv_bipush (v := 99) F.1 F.2.1 dX5_eaten_9 (by decide) ?_
    refine iS (rest := []) (wsp := fun _ => (x, .inr (5, [.ref st, .ref kt, .int ik, .ref (tr 0), .ref sc, .ref sh, .ref fo])) :: (st, .inr (4, [.ref (b 0), .ref bk, .ref sp, .int zz])) :: (wB ct b f ++ [ai ct fo 7 (fun j => c (j + 1))])) F (kX5_isIn l dC dI ct x2 0 99) gX5_eaten_X5_isIn rfl ⟨rfl, rfl⟩ nmX5_isIn ⟨Nat.le_of_ble_eq_true rfl, Nat.le_of_ble_eq_true rfl⟩ eT_b (fun _ _ _ => trivial) hK hP hD hS hA [] (by decide) rfl rfl rfl hl.1 (Nat.le_of_ble_eq_true rfl) dX5_eaten_11 ⟨Nat.zero_le _, Nat.zero_le _⟩ (fun _ => rfl) (fun _ => rfl) [x, st, b 0, b 1, b 2, b 3, b 4, b 5, b 6, fo] rfl (fun _ => rfl) (fun r_11 u_11 H locs e_11 hP hD hS => ?_)
    obtain rfl := e_11
    refine lv_if_ne (tgt := 23) F.1 F.2.1 dX5_eaten_14 (by decide) (fun c_14 => ?_) (fun c_14 => ?_)
    · have c_14 : 0 ≤ x2 ∧ x2 ≤ 99 := b01t rfl c_14
      refine lv_aload_n F.1 F.2.1 dX5_eaten_23 rfl (lv_at hl 0 rfl) ?_
      refine gf F hK hP 0 rfl rfl hiX5_eaten_5 0 (by decide) (List.mem_of_getElem? (i := 1) rfl) rfl dX5_eaten_24 ?_
      refine gf F hK hP 1 rfl rfl hiX5_eaten_4 0 (by decide) (List.mem_of_getElem? (i := 2) rfl) rfl dX5_eaten_27 ?_
      refine lv_iload_n F.1 F.2.1 dX5_eaten_30 rfl (lv_at hl 1 rfl) ?_
      refine lv_iload_n F.1 F.2.1 dX5_eaten_31 rfl (lv_at hl 2 rfl) ?_
      refine iV (rest := []) (wsp := fun _ => (x, .inr (5, [.ref st, .ref kt, .int ik, .ref (tr 0), .ref sc, .ref sh, .ref fo])) :: (st, .inr (4, [.ref (b 0), .ref bk, .ref sp, .int zz])) :: (wB ct b f ++ [ai ct fo 7 (fun j => c (j + 1))])) F (kX1_eatenOf l dC dI ct b f t x2 (by omega)) gX5_eaten_X1_eatenOf rfl ⟨rfl, rfl⟩ nmX1_eatenOf ⟨Nat.le_of_ble_eq_true rfl, Nat.le_of_ble_eq_true rfl⟩ eT_b (fun _ _ _ => trivial) hK hP hD hS hA 2 rfl rfl rfl [2, 3, 4, 5, 6, 7, 8] (by decide) rfl rfl rfl hl.1 (Nat.le_of_ble_eq_true rfl) dX5_eaten_32 ⟨Nat.zero_le _, Nat.zero_le _⟩ (fun _ => rfl) (fun _ => rfl) [x, st, b 0, b 1, b 2, b 3, b 4, b 5, b 6, fo] rfl (fun _ => rfl) (fun r_32 u_32 H locs e_32 hP hD hS => ?_)
      obtain rfl := e_32
      exact rtI (f, c) F hr hlk hP hS rfl (Eq.trans (by rw [show tn (nI t) = t from nI_clamp (by omega)]; try exact rfl) (if_pos ⟨c_4, c_14⟩).symm) dX5_eaten_35
    · have c_14 : ¬ (0 ≤ x2 ∧ x2 ≤ 99) := b01f rfl c_14
      refine lv_aload_n F.1 F.2.1 dX5_eaten_17 rfl (lv_at hl 0 rfl) ?_
      refine lv_iconst (v := 0) F.1 F.2.1 dX5_eaten_18 (by decide) ?_
      refine iV (rest := []) (wsp := fun _ => (x, .inr (5, [.ref st, .ref kt, .int ik, .ref (tr 0), .ref sc, .ref sh, .ref fo])) :: (st, .inr (4, [.ref (b 0), .ref bk, .ref sp, .int zz])) :: (wB ct b f ++ [ai ct fo 7 (fun j => (fnd c 1) (j + 1))])) F (kX5_finding l dC dI ct x st kt sc sh fo tr ik c 0 1 (-1000001) (by decide) (by decide) (by decide)) gX5_eaten_X5_finding rfl ⟨rfl, rfl⟩ nmX5_finding ⟨Nat.le_of_ble_eq_true rfl, Nat.le_of_ble_eq_true rfl⟩ eT_b (fun _ _ _ => trivial) hK hP hD hS hA 0 rfl rfl rfl [0, 9] (by decide) rfl rfl rfl hl.1 (Nat.le_of_ble_eq_true rfl) dX5_eaten_19 ⟨Nat.zero_le _, Nat.zero_le _⟩ (fun _ => rfl) (fun _ => rfl) [x, st, b 0, b 1, b 2, b 3, b 4, b 5, b 6, fo] rfl (fun _ => rfl) (fun r_19 u_19 H locs e_19 hP hD hS => ?_)
      obtain rfl := e_19
      exact rtI (f, (fnd c 1)) F hr hlk hP hS rfl ((if_neg (fun q => c_14 q.2)).symm) dX5_eaten_22

def rmX5_lay : Room := { frames := 2, cells := 0, slots := 0, locals := 42 }
theorem nmX5_lay : NmV yX5_lay RX5 3 := by unfold NmV; decide +kernel
theorem hiX5_lay_4 : ∀ w ∈ u_ws RX4 TX4 4, w ∈ wsX5_lay := by decide +kernel
theorem hiX5_lay_5 : ∀ w ∈ u_ws RX5 TX5 7, w ∈ wsX5_lay := by decide +kernel
set_option maxHeartbeats 4000000 in
set_option maxRecDepth 100000 in
theorem kX5_lay (l : Launch) (dC : Nat → ClassId) (dI : Nat → Nat → Nat) (ct : Nat → ClassId) (x st kt sc sh fo bk sp : Nat) (tr b : Nat → Nat) (ik zz : Int32) (f c : Nat → Int32) (x1 x2 x3 : Int32) : MI (S := (Nat → Int32) × (Nat → Int32)) l yX5_lay wsX5_lay rmX5_lay dC dI ct eT [.ref x, .int x1, .int x2, .int x3] ((x, .inr (5, [.ref st, .ref kt, .int ik, .ref (tr 0), .ref sc, .ref sh, .ref fo])) :: (st, .inr (4, [.ref (b 0), .ref bk, .ref sp, .int zz])) :: (wB ct b f ++ [ai ct fo 7 (fun j => c (j + 1))])) (fun u => (x, .inr (5, [.ref st, .ref kt, .int ik, .ref (tr 0), .ref sc, .ref sh, .ref fo])) :: (st, .inr (4, [.ref (b 0), .ref bk, .ref sp, .int zz])) :: (wB ct b u.1 ++ [ai ct fo 7 (fun j => u.2 (j + 1))])) (fun r u => (r, u.1, u.2) = sLay f c x1 x2 x3) := by
  refine MI.of (cc := cX5_lay) (maxL := 4) (ret := (some .int)) (by decide) rfl (Nat.le_of_ble_eq_true rfl) ?_
  intro pg en z mi below meth cd A F hr hlk hin hK hP hD hA hS hE ls hl
  have F : CallFix pg mi cd cX5_lay 4 z _ wsX5_lay RX5 := F
  have hl : lv_has ls 4 [(0, .ref x), (1, .int x1), (2, .int x2), (3, .int x3)] := hl
  refine lv_iload_n F.1 F.2.1 dX5_lay_0 rfl (lv_at hl 1 rfl) ?_
  refine iS (rest := []) (wsp := fun _ => (x, .inr (5, [.ref st, .ref kt, .int ik, .ref (tr 0), .ref sc, .ref sh, .ref fo])) :: (st, .inr (4, [.ref (b 0), .ref bk, .ref sp, .int zz])) :: (wB ct b f ++ [ai ct fo 7 (fun j => c (j + 1))])) F (kX5_isSide l dC dI ct x1) gX5_lay_X5_isSide rfl ⟨rfl, rfl⟩ nmX5_isSide ⟨Nat.le_of_ble_eq_true rfl, Nat.le_of_ble_eq_true rfl⟩ eT_b (fun _ _ _ => trivial) hK hP hD hS hA [] (by decide) rfl rfl rfl hl.1 (Nat.le_of_ble_eq_true rfl) dX5_lay_1 ⟨Nat.zero_le _, Nat.zero_le _⟩ (fun _ => rfl) (fun _ => rfl) [x, st, b 0, b 1, b 2, b 3, b 4, b 5, b 6, fo] rfl (fun _ => rfl) (fun r_1 u_1 H locs e_1 hP hD hS => ?_)
  obtain rfl := e_1
  refine lv_if_eq (tgt := 24) F.1 F.2.1 dX5_lay_4 (by decide) (fun c_4 => ?_) (fun c_4 => ?_)
  · have c_4 : ¬ (0 ≤ x1 ∧ x1 ≤ 1) := b01f rfl c_4
    refine lv_aload_n F.1 F.2.1 dX5_lay_24 rfl (lv_at hl 0 rfl) ?_
    refine lv_iconst (v := 0) F.1 F.2.1 dX5_lay_25 (by decide) ?_
    refine iV (rest := []) (wsp := fun _ => (x, .inr (5, [.ref st, .ref kt, .int ik, .ref (tr 0), .ref sc, .ref sh, .ref fo])) :: (st, .inr (4, [.ref (b 0), .ref bk, .ref sp, .int zz])) :: (wB ct b f ++ [ai ct fo 7 (fun j => (fnd c 1) (j + 1))])) F (kX5_finding l dC dI ct x st kt sc sh fo tr ik c 0 1 (-1000001) (by decide) (by decide) (by decide)) gX5_lay_X5_finding rfl ⟨rfl, rfl⟩ nmX5_finding ⟨Nat.le_of_ble_eq_true rfl, Nat.le_of_ble_eq_true rfl⟩ eT_b (fun _ _ _ => trivial) hK hP hD hS hA 0 rfl rfl rfl [0, 9] (by decide) rfl rfl rfl hl.1 (Nat.le_of_ble_eq_true rfl) dX5_lay_26 ⟨Nat.zero_le _, Nat.zero_le _⟩ (fun _ => rfl) (fun _ => rfl) [x, st, b 0, b 1, b 2, b 3, b 4, b 5, b 6, fo] rfl (fun _ => rfl) (fun r_26 u_26 H locs e_26 hP hD hS => ?_)
    obtain rfl := e_26
    exact rtI (f, (fnd c 1)) F hr hlk hP hS rfl ((if_neg (fun q => c_4 q.1)).symm) dX5_lay_29
  · have c_4 : 0 ≤ x1 ∧ x1 ≤ 1 := b01t rfl c_4
    obtain ⟨s, hs, rfl⟩ := gS_n c_4
    refine lv_iload_n F.1 F.2.1 dX5_lay_7 rfl (lv_at hl 2 rfl) ?_
    refine iS (rest := []) (wsp := fun _ => (x, .inr (5, [.ref st, .ref kt, .int ik, .ref (tr 0), .ref sc, .ref sh, .ref fo])) :: (st, .inr (4, [.ref (b 0), .ref bk, .ref sp, .int zz])) :: (wB ct b f ++ [ai ct fo 7 (fun j => c (j + 1))])) F (kX5_isThing l dC dI ct x2) gX5_lay_X5_isThing rfl ⟨rfl, rfl⟩ nmX5_isThing ⟨Nat.le_of_ble_eq_true rfl, Nat.le_of_ble_eq_true rfl⟩ eT_b (fun _ _ _ => trivial) hK hP hD hS hA [] (by decide) rfl rfl rfl hl.1 (Nat.le_of_ble_eq_true rfl) dX5_lay_8 ⟨Nat.zero_le _, Nat.zero_le _⟩ (fun _ => rfl) (fun _ => rfl) [x, st, b 0, b 1, b 2, b 3, b 4, b 5, b 6, fo] rfl (fun _ => rfl) (fun r_8 u_8 H locs e_8 hP hD hS => ?_)
    obtain rfl := e_8
    refine lv_if_eq (tgt := 24) F.1 F.2.1 dX5_lay_11 (by decide) (fun c_11 => ?_) (fun c_11 => ?_)
    · have c_11 : ¬ (0 ≤ x2 ∧ x2 ≤ 4) := b01f rfl c_11
      refine lv_aload_n F.1 F.2.1 dX5_lay_24 rfl (lv_at hl 0 rfl) ?_
      refine lv_iconst (v := 0) F.1 F.2.1 dX5_lay_25 (by decide) ?_
      refine iV (rest := []) (wsp := fun _ => (x, .inr (5, [.ref st, .ref kt, .int ik, .ref (tr 0), .ref sc, .ref sh, .ref fo])) :: (st, .inr (4, [.ref (b 0), .ref bk, .ref sp, .int zz])) :: (wB ct b f ++ [ai ct fo 7 (fun j => (fnd c 1) (j + 1))])) F (kX5_finding l dC dI ct x st kt sc sh fo tr ik c 0 1 (-1000001) (by decide) (by decide) (by decide)) gX5_lay_X5_finding rfl ⟨rfl, rfl⟩ nmX5_finding ⟨Nat.le_of_ble_eq_true rfl, Nat.le_of_ble_eq_true rfl⟩ eT_b (fun _ _ _ => trivial) hK hP hD hS hA 0 rfl rfl rfl [0, 9] (by decide) rfl rfl rfl hl.1 (Nat.le_of_ble_eq_true rfl) dX5_lay_26 ⟨Nat.zero_le _, Nat.zero_le _⟩ (fun _ => rfl) (fun _ => rfl) [x, st, b 0, b 1, b 2, b 3, b 4, b 5, b 6, fo] rfl (fun _ => rfl) (fun r_26 u_26 H locs e_26 hP hD hS => ?_)
      obtain rfl := e_26
      exact rtI (f, (fnd c 1)) F hr hlk hP hS rfl ((if_neg (fun q => c_11 q.2.1)).symm) dX5_lay_29
    · have c_11 : 0 ≤ x2 ∧ x2 ≤ 4 := b01t rfl c_11
      obtain ⟨t, ht, rfl⟩ := gT_n c_11
      refine lv_iload_n F.1 F.2.1 dX5_lay_14 rfl (lv_at hl 3 rfl) ?_
      refine lv_iconst (v := 1) F.1 F.2.1 dX5_lay_15 (by decide) ?_
      refine lv_bipush (v := 99) F.1 F.2.1 dX5_lay_16 (by decide) ?_
      refine iS (rest := []) (wsp := fun _ => (x, .inr (5, [.ref st, .ref kt, .int ik, .ref (tr 0), .ref sc, .ref sh, .ref fo])) :: (st, .inr (4, [.ref (b 0), .ref bk, .ref sp, .int zz])) :: (wB ct b f ++ [ai ct fo 7 (fun j => c (j + 1))])) F (kX5_isIn l dC dI ct x3 1 99) gX5_lay_X5_isIn rfl ⟨rfl, rfl⟩ nmX5_isIn ⟨Nat.le_of_ble_eq_true rfl, Nat.le_of_ble_eq_true rfl⟩ eT_b (fun _ _ _ => trivial) hK hP hD hS hA [] (by decide) rfl rfl rfl hl.1 (Nat.le_of_ble_eq_true rfl) dX5_lay_18 ⟨Nat.zero_le _, Nat.zero_le _⟩ (fun _ => rfl) (fun _ => rfl) [x, st, b 0, b 1, b 2, b 3, b 4, b 5, b 6, fo] rfl (fun _ => rfl) (fun r_18 u_18 H locs e_18 hP hD hS => ?_)
      obtain rfl := e_18
      refine lv_if_ne (tgt := 30) F.1 F.2.1 dX5_lay_21 (by decide) (fun c_21 => ?_) (fun c_21 => ?_)
      · have c_21 : 1 ≤ x3 ∧ x3 ≤ 99 := b01t rfl c_21
        refine lv_aload_n F.1 F.2.1 dX5_lay_30 rfl (lv_at hl 0 rfl) ?_
        refine gf F hK hP 0 rfl rfl hiX5_lay_5 0 (by decide) (List.mem_of_getElem? (i := 1) rfl) rfl dX5_lay_31 ?_
        refine gf F hK hP 1 rfl rfl hiX5_lay_4 0 (by decide) (List.mem_of_getElem? (i := 2) rfl) rfl dX5_lay_34 ?_
        refine lv_iload_n F.1 F.2.1 dX5_lay_37 rfl (lv_at hl 1 rfl) ?_
        refine lv_iload_n F.1 F.2.1 dX5_lay_38 rfl (lv_at hl 2 rfl) ?_
        refine lv_iload_n F.1 F.2.1 dX5_lay_39 rfl (lv_at hl 3 rfl) ?_
        refine iV (rest := []) (wsp := fun _ => (x, .inr (5, [.ref st, .ref kt, .int ik, .ref (tr 0), .ref sc, .ref sh, .ref fo])) :: (st, .inr (4, [.ref (b 0), .ref bk, .ref sp, .int zz])) :: (wB ct b f ++ [ai ct fo 7 (fun j => c (j + 1))])) F (kX1_mayLay l dC dI ct b f s t x3 (by omega) (by omega)) gX5_lay_X1_mayLay rfl ⟨rfl, rfl⟩ nmX1_mayLay ⟨Nat.le_of_ble_eq_true rfl, Nat.le_of_ble_eq_true rfl⟩ eT_b (fun _ _ _ => trivial) hK hP hD hS hA 2 rfl rfl rfl [2, 3, 4, 5, 6, 7, 8] (by decide) rfl rfl rfl hl.1 (Nat.le_of_ble_eq_true rfl) dX5_lay_40 ⟨Nat.zero_le _, Nat.zero_le _⟩ (fun _ => rfl) (fun _ => rfl) [x, st, b 0, b 1, b 2, b 3, b 4, b 5, b 6, fo] rfl (fun _ => rfl) (fun r_40 u_40 H locs e_40 hP hD hS => ?_)
        obtain rfl := e_40
        refine lv_if_ne (tgt := 52) F.1 F.2.1 dX5_lay_43 (by decide) (fun c_43 => ?_) (fun c_43 => ?_)
        · have c_43 : may f s t x3 := b01t rfl c_43
          refine lv_aload_n F.1 F.2.1 dX5_lay_52 rfl (lv_at hl 0 rfl) ?_
          refine gf F hK hP 0 rfl rfl hiX5_lay_5 0 (by decide) (List.mem_of_getElem? (i := 1) rfl) rfl dX5_lay_53 ?_
          refine gf F hK hP 1 rfl rfl hiX5_lay_4 0 (by decide) (List.mem_of_getElem? (i := 2) rfl) rfl dX5_lay_56 ?_
          refine lv_iload_n F.1 F.2.1 dX5_lay_59 rfl (lv_at hl 1 rfl) ?_
          refine lv_iload_n F.1 F.2.1 dX5_lay_60 rfl (lv_at hl 2 rfl) ?_
          refine lv_iload_n F.1 F.2.1 dX5_lay_61 rfl (lv_at hl 3 rfl) ?_
          refine iV (rest := []) (wsp := fun _ => (x, .inr (5, [.ref st, .ref kt, .int ik, .ref (tr 0), .ref sc, .ref sh, .ref fo])) :: (st, .inr (4, [.ref (b 0), .ref bk, .ref sp, .int zz])) :: (wB ct b (laid f s t x3) ++ [ai ct fo 7 (fun j => c (j + 1))])) F (kX1_layDown l dC dI ct b f s t x3 (by omega) (by omega)) gX5_lay_X1_layDown rfl ⟨rfl, rfl⟩ nmX1_layDown ⟨Nat.le_of_ble_eq_true rfl, Nat.le_of_ble_eq_true rfl⟩ eT_b (fun _ _ _ => trivial) hK hP hD hS hA 2 rfl rfl rfl [2, 3, 4, 5, 6, 7, 8] (by decide) rfl rfl rfl hl.1 (Nat.le_of_ble_eq_true rfl) dX5_lay_62 ⟨Nat.zero_le _, Nat.zero_le _⟩ (fun _ => rfl) (fun _ => rfl) [x, st, b 0, b 1, b 2, b 3, b 4, b 5, b 6, fo] rfl (fun _ => rfl) (fun r_62 u_62 H locs e_62 hP hD hS => ?_)
          obtain rfl := e_62
          exact rtI ((laid f s t x3), c) F hr hlk hP hS rfl (Eq.trans (by rw [show tn (nI s) = s from nI_clamp (by omega), show tn (nI t) = t from nI_clamp (by omega)]; try exact (if_pos c_43).symm) (if_pos ⟨c_4, c_11, c_21⟩).symm) dX5_lay_65
        · have c_43 : ¬ (may f s t x3) := b01f rfl c_43
          refine lv_aload_n F.1 F.2.1 dX5_lay_46 rfl (lv_at hl 0 rfl) ?_
          refine lv_iconst (v := 4) F.1 F.2.1 dX5_lay_47 (by decide) ?_
          refine iV (rest := []) (wsp := fun _ => (x, .inr (5, [.ref st, .ref kt, .int ik, .ref (tr 0), .ref sc, .ref sh, .ref fo])) :: (st, .inr (4, [.ref (b 0), .ref bk, .ref sp, .int zz])) :: (wB ct b f ++ [ai ct fo 7 (fun j => (fnd c 5) (j + 1))])) F (kX5_finding l dC dI ct x st kt sc sh fo tr ik c 4 5 (-1000005) (by decide) (by decide) (by decide)) gX5_lay_X5_finding rfl ⟨rfl, rfl⟩ nmX5_finding ⟨Nat.le_of_ble_eq_true rfl, Nat.le_of_ble_eq_true rfl⟩ eT_b (fun _ _ _ => trivial) hK hP hD hS hA 0 rfl rfl rfl [0, 9] (by decide) rfl rfl rfl hl.1 (Nat.le_of_ble_eq_true rfl) dX5_lay_48 ⟨Nat.zero_le _, Nat.zero_le _⟩ (fun _ => rfl) (fun _ => rfl) [x, st, b 0, b 1, b 2, b 3, b 4, b 5, b 6, fo] rfl (fun _ => rfl) (fun r_48 u_48 H locs e_48 hP hD hS => ?_)
          obtain rfl := e_48
          exact rtI (f, (fnd c 5)) F hr hlk hP hS rfl (Eq.trans (by rw [show tn (nI s) = s from nI_clamp (by omega), show tn (nI t) = t from nI_clamp (by omega)]; try exact (if_neg c_43).symm) (if_pos ⟨c_4, c_11, c_21⟩).symm) dX5_lay_51
      · have c_21 : ¬ (1 ≤ x3 ∧ x3 ≤ 99) := b01f rfl c_21
        refine lv_aload_n F.1 F.2.1 dX5_lay_24 rfl (lv_at hl 0 rfl) ?_
        refine lv_iconst (v := 0) F.1 F.2.1 dX5_lay_25 (by decide) ?_
        refine iV (rest := []) (wsp := fun _ => (x, .inr (5, [.ref st, .ref kt, .int ik, .ref (tr 0), .ref sc, .ref sh, .ref fo])) :: (st, .inr (4, [.ref (b 0), .ref bk, .ref sp, .int zz])) :: (wB ct b f ++ [ai ct fo 7 (fun j => (fnd c 1) (j + 1))])) F (kX5_finding l dC dI ct x st kt sc sh fo tr ik c 0 1 (-1000001) (by decide) (by decide) (by decide)) gX5_lay_X5_finding rfl ⟨rfl, rfl⟩ nmX5_finding ⟨Nat.le_of_ble_eq_true rfl, Nat.le_of_ble_eq_true rfl⟩ eT_b (fun _ _ _ => trivial) hK hP hD hS hA 0 rfl rfl rfl [0, 9] (by decide) rfl rfl rfl hl.1 (Nat.le_of_ble_eq_true rfl) dX5_lay_26 ⟨Nat.zero_le _, Nat.zero_le _⟩ (fun _ => rfl) (fun _ => rfl) [x, st, b 0, b 1, b 2, b 3, b 4, b 5, b 6, fo] rfl (fun _ => rfl) (fun r_26 u_26 H locs e_26 hP hD hS => ?_)
        obtain rfl := e_26
        exact rtI (f, (fnd c 1)) F hr hlk hP hS rfl ((if_neg (fun q => c_21 q.2.2)).symm) dX5_lay_29

def rmX5_back : Room := { frames := 2, cells := 0, slots := 0, locals := 42 }
theorem nmX5_back : NmV yX5_back RX5 3 := by unfold NmV; decide +kernel
theorem hiX5_back_1 : ∀ w ∈ u_ws RX1 TX1 10, w ∈ wsX5_back := by decide +kernel
theorem hiX5_back_4 : ∀ w ∈ u_ws RX4 TX4 4, w ∈ wsX5_back := by decide +kernel
theorem hiX5_back_5 : ∀ w ∈ u_ws RX5 TX5 7, w ∈ wsX5_back := by decide +kernel
set_option maxHeartbeats 4000000 in
set_option maxRecDepth 100000 in
theorem kX5_back (l : Launch) (dC : Nat → ClassId) (dI : Nat → Nat → Nat) (ct : Nat → ClassId) (x st kt sc sh fo bk sp : Nat) (tr b : Nat → Nat) (ik zz : Int32) (f c : Nat → Int32) (x1 x2 x3 : Int32) : MI (S := (Nat → Int32) × (Nat → Int32)) l yX5_back wsX5_back rmX5_back dC dI ct eT [.ref x, .int x1, .int x2, .int x3] ((x, .inr (5, [.ref st, .ref kt, .int ik, .ref (tr 0), .ref sc, .ref sh, .ref fo])) :: (st, .inr (4, [.ref (b 0), .ref bk, .ref sp, .int zz])) :: (wB ct b f ++ [ai ct fo 7 (fun j => c (j + 1))])) (fun u => (x, .inr (5, [.ref st, .ref kt, .int ik, .ref (tr 0), .ref sc, .ref sh, .ref fo])) :: (st, .inr (4, [.ref (b 0), .ref bk, .ref sp, .int zz])) :: (wB ct b u.1 ++ [ai ct fo 7 (fun j => u.2 (j + 1))])) (fun r u => (r, u.1, u.2) = sBack f c x1 x2 x3) := by
  refine MI.of (cc := cX5_back) (maxL := 6) (ret := (some .int)) (by decide) rfl (Nat.le_of_ble_eq_true rfl) ?_
  intro pg en z mi below meth cd A F hr hlk hin hK hP hD hA hS hE ls hl
  have F : CallFix pg mi cd cX5_back 6 z _ wsX5_back RX5 := F
  have hl : lv_has ls 6 [(0, .ref x), (1, .int x1), (2, .int x2), (3, .int x3)] := hl
  refine lv_iload_n F.1 F.2.1 dX5_back_0 rfl (lv_at hl 1 rfl) ?_
  refine iS (rest := []) (wsp := fun _ => (x, .inr (5, [.ref st, .ref kt, .int ik, .ref (tr 0), .ref sc, .ref sh, .ref fo])) :: (st, .inr (4, [.ref (b 0), .ref bk, .ref sp, .int zz])) :: (wB ct b f ++ [ai ct fo 7 (fun j => c (j + 1))])) F (kX5_isSide l dC dI ct x1) gX5_back_X5_isSide rfl ⟨rfl, rfl⟩ nmX5_isSide ⟨Nat.le_of_ble_eq_true rfl, Nat.le_of_ble_eq_true rfl⟩ eT_b (fun _ _ _ => trivial) hK hP hD hS hA [] (by decide) rfl rfl rfl hl.1 (Nat.le_of_ble_eq_true rfl) dX5_back_1 ⟨Nat.zero_le _, Nat.zero_le _⟩ (fun _ => rfl) (fun _ => rfl) [x, st, b 0, b 1, b 2, b 3, b 4, b 5, b 6, fo] rfl (fun _ => rfl) (fun r_1 u_1 H locs e_1 hP hD hS => ?_)
  obtain rfl := e_1
  refine lv_if_eq (tgt := 24) F.1 F.2.1 dX5_back_4 (by decide) (fun c_4 => ?_) (fun c_4 => ?_)
  · have c_4 : ¬ (0 ≤ x1 ∧ x1 ≤ 1) := b01f rfl c_4
    refine lv_aload_n F.1 F.2.1 dX5_back_24 rfl (lv_at hl 0 rfl) ?_
    refine lv_iconst (v := 0) F.1 F.2.1 dX5_back_25 (by decide) ?_
    refine iV (rest := []) (wsp := fun _ => (x, .inr (5, [.ref st, .ref kt, .int ik, .ref (tr 0), .ref sc, .ref sh, .ref fo])) :: (st, .inr (4, [.ref (b 0), .ref bk, .ref sp, .int zz])) :: (wB ct b f ++ [ai ct fo 7 (fun j => (fnd c 1) (j + 1))])) F (kX5_finding l dC dI ct x st kt sc sh fo tr ik c 0 1 (-1000001) (by decide) (by decide) (by decide)) gX5_back_X5_finding rfl ⟨rfl, rfl⟩ nmX5_finding ⟨Nat.le_of_ble_eq_true rfl, Nat.le_of_ble_eq_true rfl⟩ eT_b (fun _ _ _ => trivial) hK hP hD hS hA 0 rfl rfl rfl [0, 9] (by decide) rfl rfl rfl hl.1 (Nat.le_of_ble_eq_true rfl) dX5_back_26 ⟨Nat.zero_le _, Nat.zero_le _⟩ (fun _ => rfl) (fun _ => rfl) [x, st, b 0, b 1, b 2, b 3, b 4, b 5, b 6, fo] rfl (fun _ => rfl) (fun r_26 u_26 H locs e_26 hP hD hS => ?_)
    obtain rfl := e_26
    exact rtI (f, (fnd c 1)) F hr hlk hP hS rfl ((if_neg (fun q => c_4 q.1)).symm) dX5_back_29
  · have c_4 : 0 ≤ x1 ∧ x1 ≤ 1 := b01t rfl c_4
    obtain ⟨s, hs, rfl⟩ := gS_n c_4
    refine lv_iload_n F.1 F.2.1 dX5_back_7 rfl (lv_at hl 2 rfl) ?_
    refine iS (rest := []) (wsp := fun _ => (x, .inr (5, [.ref st, .ref kt, .int ik, .ref (tr 0), .ref sc, .ref sh, .ref fo])) :: (st, .inr (4, [.ref (b 0), .ref bk, .ref sp, .int zz])) :: (wB ct b f ++ [ai ct fo 7 (fun j => c (j + 1))])) F (kX5_isThing l dC dI ct x2) gX5_back_X5_isThing rfl ⟨rfl, rfl⟩ nmX5_isThing ⟨Nat.le_of_ble_eq_true rfl, Nat.le_of_ble_eq_true rfl⟩ eT_b (fun _ _ _ => trivial) hK hP hD hS hA [] (by decide) rfl rfl rfl hl.1 (Nat.le_of_ble_eq_true rfl) dX5_back_8 ⟨Nat.zero_le _, Nat.zero_le _⟩ (fun _ => rfl) (fun _ => rfl) [x, st, b 0, b 1, b 2, b 3, b 4, b 5, b 6, fo] rfl (fun _ => rfl) (fun r_8 u_8 H locs e_8 hP hD hS => ?_)
    obtain rfl := e_8
    refine lv_if_eq (tgt := 24) F.1 F.2.1 dX5_back_11 (by decide) (fun c_11 => ?_) (fun c_11 => ?_)
    · have c_11 : ¬ (0 ≤ x2 ∧ x2 ≤ 4) := b01f rfl c_11
      refine lv_aload_n F.1 F.2.1 dX5_back_24 rfl (lv_at hl 0 rfl) ?_
      refine lv_iconst (v := 0) F.1 F.2.1 dX5_back_25 (by decide) ?_
      refine iV (rest := []) (wsp := fun _ => (x, .inr (5, [.ref st, .ref kt, .int ik, .ref (tr 0), .ref sc, .ref sh, .ref fo])) :: (st, .inr (4, [.ref (b 0), .ref bk, .ref sp, .int zz])) :: (wB ct b f ++ [ai ct fo 7 (fun j => (fnd c 1) (j + 1))])) F (kX5_finding l dC dI ct x st kt sc sh fo tr ik c 0 1 (-1000001) (by decide) (by decide) (by decide)) gX5_back_X5_finding rfl ⟨rfl, rfl⟩ nmX5_finding ⟨Nat.le_of_ble_eq_true rfl, Nat.le_of_ble_eq_true rfl⟩ eT_b (fun _ _ _ => trivial) hK hP hD hS hA 0 rfl rfl rfl [0, 9] (by decide) rfl rfl rfl hl.1 (Nat.le_of_ble_eq_true rfl) dX5_back_26 ⟨Nat.zero_le _, Nat.zero_le _⟩ (fun _ => rfl) (fun _ => rfl) [x, st, b 0, b 1, b 2, b 3, b 4, b 5, b 6, fo] rfl (fun _ => rfl) (fun r_26 u_26 H locs e_26 hP hD hS => ?_)
      obtain rfl := e_26
      exact rtI (f, (fnd c 1)) F hr hlk hP hS rfl ((if_neg (fun q => c_11 q.2.1)).symm) dX5_back_29
    · have c_11 : 0 ≤ x2 ∧ x2 ≤ 4 := b01t rfl c_11
      obtain ⟨t, ht, rfl⟩ := gT_n c_11
      refine lv_iload_n F.1 F.2.1 dX5_back_14 rfl (lv_at hl 3 rfl) ?_
      refine lv_iconst (v := 1) F.1 F.2.1 dX5_back_15 (by decide) ?_
      refine lv_bipush (v := 99) F.1 F.2.1 dX5_back_16 (by decide) ?_
      refine iS (rest := []) (wsp := fun _ => (x, .inr (5, [.ref st, .ref kt, .int ik, .ref (tr 0), .ref sc, .ref sh, .ref fo])) :: (st, .inr (4, [.ref (b 0), .ref bk, .ref sp, .int zz])) :: (wB ct b f ++ [ai ct fo 7 (fun j => c (j + 1))])) F (kX5_isIn l dC dI ct x3 1 99) gX5_back_X5_isIn rfl ⟨rfl, rfl⟩ nmX5_isIn ⟨Nat.le_of_ble_eq_true rfl, Nat.le_of_ble_eq_true rfl⟩ eT_b (fun _ _ _ => trivial) hK hP hD hS hA [] (by decide) rfl rfl rfl hl.1 (Nat.le_of_ble_eq_true rfl) dX5_back_18 ⟨Nat.zero_le _, Nat.zero_le _⟩ (fun _ => rfl) (fun _ => rfl) [x, st, b 0, b 1, b 2, b 3, b 4, b 5, b 6, fo] rfl (fun _ => rfl) (fun r_18 u_18 H locs e_18 hP hD hS => ?_)
      obtain rfl := e_18
      refine lv_if_ne (tgt := 30) F.1 F.2.1 dX5_back_21 (by decide) (fun c_21 => ?_) (fun c_21 => ?_)
      · have c_21 : 1 ≤ x3 ∧ x3 ≤ 99 := b01t rfl c_21
        refine lv_iload_n F.1 F.2.1 dX5_back_30 rfl (lv_at hl 1 rfl) ?_
        refine lv_iconst (v := 5) F.1 F.2.1 dX5_back_31 (by decide) ?_
        refine lv_imul F.1 F.2.1 dX5_back_32 ?_
        refine tp (y := nI (s * 5)) (ml2 (a := s) (b := 5) (c := s * 5) rfl rfl rfl) ?_
        refine lv_iload_n F.1 F.2.1 dX5_back_33 rfl (lv_at hl 2 rfl) ?_
        refine lv_iadd F.1 F.2.1 dX5_back_34 ?_
        refine tp (y := nI (s * 5 + t)) (ad2 (a := s * 5) (b := t) (c := s * 5 + t) rfl rfl rfl) ?_
        refine lv_istore (lv' := [(4, .int (nI (s * 5 + t))), (0, .ref x), (1, .int (nI s)), (2, .int (nI t)), (3, .int x3)]) F.1 F.2.1 dX5_back_35 hl (by decide) rfl (fun ls hl => ?_)
        refine lv_aload_n F.1 F.2.1 dX5_back_37 rfl (lv_at hl 1 rfl) ?_
        refine gf F hK hP 0 rfl rfl hiX5_back_5 0 (by decide) (List.mem_of_getElem? (i := 1) rfl) rfl dX5_back_38 ?_
        refine gf F hK hP 1 rfl rfl hiX5_back_4 0 (by decide) (List.mem_of_getElem? (i := 2) rfl) rfl dX5_back_41 ?_
        refine lv_astore (lv' := [(5, .ref (b 0)), (4, .int (nI (s * 5 + t))), (0, .ref x), (1, .int (nI s)), (2, .int (nI t)), (3, .int x3)]) F.1 F.2.1 dX5_back_44 hl (by decide) rfl (fun ls hl => ?_)
        refine lv_aload F.1 F.2.1 dX5_back_46 (lv_at hl 0 rfl) ?_
        refine gf F hK hP 2 rfl rfl hiX5_back_1 2 (by decide) (List.mem_of_getElem? (i := 3) rfl) rfl dX5_back_48 ?_
        refine lv_iload F.1 F.2.1 dX5_back_51 (lv_at hl 1 rfl) ?_
        refine al (v := f (27 + 17 * s + t)) F hK hP 5 0 rfl rfl (s * 5 + t) rfl (by omega) (by decide) (congrArg f (ix5 (by omega))) dX5_back_53 ?_
        refine lv_iload_n F.1 F.2.1 dX5_back_54 rfl (lv_at hl 5 rfl) ?_
        refine lv_icmp_lt (tgt := 73) F.1 F.2.1 dX5_back_55 (by decide) (fun c_55 => ?_) (fun c_55 => ?_)
        · refine lv_aload_n F.1 F.2.1 dX5_back_73 rfl (lv_at hl 2 rfl) ?_
          refine lv_iconst (v := 4) F.1 F.2.1 dX5_back_74 (by decide) ?_
          refine iV (rest := []) (wsp := fun _ => (x, .inr (5, [.ref st, .ref kt, .int ik, .ref (tr 0), .ref sc, .ref sh, .ref fo])) :: (st, .inr (4, [.ref (b 0), .ref bk, .ref sp, .int zz])) :: (wB ct b f ++ [ai ct fo 7 (fun j => (fnd c 5) (j + 1))])) F (kX5_finding l dC dI ct x st kt sc sh fo tr ik c 4 5 (-1000005) (by decide) (by decide) (by decide)) gX5_back_X5_finding rfl ⟨rfl, rfl⟩ nmX5_finding ⟨Nat.le_of_ble_eq_true rfl, Nat.le_of_ble_eq_true rfl⟩ eT_b (fun _ _ _ => trivial) hK hP hD hS hA 0 rfl rfl rfl [0, 9] (by decide) rfl rfl rfl hl.1 (Nat.le_of_ble_eq_true rfl) dX5_back_75 ⟨Nat.zero_le _, Nat.zero_le _⟩ (fun _ => rfl) (fun _ => rfl) [x, st, b 0, b 1, b 2, b 3, b 4, b 5, b 6, fo] rfl (fun _ => rfl) (fun r_75 u_75 H locs e_75 hP hD hS => ?_)
          obtain rfl := e_75
          exact rtI (f, (fnd c 5)) F hr hlk hP hS rfl (Eq.trans (by rw [show tn (nI s) = s from nI_clamp (by omega), show tn (nI t) = t from nI_clamp (by omega)]; try exact (if_neg (fun q => Int32.not_lt.mpr q.1 c_55)).symm) (if_pos ⟨c_4, c_11, c_21⟩).symm) dX5_back_78
        · refine lv_aload F.1 F.2.1 dX5_back_58 (lv_at hl 0 rfl) ?_
          refine gf F hK hP 2 rfl rfl hiX5_back_1 1 (by decide) (List.mem_of_getElem? (i := 4) rfl) rfl dX5_back_60 ?_
          refine lv_iload F.1 F.2.1 dX5_back_63 (lv_at hl 1 rfl) ?_
          refine al (v := f (22 + 17 * s + t)) F hK hP 4 0 rfl rfl (s * 5 + t) rfl (by omega) (by decide) (congrArg f (ix5 (by omega))) dX5_back_65 ?_
          refine lv_iload_n F.1 F.2.1 dX5_back_66 rfl (lv_at hl 5 rfl) ?_
          refine lv_iadd F.1 F.2.1 dX5_back_67 ?_
          refine lv_bipush (v := 99) F.1 F.2.1 dX5_back_68 (by decide) ?_
          refine lv_icmp_le (tgt := 79) F.1 F.2.1 dX5_back_70 (by decide) (fun c_70 => ?_) (fun c_70 => ?_)
          · refine lv_aload F.1 F.2.1 dX5_back_79 (lv_at hl 0 rfl) ?_
            refine gf F hK hP 2 rfl rfl hiX5_back_1 2 (by decide) (List.mem_of_getElem? (i := 3) rfl) rfl dX5_back_81 ?_
            refine lv_iload F.1 F.2.1 dX5_back_84 (lv_at hl 1 rfl) ?_
            refine lv_dup2_11 F.1 F.2.1 dX5_back_86 rfl rfl ?_
            refine al (v := f (27 + 17 * s + t)) F hK hP 5 0 rfl rfl (s * 5 + t) rfl (by omega) (by decide) (congrArg f (ix5 (by omega))) dX5_back_87 ?_
            refine lv_iload_n F.1 F.2.1 dX5_back_88 rfl (lv_at hl 5 rfl) ?_
            refine lv_isub F.1 F.2.1 dX5_back_89 ?_
            refine ast (ws' := (x, .inr (5, [.ref st, .ref kt, .int ik, .ref (tr 0), .ref sc, .ref sh, .ref fo])) :: (st, .inr (4, [.ref (b 0), .ref bk, .ref sp, .int zz])) :: (wB ct b (upd f (27 + 17 * s + t) ((f (27 + 17 * s + t)) - x3)) ++ [ai ct fo 7 (fun j => c (j + 1))])) F hK hP hD hS 5 0 rfl rfl (s * 5 + t) rfl (by omega) (by decide) dX5_back_90 (weq.c (weq.c (weq_al (x := wB ct b f) (j := 3) (Nat.le_of_ble_eq_true rfl) (wq_heap ct b f (by omega) (by omega))))) (fun H locs hP hD hS => ?_)
            refine lv_aload F.1 F.2.1 dX5_back_91 (lv_at hl 0 rfl) ?_
            refine gf F hK hP 2 rfl rfl hiX5_back_1 1 (by decide) (List.mem_of_getElem? (i := 4) rfl) rfl dX5_back_93 ?_
            refine lv_iload F.1 F.2.1 dX5_back_96 (lv_at hl 1 rfl) ?_
            refine lv_dup2_11 F.1 F.2.1 dX5_back_98 rfl rfl ?_
            refine al (v := (upd f (27 + 17 * s + t) ((f (27 + 17 * s + t)) - x3)) (22 + 17 * s + t)) F hK hP 4 0 rfl rfl (s * 5 + t) rfl (by omega) (by decide) (congrArg (upd f (27 + 17 * s + t) ((f (27 + 17 * s + t)) - x3)) (ix5 (by omega))) dX5_back_99 ?_
            refine tp (y := f (22 + 17 * s + t)) (pk_un (by omega)) ?_
            refine lv_iload_n F.1 F.2.1 dX5_back_100 rfl (lv_at hl 5 rfl) ?_
            refine lv_iadd F.1 F.2.1 dX5_back_101 ?_
            refine ast (ws' := (x, .inr (5, [.ref st, .ref kt, .int ik, .ref (tr 0), .ref sc, .ref sh, .ref fo])) :: (st, .inr (4, [.ref (b 0), .ref bk, .ref sp, .int zz])) :: (wB ct b (upd (upd f (27 + 17 * s + t) ((f (27 + 17 * s + t)) - x3)) (22 + 17 * s + t) ((f (22 + 17 * s + t)) + x3)) ++ [ai ct fo 7 (fun j => c (j + 1))])) F hK hP hD hS 4 0 rfl rfl (s * 5 + t) rfl (by omega) (by decide) dX5_back_102 (weq.c (weq.c (weq_al (x := wB ct b (upd f (27 + 17 * s + t) ((f (27 + 17 * s + t)) - x3))) (j := 2) (Nat.le_of_ble_eq_true rfl) (wq_home ct b (upd f (27 + 17 * s + t) ((f (27 + 17 * s + t)) - x3)) (by omega) (by omega))))) (fun H locs hP hD hS => ?_)
            have eq_103 : upd (upd f (27 + 17 * s + t) ((f (27 + 17 * s + t)) - x3)) (22 + 17 * s + t) ((f (22 + 17 * s + t)) + x3) = bakF f s t x3 := upd_comm (by omega)
            rw [eq_103] at hP hD
            refine lv_aload F.1 F.2.1 dX5_back_103 (lv_at hl 0 rfl) ?_
            refine gf F hK hP 2 rfl rfl hiX5_back_1 2 (by decide) (List.mem_of_getElem? (i := 3) rfl) rfl dX5_back_105 ?_
            refine lv_iload F.1 F.2.1 dX5_back_108 (lv_at hl 1 rfl) ?_
            refine al (v := (bakF f s t x3) (27 + 17 * s + t)) F hK hP 5 0 rfl rfl (s * 5 + t) rfl (by omega) (by decide) (congrArg (bakF f s t x3) (ix5 (by omega))) dX5_back_110 ?_
            refine tp (y := f (27 + 17 * s + t) - x3) pk_us ?_
            exact rtI ((bakF f s t x3), c) F hr hlk hP hS rfl (Eq.trans (by rw [show tn (nI s) = s from nI_clamp (by omega), show tn (nI t) = t from nI_clamp (by omega)]; try exact (if_pos ⟨Int32.not_lt.mp c_55, c_70⟩).symm) (if_pos ⟨c_4, c_11, c_21⟩).symm) dX5_back_111
          · refine lv_aload_n F.1 F.2.1 dX5_back_73 rfl (lv_at hl 2 rfl) ?_
            refine lv_iconst (v := 4) F.1 F.2.1 dX5_back_74 (by decide) ?_
            refine iV (rest := []) (wsp := fun _ => (x, .inr (5, [.ref st, .ref kt, .int ik, .ref (tr 0), .ref sc, .ref sh, .ref fo])) :: (st, .inr (4, [.ref (b 0), .ref bk, .ref sp, .int zz])) :: (wB ct b f ++ [ai ct fo 7 (fun j => (fnd c 5) (j + 1))])) F (kX5_finding l dC dI ct x st kt sc sh fo tr ik c 4 5 (-1000005) (by decide) (by decide) (by decide)) gX5_back_X5_finding rfl ⟨rfl, rfl⟩ nmX5_finding ⟨Nat.le_of_ble_eq_true rfl, Nat.le_of_ble_eq_true rfl⟩ eT_b (fun _ _ _ => trivial) hK hP hD hS hA 0 rfl rfl rfl [0, 9] (by decide) rfl rfl rfl hl.1 (Nat.le_of_ble_eq_true rfl) dX5_back_75 ⟨Nat.zero_le _, Nat.zero_le _⟩ (fun _ => rfl) (fun _ => rfl) [x, st, b 0, b 1, b 2, b 3, b 4, b 5, b 6, fo] rfl (fun _ => rfl) (fun r_75 u_75 H locs e_75 hP hD hS => ?_)
            obtain rfl := e_75
            exact rtI (f, (fnd c 5)) F hr hlk hP hS rfl (Eq.trans (by rw [show tn (nI s) = s from nI_clamp (by omega), show tn (nI t) = t from nI_clamp (by omega)]; try exact (if_neg (fun q => c_70 q.2)).symm) (if_pos ⟨c_4, c_11, c_21⟩).symm) dX5_back_78
      · have c_21 : ¬ (1 ≤ x3 ∧ x3 ≤ 99) := b01f rfl c_21
        refine lv_aload_n F.1 F.2.1 dX5_back_24 rfl (lv_at hl 0 rfl) ?_
        refine lv_iconst (v := 0) F.1 F.2.1 dX5_back_25 (by decide) ?_
        refine iV (rest := []) (wsp := fun _ => (x, .inr (5, [.ref st, .ref kt, .int ik, .ref (tr 0), .ref sc, .ref sh, .ref fo])) :: (st, .inr (4, [.ref (b 0), .ref bk, .ref sp, .int zz])) :: (wB ct b f ++ [ai ct fo 7 (fun j => (fnd c 1) (j + 1))])) F (kX5_finding l dC dI ct x st kt sc sh fo tr ik c 0 1 (-1000001) (by decide) (by decide) (by decide)) gX5_back_X5_finding rfl ⟨rfl, rfl⟩ nmX5_finding ⟨Nat.le_of_ble_eq_true rfl, Nat.le_of_ble_eq_true rfl⟩ eT_b (fun _ _ _ => trivial) hK hP hD hS hA 0 rfl rfl rfl [0, 9] (by decide) rfl rfl rfl hl.1 (Nat.le_of_ble_eq_true rfl) dX5_back_26 ⟨Nat.zero_le _, Nat.zero_le _⟩ (fun _ => rfl) (fun _ => rfl) [x, st, b 0, b 1, b 2, b 3, b 4, b 5, b 6, fo] rfl (fun _ => rfl) (fun r_26 u_26 H locs e_26 hP hD hS => ?_)
        obtain rfl := e_26
        exact rtI (f, (fnd c 1)) F hr hlk hP hS rfl ((if_neg (fun q => c_21 q.2.2)).symm) dX5_back_29

def rmX5_content : Room := { frames := 3, cells := 0, slots := 0, locals := 70 }
theorem nmX5_content : NmV yX5_content RX5 1 := by unfold NmV; decide +kernel
theorem hiX5_content_4 : ∀ w ∈ u_ws RX4 TX4 4, w ∈ wsX5_content := by decide +kernel
theorem hiX5_content_5 : ∀ w ∈ u_ws RX5 TX5 7, w ∈ wsX5_content := by decide +kernel
set_option maxHeartbeats 4000000 in
set_option maxRecDepth 100000 in
theorem kX5_content (l : Launch) (dC : Nat → ClassId) (dI : Nat → Nat → Nat) (ct : Nat → ClassId) (x st kt sc sh fo bk sp : Nat) (tr b : Nat → Nat) (ik zz : Int32) (f c : Nat → Int32) (x1 : Int32) (hRg : Rg f) : MI (S := (Nat → Int32) × (Nat → Int32)) l yX5_content wsX5_content rmX5_content dC dI ct eT [.ref x, .int x1] ((x, .inr (5, [.ref st, .ref kt, .int ik, .ref (tr 0), .ref sc, .ref sh, .ref fo])) :: (st, .inr (4, [.ref (b 0), .ref bk, .ref sp, .int zz])) :: (wB ct b f ++ [ai ct fo 7 (fun j => c (j + 1))])) (fun u => (x, .inr (5, [.ref st, .ref kt, .int ik, .ref (tr 0), .ref sc, .ref sh, .ref fo])) :: (st, .inr (4, [.ref (b 0), .ref bk, .ref sp, .int zz])) :: (wB ct b u.1 ++ [ai ct fo 7 (fun j => u.2 (j + 1))])) (fun r u => (r, u.1, u.2) = sContent f c x1) := by
  refine MI.of (cc := cX5_content) (maxL := 2) (ret := (some .int)) (by decide) rfl (Nat.le_of_ble_eq_true rfl) ?_
  intro pg en z mi below meth cd A F hr hlk hin hK hP hD hA hS hE ls hl
  have F : CallFix pg mi cd cX5_content 2 z _ wsX5_content RX5 := F
  have hl : lv_has ls 2 [(0, .ref x), (1, .int x1)] := hl
  refine lv_iload_n F.1 F.2.1 dX5_content_0 rfl (lv_at hl 1 rfl) ?_
  refine iS (rest := []) (wsp := fun _ => (x, .inr (5, [.ref st, .ref kt, .int ik, .ref (tr 0), .ref sc, .ref sh, .ref fo])) :: (st, .inr (4, [.ref (b 0), .ref bk, .ref sp, .int zz])) :: (wB ct b f ++ [ai ct fo 7 (fun j => c (j + 1))])) F (kX5_isSide l dC dI ct x1) gX5_content_X5_isSide rfl ⟨rfl, rfl⟩ nmX5_isSide ⟨Nat.le_of_ble_eq_true rfl, Nat.le_of_ble_eq_true rfl⟩ eT_b (fun _ _ _ => trivial) hK hP hD hS hA [] (by decide) rfl rfl rfl hl.1 (Nat.le_of_ble_eq_true rfl) dX5_content_1 ⟨Nat.zero_le _, Nat.zero_le _⟩ (fun _ => rfl) (fun _ => rfl) [x, st, b 0, b 1, b 2, b 3, b 4, b 5, b 6, fo] rfl (fun _ => rfl) (fun r_1 u_1 H locs e_1 hP hD hS => ?_)
  obtain rfl := e_1
  refine lv_if_ne (tgt := 13) F.1 F.2.1 dX5_content_4 (by decide) (fun c_4 => ?_) (fun c_4 => ?_)
  · have c_4 : 0 ≤ x1 ∧ x1 ≤ 1 := b01t rfl c_4
    obtain ⟨s, hs, rfl⟩ := gS_n c_4
    refine lv_aload_n F.1 F.2.1 dX5_content_13 rfl (lv_at hl 0 rfl) ?_
    refine gf F hK hP 0 rfl rfl hiX5_content_5 0 (by decide) (List.mem_of_getElem? (i := 1) rfl) rfl dX5_content_14 ?_
    refine gf F hK hP 1 rfl rfl hiX5_content_4 0 (by decide) (List.mem_of_getElem? (i := 2) rfl) rfl dX5_content_17 ?_
    refine lv_iload_n F.1 F.2.1 dX5_content_20 rfl (lv_at hl 1 rfl) ?_
    refine iV (rest := []) (wsp := fun _ => (x, .inr (5, [.ref st, .ref kt, .int ik, .ref (tr 0), .ref sc, .ref sh, .ref fo])) :: (st, .inr (4, [.ref (b 0), .ref bk, .ref sp, .int zz])) :: (wB ct b f ++ [ai ct fo 7 (fun j => c (j + 1))])) F (kX1_isContent l dC dI ct b f s (by omega) hRg) gX5_content_X1_isContent rfl ⟨rfl, rfl⟩ nmX1_isContent ⟨Nat.le_of_ble_eq_true rfl, Nat.le_of_ble_eq_true rfl⟩ eT_b (fun _ _ _ => trivial) hK hP hD hS hA 2 rfl rfl rfl [2, 3, 4, 5, 6, 7, 8] (by decide) rfl rfl rfl hl.1 (Nat.le_of_ble_eq_true rfl) dX5_content_21 ⟨Nat.zero_le _, Nat.zero_le _⟩ (fun _ => rfl) (fun _ => rfl) [x, st, b 0, b 1, b 2, b 3, b 4, b 5, b 6, fo] rfl (fun _ => rfl) (fun r_21 u_21 H locs e_21 hP hD hS => ?_)
    obtain rfl := e_21
    refine lv_if_eq (tgt := 31) F.1 F.2.1 dX5_content_24 (by decide) (fun c_24 => ?_) (fun c_24 => ?_)
    · have c_24 : ¬ (con f s) := b01f rfl c_24
      refine lv_iconst (v := 0) F.1 F.2.1 dX5_content_31 (by decide) ?_
      exact rtI (f, c) F hr hlk hP hS rfl (Eq.trans (by rw [show tn (nI s) = s from nI_clamp (by omega)]; try exact (by unfold kContent; rw [if_neg c_24])) (if_pos c_4).symm) dX5_content_32
    · have c_24 : con f s := b01t rfl c_24
      refine lv_iconst (v := 1) F.1 F.2.1 dX5_content_27 (by decide) ?_
      refine lv_goto (tgt := 32) F.1 F.2.1 dX5_content_28 (by decide) ?_
      exact rtI (f, c) F hr hlk hP hS rfl (Eq.trans (by rw [show tn (nI s) = s from nI_clamp (by omega)]; try exact (by unfold kContent; rw [if_pos c_24])) (if_pos c_4).symm) dX5_content_32
  · have c_4 : ¬ (0 ≤ x1 ∧ x1 ≤ 1) := b01f rfl c_4
    refine lv_aload_n F.1 F.2.1 dX5_content_7 rfl (lv_at hl 0 rfl) ?_
    refine lv_iconst (v := 0) F.1 F.2.1 dX5_content_8 (by decide) ?_
    refine iV (rest := []) (wsp := fun _ => (x, .inr (5, [.ref st, .ref kt, .int ik, .ref (tr 0), .ref sc, .ref sh, .ref fo])) :: (st, .inr (4, [.ref (b 0), .ref bk, .ref sp, .int zz])) :: (wB ct b f ++ [ai ct fo 7 (fun j => (fnd c 1) (j + 1))])) F (kX5_finding l dC dI ct x st kt sc sh fo tr ik c 0 1 (-1000001) (by decide) (by decide) (by decide)) gX5_content_X5_finding rfl ⟨rfl, rfl⟩ nmX5_finding ⟨Nat.le_of_ble_eq_true rfl, Nat.le_of_ble_eq_true rfl⟩ eT_b (fun _ _ _ => trivial) hK hP hD hS hA 0 rfl rfl rfl [0, 9] (by decide) rfl rfl rfl hl.1 (Nat.le_of_ble_eq_true rfl) dX5_content_9 ⟨Nat.zero_le _, Nat.zero_le _⟩ (fun _ => rfl) (fun _ => rfl) [x, st, b 0, b 1, b 2, b 3, b 4, b 5, b 6, fo] rfl (fun _ => rfl) (fun r_9 u_9 H locs e_9 hP hD hS => ?_)
    obtain rfl := e_9
    exact rtI (f, (fnd c 1)) F hr hlk hP hS rfl ((if_neg (fun q => c_4 q)).symm) dX5_content_12

def rmX5_does : Room := { frames := 4, cells := 0, slots := 0, locals := 92 }
theorem nmX5_does : NmV yX5_does RX5 1 := by unfold NmV; decide +kernel
theorem hiX5_does_4 : ∀ w ∈ u_ws RX4 TX4 4, w ∈ wsX5_does := by decide +kernel
theorem hiX5_does_5 : ∀ w ∈ u_ws RX5 TX5 7, w ∈ wsX5_does := by decide +kernel
set_option maxHeartbeats 4000000 in
set_option maxRecDepth 100000 in
theorem kX5_does (l : Launch) (dC : Nat → ClassId) (dI : Nat → Nat → Nat) (ct : Nat → ClassId) (x st kt sc sh fo bk sp : Nat) (tr b : Nat → Nat) (ik zz : Int32) (f c : Nat → Int32) (x1 : Int32) (hRg : Rg f) : MI (S := (Nat → Int32) × (Nat → Int32)) l yX5_does wsX5_does rmX5_does dC dI ct eT [.ref x, .int x1] ((x, .inr (5, [.ref st, .ref kt, .int ik, .ref (tr 0), .ref sc, .ref sh, .ref fo])) :: (st, .inr (4, [.ref (b 0), .ref bk, .ref sp, .int zz])) :: (wB ct b f ++ [ai ct fo 7 (fun j => c (j + 1))])) (fun u => (x, .inr (5, [.ref st, .ref kt, .int ik, .ref (tr 0), .ref sc, .ref sh, .ref fo])) :: (st, .inr (4, [.ref (b 0), .ref bk, .ref sp, .int zz])) :: (wB ct b u.1 ++ [ai ct fo 7 (fun j => u.2 (j + 1))])) (fun r u => (r, u.1, u.2) = sDoes f c x1) := by
  refine MI.of (cc := cX5_does) (maxL := 2) (ret := (some .int)) (by decide) rfl (Nat.le_of_ble_eq_true rfl) ?_
  intro pg en z mi below meth cd A F hr hlk hin hK hP hD hA hS hE ls hl
  have F : CallFix pg mi cd cX5_does 2 z _ wsX5_does RX5 := F
  have hl : lv_has ls 2 [(0, .ref x), (1, .int x1)] := hl
  refine lv_iload_n F.1 F.2.1 dX5_does_0 rfl (lv_at hl 1 rfl) ?_
  refine iS (rest := []) (wsp := fun _ => (x, .inr (5, [.ref st, .ref kt, .int ik, .ref (tr 0), .ref sc, .ref sh, .ref fo])) :: (st, .inr (4, [.ref (b 0), .ref bk, .ref sp, .int zz])) :: (wB ct b f ++ [ai ct fo 7 (fun j => c (j + 1))])) F (kX5_isSide l dC dI ct x1) gX5_does_X5_isSide rfl ⟨rfl, rfl⟩ nmX5_isSide ⟨Nat.le_of_ble_eq_true rfl, Nat.le_of_ble_eq_true rfl⟩ eT_b (fun _ _ _ => trivial) hK hP hD hS hA [] (by decide) rfl rfl rfl hl.1 (Nat.le_of_ble_eq_true rfl) dX5_does_1 ⟨Nat.zero_le _, Nat.zero_le _⟩ (fun _ => rfl) (fun _ => rfl) [x, st, b 0, b 1, b 2, b 3, b 4, b 5, b 6, fo] rfl (fun _ => rfl) (fun r_1 u_1 H locs e_1 hP hD hS => ?_)
  obtain rfl := e_1
  refine lv_if_ne (tgt := 13) F.1 F.2.1 dX5_does_4 (by decide) (fun c_4 => ?_) (fun c_4 => ?_)
  · have c_4 : 0 ≤ x1 ∧ x1 ≤ 1 := b01t rfl c_4
    obtain ⟨s, hs, rfl⟩ := gS_n c_4
    refine lv_aload_n F.1 F.2.1 dX5_does_13 rfl (lv_at hl 0 rfl) ?_
    refine gf F hK hP 0 rfl rfl hiX5_does_5 0 (by decide) (List.mem_of_getElem? (i := 1) rfl) rfl dX5_does_14 ?_
    refine gf F hK hP 1 rfl rfl hiX5_does_4 0 (by decide) (List.mem_of_getElem? (i := 2) rfl) rfl dX5_does_17 ?_
    refine lv_iload_n F.1 F.2.1 dX5_does_20 rfl (lv_at hl 1 rfl) ?_
    refine iV (rest := []) (wsp := fun _ => (x, .inr (5, [.ref st, .ref kt, .int ik, .ref (tr 0), .ref sc, .ref sh, .ref fo])) :: (st, .inr (4, [.ref (b 0), .ref bk, .ref sp, .int zz])) :: (wB ct b f ++ [ai ct fo 7 (fun j => c (j + 1))])) F (kX1_deedOf l dC dI ct b f s (by omega) hRg) gX5_does_X1_deedOf rfl ⟨rfl, rfl⟩ nmX1_deedOf ⟨Nat.le_of_ble_eq_true rfl, Nat.le_of_ble_eq_true rfl⟩ eT_b (fun _ _ _ => trivial) hK hP hD hS hA 2 rfl rfl rfl [2, 3, 4, 5, 6, 7, 8] (by decide) rfl rfl rfl hl.1 (Nat.le_of_ble_eq_true rfl) dX5_does_21 ⟨Nat.zero_le _, Nat.zero_le _⟩ (fun _ => rfl) (fun _ => rfl) [x, st, b 0, b 1, b 2, b 3, b 4, b 5, b 6, fo] rfl (fun _ => rfl) (fun r_21 u_21 H locs e_21 hP hD hS => ?_)
    obtain rfl := e_21
    exact rtI (f, c) F hr hlk hP hS rfl (Eq.trans (by rw [show tn (nI s) = s from nI_clamp (by omega)]; try exact rfl) (if_pos c_4).symm) dX5_does_24
  · have c_4 : ¬ (0 ≤ x1 ∧ x1 ≤ 1) := b01f rfl c_4
    refine lv_aload_n F.1 F.2.1 dX5_does_7 rfl (lv_at hl 0 rfl) ?_
    refine lv_iconst (v := 0) F.1 F.2.1 dX5_does_8 (by decide) ?_
    refine iV (rest := []) (wsp := fun _ => (x, .inr (5, [.ref st, .ref kt, .int ik, .ref (tr 0), .ref sc, .ref sh, .ref fo])) :: (st, .inr (4, [.ref (b 0), .ref bk, .ref sp, .int zz])) :: (wB ct b f ++ [ai ct fo 7 (fun j => (fnd c 1) (j + 1))])) F (kX5_finding l dC dI ct x st kt sc sh fo tr ik c 0 1 (-1000001) (by decide) (by decide) (by decide)) gX5_does_X5_finding rfl ⟨rfl, rfl⟩ nmX5_finding ⟨Nat.le_of_ble_eq_true rfl, Nat.le_of_ble_eq_true rfl⟩ eT_b (fun _ _ _ => trivial) hK hP hD hS hA 0 rfl rfl rfl [0, 9] (by decide) rfl rfl rfl hl.1 (Nat.le_of_ble_eq_true rfl) dX5_does_9 ⟨Nat.zero_le _, Nat.zero_le _⟩ (fun _ => rfl) (fun _ => rfl) [x, st, b 0, b 1, b 2, b 3, b 4, b 5, b 6, fo] rfl (fun _ => rfl) (fun r_9 u_9 H locs e_9 hP hD hS => ?_)
    obtain rfl := e_9
    exact rtI (f, (fnd c 1)) F hr hlk hP hS rfl ((if_neg (fun q => c_4 q)).symm) dX5_does_12

def rmX5_less : Room := { frames := 4, cells := 0, slots := 0, locals := 92 }
theorem nmX5_less : NmV yX5_less RX5 1 := by unfold NmV; decide +kernel
theorem hiX5_less_4 : ∀ w ∈ u_ws RX4 TX4 4, w ∈ wsX5_less := by decide +kernel
theorem hiX5_less_5 : ∀ w ∈ u_ws RX5 TX5 7, w ∈ wsX5_less := by decide +kernel
set_option maxHeartbeats 4000000 in
set_option maxRecDepth 100000 in
theorem kX5_less (l : Launch) (dC : Nat → ClassId) (dI : Nat → Nat → Nat) (ct : Nat → ClassId) (x st kt sc sh fo bk sp : Nat) (tr b : Nat → Nat) (ik zz : Int32) (f c : Nat → Int32) (x1 : Int32) (hRg : Rg f) : MI (S := (Nat → Int32) × (Nat → Int32)) l yX5_less wsX5_less rmX5_less dC dI ct eT [.ref x, .int x1] ((x, .inr (5, [.ref st, .ref kt, .int ik, .ref (tr 0), .ref sc, .ref sh, .ref fo])) :: (st, .inr (4, [.ref (b 0), .ref bk, .ref sp, .int zz])) :: (wB ct b f ++ [ai ct fo 7 (fun j => c (j + 1))])) (fun u => (x, .inr (5, [.ref st, .ref kt, .int ik, .ref (tr 0), .ref sc, .ref sh, .ref fo])) :: (st, .inr (4, [.ref (b 0), .ref bk, .ref sp, .int zz])) :: (wB ct b u.1 ++ [ai ct fo 7 (fun j => u.2 (j + 1))])) (fun r u => (r, u.1, u.2) = sLess f c x1) := by
  refine MI.of (cc := cX5_less) (maxL := 2) (ret := (some .int)) (by decide) rfl (Nat.le_of_ble_eq_true rfl) ?_
  intro pg en z mi below meth cd A F hr hlk hin hK hP hD hA hS hE ls hl
  have F : CallFix pg mi cd cX5_less 2 z _ wsX5_less RX5 := F
  have hl : lv_has ls 2 [(0, .ref x), (1, .int x1)] := hl
  refine lv_iload_n F.1 F.2.1 dX5_less_0 rfl (lv_at hl 1 rfl) ?_
  refine iS (rest := []) (wsp := fun _ => (x, .inr (5, [.ref st, .ref kt, .int ik, .ref (tr 0), .ref sc, .ref sh, .ref fo])) :: (st, .inr (4, [.ref (b 0), .ref bk, .ref sp, .int zz])) :: (wB ct b f ++ [ai ct fo 7 (fun j => c (j + 1))])) F (kX5_isSide l dC dI ct x1) gX5_less_X5_isSide rfl ⟨rfl, rfl⟩ nmX5_isSide ⟨Nat.le_of_ble_eq_true rfl, Nat.le_of_ble_eq_true rfl⟩ eT_b (fun _ _ _ => trivial) hK hP hD hS hA [] (by decide) rfl rfl rfl hl.1 (Nat.le_of_ble_eq_true rfl) dX5_less_1 ⟨Nat.zero_le _, Nat.zero_le _⟩ (fun _ => rfl) (fun _ => rfl) [x, st, b 0, b 1, b 2, b 3, b 4, b 5, b 6, fo] rfl (fun _ => rfl) (fun r_1 u_1 H locs e_1 hP hD hS => ?_)
  obtain rfl := e_1
  refine lv_if_ne (tgt := 13) F.1 F.2.1 dX5_less_4 (by decide) (fun c_4 => ?_) (fun c_4 => ?_)
  · have c_4 : 0 ≤ x1 ∧ x1 ≤ 1 := b01t rfl c_4
    obtain ⟨s, hs, rfl⟩ := gS_n c_4
    refine lv_aload_n F.1 F.2.1 dX5_less_13 rfl (lv_at hl 0 rfl) ?_
    refine gf F hK hP 0 rfl rfl hiX5_less_5 0 (by decide) (List.mem_of_getElem? (i := 1) rfl) rfl dX5_less_14 ?_
    refine gf F hK hP 1 rfl rfl hiX5_less_4 0 (by decide) (List.mem_of_getElem? (i := 2) rfl) rfl dX5_less_17 ?_
    refine lv_iload_n F.1 F.2.1 dX5_less_20 rfl (lv_at hl 1 rfl) ?_
    refine iV (rest := []) (wsp := fun _ => (x, .inr (5, [.ref st, .ref kt, .int ik, .ref (tr 0), .ref sc, .ref sh, .ref fo])) :: (st, .inr (4, [.ref (b 0), .ref bk, .ref sp, .int zz])) :: (wB ct b f ++ [ai ct fo 7 (fun j => c (j + 1))])) F (kX1_deedOf l dC dI ct b f s (by omega) hRg) gX5_less_X1_deedOf rfl ⟨rfl, rfl⟩ nmX1_deedOf ⟨Nat.le_of_ble_eq_true rfl, Nat.le_of_ble_eq_true rfl⟩ eT_b (fun _ _ _ => trivial) hK hP hD hS hA 2 rfl rfl rfl [2, 3, 4, 5, 6, 7, 8] (by decide) rfl rfl rfl hl.1 (Nat.le_of_ble_eq_true rfl) dX5_less_21 ⟨Nat.zero_le _, Nat.zero_le _⟩ (fun _ => rfl) (fun _ => rfl) [x, st, b 0, b 1, b 2, b 3, b 4, b 5, b 6, fo] rfl (fun _ => rfl) (fun r_21 u_21 H locs e_21 hP hD hS => ?_)
    obtain rfl := e_21
    refine lv_iconst (v := 2) F.1 F.2.1 dX5_less_24 (by decide) ?_
    refine lv_icmp_eq (tgt := 34) F.1 F.2.1 dX5_less_25 (by decide) (fun c_25 => ?_) (fun c_25 => ?_)
    · refine lv_aload_n F.1 F.2.1 dX5_less_34 rfl (lv_at hl 0 rfl) ?_
      refine gf F hK hP 0 rfl rfl hiX5_less_5 0 (by decide) (List.mem_of_getElem? (i := 1) rfl) rfl dX5_less_35 ?_
      refine gf F hK hP 1 rfl rfl hiX5_less_4 0 (by decide) (List.mem_of_getElem? (i := 2) rfl) rfl dX5_less_38 ?_
      refine lv_iload_n F.1 F.2.1 dX5_less_41 rfl (lv_at hl 1 rfl) ?_
      refine iV (rest := []) (wsp := fun _ => (x, .inr (5, [.ref st, .ref kt, .int ik, .ref (tr 0), .ref sc, .ref sh, .ref fo])) :: (st, .inr (4, [.ref (b 0), .ref bk, .ref sp, .int zz])) :: (wB ct b f ++ [ai ct fo 7 (fun j => c (j + 1))])) F (kX1_dearestLast l dC dI ct b f s (by omega)) gX5_less_X1_dearestLast rfl ⟨rfl, rfl⟩ nmX1_dearestLast ⟨Nat.le_of_ble_eq_true rfl, Nat.le_of_ble_eq_true rfl⟩ eT_b (fun _ _ _ => trivial) hK hP hD hS hA 2 rfl rfl rfl [2, 3, 4, 5, 6, 7, 8] (by decide) rfl rfl rfl hl.1 (Nat.le_of_ble_eq_true rfl) dX5_less_42 ⟨Nat.zero_le _, Nat.zero_le _⟩ (fun _ => rfl) (fun _ => rfl) [x, st, b 0, b 1, b 2, b 3, b 4, b 5, b 6, fo] rfl (fun _ => rfl) (fun r_42 u_42 H locs e_42 hP hD hS => ?_)
      obtain rfl := e_42
      exact rtI (f, c) F hr hlk hP hS rfl (Eq.trans (by rw [show tn (nI s) = s from nI_clamp (by omega)]; try exact (if_pos c_25).symm) (if_pos c_4).symm) dX5_less_45
    · refine lv_aload_n F.1 F.2.1 dX5_less_28 rfl (lv_at hl 0 rfl) ?_
      refine lv_iconst (v := 3) F.1 F.2.1 dX5_less_29 (by decide) ?_
      refine iV (rest := []) (wsp := fun _ => (x, .inr (5, [.ref st, .ref kt, .int ik, .ref (tr 0), .ref sc, .ref sh, .ref fo])) :: (st, .inr (4, [.ref (b 0), .ref bk, .ref sp, .int zz])) :: (wB ct b f ++ [ai ct fo 7 (fun j => (fnd c 4) (j + 1))])) F (kX5_finding l dC dI ct x st kt sc sh fo tr ik c 3 4 (-1000004) (by decide) (by decide) (by decide)) gX5_less_X5_finding rfl ⟨rfl, rfl⟩ nmX5_finding ⟨Nat.le_of_ble_eq_true rfl, Nat.le_of_ble_eq_true rfl⟩ eT_b (fun _ _ _ => trivial) hK hP hD hS hA 0 rfl rfl rfl [0, 9] (by decide) rfl rfl rfl hl.1 (Nat.le_of_ble_eq_true rfl) dX5_less_30 ⟨Nat.zero_le _, Nat.zero_le _⟩ (fun _ => rfl) (fun _ => rfl) [x, st, b 0, b 1, b 2, b 3, b 4, b 5, b 6, fo] rfl (fun _ => rfl) (fun r_30 u_30 H locs e_30 hP hD hS => ?_)
      obtain rfl := e_30
      exact rtI (f, (fnd c 4)) F hr hlk hP hS rfl (Eq.trans (by rw [show tn (nI s) = s from nI_clamp (by omega)]; try exact (if_neg c_25).symm) (if_pos c_4).symm) dX5_less_33
  · have c_4 : ¬ (0 ≤ x1 ∧ x1 ≤ 1) := b01f rfl c_4
    refine lv_aload_n F.1 F.2.1 dX5_less_7 rfl (lv_at hl 0 rfl) ?_
    refine lv_iconst (v := 0) F.1 F.2.1 dX5_less_8 (by decide) ?_
    refine iV (rest := []) (wsp := fun _ => (x, .inr (5, [.ref st, .ref kt, .int ik, .ref (tr 0), .ref sc, .ref sh, .ref fo])) :: (st, .inr (4, [.ref (b 0), .ref bk, .ref sp, .int zz])) :: (wB ct b f ++ [ai ct fo 7 (fun j => (fnd c 1) (j + 1))])) F (kX5_finding l dC dI ct x st kt sc sh fo tr ik c 0 1 (-1000001) (by decide) (by decide) (by decide)) gX5_less_X5_finding rfl ⟨rfl, rfl⟩ nmX5_finding ⟨Nat.le_of_ble_eq_true rfl, Nat.le_of_ble_eq_true rfl⟩ eT_b (fun _ _ _ => trivial) hK hP hD hS hA 0 rfl rfl rfl [0, 9] (by decide) rfl rfl rfl hl.1 (Nat.le_of_ble_eq_true rfl) dX5_less_9 ⟨Nat.zero_le _, Nat.zero_le _⟩ (fun _ => rfl) (fun _ => rfl) [x, st, b 0, b 1, b 2, b 3, b 4, b 5, b 6, fo] rfl (fun _ => rfl) (fun r_9 u_9 H locs e_9 hP hD hS => ?_)
    obtain rfl := e_9
    exact rtI (f, (fnd c 1)) F hr hlk hP hS rfl ((if_neg (fun q => c_4 q)).symm) dX5_less_12

def rmX5_steal : Room := { frames := 3, cells := 0, slots := 0, locals := 68 }
theorem nmX5_steal : NmV yX5_steal RX5 1 := by unfold NmV; decide +kernel
theorem hiX5_steal_1 : ∀ w ∈ u_ws RX1 TX1 10, w ∈ wsX5_steal := by decide +kernel
theorem hiX5_steal_4 : ∀ w ∈ u_ws RX4 TX4 4, w ∈ wsX5_steal := by decide +kernel
theorem hiX5_steal_5 : ∀ w ∈ u_ws RX5 TX5 7, w ∈ wsX5_steal := by decide +kernel
set_option maxHeartbeats 4000000 in
set_option maxRecDepth 100000 in
theorem kX5_steal (l : Launch) (dC : Nat → ClassId) (dI : Nat → Nat → Nat) (ct : Nat → ClassId) (x st kt sc sh fo bk sp : Nat) (tr b : Nat → Nat) (ik zz : Int32) (f c : Nat → Int32) (x1 : Int32) (hRg : Rg f) : MI (S := (Nat → Int32) × (Nat → Int32)) l yX5_steal wsX5_steal rmX5_steal dC dI ct eT [.ref x, .int x1] ((x, .inr (5, [.ref st, .ref kt, .int ik, .ref (tr 0), .ref sc, .ref sh, .ref fo])) :: (st, .inr (4, [.ref (b 0), .ref bk, .ref sp, .int zz])) :: (wB ct b f ++ [ai ct fo 7 (fun j => c (j + 1))])) (fun u => (x, .inr (5, [.ref st, .ref kt, .int ik, .ref (tr 0), .ref sc, .ref sh, .ref fo])) :: (st, .inr (4, [.ref (b 0), .ref bk, .ref sp, .int zz])) :: (wB ct b u.1 ++ [ai ct fo 7 (fun j => u.2 (j + 1))])) (fun r u => (r, u.1, u.2) = sSteal f c x1) := by
  refine MI.of (cc := cX5_steal) (maxL := 5) (ret := (some .int)) (by decide) rfl (Nat.le_of_ble_eq_true rfl) ?_
  intro pg en z mi below meth cd A F hr hlk hin hK hP hD hA hS hE ls hl
  have F : CallFix pg mi cd cX5_steal 5 z _ wsX5_steal RX5 := F
  have hl : lv_has ls 5 [(0, .ref x), (1, .int x1)] := hl
  refine lv_iload_n F.1 F.2.1 dX5_steal_0 rfl (lv_at hl 1 rfl) ?_
  refine iS (rest := []) (wsp := fun _ => (x, .inr (5, [.ref st, .ref kt, .int ik, .ref (tr 0), .ref sc, .ref sh, .ref fo])) :: (st, .inr (4, [.ref (b 0), .ref bk, .ref sp, .int zz])) :: (wB ct b f ++ [ai ct fo 7 (fun j => c (j + 1))])) F (kX5_isSide l dC dI ct x1) gX5_steal_X5_isSide rfl ⟨rfl, rfl⟩ nmX5_isSide ⟨Nat.le_of_ble_eq_true rfl, Nat.le_of_ble_eq_true rfl⟩ eT_b (fun _ _ _ => trivial) hK hP hD hS hA [] (by decide) rfl rfl rfl hl.1 (Nat.le_of_ble_eq_true rfl) dX5_steal_1 ⟨Nat.zero_le _, Nat.zero_le _⟩ (fun _ => rfl) (fun _ => rfl) [x, st, b 0, b 1, b 2, b 3, b 4, b 5, b 6, fo] rfl (fun _ => rfl) (fun r_1 u_1 H locs e_1 hP hD hS => ?_)
  obtain rfl := e_1
  refine lv_if_ne (tgt := 13) F.1 F.2.1 dX5_steal_4 (by decide) (fun c_4 => ?_) (fun c_4 => ?_)
  · have c_4 : 0 ≤ x1 ∧ x1 ≤ 1 := b01t rfl c_4
    obtain ⟨s, hs, rfl⟩ := gS_n c_4
    refine lv_aload_n F.1 F.2.1 dX5_steal_13 rfl (lv_at hl 0 rfl) ?_
    refine gf F hK hP 0 rfl rfl hiX5_steal_5 0 (by decide) (List.mem_of_getElem? (i := 1) rfl) rfl dX5_steal_14 ?_
    refine gf F hK hP 1 rfl rfl hiX5_steal_4 0 (by decide) (List.mem_of_getElem? (i := 2) rfl) rfl dX5_steal_17 ?_
    refine lv_astore_n (lv' := [(2, .ref (b 0)), (0, .ref x), (1, .int (nI s))]) F.1 F.2.1 dX5_steal_20 rfl hl (by decide) rfl (fun ls hl => ?_)
    refine lv_iconst (v := 1) F.1 F.2.1 dX5_steal_21 (by decide) ?_
    refine lv_iload_n F.1 F.2.1 dX5_steal_22 rfl (lv_at hl 2 rfl) ?_
    refine lv_isub F.1 F.2.1 dX5_steal_23 ?_
    refine tp (y := nI (1 - s)) (sb2 (a := 1) (b := s) (c := 1 - s) rfl rfl (by omega)) ?_
    refine lv_istore_n (lv' := [(3, .int (nI (1 - s))), (2, .ref (b 0)), (0, .ref x), (1, .int (nI s))]) F.1 F.2.1 dX5_steal_24 rfl hl (by decide) rfl (fun ls hl => ?_)
    refine lv_aload_n F.1 F.2.1 dX5_steal_25 rfl (lv_at hl 1 rfl) ?_
    refine lv_iload_n F.1 F.2.1 dX5_steal_26 rfl (lv_at hl 0 rfl) ?_
    refine iV (rest := []) (wsp := fun _ => (x, .inr (5, [.ref st, .ref kt, .int ik, .ref (tr 0), .ref sc, .ref sh, .ref fo])) :: (st, .inr (4, [.ref (b 0), .ref bk, .ref sp, .int zz])) :: (wB ct b f ++ [ai ct fo 7 (fun j => c (j + 1))])) F (kX1_heapCount l dC dI ct b f (1 - s) (by omega)) gX5_steal_X1_heapCount rfl ⟨rfl, rfl⟩ nmX1_heapCount ⟨Nat.le_of_ble_eq_true rfl, Nat.le_of_ble_eq_true rfl⟩ eT_b (fun _ _ _ => trivial) hK hP hD hS hA 2 rfl rfl rfl [2, 3, 4, 5, 6, 7, 8] (by decide) rfl rfl rfl hl.1 (Nat.le_of_ble_eq_true rfl) dX5_steal_27 ⟨Nat.zero_le _, Nat.zero_le _⟩ (fun _ => rfl) (fun _ => rfl) [x, st, b 0, b 1, b 2, b 3, b 4, b 5, b 6, fo] rfl (fun _ => rfl) (fun r_27 u_27 H locs e_27 hP hD hS => ?_)
    obtain rfl := e_27
    refine lv_if_ne (tgt := 39) F.1 F.2.1 dX5_steal_30 (by decide) (fun c_30 => ?_) (fun c_30 => ?_)
    · refine lv_aload_n F.1 F.2.1 dX5_steal_39 rfl (lv_at hl 1 rfl) ?_
      refine lv_iload_n F.1 F.2.1 dX5_steal_40 rfl (lv_at hl 3 rfl) ?_
      refine lv_iload_n F.1 F.2.1 dX5_steal_41 rfl (lv_at hl 0 rfl) ?_
      refine iV (rest := []) (wsp := fun _ => (x, .inr (5, [.ref st, .ref kt, .int ik, .ref (tr 0), .ref sc, .ref sh, .ref fo])) :: (st, .inr (4, [.ref (b 0), .ref bk, .ref sp, .int zz])) :: (wB ct b f ++ [ai ct fo 7 (fun j => c (j + 1))])) F (kX1_heapValue l dC dI ct b f s (1 - s) (by omega) (by omega) hRg) gX5_steal_X1_heapValue rfl ⟨rfl, rfl⟩ nmX1_heapValue ⟨Nat.le_of_ble_eq_true rfl, Nat.le_of_ble_eq_true rfl⟩ eT_b (fun _ _ _ => trivial) hK hP hD hS hA 2 rfl rfl rfl [2, 3, 4, 5, 6, 7, 8] (by decide) rfl rfl rfl hl.1 (Nat.le_of_ble_eq_true rfl) dX5_steal_42 ⟨Nat.zero_le _, Nat.zero_le _⟩ (fun _ => rfl) (fun _ => rfl) [x, st, b 0, b 1, b 2, b 3, b 4, b 5, b 6, fo] rfl (fun _ => rfl) (fun r_42 u_42 H locs e_42 hP hD hS => ?_)
      obtain rfl := e_42
      refine lv_istore (lv' := [(4, .int (valU f s (1 - s) 5)), (3, .int (nI (1 - s))), (2, .ref (b 0)), (0, .ref x), (1, .int (nI s))]) F.1 F.2.1 dX5_steal_45 hl (by decide) rfl (fun ls hl => ?_)
      refine lv_aload_n F.1 F.2.1 dX5_steal_47 rfl (lv_at hl 2 rfl) ?_
      refine lv_iload_n F.1 F.2.1 dX5_steal_48 rfl (lv_at hl 1 rfl) ?_
      refine lv_iload_n F.1 F.2.1 dX5_steal_49 rfl (lv_at hl 4 rfl) ?_
      refine vV (rest := []) (wsp := fun _ => (x, .inr (5, [.ref st, .ref kt, .int ik, .ref (tr 0), .ref sc, .ref sh, .ref fo])) :: (st, .inr (4, [.ref (b 0), .ref bk, .ref sp, .int zz])) :: (wB ct b (goU f (1 - s) s 5) ++ [ai ct fo 7 (fun j => c (j + 1))])) F (kX1_bringHome l dC dI ct b f (1 - s) s (by omega) (by omega)) gX5_steal_X1_bringHome rfl ⟨rfl, rfl⟩ nmX1_bringHome ⟨Nat.le_of_ble_eq_true rfl, Nat.le_of_ble_eq_true rfl⟩ eT_b (fun _ _ _ => trivial) hK hP hD hS hA 2 rfl rfl rfl [2, 3, 4, 5, 6, 7, 8] (by decide) rfl rfl rfl hl.1 (Nat.le_of_ble_eq_true rfl) dX5_steal_50 ⟨Nat.zero_le _, Nat.zero_le _⟩ (fun _ => rfl) (fun _ => rfl) [x, st, b 0, b 1, b 2, b 3, b 4, b 5, b 6, fo] rfl (fun _ => rfl) (fun u_50 H locs e_50 hP hD hS => ?_)
      refine lv_aload_n F.1 F.2.1 dX5_steal_53 rfl (lv_at hl 2 rfl) ?_
      refine gf F hK hP 2 rfl rfl hiX5_steal_1 5 (by decide) (List.mem_of_getElem? (i := 3) rfl) rfl dX5_steal_54 ?_
      refine lv_iload_n F.1 F.2.1 dX5_steal_57 rfl (lv_at hl 1 rfl) ?_
      refine lv_iconst (v := 0) F.1 F.2.1 dX5_steal_58 (by decide) ?_
      refine ast (ws' := (x, .inr (5, [.ref st, .ref kt, .int ik, .ref (tr 0), .ref sc, .ref sh, .ref fo])) :: (st, .inr (4, [.ref (b 0), .ref bk, .ref sp, .int zz])) :: (wB ct b (upd (goU f (1 - s) s 5) (21 + 17 * (1 - s)) 0) ++ [ai ct fo 7 (fun j => c (j + 1))])) F hK hP hD hS 8 0 rfl rfl (1 - s) rfl (by omega) (by decide) dX5_steal_59 (weq.c (weq.c (weq_al (x := wB ct b (goU f (1 - s) s 5)) (j := 6) (Nat.le_of_ble_eq_true rfl) (wq_trust ct b (goU f (1 - s) s 5) (by omega))))) (fun H locs hP hD hS => ?_)
      refine lv_iload F.1 F.2.1 dX5_steal_60 (lv_at hl 0 rfl) ?_
      exact rtI ((upd (goU f (1 - s) s 5) (21 + 17 * (1 - s)) 0), c) F hr hlk hP hS rfl (Eq.trans (by rw [show tn (nI s) = s from nI_clamp (by omega)]; try exact (if_neg c_30).symm) (if_pos c_4).symm) dX5_steal_62
    · refine lv_aload_n F.1 F.2.1 dX5_steal_33 rfl (lv_at hl 2 rfl) ?_
      refine lv_iconst (v := 4) F.1 F.2.1 dX5_steal_34 (by decide) ?_
      refine iV (rest := []) (wsp := fun _ => (x, .inr (5, [.ref st, .ref kt, .int ik, .ref (tr 0), .ref sc, .ref sh, .ref fo])) :: (st, .inr (4, [.ref (b 0), .ref bk, .ref sp, .int zz])) :: (wB ct b f ++ [ai ct fo 7 (fun j => (fnd c 5) (j + 1))])) F (kX5_finding l dC dI ct x st kt sc sh fo tr ik c 4 5 (-1000005) (by decide) (by decide) (by decide)) gX5_steal_X5_finding rfl ⟨rfl, rfl⟩ nmX5_finding ⟨Nat.le_of_ble_eq_true rfl, Nat.le_of_ble_eq_true rfl⟩ eT_b (fun _ _ _ => trivial) hK hP hD hS hA 0 rfl rfl rfl [0, 9] (by decide) rfl rfl rfl hl.1 (Nat.le_of_ble_eq_true rfl) dX5_steal_35 ⟨Nat.zero_le _, Nat.zero_le _⟩ (fun _ => rfl) (fun _ => rfl) [x, st, b 0, b 1, b 2, b 3, b 4, b 5, b 6, fo] rfl (fun _ => rfl) (fun r_35 u_35 H locs e_35 hP hD hS => ?_)
      obtain rfl := e_35
      exact rtI (f, (fnd c 5)) F hr hlk hP hS rfl (Eq.trans (by rw [show tn (nI s) = s from nI_clamp (by omega)]; try exact (if_pos c_30).symm) (if_pos c_4).symm) dX5_steal_38
  · have c_4 : ¬ (0 ≤ x1 ∧ x1 ≤ 1) := b01f rfl c_4
    refine lv_aload_n F.1 F.2.1 dX5_steal_7 rfl (lv_at hl 0 rfl) ?_
    refine lv_iconst (v := 0) F.1 F.2.1 dX5_steal_8 (by decide) ?_
    refine iV (rest := []) (wsp := fun _ => (x, .inr (5, [.ref st, .ref kt, .int ik, .ref (tr 0), .ref sc, .ref sh, .ref fo])) :: (st, .inr (4, [.ref (b 0), .ref bk, .ref sp, .int zz])) :: (wB ct b f ++ [ai ct fo 7 (fun j => (fnd c 1) (j + 1))])) F (kX5_finding l dC dI ct x st kt sc sh fo tr ik c 0 1 (-1000001) (by decide) (by decide) (by decide)) gX5_steal_X5_finding rfl ⟨rfl, rfl⟩ nmX5_finding ⟨Nat.le_of_ble_eq_true rfl, Nat.le_of_ble_eq_true rfl⟩ eT_b (fun _ _ _ => trivial) hK hP hD hS hA 0 rfl rfl rfl [0, 9] (by decide) rfl rfl rfl hl.1 (Nat.le_of_ble_eq_true rfl) dX5_steal_9 ⟨Nat.zero_le _, Nat.zero_le _⟩ (fun _ => rfl) (fun _ => rfl) [x, st, b 0, b 1, b 2, b 3, b 4, b 5, b 6, fo] rfl (fun _ => rfl) (fun r_9 u_9 H locs e_9 hP hD hS => ?_)
    obtain rfl := e_9
    exact rtI (f, (fnd c 1)) F hr hlk hP hS rfl ((if_neg (fun q => c_4 q)).symm) dX5_steal_12

def rmX5_gift : Room := { frames := 2, cells := 0, slots := 0, locals := 45 }
theorem nmX5_gift : NmV yX5_gift RX5 3 := by unfold NmV; decide +kernel
theorem hiX5_gift_1 : ∀ w ∈ u_ws RX1 TX1 10, w ∈ wsX5_gift := by decide +kernel
theorem hiX5_gift_4 : ∀ w ∈ u_ws RX4 TX4 4, w ∈ wsX5_gift := by decide +kernel
theorem hiX5_gift_5 : ∀ w ∈ u_ws RX5 TX5 7, w ∈ wsX5_gift := by decide +kernel
set_option maxHeartbeats 4000000 in
set_option maxRecDepth 100000 in
theorem kX5_gift (l : Launch) (dC : Nat → ClassId) (dI : Nat → Nat → Nat) (ct : Nat → ClassId) (x st kt sc sh fo bk sp : Nat) (tr b : Nat → Nat) (ik zz : Int32) (f c : Nat → Int32) (x1 x2 x3 : Int32) : MI (S := (Nat → Int32) × (Nat → Int32)) l yX5_gift wsX5_gift rmX5_gift dC dI ct eT [.ref x, .int x1, .int x2, .int x3] ((x, .inr (5, [.ref st, .ref kt, .int ik, .ref (tr 0), .ref sc, .ref sh, .ref fo])) :: (st, .inr (4, [.ref (b 0), .ref bk, .ref sp, .int zz])) :: (wB ct b f ++ [ai ct fo 7 (fun j => c (j + 1))])) (fun u => (x, .inr (5, [.ref st, .ref kt, .int ik, .ref (tr 0), .ref sc, .ref sh, .ref fo])) :: (st, .inr (4, [.ref (b 0), .ref bk, .ref sp, .int zz])) :: (wB ct b u.1 ++ [ai ct fo 7 (fun j => u.2 (j + 1))])) (fun r u => (r, u.1, u.2) = sGift f c x1 x2 x3) := by
  refine MI.of (cc := cX5_gift) (maxL := 6) (ret := (some .int)) (by decide) rfl (Nat.le_of_ble_eq_true rfl) ?_
  intro pg en z mi below meth cd A F hr hlk hin hK hP hD hA hS hE ls hl
  have F : CallFix pg mi cd cX5_gift 6 z _ wsX5_gift RX5 := F
  have hl : lv_has ls 6 [(0, .ref x), (1, .int x1), (2, .int x2), (3, .int x3)] := hl
  refine lv_iload_n F.1 F.2.1 dX5_gift_0 rfl (lv_at hl 1 rfl) ?_
  refine iS (rest := []) (wsp := fun _ => (x, .inr (5, [.ref st, .ref kt, .int ik, .ref (tr 0), .ref sc, .ref sh, .ref fo])) :: (st, .inr (4, [.ref (b 0), .ref bk, .ref sp, .int zz])) :: (wB ct b f ++ [ai ct fo 7 (fun j => c (j + 1))])) F (kX5_isSide l dC dI ct x1) gX5_gift_X5_isSide rfl ⟨rfl, rfl⟩ nmX5_isSide ⟨Nat.le_of_ble_eq_true rfl, Nat.le_of_ble_eq_true rfl⟩ eT_b (fun _ _ _ => trivial) hK hP hD hS hA [] (by decide) rfl rfl rfl hl.1 (Nat.le_of_ble_eq_true rfl) dX5_gift_1 ⟨Nat.zero_le _, Nat.zero_le _⟩ (fun _ => rfl) (fun _ => rfl) [x, st, b 0, b 1, b 2, b 3, b 4, b 5, b 6, fo] rfl (fun _ => rfl) (fun r_1 u_1 H locs e_1 hP hD hS => ?_)
  obtain rfl := e_1
  refine lv_if_eq (tgt := 24) F.1 F.2.1 dX5_gift_4 (by decide) (fun c_4 => ?_) (fun c_4 => ?_)
  · have c_4 : ¬ (0 ≤ x1 ∧ x1 ≤ 1) := b01f rfl c_4
    refine lv_aload_n F.1 F.2.1 dX5_gift_24 rfl (lv_at hl 0 rfl) ?_
    refine lv_iconst (v := 0) F.1 F.2.1 dX5_gift_25 (by decide) ?_
    refine iV (rest := []) (wsp := fun _ => (x, .inr (5, [.ref st, .ref kt, .int ik, .ref (tr 0), .ref sc, .ref sh, .ref fo])) :: (st, .inr (4, [.ref (b 0), .ref bk, .ref sp, .int zz])) :: (wB ct b f ++ [ai ct fo 7 (fun j => (fnd c 1) (j + 1))])) F (kX5_finding l dC dI ct x st kt sc sh fo tr ik c 0 1 (-1000001) (by decide) (by decide) (by decide)) gX5_gift_X5_finding rfl ⟨rfl, rfl⟩ nmX5_finding ⟨Nat.le_of_ble_eq_true rfl, Nat.le_of_ble_eq_true rfl⟩ eT_b (fun _ _ _ => trivial) hK hP hD hS hA 0 rfl rfl rfl [0, 9] (by decide) rfl rfl rfl hl.1 (Nat.le_of_ble_eq_true rfl) dX5_gift_26 ⟨Nat.zero_le _, Nat.zero_le _⟩ (fun _ => rfl) (fun _ => rfl) [x, st, b 0, b 1, b 2, b 3, b 4, b 5, b 6, fo] rfl (fun _ => rfl) (fun r_26 u_26 H locs e_26 hP hD hS => ?_)
    obtain rfl := e_26
    exact rtI (f, (fnd c 1)) F hr hlk hP hS rfl ((if_neg (fun q => c_4 q.1)).symm) dX5_gift_29
  · have c_4 : 0 ≤ x1 ∧ x1 ≤ 1 := b01t rfl c_4
    obtain ⟨s, hs, rfl⟩ := gS_n c_4
    refine lv_iload_n F.1 F.2.1 dX5_gift_7 rfl (lv_at hl 2 rfl) ?_
    refine iS (rest := []) (wsp := fun _ => (x, .inr (5, [.ref st, .ref kt, .int ik, .ref (tr 0), .ref sc, .ref sh, .ref fo])) :: (st, .inr (4, [.ref (b 0), .ref bk, .ref sp, .int zz])) :: (wB ct b f ++ [ai ct fo 7 (fun j => c (j + 1))])) F (kX5_isThing l dC dI ct x2) gX5_gift_X5_isThing rfl ⟨rfl, rfl⟩ nmX5_isThing ⟨Nat.le_of_ble_eq_true rfl, Nat.le_of_ble_eq_true rfl⟩ eT_b (fun _ _ _ => trivial) hK hP hD hS hA [] (by decide) rfl rfl rfl hl.1 (Nat.le_of_ble_eq_true rfl) dX5_gift_8 ⟨Nat.zero_le _, Nat.zero_le _⟩ (fun _ => rfl) (fun _ => rfl) [x, st, b 0, b 1, b 2, b 3, b 4, b 5, b 6, fo] rfl (fun _ => rfl) (fun r_8 u_8 H locs e_8 hP hD hS => ?_)
    obtain rfl := e_8
    refine lv_if_eq (tgt := 24) F.1 F.2.1 dX5_gift_11 (by decide) (fun c_11 => ?_) (fun c_11 => ?_)
    · have c_11 : ¬ (0 ≤ x2 ∧ x2 ≤ 4) := b01f rfl c_11
      refine lv_aload_n F.1 F.2.1 dX5_gift_24 rfl (lv_at hl 0 rfl) ?_
      refine lv_iconst (v := 0) F.1 F.2.1 dX5_gift_25 (by decide) ?_
      refine iV (rest := []) (wsp := fun _ => (x, .inr (5, [.ref st, .ref kt, .int ik, .ref (tr 0), .ref sc, .ref sh, .ref fo])) :: (st, .inr (4, [.ref (b 0), .ref bk, .ref sp, .int zz])) :: (wB ct b f ++ [ai ct fo 7 (fun j => (fnd c 1) (j + 1))])) F (kX5_finding l dC dI ct x st kt sc sh fo tr ik c 0 1 (-1000001) (by decide) (by decide) (by decide)) gX5_gift_X5_finding rfl ⟨rfl, rfl⟩ nmX5_finding ⟨Nat.le_of_ble_eq_true rfl, Nat.le_of_ble_eq_true rfl⟩ eT_b (fun _ _ _ => trivial) hK hP hD hS hA 0 rfl rfl rfl [0, 9] (by decide) rfl rfl rfl hl.1 (Nat.le_of_ble_eq_true rfl) dX5_gift_26 ⟨Nat.zero_le _, Nat.zero_le _⟩ (fun _ => rfl) (fun _ => rfl) [x, st, b 0, b 1, b 2, b 3, b 4, b 5, b 6, fo] rfl (fun _ => rfl) (fun r_26 u_26 H locs e_26 hP hD hS => ?_)
      obtain rfl := e_26
      exact rtI (f, (fnd c 1)) F hr hlk hP hS rfl ((if_neg (fun q => c_11 q.2.1)).symm) dX5_gift_29
    · have c_11 : 0 ≤ x2 ∧ x2 ≤ 4 := b01t rfl c_11
      obtain ⟨t, ht, rfl⟩ := gT_n c_11
      refine lv_iload_n F.1 F.2.1 dX5_gift_14 rfl (lv_at hl 3 rfl) ?_
      refine lv_iconst (v := 1) F.1 F.2.1 dX5_gift_15 (by decide) ?_
      refine lv_bipush (v := 99) F.1 F.2.1 dX5_gift_16 (by decide) ?_
      refine iS (rest := []) (wsp := fun _ => (x, .inr (5, [.ref st, .ref kt, .int ik, .ref (tr 0), .ref sc, .ref sh, .ref fo])) :: (st, .inr (4, [.ref (b 0), .ref bk, .ref sp, .int zz])) :: (wB ct b f ++ [ai ct fo 7 (fun j => c (j + 1))])) F (kX5_isIn l dC dI ct x3 1 99) gX5_gift_X5_isIn rfl ⟨rfl, rfl⟩ nmX5_isIn ⟨Nat.le_of_ble_eq_true rfl, Nat.le_of_ble_eq_true rfl⟩ eT_b (fun _ _ _ => trivial) hK hP hD hS hA [] (by decide) rfl rfl rfl hl.1 (Nat.le_of_ble_eq_true rfl) dX5_gift_18 ⟨Nat.zero_le _, Nat.zero_le _⟩ (fun _ => rfl) (fun _ => rfl) [x, st, b 0, b 1, b 2, b 3, b 4, b 5, b 6, fo] rfl (fun _ => rfl) (fun r_18 u_18 H locs e_18 hP hD hS => ?_)
      obtain rfl := e_18
      refine lv_if_ne (tgt := 30) F.1 F.2.1 dX5_gift_21 (by decide) (fun c_21 => ?_) (fun c_21 => ?_)
      · have c_21 : 1 ≤ x3 ∧ x3 ≤ 99 := b01t rfl c_21
        refine lv_aload_n F.1 F.2.1 dX5_gift_30 rfl (lv_at hl 0 rfl) ?_
        refine gf F hK hP 0 rfl rfl hiX5_gift_5 0 (by decide) (List.mem_of_getElem? (i := 1) rfl) rfl dX5_gift_31 ?_
        refine gf F hK hP 1 rfl rfl hiX5_gift_4 0 (by decide) (List.mem_of_getElem? (i := 2) rfl) rfl dX5_gift_34 ?_
        refine lv_astore (lv' := [(4, .ref (b 0)), (0, .ref x), (1, .int (nI s)), (2, .int (nI t)), (3, .int x3)]) F.1 F.2.1 dX5_gift_37 hl (by decide) rfl (fun ls hl => ?_)
        refine lv_iconst (v := 1) F.1 F.2.1 dX5_gift_39 (by decide) ?_
        refine lv_iload_n F.1 F.2.1 dX5_gift_40 rfl (lv_at hl 2 rfl) ?_
        refine lv_isub F.1 F.2.1 dX5_gift_41 ?_
        refine tp (y := nI (1 - s)) (sb2 (a := 1) (b := s) (c := 1 - s) rfl rfl (by omega)) ?_
        refine lv_istore (lv' := [(5, .int (nI (1 - s))), (4, .ref (b 0)), (0, .ref x), (1, .int (nI s)), (2, .int (nI t)), (3, .int x3)]) F.1 F.2.1 dX5_gift_42 hl (by decide) rfl (fun ls hl => ?_)
        refine lv_aload F.1 F.2.1 dX5_gift_44 (lv_at hl 1 rfl) ?_
        refine gf F hK hP 2 rfl rfl hiX5_gift_1 1 (by decide) (List.mem_of_getElem? (i := 3) rfl) rfl dX5_gift_46 ?_
        refine lv_iload_n F.1 F.2.1 dX5_gift_49 rfl (lv_at hl 3 rfl) ?_
        refine lv_iconst (v := 5) F.1 F.2.1 dX5_gift_50 (by decide) ?_
        refine lv_imul F.1 F.2.1 dX5_gift_51 ?_
        refine tp (y := nI (s * 5)) (ml2 (a := s) (b := 5) (c := s * 5) rfl rfl rfl) ?_
        refine lv_iload_n F.1 F.2.1 dX5_gift_52 rfl (lv_at hl 4 rfl) ?_
        refine lv_iadd F.1 F.2.1 dX5_gift_53 ?_
        refine tp (y := nI (s * 5 + t)) (ad2 (a := s * 5) (b := t) (c := s * 5 + t) rfl rfl rfl) ?_
        refine al (v := f (22 + 17 * s + t)) F hK hP 4 0 rfl rfl (s * 5 + t) rfl (by omega) (by decide) (congrArg f (ix5 (by omega))) dX5_gift_54 ?_
        refine lv_iload_n F.1 F.2.1 dX5_gift_55 rfl (lv_at hl 5 rfl) ?_
        refine lv_icmp_ge (tgt := 65) F.1 F.2.1 dX5_gift_56 (by decide) (fun c_56 => ?_) (fun c_56 => ?_)
        · refine lv_aload F.1 F.2.1 dX5_gift_65 (lv_at hl 1 rfl) ?_
          refine gf F hK hP 2 rfl rfl hiX5_gift_1 1 (by decide) (List.mem_of_getElem? (i := 3) rfl) rfl dX5_gift_67 ?_
          refine lv_iload_n F.1 F.2.1 dX5_gift_70 rfl (lv_at hl 3 rfl) ?_
          refine lv_iconst (v := 5) F.1 F.2.1 dX5_gift_71 (by decide) ?_
          refine lv_imul F.1 F.2.1 dX5_gift_72 ?_
          refine tp (y := nI (s * 5)) (ml2 (a := s) (b := 5) (c := s * 5) rfl rfl rfl) ?_
          refine lv_iload_n F.1 F.2.1 dX5_gift_73 rfl (lv_at hl 4 rfl) ?_
          refine lv_iadd F.1 F.2.1 dX5_gift_74 ?_
          refine tp (y := nI (s * 5 + t)) (ad2 (a := s * 5) (b := t) (c := s * 5 + t) rfl rfl rfl) ?_
          refine lv_dup2_11 F.1 F.2.1 dX5_gift_75 rfl rfl ?_
          refine al (v := f (22 + 17 * s + t)) F hK hP 4 0 rfl rfl (s * 5 + t) rfl (by omega) (by decide) (congrArg f (ix5 (by omega))) dX5_gift_76 ?_
          refine lv_iload_n F.1 F.2.1 dX5_gift_77 rfl (lv_at hl 5 rfl) ?_
          refine lv_isub F.1 F.2.1 dX5_gift_78 ?_
          refine ast (ws' := (x, .inr (5, [.ref st, .ref kt, .int ik, .ref (tr 0), .ref sc, .ref sh, .ref fo])) :: (st, .inr (4, [.ref (b 0), .ref bk, .ref sp, .int zz])) :: (wB ct b (upd f (22 + 17 * s + t) ((f (22 + 17 * s + t)) - x3)) ++ [ai ct fo 7 (fun j => c (j + 1))])) F hK hP hD hS 4 0 rfl rfl (s * 5 + t) rfl (by omega) (by decide) dX5_gift_79 (weq.c (weq.c (weq_al (x := wB ct b f) (j := 2) (Nat.le_of_ble_eq_true rfl) (wq_home ct b f (by omega) (by omega))))) (fun H locs hP hD hS => ?_)
          refine lv_aload F.1 F.2.1 dX5_gift_80 (lv_at hl 1 rfl) ?_
          refine lv_iload F.1 F.2.1 dX5_gift_82 (lv_at hl 0 rfl) ?_
          refine lv_iload_n F.1 F.2.1 dX5_gift_84 rfl (lv_at hl 4 rfl) ?_
          refine lv_iload_n F.1 F.2.1 dX5_gift_85 rfl (lv_at hl 5 rfl) ?_
          refine vV (rest := []) (wsp := fun _ => (x, .inr (5, [.ref st, .ref kt, .int ik, .ref (tr 0), .ref sc, .ref sh, .ref fo])) :: (st, .inr (4, [.ref (b 0), .ref bk, .ref sp, .int zz])) :: (wB ct b (comeH (upd f (22 + 17 * s + t) ((f (22 + 17 * s + t)) - x3)) (1 - s) t x3) ++ [ai ct fo 7 (fun j => c (j + 1))])) F (kX1_addHome l dC dI ct b (upd f (22 + 17 * s + t) ((f (22 + 17 * s + t)) - x3)) (1 - s) t x3 (by omega) (by omega)) gX5_gift_X1_addHome rfl ⟨rfl, rfl⟩ nmX1_addHome ⟨Nat.le_of_ble_eq_true rfl, Nat.le_of_ble_eq_true rfl⟩ eT_b (fun _ _ _ => trivial) hK hP hD hS hA 2 rfl rfl rfl [2, 3, 4, 5, 6, 7, 8] (by decide) rfl rfl rfl hl.1 (Nat.le_of_ble_eq_true rfl) dX5_gift_86 ⟨Nat.zero_le _, Nat.zero_le _⟩ (fun _ => rfl) (fun _ => rfl) [x, st, b 0, b 1, b 2, b 3, b 4, b 5, b 6, fo] rfl (fun _ => rfl) (fun u_86 H locs e_86 hP hD hS => ?_)
          refine lv_aload F.1 F.2.1 dX5_gift_89 (lv_at hl 1 rfl) ?_
          refine lv_iload F.1 F.2.1 dX5_gift_91 (lv_at hl 0 rfl) ?_
          refine vV (rest := []) (wsp := fun _ => (x, .inr (5, [.ref st, .ref kt, .int ik, .ref (tr 0), .ref sc, .ref sh, .ref fo])) :: (st, .inr (4, [.ref (b 0), .ref bk, .ref sp, .int zz])) :: (wB ct b (truF (comeH (upd f (22 + 17 * s + t) ((f (22 + 17 * s + t)) - x3)) (1 - s) t x3) (1 - s)) ++ [ai ct fo 7 (fun j => c (j + 1))])) F (kX1_trustMore l dC dI ct b (comeH (upd f (22 + 17 * s + t) ((f (22 + 17 * s + t)) - x3)) (1 - s) t x3) (1 - s) (by omega)) gX5_gift_X1_trustMore rfl ⟨rfl, rfl⟩ nmX1_trustMore ⟨Nat.le_of_ble_eq_true rfl, Nat.le_of_ble_eq_true rfl⟩ eT_b (fun _ _ _ => trivial) hK hP hD hS hA 2 rfl rfl rfl [2, 3, 4, 5, 6, 7, 8] (by decide) rfl rfl rfl hl.1 (Nat.le_of_ble_eq_true rfl) dX5_gift_93 ⟨Nat.zero_le _, Nat.zero_le _⟩ (fun _ => rfl) (fun _ => rfl) [x, st, b 0, b 1, b 2, b 3, b 4, b 5, b 6, fo] rfl (fun _ => rfl) (fun u_93 H locs e_93 hP hD hS => ?_)
          refine lv_aload F.1 F.2.1 dX5_gift_96 (lv_at hl 1 rfl) ?_
          refine gf F hK hP 2 rfl rfl hiX5_gift_1 5 (by decide) (List.mem_of_getElem? (i := 4) rfl) rfl dX5_gift_98 ?_
          refine lv_iload F.1 F.2.1 dX5_gift_101 (lv_at hl 0 rfl) ?_
          refine al (v := (truF (comeH (upd f (22 + 17 * s + t) ((f (22 + 17 * s + t)) - x3)) (1 - s) t x3) (1 - s)) (21 + 17 * (1 - s))) F hK hP 8 0 rfl rfl (1 - s) rfl (by omega) (by decide) rfl dX5_gift_103 ?_
          exact rtI ((truF (comeH (upd f (22 + 17 * s + t) ((f (22 + 17 * s + t)) - x3)) (1 - s) t x3) (1 - s)), c) F hr hlk hP hS rfl (Eq.trans (by rw [show tn (nI s) = s from nI_clamp (by omega), show tn (nI t) = t from nI_clamp (by omega)]; try exact (if_pos c_56).symm) (if_pos ⟨c_4, c_11, c_21⟩).symm) dX5_gift_104
        · refine lv_aload_n F.1 F.2.1 dX5_gift_59 rfl (lv_at hl 2 rfl) ?_
          refine lv_iconst (v := 4) F.1 F.2.1 dX5_gift_60 (by decide) ?_
          refine iV (rest := []) (wsp := fun _ => (x, .inr (5, [.ref st, .ref kt, .int ik, .ref (tr 0), .ref sc, .ref sh, .ref fo])) :: (st, .inr (4, [.ref (b 0), .ref bk, .ref sp, .int zz])) :: (wB ct b f ++ [ai ct fo 7 (fun j => (fnd c 5) (j + 1))])) F (kX5_finding l dC dI ct x st kt sc sh fo tr ik c 4 5 (-1000005) (by decide) (by decide) (by decide)) gX5_gift_X5_finding rfl ⟨rfl, rfl⟩ nmX5_finding ⟨Nat.le_of_ble_eq_true rfl, Nat.le_of_ble_eq_true rfl⟩ eT_b (fun _ _ _ => trivial) hK hP hD hS hA 0 rfl rfl rfl [0, 9] (by decide) rfl rfl rfl hl.1 (Nat.le_of_ble_eq_true rfl) dX5_gift_61 ⟨Nat.zero_le _, Nat.zero_le _⟩ (fun _ => rfl) (fun _ => rfl) [x, st, b 0, b 1, b 2, b 3, b 4, b 5, b 6, fo] rfl (fun _ => rfl) (fun r_61 u_61 H locs e_61 hP hD hS => ?_)
          obtain rfl := e_61
          exact rtI (f, (fnd c 5)) F hr hlk hP hS rfl (Eq.trans (by rw [show tn (nI s) = s from nI_clamp (by omega), show tn (nI t) = t from nI_clamp (by omega)]; try exact (if_neg c_56).symm) (if_pos ⟨c_4, c_11, c_21⟩).symm) dX5_gift_64
      · have c_21 : ¬ (1 ≤ x3 ∧ x3 ≤ 99) := b01f rfl c_21
        refine lv_aload_n F.1 F.2.1 dX5_gift_24 rfl (lv_at hl 0 rfl) ?_
        refine lv_iconst (v := 0) F.1 F.2.1 dX5_gift_25 (by decide) ?_
        refine iV (rest := []) (wsp := fun _ => (x, .inr (5, [.ref st, .ref kt, .int ik, .ref (tr 0), .ref sc, .ref sh, .ref fo])) :: (st, .inr (4, [.ref (b 0), .ref bk, .ref sp, .int zz])) :: (wB ct b f ++ [ai ct fo 7 (fun j => (fnd c 1) (j + 1))])) F (kX5_finding l dC dI ct x st kt sc sh fo tr ik c 0 1 (-1000001) (by decide) (by decide) (by decide)) gX5_gift_X5_finding rfl ⟨rfl, rfl⟩ nmX5_finding ⟨Nat.le_of_ble_eq_true rfl, Nat.le_of_ble_eq_true rfl⟩ eT_b (fun _ _ _ => trivial) hK hP hD hS hA 0 rfl rfl rfl [0, 9] (by decide) rfl rfl rfl hl.1 (Nat.le_of_ble_eq_true rfl) dX5_gift_26 ⟨Nat.zero_le _, Nat.zero_le _⟩ (fun _ => rfl) (fun _ => rfl) [x, st, b 0, b 1, b 2, b 3, b 4, b 5, b 6, fo] rfl (fun _ => rfl) (fun r_26 u_26 H locs e_26 hP hD hS => ?_)
        obtain rfl := e_26
        exact rtI (f, (fnd c 1)) F hr hlk hP hS rfl ((if_neg (fun q => c_21 q.2.2)).symm) dX5_gift_29

def rmX5_seed : Room := { frames := 0, cells := 0, slots := 0, locals := 0 }
theorem nmX5_seed : NmV yX5_seed RX5 1 := by unfold NmV; decide +kernel
theorem hiX5_seed_4 : ∀ w ∈ u_ws RX4 TX4 4, w ∈ wsX5_seed := by decide +kernel
theorem hiX5_seed_5 : ∀ w ∈ u_ws RX5 TX5 7, w ∈ wsX5_seed := by decide +kernel
set_option maxHeartbeats 4000000 in
set_option maxRecDepth 100000 in
theorem kX5_seed (l : Launch) (dC : Nat → ClassId) (dI : Nat → Nat → Nat) (ct : Nat → ClassId) (x st kt sc sh fo bk sp : Nat) (tr b : Nat → Nat) (ik zz : Int32) (x1 : Int32) : MI (S := Unit) l yX5_seed wsX5_seed rmX5_seed dC dI ct eT [.ref x, .int x1] ((x, .inr (5, [.ref st, .ref kt, .int ik, .ref (tr 0), .ref sc, .ref sh, .ref fo])) :: [(st, .inr (4, [.ref (b 0), .ref bk, .ref sp, .int zz]))]) (fun u => (x, .inr (5, [.ref st, .ref kt, .int ik, .ref (tr 0), .ref sc, .ref sh, .ref fo])) :: [(st, .inr (4, [.ref (b 0), .ref bk, .ref sp, .int x1]))]) (fun r _ => r = zz) := by
  refine MI.of (cc := cX5_seed) (maxL := 3) (ret := (some .int)) (by decide) rfl (Nat.le_of_ble_eq_true rfl) ?_
  intro pg en z mi below meth cd A F hr hlk hin hK hP hD hA hS hE ls hl
  have F : CallFix pg mi cd cX5_seed 3 z _ wsX5_seed RX5 := F
  have hl : lv_has ls 3 [(0, .ref x), (1, .int x1)] := hl
  refine lv_aload_n F.1 F.2.1 dX5_seed_0 rfl (lv_at hl 0 rfl) ?_
  refine gf F hK hP 0 rfl rfl hiX5_seed_5 0 (by decide) (List.mem_of_getElem? (i := 1) rfl) rfl dX5_seed_1 ?_
  refine gf F hK hP 1 rfl rfl hiX5_seed_4 3 (by decide) (List.mem_of_getElem? (i := 2) rfl) rfl dX5_seed_4 ?_
  refine lv_istore_n (lv' := [(2, .int zz), (0, .ref x), (1, .int x1)]) F.1 F.2.1 dX5_seed_7 rfl hl (by decide) rfl (fun ls hl => ?_)
  refine lv_aload_n F.1 F.2.1 dX5_seed_8 rfl (lv_at hl 1 rfl) ?_
  refine gf F hK hP 0 rfl rfl hiX5_seed_5 0 (by decide) (List.mem_of_getElem? (i := 1) rfl) rfl dX5_seed_9 ?_
  refine lv_iload_n F.1 F.2.1 dX5_seed_12 rfl (lv_at hl 2 rfl) ?_
  refine pf (ws' := (x, .inr (5, [.ref st, .ref kt, .int ik, .ref (tr 0), .ref sc, .ref sh, .ref fo])) :: [(st, .inr (4, [.ref (b 0), .ref bk, .ref sp, .int x1]))]) F hK hP hD hS 1 rfl rfl hiX5_seed_4 tyX4 tyX4_ok nmX4 3 (by decide) (List.mem_of_getElem? (i := 2) rfl) rfl rfl rfl (Nat.le_of_ble_eq_true rfl) dX5_seed_13 (weq.rf _) (fun H locs hP hD hS => ?_)
  refine lv_iload_n F.1 F.2.1 dX5_seed_16 rfl (lv_at hl 0 rfl) ?_
  exact rtI () F hr hlk hP hS rfl rfl dX5_seed_17

def rmX5_tear : Room := { frames := 0, cells := 0, slots := 0, locals := 0 }
theorem nmX5_tear : NmV yX5_tear RX5 0 := by unfold NmV; decide +kernel
theorem hiX5_tear_5 : ∀ w ∈ u_ws RX5 TX5 7, w ∈ wsX5_tear := by decide +kernel
set_option maxHeartbeats 4000000 in
set_option maxRecDepth 100000 in
theorem kX5_tear (l : Launch) (dC : Nat → ClassId) (dI : Nat → Nat → Nat) (ct : Nat → ClassId) (x st kt sc sh fo : Nat) (tr : Nat → Nat) (ik : Int32) : MI (S := Unit) l yX5_tear wsX5_tear rmX5_tear dC dI ct eT [.ref x] ([(x, .inr (5, [.ref st, .ref kt, .int ik, .ref (tr 0), .ref sc, .ref sh, .ref fo]))]) (fun u => [(x, .inr (5, [.ref st, .ref kt, .int 0, .ref (tr 0), .ref sc, .ref sh, .ref fo]))]) (fun r _ => r = if ik = 0 then 0 else 1) := by
  refine MI.of (cc := cX5_tear) (maxL := 2) (ret := (some .int)) (by decide) rfl (Nat.le_of_ble_eq_true rfl) ?_
  intro pg en z mi below meth cd A F hr hlk hin hK hP hD hA hS hE ls hl
  have F : CallFix pg mi cd cX5_tear 2 z _ wsX5_tear RX5 := F
  have hl : lv_has ls 2 [(0, .ref x)] := hl
  refine lv_aload_n F.1 F.2.1 dX5_tear_0 rfl (lv_at hl 0 rfl) ?_
  refine gf F hK hP 0 rfl rfl hiX5_tear_5 2 (by decide) (List.mem_of_getElem? (i := 1) rfl) rfl dX5_tear_1 ?_
  refine lv_if_eq (tgt := 11) F.1 F.2.1 dX5_tear_4 (by decide) (fun c_4 => ?_) (fun c_4 => ?_)
  · refine lv_iconst (v := 0) F.1 F.2.1 dX5_tear_11 (by decide) ?_
    refine lv_istore_n (lv' := [(1, .int 0), (0, .ref x)]) F.1 F.2.1 dX5_tear_12 rfl hl (by decide) rfl (fun ls hl => ?_)
    refine lv_aload_n F.1 F.2.1 dX5_tear_13 rfl (lv_at hl 1 rfl) ?_
    refine lv_iconst (v := 0) F.1 F.2.1 dX5_tear_14 (by decide) ?_
    refine pf (ws' := [(x, .inr (5, [.ref st, .ref kt, .int 0, .ref (tr 0), .ref sc, .ref sh, .ref fo]))]) F hK hP hD hS 0 rfl rfl hiX5_tear_5 tyX5 tyX5_ok nmX5 2 (by decide) (List.mem_of_getElem? (i := 1) rfl) rfl rfl rfl (Nat.le_of_ble_eq_true rfl) dX5_tear_15 (weq.rf _) (fun H locs hP hD hS => ?_)
    refine lv_iload_n F.1 F.2.1 dX5_tear_18 rfl (lv_at hl 0 rfl) ?_
    exact rtI () F hr hlk hP hS rfl (by simp [c_4]) dX5_tear_19
  · refine lv_iconst (v := 1) F.1 F.2.1 dX5_tear_7 (by decide) ?_
    refine lv_goto (tgt := 12) F.1 F.2.1 dX5_tear_8 (by decide) ?_
    refine lv_istore_n (lv' := [(1, .int 1), (0, .ref x)]) F.1 F.2.1 dX5_tear_12 rfl hl (by decide) rfl (fun ls hl => ?_)
    refine lv_aload_n F.1 F.2.1 dX5_tear_13 rfl (lv_at hl 1 rfl) ?_
    refine lv_iconst (v := 0) F.1 F.2.1 dX5_tear_14 (by decide) ?_
    refine pf (ws' := [(x, .inr (5, [.ref st, .ref kt, .int 0, .ref (tr 0), .ref sc, .ref sh, .ref fo]))]) F hK hP hD hS 0 rfl rfl hiX5_tear_5 tyX5 tyX5_ok nmX5 2 (by decide) (List.mem_of_getElem? (i := 1) rfl) rfl rfl rfl (Nat.le_of_ble_eq_true rfl) dX5_tear_15 (weq.rf _) (fun H locs hP hD hS => ?_)
    refine lv_iload_n F.1 F.2.1 dX5_tear_18 rfl (lv_at hl 0 rfl) ?_
    exact rtI () F hr hlk hP hS rfl (by simp [c_4]) dX5_tear_19

def rmX5_hold : Room := { frames := 1, cells := 0, slots := 0, locals := 22 }
theorem nmX5_hold : NmV yX5_hold RX5 2 := by unfold NmV; decide +kernel
theorem hiX5_hold_4 : ∀ w ∈ u_ws RX4 TX4 4, w ∈ wsX5_hold := by decide +kernel
theorem hiX5_hold_5 : ∀ w ∈ u_ws RX5 TX5 7, w ∈ wsX5_hold := by decide +kernel
set_option maxHeartbeats 4000000 in
set_option maxRecDepth 100000 in
theorem kX5_hold (l : Launch) (dC : Nat → ClassId) (dI : Nat → Nat → Nat) (ct : Nat → ClassId) (x st kt sc sh fo bk sp : Nat) (tr b : Nat → Nat) (ik zz : Int32) (w c : Nat → Int32) (x1 x2 : Int32) : MI (S := (Nat → Int32) × (Nat → Int32)) l yX5_hold wsX5_hold rmX5_hold dC dI ct eT [.ref x, .int x1, .int x2] ((x, .inr (5, [.ref st, .ref kt, .int ik, .ref (tr 0), .ref sc, .ref sh, .ref fo])) :: (st, .inr (4, [.ref (b 0), .ref bk, .ref sp, .int zz])) :: ai ct fo 7 (fun j => c (j + 1)) :: [ai ct sp 10 w]) (fun u => (x, .inr (5, [.ref st, .ref kt, .int ik, .ref (tr 0), .ref sc, .ref sh, .ref fo])) :: (st, .inr (4, [.ref (b 0), .ref bk, .ref sp, .int zz])) :: ai ct fo 7 (fun j => u.2 (j + 1)) :: [ai ct sp 10 u.1]) (fun r u => (r, u.1, u.2) = if (0 ≤ x1 ∧ x1 ≤ 9) ∧ (-1 ≤ x2 ∧ x2 ≤ 4) then (1, upd w (tn x1) x2, c) else (-1000001, w, fnd c 1)) := by
  refine MI.of (cc := cX5_hold) (maxL := 3) (ret := (some .int)) (by decide) rfl (Nat.le_of_ble_eq_true rfl) ?_
  intro pg en z mi below meth cd A F hr hlk hin hK hP hD hA hS hE ls hl
  have F : CallFix pg mi cd cX5_hold 3 z _ wsX5_hold RX5 := F
  have hl : lv_has ls 3 [(0, .ref x), (1, .int x1), (2, .int x2)] := hl
  refine lv_iload_n F.1 F.2.1 dX5_hold_0 rfl (lv_at hl 1 rfl) ?_
  refine lv_iconst (v := 0) F.1 F.2.1 dX5_hold_1 (by decide) ?_
  refine lv_bipush (v := 9) F.1 F.2.1 dX5_hold_2 (by decide) ?_
  refine iS (rest := []) (wsp := fun _ => (x, .inr (5, [.ref st, .ref kt, .int ik, .ref (tr 0), .ref sc, .ref sh, .ref fo])) :: (st, .inr (4, [.ref (b 0), .ref bk, .ref sp, .int zz])) :: ai ct fo 7 (fun j => c (j + 1)) :: [ai ct sp 10 w]) F (kX5_isIn l dC dI ct x1 0 9) gX5_hold_X5_isIn rfl ⟨rfl, rfl⟩ nmX5_isIn ⟨Nat.le_of_ble_eq_true rfl, Nat.le_of_ble_eq_true rfl⟩ eT_b (fun _ _ _ => trivial) hK hP hD hS hA [] (by decide) rfl rfl rfl hl.1 (Nat.le_of_ble_eq_true rfl) dX5_hold_4 ⟨Nat.zero_le _, Nat.zero_le _⟩ (fun _ => rfl) (fun _ => rfl) [x, st, fo, sp] rfl (fun _ => rfl) (fun r_4 u_4 H locs e_4 hP hD hS => ?_)
  obtain rfl := e_4
  refine lv_if_eq (tgt := 19) F.1 F.2.1 dX5_hold_7 (by decide) (fun c_7 => ?_) (fun c_7 => ?_)
  · have c_7 : ¬ (0 ≤ x1 ∧ x1 ≤ 9) := b01f rfl c_7
    refine lv_aload_n F.1 F.2.1 dX5_hold_19 rfl (lv_at hl 0 rfl) ?_
    refine lv_iconst (v := 0) F.1 F.2.1 dX5_hold_20 (by decide) ?_
    refine iV (rest := []) (wsp := fun _ => (x, .inr (5, [.ref st, .ref kt, .int ik, .ref (tr 0), .ref sc, .ref sh, .ref fo])) :: (st, .inr (4, [.ref (b 0), .ref bk, .ref sp, .int zz])) :: ai ct fo 7 (fun j => (fnd c 1) (j + 1)) :: [ai ct sp 10 w]) F (kX5_finding l dC dI ct x st kt sc sh fo tr ik c 0 1 (-1000001) (by decide) (by decide) (by decide)) gX5_hold_X5_finding rfl ⟨rfl, rfl⟩ nmX5_finding ⟨Nat.le_of_ble_eq_true rfl, Nat.le_of_ble_eq_true rfl⟩ eT_b (fun _ _ _ => trivial) hK hP hD hS hA 0 rfl rfl rfl [0, 2] (by decide) rfl rfl rfl hl.1 (Nat.le_of_ble_eq_true rfl) dX5_hold_21 ⟨Nat.zero_le _, Nat.zero_le _⟩ (fun _ => rfl) (fun _ => rfl) [x, st, fo, sp] rfl (fun _ => rfl) (fun r_21 u_21 H locs e_21 hP hD hS => ?_)
    obtain rfl := e_21
    exact rtI (w, fnd c 1) F hr hlk hP hS rfl ((if_neg (fun q => c_7 q.1)).symm) dX5_hold_24
  · have c_7 : 0 ≤ x1 ∧ x1 ≤ 9 := b01t rfl c_7
    obtain ⟨i, hi, rfl⟩ := g9_n c_7
    refine lv_iload_n F.1 F.2.1 dX5_hold_10 rfl (lv_at hl 2 rfl) ?_
    refine lv_iconst (v := (-1)) F.1 F.2.1 dX5_hold_11 (by decide) ?_
    refine lv_iconst (v := 4) F.1 F.2.1 dX5_hold_12 (by decide) ?_
    refine iS (rest := []) (wsp := fun _ => (x, .inr (5, [.ref st, .ref kt, .int ik, .ref (tr 0), .ref sc, .ref sh, .ref fo])) :: (st, .inr (4, [.ref (b 0), .ref bk, .ref sp, .int zz])) :: ai ct fo 7 (fun j => c (j + 1)) :: [ai ct sp 10 w]) F (kX5_isIn l dC dI ct x2 (-1) 4) gX5_hold_X5_isIn rfl ⟨rfl, rfl⟩ nmX5_isIn ⟨Nat.le_of_ble_eq_true rfl, Nat.le_of_ble_eq_true rfl⟩ eT_b (fun _ _ _ => trivial) hK hP hD hS hA [] (by decide) rfl rfl rfl hl.1 (Nat.le_of_ble_eq_true rfl) dX5_hold_13 ⟨Nat.zero_le _, Nat.zero_le _⟩ (fun _ => rfl) (fun _ => rfl) [x, st, fo, sp] rfl (fun _ => rfl) (fun r_13 u_13 H locs e_13 hP hD hS => ?_)
    obtain rfl := e_13
    refine lv_if_ne (tgt := 25) F.1 F.2.1 dX5_hold_16 (by decide) (fun c_16 => ?_) (fun c_16 => ?_)
    · have c_16 : (-1) ≤ x2 ∧ x2 ≤ 4 := b01t rfl c_16
      refine lv_aload_n F.1 F.2.1 dX5_hold_25 rfl (lv_at hl 0 rfl) ?_
      refine gf F hK hP 0 rfl rfl hiX5_hold_5 0 (by decide) (List.mem_of_getElem? (i := 1) rfl) rfl dX5_hold_26 ?_
      refine gf F hK hP 1 rfl rfl hiX5_hold_4 2 (by decide) (List.mem_of_getElem? (i := 2) rfl) rfl dX5_hold_29 ?_
      refine lv_iload_n F.1 F.2.1 dX5_hold_32 rfl (lv_at hl 1 rfl) ?_
      refine lv_iload_n F.1 F.2.1 dX5_hold_33 rfl (lv_at hl 2 rfl) ?_
      refine ast (ws' := (x, .inr (5, [.ref st, .ref kt, .int ik, .ref (tr 0), .ref sc, .ref sh, .ref fo])) :: (st, .inr (4, [.ref (b 0), .ref bk, .ref sp, .int zz])) :: ai ct fo 7 (fun j => c (j + 1)) :: [ai ct sp 10 (upd w i x2)]) F hK hP hD hS 3 0 rfl rfl i rfl (by omega) (by decide) dX5_hold_34 (weq.rf _) (fun H locs hP hD hS => ?_)
      refine lv_iconst (v := 1) F.1 F.2.1 dX5_hold_35 (by decide) ?_
      exact rtI (upd w i x2, c) F hr hlk hP hS rfl (Eq.trans (by rw [show tn (nI i) = i from nI_clamp (by omega)]) (if_pos ⟨c_7, c_16⟩).symm) dX5_hold_36
    · have c_16 : ¬ ((-1) ≤ x2 ∧ x2 ≤ 4) := b01f rfl c_16
      refine lv_aload_n F.1 F.2.1 dX5_hold_19 rfl (lv_at hl 0 rfl) ?_
      refine lv_iconst (v := 0) F.1 F.2.1 dX5_hold_20 (by decide) ?_
      refine iV (rest := []) (wsp := fun _ => (x, .inr (5, [.ref st, .ref kt, .int ik, .ref (tr 0), .ref sc, .ref sh, .ref fo])) :: (st, .inr (4, [.ref (b 0), .ref bk, .ref sp, .int zz])) :: ai ct fo 7 (fun j => (fnd c 1) (j + 1)) :: [ai ct sp 10 w]) F (kX5_finding l dC dI ct x st kt sc sh fo tr ik c 0 1 (-1000001) (by decide) (by decide) (by decide)) gX5_hold_X5_finding rfl ⟨rfl, rfl⟩ nmX5_finding ⟨Nat.le_of_ble_eq_true rfl, Nat.le_of_ble_eq_true rfl⟩ eT_b (fun _ _ _ => trivial) hK hP hD hS hA 0 rfl rfl rfl [0, 2] (by decide) rfl rfl rfl hl.1 (Nat.le_of_ble_eq_true rfl) dX5_hold_21 ⟨Nat.zero_le _, Nat.zero_le _⟩ (fun _ => rfl) (fun _ => rfl) [x, st, fo, sp] rfl (fun _ => rfl) (fun r_21 u_21 H locs e_21 hP hD hS => ?_)
      obtain rfl := e_21
      exact rtI (w, fnd c 1) F hr hlk hP hS rfl ((if_neg (fun q => c_16 q.2)).symm) dX5_hold_24

def rmX5_status : Room := { frames := 1, cells := 0, slots := 0, locals := 22 }
theorem nmX5_status : NmV yX5_status RX5 1 := by unfold NmV; decide +kernel
theorem hiX5_status_5 : ∀ w ∈ u_ws RX5 TX5 7, w ∈ wsX5_status := by decide +kernel
set_option maxHeartbeats 4000000 in
set_option maxRecDepth 100000 in
theorem kX5_status (l : Launch) (dC : Nat → ClassId) (dI : Nat → Nat → Nat) (ct : Nat → ClassId) (x st kt sc sh fo : Nat) (tr : Nat → Nat) (ik : Int32) (c : Nat → Int32) (x1 : Int32) (hc : c 0 = stU c 7) : MI (S := (Nat → Int32)) l yX5_status wsX5_status rmX5_status dC dI ct eT [.ref x, .int x1] ((x, .inr (5, [.ref st, .ref kt, .int ik, .ref (tr 0), .ref sc, .ref sh, .ref fo])) :: [ai ct fo 7 (fun j => c (j + 1))]) (fun u => (x, .inr (5, [.ref st, .ref kt, .int ik, .ref (tr 0), .ref sc, .ref sh, .ref fo])) :: [ai ct fo 7 (fun j => u (j + 1))]) (fun r u => (r, u) = sStatus c x1) := by
  refine MI.of (cc := cX5_status) (maxL := 4) (ret := (some .int)) (by decide) rfl (Nat.le_of_ble_eq_true rfl) ?_
  intro pg en z mi below meth cd A F hr hlk hin hK hP hD hA hS hE ls hl
  have F : CallFix pg mi cd cX5_status 4 z _ wsX5_status RX5 := F
  have hl : lv_has ls 4 [(0, .ref x), (1, .int x1)] := hl
  refine lv_iload_n F.1 F.2.1 dX5_status_0 rfl (lv_at hl 1 rfl) ?_
  refine lv_iconst (v := (-1)) F.1 F.2.1 dX5_status_1 (by decide) ?_
  refine lv_bipush (v := 6) F.1 F.2.1 dX5_status_2 (by decide) ?_
  refine iS (rest := []) (wsp := fun _ => (x, .inr (5, [.ref st, .ref kt, .int ik, .ref (tr 0), .ref sc, .ref sh, .ref fo])) :: [ai ct fo 7 (fun j => c (j + 1))]) F (kX5_isIn l dC dI ct x1 (-1) 6) gX5_status_X5_isIn rfl ⟨rfl, rfl⟩ nmX5_isIn ⟨Nat.le_of_ble_eq_true rfl, Nat.le_of_ble_eq_true rfl⟩ eT_b (fun _ _ _ => trivial) hK hP hD hS hA [] (by decide) rfl rfl rfl hl.1 (Nat.le_of_ble_eq_true rfl) dX5_status_4 ⟨Nat.zero_le _, Nat.zero_le _⟩ (fun _ => rfl) (fun _ => rfl) [x, fo] rfl (fun _ => rfl) (fun r_4 u_4 H locs e_4 hP hD hS => ?_)
  obtain rfl := e_4
  refine lv_if_ne (tgt := 16) F.1 F.2.1 dX5_status_7 (by decide) (fun c_7 => ?_) (fun c_7 => ?_)
  · have c_7 : (-1) ≤ x1 ∧ x1 ≤ 6 := b01t rfl c_7
    obtain ⟨q, hq, eq⟩ := st_n c_7
    refine lv_iload_n F.1 F.2.1 dX5_status_16 rfl (lv_at hl 1 rfl) ?_
    refine lv_if_lt (tgt := 27) F.1 F.2.1 dX5_status_17 (by decide) (fun c_17 => ?_) (fun c_17 => ?_)
    · refine lv_iconst (v := 0) F.1 F.2.1 dX5_status_27 (by decide) ?_
      refine lv_istore_n (lv' := [(2, .int 0), (0, .ref x), (1, .int x1)]) F.1 F.2.1 dX5_status_28 rfl hl (by decide) rfl (fun ls hl => ?_)
      refine lv_iconst (v := 0) F.1 F.2.1 dX5_status_29 (by decide) ?_
      refine lv_istore_n (lv' := [(3, .int 0), (2, .int 0), (0, .ref x), (1, .int x1)]) F.1 F.2.1 dX5_status_30 rfl hl (by decide) rfl (fun ls hl => ?_)
      refine loopN (I := fun k H locs ls => va_P (dC, dI) vwCl ((x, .inr (5, [.ref st, .ref kt, .int ik, .ref (tr 0), .ref sc, .ref sh, .ref fo])) :: [ai ct fo 7 (fun j => c (j + 1))]) H ∧ va_D A ((x, .inr (5, [.ref st, .ref kt, .int ik, .ref (tr 0), .ref sc, .ref sh, .ref fo])) :: [ai ct fo 7 (fun j => c (j + 1))]) ∧ va_S A z.heap H locs ∧ lv_has ls 4 [(3, .int (nI k)), (2, .int (stU c k)), (0, .ref x), (1, .int x1)]) 7 0 (by omega) ⟨hP, hD, hS, lv_sub hl [0, 1, 2, 3] rfl⟩ (fun H locs ls hI => ?_) (fun k hk_k H locs ls hI ih_31 => ?_)
      · obtain ⟨hP, hD, hS, hl⟩ := hI
        refine lv_iload_n F.1 F.2.1 dX5_status_31 rfl (lv_at hl 0 rfl) ?_
        refine lv_bipush (v := 7) F.1 F.2.1 dX5_status_32 (by decide) ?_
        refine lv_icmp_ge (tgt := 52) F.1 F.2.1 dX5_status_34 (by decide) (fun c_34 => ?_) (fun c_34 => ?_)
        · refine lv_iload_n F.1 F.2.1 dX5_status_52 rfl (lv_at hl 1 rfl) ?_
          exact rtI c F hr hlk hP hS rfl (Eq.trans (by rw [st_m c_7 c_17, ← hc]; rfl) (if_pos c_7).symm) dX5_status_53
        · exact absurd (nI_le (Nat.le_refl _) (by decide)) c_34
      · obtain ⟨hP, hD, hS, hl⟩ := hI
        refine lv_iload_n F.1 F.2.1 dX5_status_31 rfl (lv_at hl 0 rfl) ?_
        refine lv_bipush (v := 7) F.1 F.2.1 dX5_status_32 (by decide) ?_
        refine lv_icmp_ge (tgt := 52) F.1 F.2.1 dX5_status_34 (by decide) (fun c_34 => ?_) (fun c_34 => ?_)
        · exact absurd c_34 (nI_ge hk_k (by decide))
        · refine lv_iload_n F.1 F.2.1 dX5_status_37 rfl (lv_at hl 1 rfl) ?_
          refine lv_aload_n F.1 F.2.1 dX5_status_38 rfl (lv_at hl 2 rfl) ?_
          refine gf F hK hP 0 rfl rfl hiX5_status_5 6 (by decide) (List.mem_of_getElem? (i := 1) rfl) rfl dX5_status_39 ?_
          refine lv_iload_n F.1 F.2.1 dX5_status_42 rfl (lv_at hl 0 rfl) ?_
          refine al (v := c (k + 1)) F hK hP 1 0 rfl rfl k rfl (by omega) (by decide) rfl dX5_status_43 ?_
          refine lv_iadd F.1 F.2.1 dX5_status_44 ?_
          refine lv_istore_n (lv' := [(2, .int ((stU c k) + (c (k + 1)))), (3, .int (nI k)), (0, .ref x), (1, .int x1)]) F.1 F.2.1 dX5_status_45 rfl hl (by decide) rfl (fun ls hl => ?_)
          refine lv_iinc (v := nI (k + 1)) (lv' := [(3, .int (nI (k + 1))), (2, .int ((stU c k) + (c (k + 1)))), (0, .ref x), (1, .int x1)]) F.1 F.2.1 dX5_status_46 hl (k := 1) rfl (by rw [show Int32.ofInt 1 = nI 1 from rfl, nI_add]) (by decide) rfl (fun ls hl => ?_)
          refine lv_goto (tgt := 31) F.1 F.2.1 dX5_status_49 (by decide) ?_
          exact ih_31 _ _ _ ⟨hP, hD, hS, lv_sub hl [0, 1, 2, 3] rfl⟩
    · obtain ⟨j, hj, rfl, ej⟩ := st_p c_7 c_17
      refine lv_aload_n F.1 F.2.1 dX5_status_20 rfl (lv_at hl 0 rfl) ?_
      refine gf F hK hP 0 rfl rfl hiX5_status_5 6 (by decide) (List.mem_of_getElem? (i := 1) rfl) rfl dX5_status_21 ?_
      refine lv_iload_n F.1 F.2.1 dX5_status_24 rfl (lv_at hl 1 rfl) ?_
      refine al (v := c (j + 1)) F hK hP 1 0 rfl rfl j rfl hj (by decide) rfl dX5_status_25 ?_
      exact rtI c F hr hlk hP hS rfl (Eq.trans (by rw [ej, show tn (nI (j + 1)) = j + 1 from nI_clamp (by omega)]) (if_pos c_7).symm) dX5_status_26
  · have c_7 : ¬ ((-1) ≤ x1 ∧ x1 ≤ 6) := b01f rfl c_7
    refine lv_aload_n F.1 F.2.1 dX5_status_10 rfl (lv_at hl 0 rfl) ?_
    refine lv_iconst (v := 0) F.1 F.2.1 dX5_status_11 (by decide) ?_
    refine iV (rest := []) (wsp := fun _ => (x, .inr (5, [.ref st, .ref kt, .int ik, .ref (tr 0), .ref sc, .ref sh, .ref fo])) :: [ai ct fo 7 (fun j => (fnd c 1) (j + 1))]) F (kX5_finding l dC dI ct x st kt sc sh fo tr ik c 0 1 (-1000001) (by decide) (by decide) (by decide)) gX5_status_X5_finding rfl ⟨rfl, rfl⟩ nmX5_finding ⟨Nat.le_of_ble_eq_true rfl, Nat.le_of_ble_eq_true rfl⟩ eT_b (fun _ _ _ => trivial) hK hP hD hS hA 0 rfl rfl rfl [0, 1] (by decide) rfl rfl rfl hl.1 (Nat.le_of_ble_eq_true rfl) dX5_status_12 ⟨Nat.zero_le _, Nat.zero_le _⟩ (fun _ => rfl) (fun _ => rfl) [x, fo] rfl (fun _ => rfl) (fun r_12 u_12 H locs e_12 hP hD hS => ?_)
    obtain rfl := e_12
    exact rtI (fnd c 1) F hr hlk hP hS rfl ((if_neg c_7).symm) dX5_status_15
