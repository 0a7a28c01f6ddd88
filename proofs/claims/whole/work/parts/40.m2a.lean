def rmX6_kind : Room := { frames := 2, cells := 0, slots := 0, locals := 42 }
theorem nmX6_kind : NmV yX6_kind RX6 2 := by unfold NmV; decide +kernel
set_option maxHeartbeats 4000000 in
set_option maxRecDepth 100000 in
theorem kX6_kind (l : Launch) (dC : Nat → ClassId) (dI : Nat → Nat → Nat) (ct : Nat → ClassId) (a : Nat → Nat) (v f c : Nat → Int32) (x1 x2 : Int32) : MI (S := (Nat → Int32) × (Nat → Int32)) l yX6_kind wsX6_kind rmX6_kind dC dI ct eT [.ref (a 0), .int x1, .int x2] (oM a v :: ai ct (a 1) 210 f :: [ai ct (a 4) 8 c]) (fun u => oM a v :: ai ct (a 1) 210 u.1 :: [ai ct (a 4) 8 u.2]) (fun r u => (r, u.1, u.2) = sKind f c x1 x2) := by
  refine MI.of (cc := cX6_kind) (maxL := 3) (ret := (some .int)) (by decide) rfl (Nat.le_of_ble_eq_true rfl) ?_
  intro pg en z mi below meth cd A F hr hlk hin hK hP hD hA hS hE ls hl
  have F : CallFix pg mi cd cX6_kind 3 z _ wsX6_kind RX6 := F
  have hl : lv_has ls 3 [(0, .ref (a 0)), (1, .int x1), (2, .int x2)] := hl
  refine lv_iload_n F.1 F.2.1 dX6_kind_0 rfl (lv_at hl 1 rfl) ?_
  refine iS (rest := []) (wsp := fun _ => oM a v :: ai ct (a 1) 210 f :: [ai ct (a 4) 8 c]) F (kX6_isThing l dC dI ct x1) gX6_kind_X6_isThing rfl ⟨rfl, rfl⟩ nmX6_isThing ⟨Nat.le_of_ble_eq_true rfl, Nat.le_of_ble_eq_true rfl⟩ eT_b (fun _ _ _ => trivial) hK hP hD hS hA [] (by decide) rfl rfl rfl hl.1 (Nat.le_of_ble_eq_true rfl) dX6_kind_1 ⟨Nat.zero_le _, Nat.zero_le _⟩ (fun _ => rfl) (fun _ => rfl) [a 0, a 1, a 4] rfl (fun _ => rfl) (fun r_1 u_1 H locs e_1 hP hD hS => ?_)
  obtain rfl := e_1
  refine lv_if_eq (tgt := 26) F.1 F.2.1 dX6_kind_4 (by decide) (fun c_4 => ?_) (fun c_4 => ?_)
  · have c_4 : ¬ (0 ≤ x1 ∧ x1 ≤ 4) := b01f rfl c_4
    refine lv_aload_n F.1 F.2.1 dX6_kind_26 rfl (lv_at hl 0 rfl) ?_
    refine lv_ldc (v := (-1000001)) F.1 F.2.1 F.2.2.2.1 (F.2.2.2.2 _ (List.mem_of_getElem? (i := 1) rfl)) dX6_kind_27 ?_
    refine iV (rest := []) (wsp := fun _ => oM a v :: ai ct (a 1) 210 f :: [ai ct (a 4) 8 (fnd c 1)]) F (kX6_finding l dC dI ct a v c (-1000001) 1 (by decide) (by decide) (by decide)) gX6_kind_X6_finding rfl ⟨rfl, rfl⟩ nmX6_finding ⟨Nat.le_of_ble_eq_true rfl, Nat.le_of_ble_eq_true rfl⟩ eT_b (fun _ _ _ => trivial) hK hP hD hS hA 0 rfl rfl rfl [0, 2] (by decide) rfl rfl rfl hl.1 (Nat.le_of_ble_eq_true rfl) dX6_kind_29 ⟨Nat.zero_le _, Nat.zero_le _⟩ (fun _ => rfl) (fun _ => rfl) [a 0, a 1, a 4] rfl (fun _ => rfl) (fun r_29 u_29 H locs e_29 hP hD hS => ?_)
    obtain rfl := e_29
    exact rtI (f, (fnd c 1)) F hr hlk hP hS rfl ((if_neg (fun q => c_4 q.1)).symm) dX6_kind_32
  · have c_4 : 0 ≤ x1 ∧ x1 ≤ 4 := b01t rfl c_4
    obtain ⟨t, ht, rfl⟩ := gT_n c_4
    refine lv_iload_n F.1 F.2.1 dX6_kind_7 rfl (lv_at hl 2 rfl) ?_
    refine iS (rest := []) (wsp := fun _ => oM a v :: ai ct (a 1) 210 f :: [ai ct (a 4) 8 c]) F (kX6_isKind l dC dI ct x2) gX6_kind_X6_isKind rfl ⟨rfl, rfl⟩ nmX6_isKind ⟨Nat.le_of_ble_eq_true rfl, Nat.le_of_ble_eq_true rfl⟩ eT_b (fun _ _ _ => trivial) hK hP hD hS hA [] (by decide) rfl rfl rfl hl.1 (Nat.le_of_ble_eq_true rfl) dX6_kind_8 ⟨Nat.zero_le _, Nat.zero_le _⟩ (fun _ => rfl) (fun _ => rfl) [a 0, a 1, a 4] rfl (fun _ => rfl) (fun r_8 u_8 H locs e_8 hP hD hS => ?_)
    obtain rfl := e_8
    refine lv_if_eq (tgt := 26) F.1 F.2.1 dX6_kind_11 (by decide) (fun c_11 => ?_) (fun c_11 => ?_)
    · have c_11 : ¬ (0 ≤ x2 ∧ x2 ≤ 6) := b01f rfl c_11
      refine lv_aload_n F.1 F.2.1 dX6_kind_26 rfl (lv_at hl 0 rfl) ?_
      refine lv_ldc (v := (-1000001)) F.1 F.2.1 F.2.2.2.1 (F.2.2.2.2 _ (List.mem_of_getElem? (i := 1) rfl)) dX6_kind_27 ?_
      refine iV (rest := []) (wsp := fun _ => oM a v :: ai ct (a 1) 210 f :: [ai ct (a 4) 8 (fnd c 1)]) F (kX6_finding l dC dI ct a v c (-1000001) 1 (by decide) (by decide) (by decide)) gX6_kind_X6_finding rfl ⟨rfl, rfl⟩ nmX6_finding ⟨Nat.le_of_ble_eq_true rfl, Nat.le_of_ble_eq_true rfl⟩ eT_b (fun _ _ _ => trivial) hK hP hD hS hA 0 rfl rfl rfl [0, 2] (by decide) rfl rfl rfl hl.1 (Nat.le_of_ble_eq_true rfl) dX6_kind_29 ⟨Nat.zero_le _, Nat.zero_le _⟩ (fun _ => rfl) (fun _ => rfl) [a 0, a 1, a 4] rfl (fun _ => rfl) (fun r_29 u_29 H locs e_29 hP hD hS => ?_)
      obtain rfl := e_29
      exact rtI (f, (fnd c 1)) F hr hlk hP hS rfl ((if_neg (fun q => c_11 q.2)).symm) dX6_kind_32
    · have c_11 : 0 ≤ x2 ∧ x2 ≤ 6 := b01t rfl c_11
      refine lv_aload_n F.1 F.2.1 dX6_kind_14 rfl (lv_at hl 0 rfl) ?_
      refine lv_bipush (v := 15) F.1 F.2.1 dX6_kind_15 (by decide) ?_
      refine lv_iload_n F.1 F.2.1 dX6_kind_17 rfl (lv_at hl 1 rfl) ?_
      refine lv_iadd F.1 F.2.1 dX6_kind_18 ?_
      refine tp (y := nI (15 + t)) (ad2 (a := 15) (b := t) (c := 15 + t) rfl rfl rfl) ?_
      refine lv_iload_n F.1 F.2.1 dX6_kind_19 rfl (lv_at hl 2 rfl) ?_
      refine iV (rest := []) (wsp := fun _ => oM a v :: ai ct (a 1) 210 (upd f (15 + t) x2) :: [ai ct (a 4) 8 c]) F (kX6_become l dC dI ct a v f (15 + t) x2 (by omega)) gX6_kind_X6_become rfl ⟨rfl, rfl⟩ nmX6_become ⟨Nat.le_of_ble_eq_true rfl, Nat.le_of_ble_eq_true rfl⟩ eT_b (fun _ _ _ => trivial) hK hP hD hS hA 0 rfl rfl rfl [0, 1] (by decide) rfl rfl rfl hl.1 (Nat.le_of_ble_eq_true rfl) dX6_kind_20 ⟨Nat.zero_le _, Nat.zero_le _⟩ (fun _ => rfl) (fun _ => rfl) [a 0, a 1, a 4] rfl (fun _ => rfl) (fun r_20 u_20 H locs e_20 hP hD hS => ?_)
      obtain rfl := e_20
      refine lv_goto (tgt := 32) F.1 F.2.1 dX6_kind_23 (by decide) ?_
      exact rtI ((upd f (15 + t) x2), c) F hr hlk hP hS rfl (Eq.trans (by rw [show tn (nI t) = t from nI_clamp (by omega)]; try exact rfl) (if_pos ⟨c_4, c_11⟩).symm) dX6_kind_32

def rmX6_of : Room := { frames := 2, cells := 0, slots := 0, locals := 43 }
theorem nmX6_of : NmV yX6_of RX6 3 := by unfold NmV; decide +kernel
set_option maxHeartbeats 4000000 in
set_option maxRecDepth 100000 in
theorem kX6_of (l : Launch) (dC : Nat → ClassId) (dI : Nat → Nat → Nat) (ct : Nat → ClassId) (a : Nat → Nat) (v f c : Nat → Int32) (x1 x2 x3 : Int32) : MI (S := (Nat → Int32) × (Nat → Int32)) l yX6_of wsX6_of rmX6_of dC dI ct eT [.ref (a 0), .int x1, .int x2, .int x3] (oM a v :: ai ct (a 1) 210 f :: [ai ct (a 4) 8 c]) (fun u => oM a v :: ai ct (a 1) 210 u.1 :: [ai ct (a 4) 8 u.2]) (fun r u => (r, u.1, u.2) = sOf f c x1 x2 x3) := by
  refine MI.of (cc := cX6_of) (maxL := 5) (ret := (some .int)) (by decide) rfl (Nat.le_of_ble_eq_true rfl) ?_
  intro pg en z mi below meth cd A F hr hlk hin hK hP hD hA hS hE ls hl
  have F : CallFix pg mi cd cX6_of 5 z _ wsX6_of RX6 := F
  have hl : lv_has ls 5 [(0, .ref (a 0)), (1, .int x1), (2, .int x2), (3, .int x3)] := hl
  have hf := fld_lt x3
  refine lv_iload_n F.1 F.2.1 dX6_of_0 rfl (lv_at hl 1 rfl) ?_
  refine iS (rest := []) (wsp := fun _ => oM a v :: ai ct (a 1) 210 f :: [ai ct (a 4) 8 c]) F (kX6_isSide l dC dI ct x1) gX6_of_X6_isSide rfl ⟨rfl, rfl⟩ nmX6_isSide ⟨Nat.le_of_ble_eq_true rfl, Nat.le_of_ble_eq_true rfl⟩ eT_b (fun _ _ _ => trivial) hK hP hD hS hA [] (by decide) rfl rfl rfl hl.1 (Nat.le_of_ble_eq_true rfl) dX6_of_1 ⟨Nat.zero_le _, Nat.zero_le _⟩ (fun _ => rfl) (fun _ => rfl) [a 0, a 1, a 4] rfl (fun _ => rfl) (fun r_1 u_1 H locs e_1 hP hD hS => ?_)
  obtain rfl := e_1
  refine lv_if_eq (tgt := 27) F.1 F.2.1 dX6_of_4 (by decide) (fun c_4 => ?_) (fun c_4 => ?_)
  · have c_4 : ¬ (0 ≤ x1 ∧ x1 ≤ 1) := b01f rfl c_4
    refine lv_iconst (v := 0) F.1 F.2.1 dX6_of_27 (by decide) ?_
    refine lv_istore (lv' := [(4, .int 0), (0, .ref (a 0)), (1, .int x1), (2, .int x2), (3, .int x3)]) F.1 F.2.1 dX6_of_28 hl (by decide) rfl (fun ls hl => ?_)
    refine lv_iload F.1 F.2.1 dX6_of_30 (lv_at hl 0 rfl) ?_
    refine lv_if_eq (tgt := 49) F.1 F.2.1 dX6_of_32 (by decide) (fun c_32 => ?_) (fun c_32 => ?_)
    · refine lv_aload_n F.1 F.2.1 dX6_of_49 rfl (lv_at hl 1 rfl) ?_
      refine lv_ldc (v := (-1000001)) F.1 F.2.1 F.2.2.2.1 (F.2.2.2.2 _ (List.mem_of_getElem? (i := 1) rfl)) dX6_of_50 ?_
      refine iV (rest := []) (wsp := fun _ => oM a v :: ai ct (a 1) 210 f :: [ai ct (a 4) 8 (fnd c 1)]) F (kX6_finding l dC dI ct a v c (-1000001) 1 (by decide) (by decide) (by decide)) gX6_of_X6_finding rfl ⟨rfl, rfl⟩ nmX6_finding ⟨Nat.le_of_ble_eq_true rfl, Nat.le_of_ble_eq_true rfl⟩ eT_b (fun _ _ _ => trivial) hK hP hD hS hA 0 rfl rfl rfl [0, 2] (by decide) rfl rfl rfl hl.1 (Nat.le_of_ble_eq_true rfl) dX6_of_52 ⟨Nat.zero_le _, Nat.zero_le _⟩ (fun _ => rfl) (fun _ => rfl) [a 0, a 1, a 4] rfl (fun _ => rfl) (fun r_52 u_52 H locs e_52 hP hD hS => ?_)
      obtain rfl := e_52
      exact rtI (f, (fnd c 1)) F hr hlk hP hS rfl ((if_neg (fun q => c_4 q.1)).symm) dX6_of_55
    · exact absurd rfl c_32
  · have c_4 : 0 ≤ x1 ∧ x1 ≤ 1 := b01t rfl c_4
    obtain ⟨s, hs, rfl⟩ := gS_n c_4
    refine lv_iload_n F.1 F.2.1 dX6_of_7 rfl (lv_at hl 2 rfl) ?_
    refine iS (rest := []) (wsp := fun _ => oM a v :: ai ct (a 1) 210 f :: [ai ct (a 4) 8 c]) F (kX6_isThing l dC dI ct x2) gX6_of_X6_isThing rfl ⟨rfl, rfl⟩ nmX6_isThing ⟨Nat.le_of_ble_eq_true rfl, Nat.le_of_ble_eq_true rfl⟩ eT_b (fun _ _ _ => trivial) hK hP hD hS hA [] (by decide) rfl rfl rfl hl.1 (Nat.le_of_ble_eq_true rfl) dX6_of_8 ⟨Nat.zero_le _, Nat.zero_le _⟩ (fun _ => rfl) (fun _ => rfl) [a 0, a 1, a 4] rfl (fun _ => rfl) (fun r_8 u_8 H locs e_8 hP hD hS => ?_)
    obtain rfl := e_8
    refine lv_if_eq (tgt := 27) F.1 F.2.1 dX6_of_11 (by decide) (fun c_11 => ?_) (fun c_11 => ?_)
    · have c_11 : ¬ (0 ≤ x2 ∧ x2 ≤ 4) := b01f rfl c_11
      refine lv_iconst (v := 0) F.1 F.2.1 dX6_of_27 (by decide) ?_
      refine lv_istore (lv' := [(4, .int 0), (0, .ref (a 0)), (1, .int (nI s)), (2, .int x2), (3, .int x3)]) F.1 F.2.1 dX6_of_28 hl (by decide) rfl (fun ls hl => ?_)
      refine lv_iload F.1 F.2.1 dX6_of_30 (lv_at hl 0 rfl) ?_
      refine lv_if_eq (tgt := 49) F.1 F.2.1 dX6_of_32 (by decide) (fun c_32 => ?_) (fun c_32 => ?_)
      · refine lv_aload_n F.1 F.2.1 dX6_of_49 rfl (lv_at hl 1 rfl) ?_
        refine lv_ldc (v := (-1000001)) F.1 F.2.1 F.2.2.2.1 (F.2.2.2.2 _ (List.mem_of_getElem? (i := 1) rfl)) dX6_of_50 ?_
        refine iV (rest := []) (wsp := fun _ => oM a v :: ai ct (a 1) 210 f :: [ai ct (a 4) 8 (fnd c 1)]) F (kX6_finding l dC dI ct a v c (-1000001) 1 (by decide) (by decide) (by decide)) gX6_of_X6_finding rfl ⟨rfl, rfl⟩ nmX6_finding ⟨Nat.le_of_ble_eq_true rfl, Nat.le_of_ble_eq_true rfl⟩ eT_b (fun _ _ _ => trivial) hK hP hD hS hA 0 rfl rfl rfl [0, 2] (by decide) rfl rfl rfl hl.1 (Nat.le_of_ble_eq_true rfl) dX6_of_52 ⟨Nat.zero_le _, Nat.zero_le _⟩ (fun _ => rfl) (fun _ => rfl) [a 0, a 1, a 4] rfl (fun _ => rfl) (fun r_52 u_52 H locs e_52 hP hD hS => ?_)
        obtain rfl := e_52
        exact rtI (f, (fnd c 1)) F hr hlk hP hS rfl ((if_neg (fun q => c_11 q.2.1)).symm) dX6_of_55
      · exact absurd rfl c_32
    · have c_11 : 0 ≤ x2 ∧ x2 ≤ 4 := b01t rfl c_11
      obtain ⟨t, ht, rfl⟩ := gT_n c_11
      refine lv_iload_n F.1 F.2.1 dX6_of_14 rfl (lv_at hl 3 rfl) ?_
      refine lv_iconst (v := 0) F.1 F.2.1 dX6_of_15 (by decide) ?_
      refine lv_iconst (v := 2) F.1 F.2.1 dX6_of_16 (by decide) ?_
      refine iS (rest := []) (wsp := fun _ => oM a v :: ai ct (a 1) 210 f :: [ai ct (a 4) 8 c]) F (kX6_within l dC dI ct x3 0 2) gX6_of_X6_within rfl ⟨rfl, rfl⟩ nmX6_within ⟨Nat.le_of_ble_eq_true rfl, Nat.le_of_ble_eq_true rfl⟩ eT_b (fun _ _ _ => trivial) hK hP hD hS hA [] (by decide) rfl rfl rfl hl.1 (Nat.le_of_ble_eq_true rfl) dX6_of_17 ⟨Nat.zero_le _, Nat.zero_le _⟩ (fun _ => rfl) (fun _ => rfl) [a 0, a 1, a 4] rfl (fun _ => rfl) (fun r_17 u_17 H locs e_17 hP hD hS => ?_)
      obtain rfl := e_17
      refine lv_if_eq (tgt := 27) F.1 F.2.1 dX6_of_20 (by decide) (fun c_20 => ?_) (fun c_20 => ?_)
      · have c_20 : ¬ (0 ≤ x3 ∧ x3 ≤ 2) := b01f rfl c_20
        refine lv_iconst (v := 0) F.1 F.2.1 dX6_of_27 (by decide) ?_
        refine lv_istore (lv' := [(4, .int 0), (0, .ref (a 0)), (1, .int (nI s)), (2, .int (nI t)), (3, .int x3)]) F.1 F.2.1 dX6_of_28 hl (by decide) rfl (fun ls hl => ?_)
        refine lv_iload F.1 F.2.1 dX6_of_30 (lv_at hl 0 rfl) ?_
        refine lv_if_eq (tgt := 49) F.1 F.2.1 dX6_of_32 (by decide) (fun c_32 => ?_) (fun c_32 => ?_)
        · refine lv_aload_n F.1 F.2.1 dX6_of_49 rfl (lv_at hl 1 rfl) ?_
          refine lv_ldc (v := (-1000001)) F.1 F.2.1 F.2.2.2.1 (F.2.2.2.2 _ (List.mem_of_getElem? (i := 1) rfl)) dX6_of_50 ?_
          refine iV (rest := []) (wsp := fun _ => oM a v :: ai ct (a 1) 210 f :: [ai ct (a 4) 8 (fnd c 1)]) F (kX6_finding l dC dI ct a v c (-1000001) 1 (by decide) (by decide) (by decide)) gX6_of_X6_finding rfl ⟨rfl, rfl⟩ nmX6_finding ⟨Nat.le_of_ble_eq_true rfl, Nat.le_of_ble_eq_true rfl⟩ eT_b (fun _ _ _ => trivial) hK hP hD hS hA 0 rfl rfl rfl [0, 2] (by decide) rfl rfl rfl hl.1 (Nat.le_of_ble_eq_true rfl) dX6_of_52 ⟨Nat.zero_le _, Nat.zero_le _⟩ (fun _ => rfl) (fun _ => rfl) [a 0, a 1, a 4] rfl (fun _ => rfl) (fun r_52 u_52 H locs e_52 hP hD hS => ?_)
          obtain rfl := e_52
          exact rtI (f, (fnd c 1)) F hr hlk hP hS rfl ((if_neg (fun q => c_20 q.2.2)).symm) dX6_of_55
        · exact absurd rfl c_32
      · have c_20 : 0 ≤ x3 ∧ x3 ≤ 2 := b01t rfl c_20
        refine lv_iconst (v := 1) F.1 F.2.1 dX6_of_23 (by decide) ?_
        refine lv_goto (tgt := 28) F.1 F.2.1 dX6_of_24 (by decide) ?_
        refine lv_istore (lv' := [(4, .int 1), (0, .ref (a 0)), (1, .int (nI s)), (2, .int (nI t)), (3, .int x3)]) F.1 F.2.1 dX6_of_28 hl (by decide) rfl (fun ls hl => ?_)
        refine lv_iload F.1 F.2.1 dX6_of_30 (lv_at hl 0 rfl) ?_
        refine lv_if_eq (tgt := 49) F.1 F.2.1 dX6_of_32 (by decide) (fun c_32 => ?_) (fun c_32 => ?_)
        · exact absurd c_32 (by decide)
        · refine lv_aload_n F.1 F.2.1 dX6_of_35 rfl (lv_at hl 1 rfl) ?_
          refine lv_iload_n F.1 F.2.1 dX6_of_36 rfl (lv_at hl 2 rfl) ?_
          refine lv_iload_n F.1 F.2.1 dX6_of_37 rfl (lv_at hl 4 rfl) ?_
          refine iS (rest := [.int (nI s), .ref (a 0)]) (wsp := fun _ => oM a v :: ai ct (a 1) 210 f :: [ai ct (a 4) 8 c]) F (kX6_fieldOf l dC dI ct x3) gX6_of_X6_fieldOf rfl ⟨rfl, rfl⟩ nmX6_fieldOf ⟨Nat.le_of_ble_eq_true rfl, Nat.le_of_ble_eq_true rfl⟩ eT_b (fun _ _ _ => trivial) hK hP hD hS hA [] (by decide) rfl rfl rfl hl.1 (Nat.le_of_ble_eq_true rfl) dX6_of_38 ⟨Nat.zero_le _, Nat.zero_le _⟩ (fun _ => rfl) (fun _ => rfl) [a 0, a 1, a 4] rfl (fun _ => rfl) (fun r_38 u_38 H locs e_38 hP hD hS => ?_)
          obtain rfl := e_38
          refine tp (y := nI (fld x3)) (fld_nI x3) ?_
          refine lv_iload_n F.1 F.2.1 dX6_of_41 rfl (lv_at hl 3 rfl) ?_
          refine lv_iadd F.1 F.2.1 dX6_of_42 ?_
          refine tp (y := nI (fld x3 + t)) (ad2 (a := fld x3) (b := t) (c := fld x3 + t) rfl rfl rfl) ?_
          refine iV (rest := []) (wsp := fun _ => oM a v :: ai ct (a 1) 210 f :: [ai ct (a 4) 8 c]) F (kX6_sideIs l dC dI ct a v f s (fld x3 + t) (20 + 17 * s + fld x3 + t) (by omega) (by omega)) gX6_of_X6_sideIs rfl ⟨rfl, rfl⟩ nmX6_sideIs ⟨Nat.le_of_ble_eq_true rfl, Nat.le_of_ble_eq_true rfl⟩ eT_b (fun _ _ _ => trivial) hK hP hD hS hA 0 rfl rfl rfl [0, 1] (by decide) rfl rfl rfl hl.1 (Nat.le_of_ble_eq_true rfl) dX6_of_43 ⟨Nat.zero_le _, Nat.zero_le _⟩ (fun _ => rfl) (fun _ => rfl) [a 0, a 1, a 4] rfl (fun _ => rfl) (fun r_43 u_43 H locs e_43 hP hD hS => ?_)
          obtain rfl := e_43
          refine lv_goto (tgt := 55) F.1 F.2.1 dX6_of_46 (by decide) ?_
          exact rtI (f, c) F hr hlk hP hS rfl (Eq.trans (by rw [show tn (nI s) = s from nI_clamp (by omega), show tn (nI t) = t from nI_clamp (by omega)]; try exact rfl) (if_pos ⟨c_4, c_11, c_20⟩).symm) dX6_of_55

def rmX6_change : Room := { frames := 2, cells := 0, slots := 0, locals := 42 }
theorem nmX6_change : NmV yX6_change RX6 4 := by unfold NmV; decide +kernel
set_option maxHeartbeats 4000000 in
set_option maxRecDepth 100000 in
theorem kX6_change (l : Launch) (dC : Nat → ClassId) (dI : Nat → Nat → Nat) (ct : Nat → ClassId) (a : Nat → Nat) (v f c : Nat → Int32) (x1 x2 x3 x4 : Int32) : MI (S := (Nat → Int32) × (Nat → Int32)) l yX6_change wsX6_change rmX6_change dC dI ct eT [.ref (a 0), .int x1, .int x2, .int x3, .int x4] (oM a v :: ai ct (a 1) 210 f :: [ai ct (a 4) 8 c]) (fun u => oM a v :: ai ct (a 1) 210 u.1 :: [ai ct (a 4) 8 u.2]) (fun r u => (r, u.1, u.2) = sChange f c x1 x2 x3 x4) := by
  refine MI.of (cc := cX6_change) (maxL := 6) (ret := (some .int)) (by decide) rfl (Nat.le_of_ble_eq_true rfl) ?_
  intro pg en z mi below meth cd A F hr hlk hin hK hP hD hA hS hE ls hl
  have F : CallFix pg mi cd cX6_change 6 z _ wsX6_change RX6 := F
  have hl : lv_has ls 6 [(0, .ref (a 0)), (1, .int x1), (2, .int x2), (3, .int x3), (4, .int x4)] := hl
  have hf := fld_lt x3
  refine lv_iload_n F.1 F.2.1 dX6_change_0 rfl (lv_at hl 1 rfl) ?_
  refine iS (rest := []) (wsp := fun _ => oM a v :: ai ct (a 1) 210 f :: [ai ct (a 4) 8 c]) F (kX6_isSide l dC dI ct x1) gX6_change_X6_isSide rfl ⟨rfl, rfl⟩ nmX6_isSide ⟨Nat.le_of_ble_eq_true rfl, Nat.le_of_ble_eq_true rfl⟩ eT_b (fun _ _ _ => trivial) hK hP hD hS hA [] (by decide) rfl rfl rfl hl.1 (Nat.le_of_ble_eq_true rfl) dX6_change_1 ⟨Nat.zero_le _, Nat.zero_le _⟩ (fun _ => rfl) (fun _ => rfl) [a 0, a 1, a 4] rfl (fun _ => rfl) (fun r_1 u_1 H locs e_1 hP hD hS => ?_)
  obtain rfl := e_1
  refine lv_if_eq (tgt := 48) F.1 F.2.1 dX6_change_4 (by decide) (fun c_4 => ?_) (fun c_4 => ?_)
  · have c_4 : ¬ (0 ≤ x1 ∧ x1 ≤ 1) := b01f rfl c_4
    refine lv_iconst (v := 0) F.1 F.2.1 dX6_change_48 (by decide) ?_
    refine lv_istore (lv' := [(5, .int 0), (0, .ref (a 0)), (1, .int x1), (2, .int x2), (3, .int x3), (4, .int x4)]) F.1 F.2.1 dX6_change_49 hl (by decide) rfl (fun ls hl => ?_)
    refine lv_iload F.1 F.2.1 dX6_change_51 (lv_at hl 0 rfl) ?_
    refine lv_if_eq (tgt := 75) F.1 F.2.1 dX6_change_53 (by decide) (fun c_53 => ?_) (fun c_53 => ?_)
    · refine lv_aload_n F.1 F.2.1 dX6_change_75 rfl (lv_at hl 1 rfl) ?_
      refine lv_ldc (v := (-1000001)) F.1 F.2.1 F.2.2.2.1 (F.2.2.2.2 _ (List.mem_of_getElem? (i := 1) rfl)) dX6_change_76 ?_
      refine iV (rest := []) (wsp := fun _ => oM a v :: ai ct (a 1) 210 f :: [ai ct (a 4) 8 (fnd c 1)]) F (kX6_finding l dC dI ct a v c (-1000001) 1 (by decide) (by decide) (by decide)) gX6_change_X6_finding rfl ⟨rfl, rfl⟩ nmX6_finding ⟨Nat.le_of_ble_eq_true rfl, Nat.le_of_ble_eq_true rfl⟩ eT_b (fun _ _ _ => trivial) hK hP hD hS hA 0 rfl rfl rfl [0, 2] (by decide) rfl rfl rfl hl.1 (Nat.le_of_ble_eq_true rfl) dX6_change_78 ⟨Nat.zero_le _, Nat.zero_le _⟩ (fun _ => rfl) (fun _ => rfl) [a 0, a 1, a 4] rfl (fun _ => rfl) (fun r_78 u_78 H locs e_78 hP hD hS => ?_)
      obtain rfl := e_78
      exact rtI (f, (fnd c 1)) F hr hlk hP hS rfl ((if_neg (fun q => c_4 q.1)).symm) dX6_change_81
    · exact absurd rfl c_53
  · have c_4 : 0 ≤ x1 ∧ x1 ≤ 1 := b01t rfl c_4
    obtain ⟨s, hs, rfl⟩ := gS_n c_4
    refine lv_iload_n F.1 F.2.1 dX6_change_7 rfl (lv_at hl 2 rfl) ?_
    refine iS (rest := []) (wsp := fun _ => oM a v :: ai ct (a 1) 210 f :: [ai ct (a 4) 8 c]) F (kX6_isThing l dC dI ct x2) gX6_change_X6_isThing rfl ⟨rfl, rfl⟩ nmX6_isThing ⟨Nat.le_of_ble_eq_true rfl, Nat.le_of_ble_eq_true rfl⟩ eT_b (fun _ _ _ => trivial) hK hP hD hS hA [] (by decide) rfl rfl rfl hl.1 (Nat.le_of_ble_eq_true rfl) dX6_change_8 ⟨Nat.zero_le _, Nat.zero_le _⟩ (fun _ => rfl) (fun _ => rfl) [a 0, a 1, a 4] rfl (fun _ => rfl) (fun r_8 u_8 H locs e_8 hP hD hS => ?_)
    obtain rfl := e_8
    refine lv_if_eq (tgt := 48) F.1 F.2.1 dX6_change_11 (by decide) (fun c_11 => ?_) (fun c_11 => ?_)
    · have c_11 : ¬ (0 ≤ x2 ∧ x2 ≤ 4) := b01f rfl c_11
      refine lv_iconst (v := 0) F.1 F.2.1 dX6_change_48 (by decide) ?_
      refine lv_istore (lv' := [(5, .int 0), (0, .ref (a 0)), (1, .int (nI s)), (2, .int x2), (3, .int x3), (4, .int x4)]) F.1 F.2.1 dX6_change_49 hl (by decide) rfl (fun ls hl => ?_)
      refine lv_iload F.1 F.2.1 dX6_change_51 (lv_at hl 0 rfl) ?_
      refine lv_if_eq (tgt := 75) F.1 F.2.1 dX6_change_53 (by decide) (fun c_53 => ?_) (fun c_53 => ?_)
      · refine lv_aload_n F.1 F.2.1 dX6_change_75 rfl (lv_at hl 1 rfl) ?_
        refine lv_ldc (v := (-1000001)) F.1 F.2.1 F.2.2.2.1 (F.2.2.2.2 _ (List.mem_of_getElem? (i := 1) rfl)) dX6_change_76 ?_
        refine iV (rest := []) (wsp := fun _ => oM a v :: ai ct (a 1) 210 f :: [ai ct (a 4) 8 (fnd c 1)]) F (kX6_finding l dC dI ct a v c (-1000001) 1 (by decide) (by decide) (by decide)) gX6_change_X6_finding rfl ⟨rfl, rfl⟩ nmX6_finding ⟨Nat.le_of_ble_eq_true rfl, Nat.le_of_ble_eq_true rfl⟩ eT_b (fun _ _ _ => trivial) hK hP hD hS hA 0 rfl rfl rfl [0, 2] (by decide) rfl rfl rfl hl.1 (Nat.le_of_ble_eq_true rfl) dX6_change_78 ⟨Nat.zero_le _, Nat.zero_le _⟩ (fun _ => rfl) (fun _ => rfl) [a 0, a 1, a 4] rfl (fun _ => rfl) (fun r_78 u_78 H locs e_78 hP hD hS => ?_)
        obtain rfl := e_78
        exact rtI (f, (fnd c 1)) F hr hlk hP hS rfl ((if_neg (fun q => c_11 q.2.1)).symm) dX6_change_81
      · exact absurd rfl c_53
    · have c_11 : 0 ≤ x2 ∧ x2 ≤ 4 := b01t rfl c_11
      obtain ⟨t, ht, rfl⟩ := gT_n c_11
      refine lv_iload_n F.1 F.2.1 dX6_change_14 rfl (lv_at hl 3 rfl) ?_
      refine lv_iconst (v := 0) F.1 F.2.1 dX6_change_15 (by decide) ?_
      refine lv_iconst (v := 2) F.1 F.2.1 dX6_change_16 (by decide) ?_
      refine iS (rest := []) (wsp := fun _ => oM a v :: ai ct (a 1) 210 f :: [ai ct (a 4) 8 c]) F (kX6_within l dC dI ct x3 0 2) gX6_change_X6_within rfl ⟨rfl, rfl⟩ nmX6_within ⟨Nat.le_of_ble_eq_true rfl, Nat.le_of_ble_eq_true rfl⟩ eT_b (fun _ _ _ => trivial) hK hP hD hS hA [] (by decide) rfl rfl rfl hl.1 (Nat.le_of_ble_eq_true rfl) dX6_change_17 ⟨Nat.zero_le _, Nat.zero_le _⟩ (fun _ => rfl) (fun _ => rfl) [a 0, a 1, a 4] rfl (fun _ => rfl) (fun r_17 u_17 H locs e_17 hP hD hS => ?_)
      obtain rfl := e_17
      refine lv_if_eq (tgt := 48) F.1 F.2.1 dX6_change_20 (by decide) (fun c_20 => ?_) (fun c_20 => ?_)
      · have c_20 : ¬ (0 ≤ x3 ∧ x3 ≤ 2) := b01f rfl c_20
        refine lv_iconst (v := 0) F.1 F.2.1 dX6_change_48 (by decide) ?_
        refine lv_istore (lv' := [(5, .int 0), (0, .ref (a 0)), (1, .int (nI s)), (2, .int (nI t)), (3, .int x3), (4, .int x4)]) F.1 F.2.1 dX6_change_49 hl (by decide) rfl (fun ls hl => ?_)
        refine lv_iload F.1 F.2.1 dX6_change_51 (lv_at hl 0 rfl) ?_
        refine lv_if_eq (tgt := 75) F.1 F.2.1 dX6_change_53 (by decide) (fun c_53 => ?_) (fun c_53 => ?_)
        · refine lv_aload_n F.1 F.2.1 dX6_change_75 rfl (lv_at hl 1 rfl) ?_
          refine lv_ldc (v := (-1000001)) F.1 F.2.1 F.2.2.2.1 (F.2.2.2.2 _ (List.mem_of_getElem? (i := 1) rfl)) dX6_change_76 ?_
          refine iV (rest := []) (wsp := fun _ => oM a v :: ai ct (a 1) 210 f :: [ai ct (a 4) 8 (fnd c 1)]) F (kX6_finding l dC dI ct a v c (-1000001) 1 (by decide) (by decide) (by decide)) gX6_change_X6_finding rfl ⟨rfl, rfl⟩ nmX6_finding ⟨Nat.le_of_ble_eq_true rfl, Nat.le_of_ble_eq_true rfl⟩ eT_b (fun _ _ _ => trivial) hK hP hD hS hA 0 rfl rfl rfl [0, 2] (by decide) rfl rfl rfl hl.1 (Nat.le_of_ble_eq_true rfl) dX6_change_78 ⟨Nat.zero_le _, Nat.zero_le _⟩ (fun _ => rfl) (fun _ => rfl) [a 0, a 1, a 4] rfl (fun _ => rfl) (fun r_78 u_78 H locs e_78 hP hD hS => ?_)
          obtain rfl := e_78
          exact rtI (f, (fnd c 1)) F hr hlk hP hS rfl ((if_neg (fun q => c_20 q.2.2.1)).symm) dX6_change_81
        · exact absurd rfl c_53
      · have c_20 : 0 ≤ x3 ∧ x3 ≤ 2 := b01t rfl c_20
        refine lv_iload F.1 F.2.1 dX6_change_23 (lv_at hl 4 rfl) ?_
        refine lv_iconst (v := 0) F.1 F.2.1 dX6_change_25 (by decide) ?_
        refine lv_iload_n F.1 F.2.1 dX6_change_26 rfl (lv_at hl 3 rfl) ?_
        refine lv_iconst (v := 2) F.1 F.2.1 dX6_change_27 (by decide) ?_
        refine lv_icmp_ne (tgt := 36) F.1 F.2.1 dX6_change_28 (by decide) (fun c_28 => ?_) (fun c_28 => ?_)
        · have ew : (if x3 = 2 then (20 : Int32) else 99) = 99 := if_neg c_28
          refine lv_bipush (v := 99) F.1 F.2.1 dX6_change_36 (by decide) ?_
          refine iS (rest := []) (wsp := fun _ => oM a v :: ai ct (a 1) 210 f :: [ai ct (a 4) 8 c]) F (kX6_within l dC dI ct x4 0 99) gX6_change_X6_within rfl ⟨rfl, rfl⟩ nmX6_within ⟨Nat.le_of_ble_eq_true rfl, Nat.le_of_ble_eq_true rfl⟩ eT_b (fun _ _ _ => trivial) hK hP hD hS hA [] (by decide) rfl rfl rfl hl.1 (Nat.le_of_ble_eq_true rfl) dX6_change_38 ⟨Nat.zero_le _, Nat.zero_le _⟩ (fun _ => rfl) (fun _ => rfl) [a 0, a 1, a 4] rfl (fun _ => rfl) (fun r_38 u_38 H locs e_38 hP hD hS => ?_)
          obtain rfl := e_38
          refine tp (y := if 0 ≤ x4 ∧ x4 ≤ (if x3 = 2 then 20 else 99) then 1 else 0) (by rw [ew]) ?_
          refine lv_if_eq (tgt := 48) F.1 F.2.1 dX6_change_41 (by decide) (fun c_41 => ?_) (fun c_41 => ?_)
          · have c_41 : ¬ (0 ≤ x4 ∧ x4 ≤ (if x3 = 2 then 20 else 99)) := b01f rfl c_41
            refine lv_iconst (v := 0) F.1 F.2.1 dX6_change_48 (by decide) ?_
            refine lv_istore (lv' := [(5, .int 0), (0, .ref (a 0)), (1, .int (nI s)), (2, .int (nI t)), (3, .int x3), (4, .int x4)]) F.1 F.2.1 dX6_change_49 hl (by decide) rfl (fun ls hl => ?_)
            refine lv_iload F.1 F.2.1 dX6_change_51 (lv_at hl 0 rfl) ?_
            refine lv_if_eq (tgt := 75) F.1 F.2.1 dX6_change_53 (by decide) (fun c_53 => ?_) (fun c_53 => ?_)
            · refine lv_aload_n F.1 F.2.1 dX6_change_75 rfl (lv_at hl 1 rfl) ?_
              refine lv_ldc (v := (-1000001)) F.1 F.2.1 F.2.2.2.1 (F.2.2.2.2 _ (List.mem_of_getElem? (i := 1) rfl)) dX6_change_76 ?_
              refine iV (rest := []) (wsp := fun _ => oM a v :: ai ct (a 1) 210 f :: [ai ct (a 4) 8 (fnd c 1)]) F (kX6_finding l dC dI ct a v c (-1000001) 1 (by decide) (by decide) (by decide)) gX6_change_X6_finding rfl ⟨rfl, rfl⟩ nmX6_finding ⟨Nat.le_of_ble_eq_true rfl, Nat.le_of_ble_eq_true rfl⟩ eT_b (fun _ _ _ => trivial) hK hP hD hS hA 0 rfl rfl rfl [0, 2] (by decide) rfl rfl rfl hl.1 (Nat.le_of_ble_eq_true rfl) dX6_change_78 ⟨Nat.zero_le _, Nat.zero_le _⟩ (fun _ => rfl) (fun _ => rfl) [a 0, a 1, a 4] rfl (fun _ => rfl) (fun r_78 u_78 H locs e_78 hP hD hS => ?_)
              obtain rfl := e_78
              exact rtI (f, (fnd c 1)) F hr hlk hP hS rfl ((if_neg (fun q => c_41 q.2.2.2)).symm) dX6_change_81
            · exact absurd rfl c_53
          · have c_41 : 0 ≤ x4 ∧ x4 ≤ (if x3 = 2 then 20 else 99) := b01t rfl c_41
            refine lv_iconst (v := 1) F.1 F.2.1 dX6_change_44 (by decide) ?_
            refine lv_goto (tgt := 49) F.1 F.2.1 dX6_change_45 (by decide) ?_
            refine lv_istore (lv' := [(5, .int 1), (0, .ref (a 0)), (1, .int (nI s)), (2, .int (nI t)), (3, .int x3), (4, .int x4)]) F.1 F.2.1 dX6_change_49 hl (by decide) rfl (fun ls hl => ?_)
            refine lv_iload F.1 F.2.1 dX6_change_51 (lv_at hl 0 rfl) ?_
            refine lv_if_eq (tgt := 75) F.1 F.2.1 dX6_change_53 (by decide) (fun c_53 => ?_) (fun c_53 => ?_)
            · exact absurd c_53 (by decide)
            · refine lv_aload_n F.1 F.2.1 dX6_change_56 rfl (lv_at hl 1 rfl) ?_
              refine lv_iload_n F.1 F.2.1 dX6_change_57 rfl (lv_at hl 2 rfl) ?_
              refine lv_iload_n F.1 F.2.1 dX6_change_58 rfl (lv_at hl 4 rfl) ?_
              refine iS (rest := [.int (nI s), .ref (a 0)]) (wsp := fun _ => oM a v :: ai ct (a 1) 210 f :: [ai ct (a 4) 8 c]) F (kX6_fieldOf l dC dI ct x3) gX6_change_X6_fieldOf rfl ⟨rfl, rfl⟩ nmX6_fieldOf ⟨Nat.le_of_ble_eq_true rfl, Nat.le_of_ble_eq_true rfl⟩ eT_b (fun _ _ _ => trivial) hK hP hD hS hA [] (by decide) rfl rfl rfl hl.1 (Nat.le_of_ble_eq_true rfl) dX6_change_59 ⟨Nat.zero_le _, Nat.zero_le _⟩ (fun _ => rfl) (fun _ => rfl) [a 0, a 1, a 4] rfl (fun _ => rfl) (fun r_59 u_59 H locs e_59 hP hD hS => ?_)
              obtain rfl := e_59
              refine tp (y := nI (fld x3)) (fld_nI x3) ?_
              refine lv_iload_n F.1 F.2.1 dX6_change_62 rfl (lv_at hl 3 rfl) ?_
              refine lv_iadd F.1 F.2.1 dX6_change_63 ?_
              refine tp (y := nI (fld x3 + t)) (ad2 (a := fld x3) (b := t) (c := fld x3 + t) rfl rfl rfl) ?_
              refine iS (rest := [.ref (a 0)]) (wsp := fun _ => oM a v :: ai ct (a 1) 210 f :: [ai ct (a 4) 8 c]) F (kX6_at l dC dI ct s (fld x3 + t) (20 + 17 * s + fld x3 + t) (by omega)) gX6_change_X6_at rfl ⟨rfl, rfl⟩ nmX6_at ⟨Nat.le_of_ble_eq_true rfl, Nat.le_of_ble_eq_true rfl⟩ eT_b (fun _ _ _ => trivial) hK hP hD hS hA [] (by decide) rfl rfl rfl hl.1 (Nat.le_of_ble_eq_true rfl) dX6_change_64 ⟨Nat.zero_le _, Nat.zero_le _⟩ (fun _ => rfl) (fun _ => rfl) [a 0, a 1, a 4] rfl (fun _ => rfl) (fun r_64 u_64 H locs e_64 hP hD hS => ?_)
              obtain rfl := e_64
              refine lv_iload F.1 F.2.1 dX6_change_67 (lv_at hl 5 rfl) ?_
              refine iV (rest := []) (wsp := fun _ => oM a v :: ai ct (a 1) 210 (upd f (20 + 17 * s + fld x3 + t) x4) :: [ai ct (a 4) 8 c]) F (kX6_become l dC dI ct a v f (20 + 17 * s + fld x3 + t) x4 (by omega)) gX6_change_X6_become rfl ⟨rfl, rfl⟩ nmX6_become ⟨Nat.le_of_ble_eq_true rfl, Nat.le_of_ble_eq_true rfl⟩ eT_b (fun _ _ _ => trivial) hK hP hD hS hA 0 rfl rfl rfl [0, 1] (by decide) rfl rfl rfl hl.1 (Nat.le_of_ble_eq_true rfl) dX6_change_69 ⟨Nat.zero_le _, Nat.zero_le _⟩ (fun _ => rfl) (fun _ => rfl) [a 0, a 1, a 4] rfl (fun _ => rfl) (fun r_69 u_69 H locs e_69 hP hD hS => ?_)
              obtain rfl := e_69
              refine lv_goto (tgt := 81) F.1 F.2.1 dX6_change_72 (by decide) ?_
              exact rtI ((upd f (20 + 17 * s + fld x3 + t) x4), c) F hr hlk hP hS rfl (Eq.trans (by rw [show tn (nI s) = s from nI_clamp (by omega), show tn (nI t) = t from nI_clamp (by omega)]; try exact rfl) (if_pos ⟨c_4, c_11, c_20, c_41⟩).symm) dX6_change_81
        · have ew : (if x3 = 2 then (20 : Int32) else 99) = 20 := if_pos c_28
          refine lv_bipush (v := 20) F.1 F.2.1 dX6_change_31 (by decide) ?_
          refine lv_goto (tgt := 38) F.1 F.2.1 dX6_change_33 (by decide) ?_
          refine iS (rest := []) (wsp := fun _ => oM a v :: ai ct (a 1) 210 f :: [ai ct (a 4) 8 c]) F (kX6_within l dC dI ct x4 0 20) gX6_change_X6_within rfl ⟨rfl, rfl⟩ nmX6_within ⟨Nat.le_of_ble_eq_true rfl, Nat.le_of_ble_eq_true rfl⟩ eT_b (fun _ _ _ => trivial) hK hP hD hS hA [] (by decide) rfl rfl rfl hl.1 (Nat.le_of_ble_eq_true rfl) dX6_change_38 ⟨Nat.zero_le _, Nat.zero_le _⟩ (fun _ => rfl) (fun _ => rfl) [a 0, a 1, a 4] rfl (fun _ => rfl) (fun r_38 u_38 H locs e_38 hP hD hS => ?_)
          obtain rfl := e_38
          refine tp (y := if 0 ≤ x4 ∧ x4 ≤ (if x3 = 2 then 20 else 99) then 1 else 0) (by rw [ew]) ?_
          refine lv_if_eq (tgt := 48) F.1 F.2.1 dX6_change_41 (by decide) (fun c_41 => ?_) (fun c_41 => ?_)
          · have c_41 : ¬ (0 ≤ x4 ∧ x4 ≤ (if x3 = 2 then 20 else 99)) := b01f rfl c_41
            refine lv_iconst (v := 0) F.1 F.2.1 dX6_change_48 (by decide) ?_
            refine lv_istore (lv' := [(5, .int 0), (0, .ref (a 0)), (1, .int (nI s)), (2, .int (nI t)), (3, .int x3), (4, .int x4)]) F.1 F.2.1 dX6_change_49 hl (by decide) rfl (fun ls hl => ?_)
            refine lv_iload F.1 F.2.1 dX6_change_51 (lv_at hl 0 rfl) ?_
            refine lv_if_eq (tgt := 75) F.1 F.2.1 dX6_change_53 (by decide) (fun c_53 => ?_) (fun c_53 => ?_)
            · refine lv_aload_n F.1 F.2.1 dX6_change_75 rfl (lv_at hl 1 rfl) ?_
              refine lv_ldc (v := (-1000001)) F.1 F.2.1 F.2.2.2.1 (F.2.2.2.2 _ (List.mem_of_getElem? (i := 1) rfl)) dX6_change_76 ?_
              refine iV (rest := []) (wsp := fun _ => oM a v :: ai ct (a 1) 210 f :: [ai ct (a 4) 8 (fnd c 1)]) F (kX6_finding l dC dI ct a v c (-1000001) 1 (by decide) (by decide) (by decide)) gX6_change_X6_finding rfl ⟨rfl, rfl⟩ nmX6_finding ⟨Nat.le_of_ble_eq_true rfl, Nat.le_of_ble_eq_true rfl⟩ eT_b (fun _ _ _ => trivial) hK hP hD hS hA 0 rfl rfl rfl [0, 2] (by decide) rfl rfl rfl hl.1 (Nat.le_of_ble_eq_true rfl) dX6_change_78 ⟨Nat.zero_le _, Nat.zero_le _⟩ (fun _ => rfl) (fun _ => rfl) [a 0, a 1, a 4] rfl (fun _ => rfl) (fun r_78 u_78 H locs e_78 hP hD hS => ?_)
              obtain rfl := e_78
              exact rtI (f, (fnd c 1)) F hr hlk hP hS rfl ((if_neg (fun q => c_41 q.2.2.2)).symm) dX6_change_81
            · exact absurd rfl c_53
          · have c_41 : 0 ≤ x4 ∧ x4 ≤ (if x3 = 2 then 20 else 99) := b01t rfl c_41
            refine lv_iconst (v := 1) F.1 F.2.1 dX6_change_44 (by decide) ?_
            refine lv_goto (tgt := 49) F.1 F.2.1 dX6_change_45 (by decide) ?_
            refine lv_istore (lv' := [(5, .int 1), (0, .ref (a 0)), (1, .int (nI s)), (2, .int (nI t)), (3, .int x3), (4, .int x4)]) F.1 F.2.1 dX6_change_49 hl (by decide) rfl (fun ls hl => ?_)
            refine lv_iload F.1 F.2.1 dX6_change_51 (lv_at hl 0 rfl) ?_
            refine lv_if_eq (tgt := 75) F.1 F.2.1 dX6_change_53 (by decide) (fun c_53 => ?_) (fun c_53 => ?_)
            · exact absurd c_53 (by decide)
            · refine lv_aload_n F.1 F.2.1 dX6_change_56 rfl (lv_at hl 1 rfl) ?_
              refine lv_iload_n F.1 F.2.1 dX6_change_57 rfl (lv_at hl 2 rfl) ?_
              refine lv_iload_n F.1 F.2.1 dX6_change_58 rfl (lv_at hl 4 rfl) ?_
              refine iS (rest := [.int (nI s), .ref (a 0)]) (wsp := fun _ => oM a v :: ai ct (a 1) 210 f :: [ai ct (a 4) 8 c]) F (kX6_fieldOf l dC dI ct x3) gX6_change_X6_fieldOf rfl ⟨rfl, rfl⟩ nmX6_fieldOf ⟨Nat.le_of_ble_eq_true rfl, Nat.le_of_ble_eq_true rfl⟩ eT_b (fun _ _ _ => trivial) hK hP hD hS hA [] (by decide) rfl rfl rfl hl.1 (Nat.le_of_ble_eq_true rfl) dX6_change_59 ⟨Nat.zero_le _, Nat.zero_le _⟩ (fun _ => rfl) (fun _ => rfl) [a 0, a 1, a 4] rfl (fun _ => rfl) (fun r_59 u_59 H locs e_59 hP hD hS => ?_)
              obtain rfl := e_59
              refine tp (y := nI (fld x3)) (fld_nI x3) ?_
              refine lv_iload_n F.1 F.2.1 dX6_change_62 rfl (lv_at hl 3 rfl) ?_
              refine lv_iadd F.1 F.2.1 dX6_change_63 ?_
              refine tp (y := nI (fld x3 + t)) (ad2 (a := fld x3) (b := t) (c := fld x3 + t) rfl rfl rfl) ?_
              refine iS (rest := [.ref (a 0)]) (wsp := fun _ => oM a v :: ai ct (a 1) 210 f :: [ai ct (a 4) 8 c]) F (kX6_at l dC dI ct s (fld x3 + t) (20 + 17 * s + fld x3 + t) (by omega)) gX6_change_X6_at rfl ⟨rfl, rfl⟩ nmX6_at ⟨Nat.le_of_ble_eq_true rfl, Nat.le_of_ble_eq_true rfl⟩ eT_b (fun _ _ _ => trivial) hK hP hD hS hA [] (by decide) rfl rfl rfl hl.1 (Nat.le_of_ble_eq_true rfl) dX6_change_64 ⟨Nat.zero_le _, Nat.zero_le _⟩ (fun _ => rfl) (fun _ => rfl) [a 0, a 1, a 4] rfl (fun _ => rfl) (fun r_64 u_64 H locs e_64 hP hD hS => ?_)
              obtain rfl := e_64
              refine lv_iload F.1 F.2.1 dX6_change_67 (lv_at hl 5 rfl) ?_
              refine iV (rest := []) (wsp := fun _ => oM a v :: ai ct (a 1) 210 (upd f (20 + 17 * s + fld x3 + t) x4) :: [ai ct (a 4) 8 c]) F (kX6_become l dC dI ct a v f (20 + 17 * s + fld x3 + t) x4 (by omega)) gX6_change_X6_become rfl ⟨rfl, rfl⟩ nmX6_become ⟨Nat.le_of_ble_eq_true rfl, Nat.le_of_ble_eq_true rfl⟩ eT_b (fun _ _ _ => trivial) hK hP hD hS hA 0 rfl rfl rfl [0, 1] (by decide) rfl rfl rfl hl.1 (Nat.le_of_ble_eq_true rfl) dX6_change_69 ⟨Nat.zero_le _, Nat.zero_le _⟩ (fun _ => rfl) (fun _ => rfl) [a 0, a 1, a 4] rfl (fun _ => rfl) (fun r_69 u_69 H locs e_69 hP hD hS => ?_)
              obtain rfl := e_69
              refine lv_goto (tgt := 81) F.1 F.2.1 dX6_change_72 (by decide) ?_
              exact rtI ((upd f (20 + 17 * s + fld x3 + t) x4), c) F hr hlk hP hS rfl (Eq.trans (by rw [show tn (nI s) = s from nI_clamp (by omega), show tn (nI t) = t from nI_clamp (by omega)]; try exact rfl) (if_pos ⟨c_4, c_11, c_20, c_41⟩).symm) dX6_change_81

def rmX6_side : Room := { frames := 2, cells := 0, slots := 0, locals := 42 }
theorem nmX6_side : NmV yX6_side RX6 3 := by unfold NmV; decide +kernel
set_option maxHeartbeats 4000000 in
set_option maxRecDepth 100000 in
theorem kX6_side (l : Launch) (dC : Nat → ClassId) (dI : Nat → Nat → Nat) (ct : Nat → ClassId) (a : Nat → Nat) (v f c : Nat → Int32) (x1 x2 x3 : Int32) : MI (S := (Nat → Int32) × (Nat → Int32)) l yX6_side wsX6_side rmX6_side dC dI ct eT [.ref (a 0), .int x1, .int x2, .int x3] (oM a v :: ai ct (a 1) 210 f :: [ai ct (a 4) 8 c]) (fun u => oM a v :: ai ct (a 1) 210 u.1 :: [ai ct (a 4) 8 u.2]) (fun r u => (r, u.1, u.2) = sSide f c x1 x2 x3) := by
  refine MI.of (cc := cX6_side) (maxL := 5) (ret := (some .int)) (by decide) rfl (Nat.le_of_ble_eq_true rfl) ?_
  intro pg en z mi below meth cd A F hr hlk hin hK hP hD hA hS hE ls hl
  have F : CallFix pg mi cd cX6_side 5 z _ wsX6_side RX6 := F
  have hl : lv_has ls 5 [(0, .ref (a 0)), (1, .int x1), (2, .int x2), (3, .int x3)] := hl
  refine lv_iload_n F.1 F.2.1 dX6_side_0 rfl (lv_at hl 1 rfl) ?_
  refine iS (rest := []) (wsp := fun _ => oM a v :: ai ct (a 1) 210 f :: [ai ct (a 4) 8 c]) F (kX6_isSide l dC dI ct x1) gX6_side_X6_isSide rfl ⟨rfl, rfl⟩ nmX6_isSide ⟨Nat.le_of_ble_eq_true rfl, Nat.le_of_ble_eq_true rfl⟩ eT_b (fun _ _ _ => trivial) hK hP hD hS hA [] (by decide) rfl rfl rfl hl.1 (Nat.le_of_ble_eq_true rfl) dX6_side_1 ⟨Nat.zero_le _, Nat.zero_le _⟩ (fun _ => rfl) (fun _ => rfl) [a 0, a 1, a 4] rfl (fun _ => rfl) (fun r_1 u_1 H locs e_1 hP hD hS => ?_)
  obtain rfl := e_1
  refine lv_if_eq (tgt := 40) F.1 F.2.1 dX6_side_4 (by decide) (fun c_4 => ?_) (fun c_4 => ?_)
  · have c_4 : ¬ (0 ≤ x1 ∧ x1 ≤ 1) := b01f rfl c_4
    refine lv_iconst (v := 0) F.1 F.2.1 dX6_side_40 (by decide) ?_
    refine lv_istore (lv' := [(4, .int 0), (0, .ref (a 0)), (1, .int x1), (2, .int x2), (3, .int x3)]) F.1 F.2.1 dX6_side_41 hl (by decide) rfl (fun ls hl => ?_)
    refine lv_iload F.1 F.2.1 dX6_side_43 (lv_at hl 0 rfl) ?_
    refine lv_if_eq (tgt := 61) F.1 F.2.1 dX6_side_45 (by decide) (fun c_45 => ?_) (fun c_45 => ?_)
    · refine lv_aload_n F.1 F.2.1 dX6_side_61 rfl (lv_at hl 1 rfl) ?_
      refine lv_ldc (v := (-1000001)) F.1 F.2.1 F.2.2.2.1 (F.2.2.2.2 _ (List.mem_of_getElem? (i := 1) rfl)) dX6_side_62 ?_
      refine iV (rest := []) (wsp := fun _ => oM a v :: ai ct (a 1) 210 f :: [ai ct (a 4) 8 (fnd c 1)]) F (kX6_finding l dC dI ct a v c (-1000001) 1 (by decide) (by decide) (by decide)) gX6_side_X6_finding rfl ⟨rfl, rfl⟩ nmX6_finding ⟨Nat.le_of_ble_eq_true rfl, Nat.le_of_ble_eq_true rfl⟩ eT_b (fun _ _ _ => trivial) hK hP hD hS hA 0 rfl rfl rfl [0, 2] (by decide) rfl rfl rfl hl.1 (Nat.le_of_ble_eq_true rfl) dX6_side_64 ⟨Nat.zero_le _, Nat.zero_le _⟩ (fun _ => rfl) (fun _ => rfl) [a 0, a 1, a 4] rfl (fun _ => rfl) (fun r_64 u_64 H locs e_64 hP hD hS => ?_)
      obtain rfl := e_64
      exact rtI (f, (fnd c 1)) F hr hlk hP hS rfl ((if_neg (fun q => c_4 q.1)).symm) dX6_side_67
    · exact absurd rfl c_45
  · have c_4 : 0 ≤ x1 ∧ x1 ≤ 1 := b01t rfl c_4
    obtain ⟨s, hs, rfl⟩ := gS_n c_4
    refine lv_iload_n F.1 F.2.1 dX6_side_7 rfl (lv_at hl 2 rfl) ?_
    refine lv_if_ne (tgt := 21) F.1 F.2.1 dX6_side_8 (by decide) (fun c_8 => ?_) (fun c_8 => ?_)
    · refine lv_iload_n F.1 F.2.1 dX6_side_21 rfl (lv_at hl 2 rfl) ?_
      refine lv_iconst (v := 1) F.1 F.2.1 dX6_side_22 (by decide) ?_
      refine lv_icmp_ne (tgt := 40) F.1 F.2.1 dX6_side_23 (by decide) (fun c_23 => ?_) (fun c_23 => ?_)
      · refine lv_iconst (v := 0) F.1 F.2.1 dX6_side_40 (by decide) ?_
        refine lv_istore (lv' := [(4, .int 0), (0, .ref (a 0)), (1, .int (nI s)), (2, .int x2), (3, .int x3)]) F.1 F.2.1 dX6_side_41 hl (by decide) rfl (fun ls hl => ?_)
        refine lv_iload F.1 F.2.1 dX6_side_43 (lv_at hl 0 rfl) ?_
        refine lv_if_eq (tgt := 61) F.1 F.2.1 dX6_side_45 (by decide) (fun c_45 => ?_) (fun c_45 => ?_)
        · refine lv_aload_n F.1 F.2.1 dX6_side_61 rfl (lv_at hl 1 rfl) ?_
          refine lv_ldc (v := (-1000001)) F.1 F.2.1 F.2.2.2.1 (F.2.2.2.2 _ (List.mem_of_getElem? (i := 1) rfl)) dX6_side_62 ?_
          refine iV (rest := []) (wsp := fun _ => oM a v :: ai ct (a 1) 210 f :: [ai ct (a 4) 8 (fnd c 1)]) F (kX6_finding l dC dI ct a v c (-1000001) 1 (by decide) (by decide) (by decide)) gX6_side_X6_finding rfl ⟨rfl, rfl⟩ nmX6_finding ⟨Nat.le_of_ble_eq_true rfl, Nat.le_of_ble_eq_true rfl⟩ eT_b (fun _ _ _ => trivial) hK hP hD hS hA 0 rfl rfl rfl [0, 2] (by decide) rfl rfl rfl hl.1 (Nat.le_of_ble_eq_true rfl) dX6_side_64 ⟨Nat.zero_le _, Nat.zero_le _⟩ (fun _ => rfl) (fun _ => rfl) [a 0, a 1, a 4] rfl (fun _ => rfl) (fun r_64 u_64 H locs e_64 hP hD hS => ?_)
          obtain rfl := e_64
          exact rtI (f, (fnd c 1)) F hr hlk hP hS rfl ((if_neg (fun q => q.2.elim (fun r => c_8 r.1) (fun r => c_23 r.1))).symm) dX6_side_67
        · exact absurd rfl c_45
      · refine lv_iload_n F.1 F.2.1 dX6_side_26 rfl (lv_at hl 3 rfl) ?_
        refine lv_iconst (v := 0) F.1 F.2.1 dX6_side_27 (by decide) ?_
        refine lv_bipush (v := 9) F.1 F.2.1 dX6_side_28 (by decide) ?_
        refine iS (rest := []) (wsp := fun _ => oM a v :: ai ct (a 1) 210 f :: [ai ct (a 4) 8 c]) F (kX6_within l dC dI ct x3 0 9) gX6_side_X6_within rfl ⟨rfl, rfl⟩ nmX6_within ⟨Nat.le_of_ble_eq_true rfl, Nat.le_of_ble_eq_true rfl⟩ eT_b (fun _ _ _ => trivial) hK hP hD hS hA [] (by decide) rfl rfl rfl hl.1 (Nat.le_of_ble_eq_true rfl) dX6_side_30 ⟨Nat.zero_le _, Nat.zero_le _⟩ (fun _ => rfl) (fun _ => rfl) [a 0, a 1, a 4] rfl (fun _ => rfl) (fun r_30 u_30 H locs e_30 hP hD hS => ?_)
        obtain rfl := e_30
        refine lv_if_eq (tgt := 40) F.1 F.2.1 dX6_side_33 (by decide) (fun c_33 => ?_) (fun c_33 => ?_)
        · have c_33 : ¬ (0 ≤ x3 ∧ x3 ≤ 9) := b01f rfl c_33
          refine lv_iconst (v := 0) F.1 F.2.1 dX6_side_40 (by decide) ?_
          refine lv_istore (lv' := [(4, .int 0), (0, .ref (a 0)), (1, .int (nI s)), (2, .int x2), (3, .int x3)]) F.1 F.2.1 dX6_side_41 hl (by decide) rfl (fun ls hl => ?_)
          refine lv_iload F.1 F.2.1 dX6_side_43 (lv_at hl 0 rfl) ?_
          refine lv_if_eq (tgt := 61) F.1 F.2.1 dX6_side_45 (by decide) (fun c_45 => ?_) (fun c_45 => ?_)
          · refine lv_aload_n F.1 F.2.1 dX6_side_61 rfl (lv_at hl 1 rfl) ?_
            refine lv_ldc (v := (-1000001)) F.1 F.2.1 F.2.2.2.1 (F.2.2.2.2 _ (List.mem_of_getElem? (i := 1) rfl)) dX6_side_62 ?_
            refine iV (rest := []) (wsp := fun _ => oM a v :: ai ct (a 1) 210 f :: [ai ct (a 4) 8 (fnd c 1)]) F (kX6_finding l dC dI ct a v c (-1000001) 1 (by decide) (by decide) (by decide)) gX6_side_X6_finding rfl ⟨rfl, rfl⟩ nmX6_finding ⟨Nat.le_of_ble_eq_true rfl, Nat.le_of_ble_eq_true rfl⟩ eT_b (fun _ _ _ => trivial) hK hP hD hS hA 0 rfl rfl rfl [0, 2] (by decide) rfl rfl rfl hl.1 (Nat.le_of_ble_eq_true rfl) dX6_side_64 ⟨Nat.zero_le _, Nat.zero_le _⟩ (fun _ => rfl) (fun _ => rfl) [a 0, a 1, a 4] rfl (fun _ => rfl) (fun r_64 u_64 H locs e_64 hP hD hS => ?_)
            obtain rfl := e_64
            exact rtI (f, (fnd c 1)) F hr hlk hP hS rfl ((if_neg (fun q => q.2.elim (fun r => c_8 r.1) (fun r => c_33 r.2))).symm) dX6_side_67
          · exact absurd rfl c_45
        · have c_33 : 0 ≤ x3 ∧ x3 ≤ 9 := b01t rfl c_33
          refine lv_iconst (v := 1) F.1 F.2.1 dX6_side_36 (by decide) ?_
          refine lv_goto (tgt := 41) F.1 F.2.1 dX6_side_37 (by decide) ?_
          refine lv_istore (lv' := [(4, .int 1), (0, .ref (a 0)), (1, .int (nI s)), (2, .int x2), (3, .int x3)]) F.1 F.2.1 dX6_side_41 hl (by decide) rfl (fun ls hl => ?_)
          refine lv_iload F.1 F.2.1 dX6_side_43 (lv_at hl 0 rfl) ?_
          refine lv_if_eq (tgt := 61) F.1 F.2.1 dX6_side_45 (by decide) (fun c_45 => ?_) (fun c_45 => ?_)
          · exact absurd c_45 (by decide)
          · refine lv_aload_n F.1 F.2.1 dX6_side_48 rfl (lv_at hl 1 rfl) ?_
            refine lv_iload_n F.1 F.2.1 dX6_side_49 rfl (lv_at hl 2 rfl) ?_
            refine lv_iload_n F.1 F.2.1 dX6_side_50 rfl (lv_at hl 3 rfl) ?_
            refine tp (y := nI 1) c_23 ?_
            refine iS (rest := [.ref (a 0)]) (wsp := fun _ => oM a v :: ai ct (a 1) 210 f :: [ai ct (a 4) 8 c]) F (kX6_at l dC dI ct s 1 (20 + 17 * s + 1) (by omega)) gX6_side_X6_at rfl ⟨rfl, rfl⟩ nmX6_at ⟨Nat.le_of_ble_eq_true rfl, Nat.le_of_ble_eq_true rfl⟩ eT_b (fun _ _ _ => trivial) hK hP hD hS hA [] (by decide) rfl rfl rfl hl.1 (Nat.le_of_ble_eq_true rfl) dX6_side_51 ⟨Nat.zero_le _, Nat.zero_le _⟩ (fun _ => rfl) (fun _ => rfl) [a 0, a 1, a 4] rfl (fun _ => rfl) (fun r_51 u_51 H locs e_51 hP hD hS => ?_)
            obtain rfl := e_51
            refine lv_iload_n F.1 F.2.1 dX6_side_54 rfl (lv_at hl 4 rfl) ?_
            refine iV (rest := []) (wsp := fun _ => oM a v :: ai ct (a 1) 210 (upd f (20 + 17 * s + 1) x3) :: [ai ct (a 4) 8 c]) F (kX6_become l dC dI ct a v f (20 + 17 * s + 1) x3 (by omega)) gX6_side_X6_become rfl ⟨rfl, rfl⟩ nmX6_become ⟨Nat.le_of_ble_eq_true rfl, Nat.le_of_ble_eq_true rfl⟩ eT_b (fun _ _ _ => trivial) hK hP hD hS hA 0 rfl rfl rfl [0, 1] (by decide) rfl rfl rfl hl.1 (Nat.le_of_ble_eq_true rfl) dX6_side_55 ⟨Nat.zero_le _, Nat.zero_le _⟩ (fun _ => rfl) (fun _ => rfl) [a 0, a 1, a 4] rfl (fun _ => rfl) (fun r_55 u_55 H locs e_55 hP hD hS => ?_)
            obtain rfl := e_55
            refine lv_goto (tgt := 67) F.1 F.2.1 dX6_side_58 (by decide) ?_
            exact rtI ((upd f (20 + 17 * s + 1) x3), c) F hr hlk hP hS rfl (Eq.trans (by rw [show tn (nI s) = s from nI_clamp (by omega), c_23]; rfl) (if_pos ⟨c_4, Or.inr ⟨c_23, c_33⟩⟩).symm) dX6_side_67
    · refine lv_iload_n F.1 F.2.1 dX6_side_11 rfl (lv_at hl 3 rfl) ?_
      refine lv_iconst (v := 0) F.1 F.2.1 dX6_side_12 (by decide) ?_
      refine lv_bipush (v := 50) F.1 F.2.1 dX6_side_13 (by decide) ?_
      refine iS (rest := []) (wsp := fun _ => oM a v :: ai ct (a 1) 210 f :: [ai ct (a 4) 8 c]) F (kX6_within l dC dI ct x3 0 50) gX6_side_X6_within rfl ⟨rfl, rfl⟩ nmX6_within ⟨Nat.le_of_ble_eq_true rfl, Nat.le_of_ble_eq_true rfl⟩ eT_b (fun _ _ _ => trivial) hK hP hD hS hA [] (by decide) rfl rfl rfl hl.1 (Nat.le_of_ble_eq_true rfl) dX6_side_15 ⟨Nat.zero_le _, Nat.zero_le _⟩ (fun _ => rfl) (fun _ => rfl) [a 0, a 1, a 4] rfl (fun _ => rfl) (fun r_15 u_15 H locs e_15 hP hD hS => ?_)
      obtain rfl := e_15
      refine lv_if_ne (tgt := 36) F.1 F.2.1 dX6_side_18 (by decide) (fun c_18 => ?_) (fun c_18 => ?_)
      · have c_18 : 0 ≤ x3 ∧ x3 ≤ 50 := b01t rfl c_18
        refine lv_iconst (v := 1) F.1 F.2.1 dX6_side_36 (by decide) ?_
        refine lv_goto (tgt := 41) F.1 F.2.1 dX6_side_37 (by decide) ?_
        refine lv_istore (lv' := [(4, .int 1), (0, .ref (a 0)), (1, .int (nI s)), (2, .int x2), (3, .int x3)]) F.1 F.2.1 dX6_side_41 hl (by decide) rfl (fun ls hl => ?_)
        refine lv_iload F.1 F.2.1 dX6_side_43 (lv_at hl 0 rfl) ?_
        refine lv_if_eq (tgt := 61) F.1 F.2.1 dX6_side_45 (by decide) (fun c_45 => ?_) (fun c_45 => ?_)
        · exact absurd c_45 (by decide)
        · refine lv_aload_n F.1 F.2.1 dX6_side_48 rfl (lv_at hl 1 rfl) ?_
          refine lv_iload_n F.1 F.2.1 dX6_side_49 rfl (lv_at hl 2 rfl) ?_
          refine lv_iload_n F.1 F.2.1 dX6_side_50 rfl (lv_at hl 3 rfl) ?_
          refine tp (y := nI 0) c_8 ?_
          refine iS (rest := [.ref (a 0)]) (wsp := fun _ => oM a v :: ai ct (a 1) 210 f :: [ai ct (a 4) 8 c]) F (kX6_at l dC dI ct s 0 (20 + 17 * s + 0) (by omega)) gX6_side_X6_at rfl ⟨rfl, rfl⟩ nmX6_at ⟨Nat.le_of_ble_eq_true rfl, Nat.le_of_ble_eq_true rfl⟩ eT_b (fun _ _ _ => trivial) hK hP hD hS hA [] (by decide) rfl rfl rfl hl.1 (Nat.le_of_ble_eq_true rfl) dX6_side_51 ⟨Nat.zero_le _, Nat.zero_le _⟩ (fun _ => rfl) (fun _ => rfl) [a 0, a 1, a 4] rfl (fun _ => rfl) (fun r_51 u_51 H locs e_51 hP hD hS => ?_)
          obtain rfl := e_51
          refine lv_iload_n F.1 F.2.1 dX6_side_54 rfl (lv_at hl 4 rfl) ?_
          refine iV (rest := []) (wsp := fun _ => oM a v :: ai ct (a 1) 210 (upd f (20 + 17 * s + 0) x3) :: [ai ct (a 4) 8 c]) F (kX6_become l dC dI ct a v f (20 + 17 * s + 0) x3 (by omega)) gX6_side_X6_become rfl ⟨rfl, rfl⟩ nmX6_become ⟨Nat.le_of_ble_eq_true rfl, Nat.le_of_ble_eq_true rfl⟩ eT_b (fun _ _ _ => trivial) hK hP hD hS hA 0 rfl rfl rfl [0, 1] (by decide) rfl rfl rfl hl.1 (Nat.le_of_ble_eq_true rfl) dX6_side_55 ⟨Nat.zero_le _, Nat.zero_le _⟩ (fun _ => rfl) (fun _ => rfl) [a 0, a 1, a 4] rfl (fun _ => rfl) (fun r_55 u_55 H locs e_55 hP hD hS => ?_)
          obtain rfl := e_55
          refine lv_goto (tgt := 67) F.1 F.2.1 dX6_side_58 (by decide) ?_
          exact rtI ((upd f (20 + 17 * s + 0) x3), c) F hr hlk hP hS rfl (Eq.trans (by rw [show tn (nI s) = s from nI_clamp (by omega), c_8]; rfl) (if_pos ⟨c_4, Or.inl ⟨c_8, c_18⟩⟩).symm) dX6_side_67
      · have c_18 : ¬ (0 ≤ x3 ∧ x3 ≤ 50) := b01f rfl c_18
        refine lv_iload_n F.1 F.2.1 dX6_side_21 rfl (lv_at hl 2 rfl) ?_
        refine lv_iconst (v := 1) F.1 F.2.1 dX6_side_22 (by decide) ?_
        refine lv_icmp_ne (tgt := 40) F.1 F.2.1 dX6_side_23 (by decide) (fun c_23 => ?_) (fun c_23 => ?_)
        · refine lv_iconst (v := 0) F.1 F.2.1 dX6_side_40 (by decide) ?_
          refine lv_istore (lv' := [(4, .int 0), (0, .ref (a 0)), (1, .int (nI s)), (2, .int x2), (3, .int x3)]) F.1 F.2.1 dX6_side_41 hl (by decide) rfl (fun ls hl => ?_)
          refine lv_iload F.1 F.2.1 dX6_side_43 (lv_at hl 0 rfl) ?_
          refine lv_if_eq (tgt := 61) F.1 F.2.1 dX6_side_45 (by decide) (fun c_45 => ?_) (fun c_45 => ?_)
          · refine lv_aload_n F.1 F.2.1 dX6_side_61 rfl (lv_at hl 1 rfl) ?_
            refine lv_ldc (v := (-1000001)) F.1 F.2.1 F.2.2.2.1 (F.2.2.2.2 _ (List.mem_of_getElem? (i := 1) rfl)) dX6_side_62 ?_
            refine iV (rest := []) (wsp := fun _ => oM a v :: ai ct (a 1) 210 f :: [ai ct (a 4) 8 (fnd c 1)]) F (kX6_finding l dC dI ct a v c (-1000001) 1 (by decide) (by decide) (by decide)) gX6_side_X6_finding rfl ⟨rfl, rfl⟩ nmX6_finding ⟨Nat.le_of_ble_eq_true rfl, Nat.le_of_ble_eq_true rfl⟩ eT_b (fun _ _ _ => trivial) hK hP hD hS hA 0 rfl rfl rfl [0, 2] (by decide) rfl rfl rfl hl.1 (Nat.le_of_ble_eq_true rfl) dX6_side_64 ⟨Nat.zero_le _, Nat.zero_le _⟩ (fun _ => rfl) (fun _ => rfl) [a 0, a 1, a 4] rfl (fun _ => rfl) (fun r_64 u_64 H locs e_64 hP hD hS => ?_)
            obtain rfl := e_64
            exact rtI (f, (fnd c 1)) F hr hlk hP hS rfl ((if_neg (fun q => q.2.elim (fun r => c_18 r.2) (fun r => c_23 r.1))).symm) dX6_side_67
          · exact absurd rfl c_45
        · exact absurd c_23 (by rw [c_8]; decide)

def rmX6_frost : Room := { frames := 1, cells := 0, slots := 0, locals := 23 }
theorem nmX6_frost : NmV yX6_frost RX6 1 := by unfold NmV; decide +kernel
set_option maxHeartbeats 4000000 in
set_option maxRecDepth 100000 in
theorem kX6_frost (l : Launch) (dC : Nat → ClassId) (dI : Nat → Nat → Nat) (ct : Nat → ClassId) (a : Nat → Nat) (v f c : Nat → Int32) (x1 : Int32) : MI (S := (Nat → Int32) × (Nat → Int32)) l yX6_frost wsX6_frost rmX6_frost dC dI ct eT [.ref (a 0), .int x1] (oM a v :: ai ct (a 1) 210 f :: [ai ct (a 4) 8 c]) (fun u => oM a v :: ai ct (a 1) 210 u.1 :: [ai ct (a 4) 8 u.2]) (fun r u => (r, u.1, u.2) = sFrost f c x1) := by
  refine MI.of (cc := cX6_frost) (maxL := 2) (ret := (some .int)) (by decide) rfl (Nat.le_of_ble_eq_true rfl) ?_
  intro pg en z mi below meth cd A F hr hlk hin hK hP hD hA hS hE ls hl
  have F : CallFix pg mi cd cX6_frost 2 z _ wsX6_frost RX6 := F
  have hl : lv_has ls 2 [(0, .ref (a 0)), (1, .int x1)] := hl
  refine lv_iload_n F.1 F.2.1 dX6_frost_0 rfl (lv_at hl 1 rfl) ?_
  refine lv_iconst (v := 0) F.1 F.2.1 dX6_frost_1 (by decide) ?_
  refine lv_bipush (v := 9) F.1 F.2.1 dX6_frost_2 (by decide) ?_
  refine iS (rest := []) (wsp := fun _ => oM a v :: ai ct (a 1) 210 f :: [ai ct (a 4) 8 c]) F (kX6_within l dC dI ct x1 0 9) gX6_frost_X6_within rfl ⟨rfl, rfl⟩ nmX6_within ⟨Nat.le_of_ble_eq_true rfl, Nat.le_of_ble_eq_true rfl⟩ eT_b (fun _ _ _ => trivial) hK hP hD hS hA [] (by decide) rfl rfl rfl hl.1 (Nat.le_of_ble_eq_true rfl) dX6_frost_4 ⟨Nat.zero_le _, Nat.zero_le _⟩ (fun _ => rfl) (fun _ => rfl) [a 0, a 1, a 4] rfl (fun _ => rfl) (fun r_4 u_4 H locs e_4 hP hD hS => ?_)
  obtain rfl := e_4
  refine lv_if_eq (tgt := 19) F.1 F.2.1 dX6_frost_7 (by decide) (fun c_7 => ?_) (fun c_7 => ?_)
  · have c_7 : ¬ (0 ≤ x1 ∧ x1 ≤ 9) := b01f rfl c_7
    refine lv_aload_n F.1 F.2.1 dX6_frost_19 rfl (lv_at hl 0 rfl) ?_
    refine lv_ldc (v := (-1000001)) F.1 F.2.1 F.2.2.2.1 (F.2.2.2.2 _ (List.mem_of_getElem? (i := 1) rfl)) dX6_frost_20 ?_
    refine iV (rest := []) (wsp := fun _ => oM a v :: ai ct (a 1) 210 f :: [ai ct (a 4) 8 (fnd c 1)]) F (kX6_finding l dC dI ct a v c (-1000001) 1 (by decide) (by decide) (by decide)) gX6_frost_X6_finding rfl ⟨rfl, rfl⟩ nmX6_finding ⟨Nat.le_of_ble_eq_true rfl, Nat.le_of_ble_eq_true rfl⟩ eT_b (fun _ _ _ => trivial) hK hP hD hS hA 0 rfl rfl rfl [0, 2] (by decide) rfl rfl rfl hl.1 (Nat.le_of_ble_eq_true rfl) dX6_frost_22 ⟨Nat.zero_le _, Nat.zero_le _⟩ (fun _ => rfl) (fun _ => rfl) [a 0, a 1, a 4] rfl (fun _ => rfl) (fun r_22 u_22 H locs e_22 hP hD hS => ?_)
    obtain rfl := e_22
    exact rtI (f, (fnd c 1)) F hr hlk hP hS rfl ((if_neg (fun q => c_7 q)).symm) dX6_frost_25
  · have c_7 : 0 ≤ x1 ∧ x1 ≤ 9 := b01t rfl c_7
    refine lv_aload_n F.1 F.2.1 dX6_frost_10 rfl (lv_at hl 0 rfl) ?_
    refine lv_iconst (v := 1) F.1 F.2.1 dX6_frost_11 (by decide) ?_
    refine lv_iload_n F.1 F.2.1 dX6_frost_12 rfl (lv_at hl 1 rfl) ?_
    refine iV (rest := []) (wsp := fun _ => oM a v :: ai ct (a 1) 210 (upd f 1 x1) :: [ai ct (a 4) 8 c]) F (kX6_become l dC dI ct a v f 1 x1 (by omega)) gX6_frost_X6_become rfl ⟨rfl, rfl⟩ nmX6_become ⟨Nat.le_of_ble_eq_true rfl, Nat.le_of_ble_eq_true rfl⟩ eT_b (fun _ _ _ => trivial) hK hP hD hS hA 0 rfl rfl rfl [0, 1] (by decide) rfl rfl rfl hl.1 (Nat.le_of_ble_eq_true rfl) dX6_frost_13 ⟨Nat.zero_le _, Nat.zero_le _⟩ (fun _ => rfl) (fun _ => rfl) [a 0, a 1, a 4] rfl (fun _ => rfl) (fun r_13 u_13 H locs e_13 hP hD hS => ?_)
    obtain rfl := e_13
    refine lv_goto (tgt := 25) F.1 F.2.1 dX6_frost_16 (by decide) ?_
    exact rtI ((upd f 1 x1), c) F hr hlk hP hS rfl (Eq.trans rfl (if_pos c_7).symm) dX6_frost_25

def rmX6_price : Room := { frames := 4, cells := 0, slots := 0, locals := 90 }
theorem nmX6_price : NmV yX6_price RX6 3 := by unfold NmV; decide +kernel
set_option maxHeartbeats 4000000 in
set_option maxRecDepth 100000 in
theorem kX6_price (l : Launch) (dC : Nat → ClassId) (dI : Nat → Nat → Nat) (ct : Nat → ClassId) (a : Nat → Nat) (v f c : Nat → Int32) (x1 x2 x3 : Int32) : MI (S := (Nat → Int32) × (Nat → Int32)) l yX6_price wsX6_price rmX6_price dC dI ct eT [.ref (a 0), .int x1, .int x2, .int x3] (oM a v :: ai ct (a 1) 210 f :: [ai ct (a 4) 8 c]) (fun u => oM a v :: ai ct (a 1) 210 u.1 :: [ai ct (a 4) 8 u.2]) (fun r u => (r, u.1, u.2) = sPrice f c x1 x2 x3) := by
  refine MI.of (cc := cX6_price) (maxL := 4) (ret := (some .int)) (by decide) rfl (Nat.le_of_ble_eq_true rfl) ?_
  intro pg en z mi below meth cd A F hr hlk hin hK hP hD hA hS hE ls hl
  have F : CallFix pg mi cd cX6_price 4 z _ wsX6_price RX6 := F
  have hl : lv_has ls 4 [(0, .ref (a 0)), (1, .int x1), (2, .int x2), (3, .int x3)] := hl
  refine lv_iload_n F.1 F.2.1 dX6_price_0 rfl (lv_at hl 1 rfl) ?_
  refine iS (rest := []) (wsp := fun _ => oM a v :: ai ct (a 1) 210 f :: [ai ct (a 4) 8 c]) F (kX6_isSide l dC dI ct x1) gX6_price_X6_isSide rfl ⟨rfl, rfl⟩ nmX6_isSide ⟨Nat.le_of_ble_eq_true rfl, Nat.le_of_ble_eq_true rfl⟩ eT_b (fun _ _ _ => trivial) hK hP hD hS hA [] (by decide) rfl rfl rfl hl.1 (Nat.le_of_ble_eq_true rfl) dX6_price_1 ⟨Nat.zero_le _, Nat.zero_le _⟩ (fun _ => rfl) (fun _ => rfl) [a 0, a 1, a 4] rfl (fun _ => rfl) (fun r_1 u_1 H locs e_1 hP hD hS => ?_)
  obtain rfl := e_1
  refine lv_if_eq (tgt := 34) F.1 F.2.1 dX6_price_4 (by decide) (fun c_4 => ?_) (fun c_4 => ?_)
  · have c_4 : ¬ (0 ≤ x1 ∧ x1 ≤ 1) := b01f rfl c_4
    refine lv_aload_n F.1 F.2.1 dX6_price_34 rfl (lv_at hl 0 rfl) ?_
    refine lv_ldc (v := (-1000001)) F.1 F.2.1 F.2.2.2.1 (F.2.2.2.2 _ (List.mem_of_getElem? (i := 1) rfl)) dX6_price_35 ?_
    refine iV (rest := []) (wsp := fun _ => oM a v :: ai ct (a 1) 210 f :: [ai ct (a 4) 8 (fnd c 1)]) F (kX6_finding l dC dI ct a v c (-1000001) 1 (by decide) (by decide) (by decide)) gX6_price_X6_finding rfl ⟨rfl, rfl⟩ nmX6_finding ⟨Nat.le_of_ble_eq_true rfl, Nat.le_of_ble_eq_true rfl⟩ eT_b (fun _ _ _ => trivial) hK hP hD hS hA 0 rfl rfl rfl [0, 2] (by decide) rfl rfl rfl hl.1 (Nat.le_of_ble_eq_true rfl) dX6_price_37 ⟨Nat.zero_le _, Nat.zero_le _⟩ (fun _ => rfl) (fun _ => rfl) [a 0, a 1, a 4] rfl (fun _ => rfl) (fun r_37 u_37 H locs e_37 hP hD hS => ?_)
    obtain rfl := e_37
    exact rtI (f, (fnd c 1)) F hr hlk hP hS rfl ((if_neg (fun q => c_4 q.1)).symm) dX6_price_40
  · have c_4 : 0 ≤ x1 ∧ x1 ≤ 1 := b01t rfl c_4
    obtain ⟨s, hs, rfl⟩ := gS_n c_4
    refine lv_iload_n F.1 F.2.1 dX6_price_7 rfl (lv_at hl 2 rfl) ?_
    refine iS (rest := []) (wsp := fun _ => oM a v :: ai ct (a 1) 210 f :: [ai ct (a 4) 8 c]) F (kX6_isThing l dC dI ct x2) gX6_price_X6_isThing rfl ⟨rfl, rfl⟩ nmX6_isThing ⟨Nat.le_of_ble_eq_true rfl, Nat.le_of_ble_eq_true rfl⟩ eT_b (fun _ _ _ => trivial) hK hP hD hS hA [] (by decide) rfl rfl rfl hl.1 (Nat.le_of_ble_eq_true rfl) dX6_price_8 ⟨Nat.zero_le _, Nat.zero_le _⟩ (fun _ => rfl) (fun _ => rfl) [a 0, a 1, a 4] rfl (fun _ => rfl) (fun r_8 u_8 H locs e_8 hP hD hS => ?_)
    obtain rfl := e_8
    refine lv_if_eq (tgt := 34) F.1 F.2.1 dX6_price_11 (by decide) (fun c_11 => ?_) (fun c_11 => ?_)
    · have c_11 : ¬ (0 ≤ x2 ∧ x2 ≤ 4) := b01f rfl c_11
      refine lv_aload_n F.1 F.2.1 dX6_price_34 rfl (lv_at hl 0 rfl) ?_
      refine lv_ldc (v := (-1000001)) F.1 F.2.1 F.2.2.2.1 (F.2.2.2.2 _ (List.mem_of_getElem? (i := 1) rfl)) dX6_price_35 ?_
      refine iV (rest := []) (wsp := fun _ => oM a v :: ai ct (a 1) 210 f :: [ai ct (a 4) 8 (fnd c 1)]) F (kX6_finding l dC dI ct a v c (-1000001) 1 (by decide) (by decide) (by decide)) gX6_price_X6_finding rfl ⟨rfl, rfl⟩ nmX6_finding ⟨Nat.le_of_ble_eq_true rfl, Nat.le_of_ble_eq_true rfl⟩ eT_b (fun _ _ _ => trivial) hK hP hD hS hA 0 rfl rfl rfl [0, 2] (by decide) rfl rfl rfl hl.1 (Nat.le_of_ble_eq_true rfl) dX6_price_37 ⟨Nat.zero_le _, Nat.zero_le _⟩ (fun _ => rfl) (fun _ => rfl) [a 0, a 1, a 4] rfl (fun _ => rfl) (fun r_37 u_37 H locs e_37 hP hD hS => ?_)
      obtain rfl := e_37
      exact rtI (f, (fnd c 1)) F hr hlk hP hS rfl ((if_neg (fun q => c_11 q.2.1)).symm) dX6_price_40
    · have c_11 : 0 ≤ x2 ∧ x2 ≤ 4 := b01t rfl c_11
      obtain ⟨t, ht, rfl⟩ := gT_n c_11
      refine lv_iload_n F.1 F.2.1 dX6_price_14 rfl (lv_at hl 3 rfl) ?_
      refine lv_iconst (v := 0) F.1 F.2.1 dX6_price_15 (by decide) ?_
      refine lv_bipush (v := 99) F.1 F.2.1 dX6_price_16 (by decide) ?_
      refine iS (rest := []) (wsp := fun _ => oM a v :: ai ct (a 1) 210 f :: [ai ct (a 4) 8 c]) F (kX6_within l dC dI ct x3 0 99) gX6_price_X6_within rfl ⟨rfl, rfl⟩ nmX6_within ⟨Nat.le_of_ble_eq_true rfl, Nat.le_of_ble_eq_true rfl⟩ eT_b (fun _ _ _ => trivial) hK hP hD hS hA [] (by decide) rfl rfl rfl hl.1 (Nat.le_of_ble_eq_true rfl) dX6_price_18 ⟨Nat.zero_le _, Nat.zero_le _⟩ (fun _ => rfl) (fun _ => rfl) [a 0, a 1, a 4] rfl (fun _ => rfl) (fun r_18 u_18 H locs e_18 hP hD hS => ?_)
      obtain rfl := e_18
      refine lv_if_eq (tgt := 34) F.1 F.2.1 dX6_price_21 (by decide) (fun c_21 => ?_) (fun c_21 => ?_)
      · have c_21 : ¬ (0 ≤ x3 ∧ x3 ≤ 99) := b01f rfl c_21
        refine lv_aload_n F.1 F.2.1 dX6_price_34 rfl (lv_at hl 0 rfl) ?_
        refine lv_ldc (v := (-1000001)) F.1 F.2.1 F.2.2.2.1 (F.2.2.2.2 _ (List.mem_of_getElem? (i := 1) rfl)) dX6_price_35 ?_
        refine iV (rest := []) (wsp := fun _ => oM a v :: ai ct (a 1) 210 f :: [ai ct (a 4) 8 (fnd c 1)]) F (kX6_finding l dC dI ct a v c (-1000001) 1 (by decide) (by decide) (by decide)) gX6_price_X6_finding rfl ⟨rfl, rfl⟩ nmX6_finding ⟨Nat.le_of_ble_eq_true rfl, Nat.le_of_ble_eq_true rfl⟩ eT_b (fun _ _ _ => trivial) hK hP hD hS hA 0 rfl rfl rfl [0, 2] (by decide) rfl rfl rfl hl.1 (Nat.le_of_ble_eq_true rfl) dX6_price_37 ⟨Nat.zero_le _, Nat.zero_le _⟩ (fun _ => rfl) (fun _ => rfl) [a 0, a 1, a 4] rfl (fun _ => rfl) (fun r_37 u_37 H locs e_37 hP hD hS => ?_)
        obtain rfl := e_37
        exact rtI (f, (fnd c 1)) F hr hlk hP hS rfl ((if_neg (fun q => c_21 q.2.2)).symm) dX6_price_40
      · have c_21 : 0 ≤ x3 ∧ x3 ≤ 99 := b01t rfl c_21
        refine lv_aload_n F.1 F.2.1 dX6_price_24 rfl (lv_at hl 0 rfl) ?_
        refine lv_iload_n F.1 F.2.1 dX6_price_25 rfl (lv_at hl 1 rfl) ?_
        refine lv_iload_n F.1 F.2.1 dX6_price_26 rfl (lv_at hl 2 rfl) ?_
        refine lv_iload_n F.1 F.2.1 dX6_price_27 rfl (lv_at hl 3 rfl) ?_
        refine iV (rest := []) (wsp := fun _ => oM a v :: ai ct (a 1) 210 f :: [ai ct (a 4) 8 c]) F (kX6_priceFor l dC dI ct a v f s t x3 (by omega) (by omega)) gX6_price_X6_priceFor rfl ⟨rfl, rfl⟩ nmX6_priceFor ⟨Nat.le_of_ble_eq_true rfl, Nat.le_of_ble_eq_true rfl⟩ eT_b (fun _ _ _ => trivial) hK hP hD hS hA 0 rfl rfl rfl [0, 1] (by decide) rfl rfl rfl hl.1 (Nat.le_of_ble_eq_true rfl) dX6_price_28 ⟨Nat.zero_le _, Nat.zero_le _⟩ (fun _ => rfl) (fun _ => rfl) [a 0, a 1, a 4] rfl (fun _ => rfl) (fun r_28 u_28 H locs e_28 hP hD hS => ?_)
        obtain rfl := e_28
        refine lv_goto (tgt := 40) F.1 F.2.1 dX6_price_31 (by decide) ?_
        exact rtI (f, c) F hr hlk hP hS rfl (Eq.trans (by rw [show tn (nI s) = s from nI_clamp (by omega), show tn (nI t) = t from nI_clamp (by omega)]; try exact rfl) (if_pos ⟨c_4, c_11, c_21⟩).symm) dX6_price_40

def rmX6_value : Room := { frames := 5, cells := 0, slots := 0, locals := 114 }
theorem nmX6_value : NmV yX6_value RX6 2 := by unfold NmV; decide +kernel
set_option maxHeartbeats 4000000 in
set_option maxRecDepth 100000 in
theorem kX6_value (l : Launch) (dC : Nat → ClassId) (dI : Nat → Nat → Nat) (ct : Nat → ClassId) (a : Nat → Nat) (v f c : Nat → Int32) (x1 x2 : Int32) : MI (S := (Nat → Int32) × (Nat → Int32)) l yX6_value wsX6_value rmX6_value dC dI ct eT [.ref (a 0), .int x1, .int x2] (oM a v :: ai ct (a 1) 210 f :: [ai ct (a 4) 8 c]) (fun u => oM a v :: ai ct (a 1) 210 u.1 :: [ai ct (a 4) 8 u.2]) (fun r u => (r, u.1, u.2) = sValue f c x1 x2) := by
  refine MI.of (cc := cX6_value) (maxL := 3) (ret := (some .int)) (by decide) rfl (Nat.le_of_ble_eq_true rfl) ?_
  intro pg en z mi below meth cd A F hr hlk hin hK hP hD hA hS hE ls hl
  have F : CallFix pg mi cd cX6_value 3 z _ wsX6_value RX6 := F
  have hl : lv_has ls 3 [(0, .ref (a 0)), (1, .int x1), (2, .int x2)] := hl
  refine lv_iload_n F.1 F.2.1 dX6_value_0 rfl (lv_at hl 1 rfl) ?_
  refine iS (rest := []) (wsp := fun _ => oM a v :: ai ct (a 1) 210 f :: [ai ct (a 4) 8 c]) F (kX6_isSide l dC dI ct x1) gX6_value_X6_isSide rfl ⟨rfl, rfl⟩ nmX6_isSide ⟨Nat.le_of_ble_eq_true rfl, Nat.le_of_ble_eq_true rfl⟩ eT_b (fun _ _ _ => trivial) hK hP hD hS hA [] (by decide) rfl rfl rfl hl.1 (Nat.le_of_ble_eq_true rfl) dX6_value_1 ⟨Nat.zero_le _, Nat.zero_le _⟩ (fun _ => rfl) (fun _ => rfl) [a 0, a 1, a 4] rfl (fun _ => rfl) (fun r_1 u_1 H locs e_1 hP hD hS => ?_)
  obtain rfl := e_1
  refine lv_if_eq (tgt := 23) F.1 F.2.1 dX6_value_4 (by decide) (fun c_4 => ?_) (fun c_4 => ?_)
  · have c_4 : ¬ (0 ≤ x1 ∧ x1 ≤ 1) := b01f rfl c_4
    refine lv_aload_n F.1 F.2.1 dX6_value_23 rfl (lv_at hl 0 rfl) ?_
    refine lv_ldc (v := (-1000001)) F.1 F.2.1 F.2.2.2.1 (F.2.2.2.2 _ (List.mem_of_getElem? (i := 1) rfl)) dX6_value_24 ?_
    refine iV (rest := []) (wsp := fun _ => oM a v :: ai ct (a 1) 210 f :: [ai ct (a 4) 8 (fnd c 1)]) F (kX6_finding l dC dI ct a v c (-1000001) 1 (by decide) (by decide) (by decide)) gX6_value_X6_finding rfl ⟨rfl, rfl⟩ nmX6_finding ⟨Nat.le_of_ble_eq_true rfl, Nat.le_of_ble_eq_true rfl⟩ eT_b (fun _ _ _ => trivial) hK hP hD hS hA 0 rfl rfl rfl [0, 2] (by decide) rfl rfl rfl hl.1 (Nat.le_of_ble_eq_true rfl) dX6_value_26 ⟨Nat.zero_le _, Nat.zero_le _⟩ (fun _ => rfl) (fun _ => rfl) [a 0, a 1, a 4] rfl (fun _ => rfl) (fun r_26 u_26 H locs e_26 hP hD hS => ?_)
    obtain rfl := e_26
    exact rtI (f, (fnd c 1)) F hr hlk hP hS rfl ((if_neg (fun q => c_4 q.1)).symm) dX6_value_29
  · have c_4 : 0 ≤ x1 ∧ x1 ≤ 1 := b01t rfl c_4
    obtain ⟨s, hs, rfl⟩ := gS_n c_4
    refine lv_iload_n F.1 F.2.1 dX6_value_7 rfl (lv_at hl 2 rfl) ?_
    refine iS (rest := []) (wsp := fun _ => oM a v :: ai ct (a 1) 210 f :: [ai ct (a 4) 8 c]) F (kX6_isSide l dC dI ct x2) gX6_value_X6_isSide rfl ⟨rfl, rfl⟩ nmX6_isSide ⟨Nat.le_of_ble_eq_true rfl, Nat.le_of_ble_eq_true rfl⟩ eT_b (fun _ _ _ => trivial) hK hP hD hS hA [] (by decide) rfl rfl rfl hl.1 (Nat.le_of_ble_eq_true rfl) dX6_value_8 ⟨Nat.zero_le _, Nat.zero_le _⟩ (fun _ => rfl) (fun _ => rfl) [a 0, a 1, a 4] rfl (fun _ => rfl) (fun r_8 u_8 H locs e_8 hP hD hS => ?_)
    obtain rfl := e_8
    refine lv_if_eq (tgt := 23) F.1 F.2.1 dX6_value_11 (by decide) (fun c_11 => ?_) (fun c_11 => ?_)
    · have c_11 : ¬ (0 ≤ x2 ∧ x2 ≤ 1) := b01f rfl c_11
      refine lv_aload_n F.1 F.2.1 dX6_value_23 rfl (lv_at hl 0 rfl) ?_
      refine lv_ldc (v := (-1000001)) F.1 F.2.1 F.2.2.2.1 (F.2.2.2.2 _ (List.mem_of_getElem? (i := 1) rfl)) dX6_value_24 ?_
      refine iV (rest := []) (wsp := fun _ => oM a v :: ai ct (a 1) 210 f :: [ai ct (a 4) 8 (fnd c 1)]) F (kX6_finding l dC dI ct a v c (-1000001) 1 (by decide) (by decide) (by decide)) gX6_value_X6_finding rfl ⟨rfl, rfl⟩ nmX6_finding ⟨Nat.le_of_ble_eq_true rfl, Nat.le_of_ble_eq_true rfl⟩ eT_b (fun _ _ _ => trivial) hK hP hD hS hA 0 rfl rfl rfl [0, 2] (by decide) rfl rfl rfl hl.1 (Nat.le_of_ble_eq_true rfl) dX6_value_26 ⟨Nat.zero_le _, Nat.zero_le _⟩ (fun _ => rfl) (fun _ => rfl) [a 0, a 1, a 4] rfl (fun _ => rfl) (fun r_26 u_26 H locs e_26 hP hD hS => ?_)
      obtain rfl := e_26
      exact rtI (f, (fnd c 1)) F hr hlk hP hS rfl ((if_neg (fun q => c_11 q.2)).symm) dX6_value_29
    · have c_11 : 0 ≤ x2 ∧ x2 ≤ 1 := b01t rfl c_11
      obtain ⟨h, hh, rfl⟩ := gS_n c_11
      refine lv_aload_n F.1 F.2.1 dX6_value_14 rfl (lv_at hl 0 rfl) ?_
      refine lv_iload_n F.1 F.2.1 dX6_value_15 rfl (lv_at hl 1 rfl) ?_
      refine lv_iload_n F.1 F.2.1 dX6_value_16 rfl (lv_at hl 2 rfl) ?_
      refine iV (rest := []) (wsp := fun _ => oM a v :: ai ct (a 1) 210 f :: [ai ct (a 4) 8 c]) F (kX6_valueFor l dC dI ct a v f s h (by omega) (by omega)) gX6_value_X6_valueFor rfl ⟨rfl, rfl⟩ nmX6_valueFor ⟨Nat.le_of_ble_eq_true rfl, Nat.le_of_ble_eq_true rfl⟩ eT_b (fun _ _ _ => trivial) hK hP hD hS hA 0 rfl rfl rfl [0, 1] (by decide) rfl rfl rfl hl.1 (Nat.le_of_ble_eq_true rfl) dX6_value_17 ⟨Nat.zero_le _, Nat.zero_le _⟩ (fun _ => rfl) (fun _ => rfl) [a 0, a 1, a 4] rfl (fun _ => rfl) (fun r_17 u_17 H locs e_17 hP hD hS => ?_)
      obtain rfl := e_17
      refine lv_goto (tgt := 29) F.1 F.2.1 dX6_value_20 (by decide) ?_
      exact rtI (f, c) F hr hlk hP hS rfl (Eq.trans (by rw [show tn (nI s) = s from nI_clamp (by omega), show tn (nI h) = h from nI_clamp (by omega)]; try exact rfl) (if_pos ⟨c_4, c_11⟩).symm) dX6_value_29

def rmX6_eaten : Room := { frames := 2, cells := 0, slots := 0, locals := 44 }
theorem nmX6_eaten : NmV yX6_eaten RX6 2 := by unfold NmV; decide +kernel
set_option maxHeartbeats 4000000 in
set_option maxRecDepth 100000 in
theorem kX6_eaten (l : Launch) (dC : Nat → ClassId) (dI : Nat → Nat → Nat) (ct : Nat → ClassId) (a : Nat → Nat) (v f c : Nat → Int32) (x1 x2 : Int32) : MI (S := (Nat → Int32) × (Nat → Int32)) l yX6_eaten wsX6_eaten rmX6_eaten dC dI ct eT [.ref (a 0), .int x1, .int x2] (oM a v :: ai ct (a 1) 210 f :: [ai ct (a 4) 8 c]) (fun u => oM a v :: ai ct (a 1) 210 u.1 :: [ai ct (a 4) 8 u.2]) (fun r u => (r, u.1, u.2) = sEaten f c x1 x2) := by
  refine MI.of (cc := cX6_eaten) (maxL := 3) (ret := (some .int)) (by decide) rfl (Nat.le_of_ble_eq_true rfl) ?_
  intro pg en z mi below meth cd A F hr hlk hin hK hP hD hA hS hE ls hl
  have F : CallFix pg mi cd cX6_eaten 3 z _ wsX6_eaten RX6 := F
  have hl : lv_has ls 3 [(0, .ref (a 0)), (1, .int x1), (2, .int x2)] := hl
  refine lv_iload_n F.1 F.2.1 dX6_eaten_0 rfl (lv_at hl 1 rfl) ?_
  refine iS (rest := []) (wsp := fun _ => oM a v :: ai ct (a 1) 210 f :: [ai ct (a 4) 8 c]) F (kX6_isThing l dC dI ct x1) gX6_eaten_X6_isThing rfl ⟨rfl, rfl⟩ nmX6_isThing ⟨Nat.le_of_ble_eq_true rfl, Nat.le_of_ble_eq_true rfl⟩ eT_b (fun _ _ _ => trivial) hK hP hD hS hA [] (by decide) rfl rfl rfl hl.1 (Nat.le_of_ble_eq_true rfl) dX6_eaten_1 ⟨Nat.zero_le _, Nat.zero_le _⟩ (fun _ => rfl) (fun _ => rfl) [a 0, a 1, a 4] rfl (fun _ => rfl) (fun r_1 u_1 H locs e_1 hP hD hS => ?_)
  obtain rfl := e_1
  refine lv_if_eq (tgt := 26) F.1 F.2.1 dX6_eaten_4 (by decide) (fun c_4 => ?_) (fun c_4 => ?_)
  · have c_4 : ¬ (0 ≤ x1 ∧ x1 ≤ 4) := b01f rfl c_4
    refine lv_aload_n F.1 F.2.1 dX6_eaten_26 rfl (lv_at hl 0 rfl) ?_
    refine lv_ldc (v := (-1000001)) F.1 F.2.1 F.2.2.2.1 (F.2.2.2.2 _ (List.mem_of_getElem? (i := 1) rfl)) dX6_eaten_27 ?_
    refine iV (rest := []) (wsp := fun _ => oM a v :: ai ct (a 1) 210 f :: [ai ct (a 4) 8 (fnd c 1)]) F (kX6_finding l dC dI ct a v c (-1000001) 1 (by decide) (by decide) (by decide)) gX6_eaten_X6_finding rfl ⟨rfl, rfl⟩ nmX6_finding ⟨Nat.le_of_ble_eq_true rfl, Nat.le_of_ble_eq_true rfl⟩ eT_b (fun _ _ _ => trivial) hK hP hD hS hA 0 rfl rfl rfl [0, 2] (by decide) rfl rfl rfl hl.1 (Nat.le_of_ble_eq_true rfl) dX6_eaten_29 ⟨Nat.zero_le _, Nat.zero_le _⟩ (fun _ => rfl) (fun _ => rfl) [a 0, a 1, a 4] rfl (fun _ => rfl) (fun r_29 u_29 H locs e_29 hP hD hS => ?_)
    obtain rfl := e_29
    exact rtI (f, (fnd c 1)) F hr hlk hP hS rfl ((if_neg (fun q => c_4 q.1)).symm) dX6_eaten_32
  · have c_4 : 0 ≤ x1 ∧ x1 ≤ 4 := b01t rfl c_4
    obtain ⟨t, ht, rfl⟩ := gT_n c_4
    refine lv_iload_n F.1 F.2.1 dX6_eaten_7 rfl (lv_at hl 2 rfl) ?_
    refine lv_iconst (v := 0) F.1 F.2.1 dX6_eaten_8 (by decide) ?_
    refine lv_bipush (v := 99) F.1 F.2.1 dX6_eaten_9 (by decide) ?_
    refine iS (rest := []) (wsp := fun _ => oM a v :: ai ct (a 1) 210 f :: [ai ct (a 4) 8 c]) F (kX6_within l dC dI ct x2 0 99) gX6_eaten_X6_within rfl ⟨rfl, rfl⟩ nmX6_within ⟨Nat.le_of_ble_eq_true rfl, Nat.le_of_ble_eq_true rfl⟩ eT_b (fun _ _ _ => trivial) hK hP hD hS hA [] (by decide) rfl rfl rfl hl.1 (Nat.le_of_ble_eq_true rfl) dX6_eaten_11 ⟨Nat.zero_le _, Nat.zero_le _⟩ (fun _ => rfl) (fun _ => rfl) [a 0, a 1, a 4] rfl (fun _ => rfl) (fun r_11 u_11 H locs e_11 hP hD hS => ?_)
    obtain rfl := e_11
    refine lv_if_eq (tgt := 26) F.1 F.2.1 dX6_eaten_14 (by decide) (fun c_14 => ?_) (fun c_14 => ?_)
    · have c_14 : ¬ (0 ≤ x2 ∧ x2 ≤ 99) := b01f rfl c_14
      refine lv_aload_n F.1 F.2.1 dX6_eaten_26 rfl (lv_at hl 0 rfl) ?_
      refine lv_ldc (v := (-1000001)) F.1 F.2.1 F.2.2.2.1 (F.2.2.2.2 _ (List.mem_of_getElem? (i := 1) rfl)) dX6_eaten_27 ?_
      refine iV (rest := []) (wsp := fun _ => oM a v :: ai ct (a 1) 210 f :: [ai ct (a 4) 8 (fnd c 1)]) F (kX6_finding l dC dI ct a v c (-1000001) 1 (by decide) (by decide) (by decide)) gX6_eaten_X6_finding rfl ⟨rfl, rfl⟩ nmX6_finding ⟨Nat.le_of_ble_eq_true rfl, Nat.le_of_ble_eq_true rfl⟩ eT_b (fun _ _ _ => trivial) hK hP hD hS hA 0 rfl rfl rfl [0, 2] (by decide) rfl rfl rfl hl.1 (Nat.le_of_ble_eq_true rfl) dX6_eaten_29 ⟨Nat.zero_le _, Nat.zero_le _⟩ (fun _ => rfl) (fun _ => rfl) [a 0, a 1, a 4] rfl (fun _ => rfl) (fun r_29 u_29 H locs e_29 hP hD hS => ?_)
      obtain rfl := e_29
      exact rtI (f, (fnd c 1)) F hr hlk hP hS rfl ((if_neg (fun q => c_14 q.2)).symm) dX6_eaten_32
    · have c_14 : 0 ≤ x2 ∧ x2 ≤ 99 := b01t rfl c_14
      refine lv_aload_n F.1 F.2.1 dX6_eaten_17 rfl (lv_at hl 0 rfl) ?_
      refine lv_iload_n F.1 F.2.1 dX6_eaten_18 rfl (lv_at hl 1 rfl) ?_
      refine lv_iload_n F.1 F.2.1 dX6_eaten_19 rfl (lv_at hl 2 rfl) ?_
      refine iV (rest := []) (wsp := fun _ => oM a v :: ai ct (a 1) 210 f :: [ai ct (a 4) 8 c]) F (kX6_eatenOf l dC dI ct a v f t x2 (by omega)) gX6_eaten_X6_eatenOf rfl ⟨rfl, rfl⟩ nmX6_eatenOf ⟨Nat.le_of_ble_eq_true rfl, Nat.le_of_ble_eq_true rfl⟩ eT_b (fun _ _ _ => trivial) hK hP hD hS hA 0 rfl rfl rfl [0, 1] (by decide) rfl rfl rfl hl.1 (Nat.le_of_ble_eq_true rfl) dX6_eaten_20 ⟨Nat.zero_le _, Nat.zero_le _⟩ (fun _ => rfl) (fun _ => rfl) [a 0, a 1, a 4] rfl (fun _ => rfl) (fun r_20 u_20 H locs e_20 hP hD hS => ?_)
      obtain rfl := e_20
      refine lv_goto (tgt := 32) F.1 F.2.1 dX6_eaten_23 (by decide) ?_
      exact rtI (f, c) F hr hlk hP hS rfl (Eq.trans (by rw [show tn (nI t) = t from nI_clamp (by omega)]; try exact rfl) (if_pos ⟨c_4, c_14⟩).symm) dX6_eaten_32

def rmX6_lay : Room := { frames := 3, cells := 0, slots := 0, locals := 66 }
theorem nmX6_lay : NmV yX6_lay RX6 3 := by unfold NmV; decide +kernel
set_option maxHeartbeats 4000000 in
set_option maxRecDepth 100000 in
theorem kX6_lay (l : Launch) (dC : Nat → ClassId) (dI : Nat → Nat → Nat) (ct : Nat → ClassId) (a : Nat → Nat) (v f c : Nat → Int32) (x1 x2 x3 : Int32) : MI (S := (Nat → Int32) × (Nat → Int32)) l yX6_lay wsX6_lay rmX6_lay dC dI ct eT [.ref (a 0), .int x1, .int x2, .int x3] (oM a v :: ai ct (a 1) 210 f :: [ai ct (a 4) 8 c]) (fun u => oM a v :: ai ct (a 1) 210 u.1 :: [ai ct (a 4) 8 u.2]) (fun r u => (r, u.1, u.2) = sLay f c x1 x2 x3) := by
  refine MI.of (cc := cX6_lay) (maxL := 4) (ret := (some .int)) (by decide) rfl (Nat.le_of_ble_eq_true rfl) ?_
  intro pg en z mi below meth cd A F hr hlk hin hK hP hD hA hS hE ls hl
  have F : CallFix pg mi cd cX6_lay 4 z _ wsX6_lay RX6 := F
  have hl : lv_has ls 4 [(0, .ref (a 0)), (1, .int x1), (2, .int x2), (3, .int x3)] := hl
  refine lv_iload_n F.1 F.2.1 dX6_lay_0 rfl (lv_at hl 1 rfl) ?_
  refine lv_iload_n F.1 F.2.1 dX6_lay_1 rfl (lv_at hl 2 rfl) ?_
  refine lv_iload_n F.1 F.2.1 dX6_lay_2 rfl (lv_at hl 3 rfl) ?_
  refine iS (rest := []) (wsp := fun _ => oM a v :: ai ct (a 1) 210 f :: [ai ct (a 4) 8 c]) F (kX6_areGood l dC dI ct x1 x2 x3) gX6_lay_X6_areGood rfl ⟨rfl, rfl⟩ nmX6_areGood ⟨Nat.le_of_ble_eq_true rfl, Nat.le_of_ble_eq_true rfl⟩ eT_b (fun _ _ _ => trivial) hK hP hD hS hA [] (by decide) rfl rfl rfl hl.1 (Nat.le_of_ble_eq_true rfl) dX6_lay_3 ⟨Nat.zero_le _, Nat.zero_le _⟩ (fun _ => rfl) (fun _ => rfl) [a 0, a 1, a 4] rfl (fun _ => rfl) (fun r_3 u_3 H locs e_3 hP hD hS => ?_)
  obtain rfl := e_3
  refine lv_if_ne (tgt := 16) F.1 F.2.1 dX6_lay_6 (by decide) (fun c_6 => ?_) (fun c_6 => ?_)
  · have c_6 : (0 ≤ x1 ∧ x1 ≤ 1) ∧ (0 ≤ x2 ∧ x2 ≤ 4) ∧ 1 ≤ x3 ∧ x3 ≤ 99 := b01t rfl c_6
    obtain ⟨s, hs, rfl⟩ := gS_n c_6.1
    obtain ⟨t, ht, rfl⟩ := gT_n c_6.2.1
    refine lv_aload_n F.1 F.2.1 dX6_lay_16 rfl (lv_at hl 0 rfl) ?_
    refine lv_iload_n F.1 F.2.1 dX6_lay_17 rfl (lv_at hl 1 rfl) ?_
    refine lv_iload_n F.1 F.2.1 dX6_lay_18 rfl (lv_at hl 2 rfl) ?_
    refine lv_iload_n F.1 F.2.1 dX6_lay_19 rfl (lv_at hl 3 rfl) ?_
    refine iV (rest := []) (wsp := fun _ => oM a v :: ai ct (a 1) 210 f :: [ai ct (a 4) 8 c]) F (kX6_mayLay l dC dI ct a v f s t x3 (by omega) (by omega)) gX6_lay_X6_mayLay rfl ⟨rfl, rfl⟩ nmX6_mayLay ⟨Nat.le_of_ble_eq_true rfl, Nat.le_of_ble_eq_true rfl⟩ eT_b (fun _ _ _ => trivial) hK hP hD hS hA 0 rfl rfl rfl [0, 1] (by decide) rfl rfl rfl hl.1 (Nat.le_of_ble_eq_true rfl) dX6_lay_20 ⟨Nat.zero_le _, Nat.zero_le _⟩ (fun _ => rfl) (fun _ => rfl) [a 0, a 1, a 4] rfl (fun _ => rfl) (fun r_20 u_20 H locs e_20 hP hD hS => ?_)
    obtain rfl := e_20
    refine lv_if_eq (tgt := 36) F.1 F.2.1 dX6_lay_23 (by decide) (fun c_23 => ?_) (fun c_23 => ?_)
    · have c_23 : ¬ (may f s t x3) := b01f rfl c_23
      refine lv_aload_n F.1 F.2.1 dX6_lay_36 rfl (lv_at hl 0 rfl) ?_
      refine lv_ldc (v := (-1000005)) F.1 F.2.1 F.2.2.2.1 (F.2.2.2.2 _ (List.mem_of_getElem? (i := 2) rfl)) dX6_lay_37 ?_
      refine iV (rest := []) (wsp := fun _ => oM a v :: ai ct (a 1) 210 f :: [ai ct (a 4) 8 (fnd c 5)]) F (kX6_finding l dC dI ct a v c (-1000005) 5 (by decide) (by decide) (by decide)) gX6_lay_X6_finding rfl ⟨rfl, rfl⟩ nmX6_finding ⟨Nat.le_of_ble_eq_true rfl, Nat.le_of_ble_eq_true rfl⟩ eT_b (fun _ _ _ => trivial) hK hP hD hS hA 0 rfl rfl rfl [0, 2] (by decide) rfl rfl rfl hl.1 (Nat.le_of_ble_eq_true rfl) dX6_lay_39 ⟨Nat.zero_le _, Nat.zero_le _⟩ (fun _ => rfl) (fun _ => rfl) [a 0, a 1, a 4] rfl (fun _ => rfl) (fun r_39 u_39 H locs e_39 hP hD hS => ?_)
      obtain rfl := e_39
      exact rtI (f, (fnd c 5)) F hr hlk hP hS rfl (Eq.trans (by rw [show tn (nI s) = s from nI_clamp (by omega), show tn (nI t) = t from nI_clamp (by omega)]; try exact (if_neg c_23).symm) (if_pos c_6).symm) dX6_lay_42
    · have c_23 : may f s t x3 := b01t rfl c_23
      refine lv_aload_n F.1 F.2.1 dX6_lay_26 rfl (lv_at hl 0 rfl) ?_
      refine lv_iload_n F.1 F.2.1 dX6_lay_27 rfl (lv_at hl 1 rfl) ?_
      refine lv_iload_n F.1 F.2.1 dX6_lay_28 rfl (lv_at hl 2 rfl) ?_
      refine lv_iload_n F.1 F.2.1 dX6_lay_29 rfl (lv_at hl 3 rfl) ?_
      refine iV (rest := []) (wsp := fun _ => oM a v :: ai ct (a 1) 210 (laid f s t x3) :: [ai ct (a 4) 8 c]) F (kX6_laid l dC dI ct a v f s t x3 (by omega) (by omega)) gX6_lay_X6_laid rfl ⟨rfl, rfl⟩ nmX6_laid ⟨Nat.le_of_ble_eq_true rfl, Nat.le_of_ble_eq_true rfl⟩ eT_b (fun _ _ _ => trivial) hK hP hD hS hA 0 rfl rfl rfl [0, 1] (by decide) rfl rfl rfl hl.1 (Nat.le_of_ble_eq_true rfl) dX6_lay_30 ⟨Nat.zero_le _, Nat.zero_le _⟩ (fun _ => rfl) (fun _ => rfl) [a 0, a 1, a 4] rfl (fun _ => rfl) (fun r_30 u_30 H locs e_30 hP hD hS => ?_)
      obtain rfl := e_30
      refine tp (y := f (27 + 17 * s + t) + x3) pk_us ?_
      refine lv_goto (tgt := 42) F.1 F.2.1 dX6_lay_33 (by decide) ?_
      exact rtI ((laid f s t x3), c) F hr hlk hP hS rfl (Eq.trans (by rw [show tn (nI s) = s from nI_clamp (by omega), show tn (nI t) = t from nI_clamp (by omega)]; try exact (if_pos c_23).symm) (if_pos c_6).symm) dX6_lay_42
  · have c_6 : ¬ ((0 ≤ x1 ∧ x1 ≤ 1) ∧ (0 ≤ x2 ∧ x2 ≤ 4) ∧ 1 ≤ x3 ∧ x3 ≤ 99) := b01f rfl c_6
    refine lv_aload_n F.1 F.2.1 dX6_lay_9 rfl (lv_at hl 0 rfl) ?_
    refine lv_ldc (v := (-1000001)) F.1 F.2.1 F.2.2.2.1 (F.2.2.2.2 _ (List.mem_of_getElem? (i := 1) rfl)) dX6_lay_10 ?_
    refine iV (rest := []) (wsp := fun _ => oM a v :: ai ct (a 1) 210 f :: [ai ct (a 4) 8 (fnd c 1)]) F (kX6_finding l dC dI ct a v c (-1000001) 1 (by decide) (by decide) (by decide)) gX6_lay_X6_finding rfl ⟨rfl, rfl⟩ nmX6_finding ⟨Nat.le_of_ble_eq_true rfl, Nat.le_of_ble_eq_true rfl⟩ eT_b (fun _ _ _ => trivial) hK hP hD hS hA 0 rfl rfl rfl [0, 2] (by decide) rfl rfl rfl hl.1 (Nat.le_of_ble_eq_true rfl) dX6_lay_12 ⟨Nat.zero_le _, Nat.zero_le _⟩ (fun _ => rfl) (fun _ => rfl) [a 0, a 1, a 4] rfl (fun _ => rfl) (fun r_12 u_12 H locs e_12 hP hD hS => ?_)
    obtain rfl := e_12
    exact rtI (f, (fnd c 1)) F hr hlk hP hS rfl ((if_neg (fun q => c_6 q)).symm) dX6_lay_15

def rmX6_back : Room := { frames := 3, cells := 0, slots := 0, locals := 66 }
theorem nmX6_back : NmV yX6_back RX6 3 := by unfold NmV; decide +kernel
set_option maxHeartbeats 4000000 in
set_option maxRecDepth 100000 in
theorem kX6_back (l : Launch) (dC : Nat → ClassId) (dI : Nat → Nat → Nat) (ct : Nat → ClassId) (a : Nat → Nat) (v f c : Nat → Int32) (x1 x2 x3 : Int32) : MI (S := (Nat → Int32) × (Nat → Int32)) l yX6_back wsX6_back rmX6_back dC dI ct eT [.ref (a 0), .int x1, .int x2, .int x3] (oM a v :: ai ct (a 1) 210 f :: [ai ct (a 4) 8 c]) (fun u => oM a v :: ai ct (a 1) 210 u.1 :: [ai ct (a 4) 8 u.2]) (fun r u => (r, u.1, u.2) = sBack f c x1 x2 x3) := by
  refine MI.of (cc := cX6_back) (maxL := 5) (ret := (some .int)) (by decide) rfl (Nat.le_of_ble_eq_true rfl) ?_
  intro pg en z mi below meth cd A F hr hlk hin hK hP hD hA hS hE ls hl
  have F : CallFix pg mi cd cX6_back 5 z _ wsX6_back RX6 := F
  have hl : lv_has ls 5 [(0, .ref (a 0)), (1, .int x1), (2, .int x2), (3, .int x3)] := hl
  refine lv_iload_n F.1 F.2.1 dX6_back_0 rfl (lv_at hl 1 rfl) ?_
  refine lv_iload_n F.1 F.2.1 dX6_back_1 rfl (lv_at hl 2 rfl) ?_
  refine lv_iload_n F.1 F.2.1 dX6_back_2 rfl (lv_at hl 3 rfl) ?_
  refine iS (rest := []) (wsp := fun _ => oM a v :: ai ct (a 1) 210 f :: [ai ct (a 4) 8 c]) F (kX6_areGood l dC dI ct x1 x2 x3) gX6_back_X6_areGood rfl ⟨rfl, rfl⟩ nmX6_areGood ⟨Nat.le_of_ble_eq_true rfl, Nat.le_of_ble_eq_true rfl⟩ eT_b (fun _ _ _ => trivial) hK hP hD hS hA [] (by decide) rfl rfl rfl hl.1 (Nat.le_of_ble_eq_true rfl) dX6_back_3 ⟨Nat.zero_le _, Nat.zero_le _⟩ (fun _ => rfl) (fun _ => rfl) [a 0, a 1, a 4] rfl (fun _ => rfl) (fun r_3 u_3 H locs e_3 hP hD hS => ?_)
  obtain rfl := e_3
  refine lv_if_ne (tgt := 16) F.1 F.2.1 dX6_back_6 (by decide) (fun c_6 => ?_) (fun c_6 => ?_)
  · have c_6 : (0 ≤ x1 ∧ x1 ≤ 1) ∧ (0 ≤ x2 ∧ x2 ≤ 4) ∧ 1 ≤ x3 ∧ x3 ≤ 99 := b01t rfl c_6
    obtain ⟨s, hs, rfl⟩ := gS_n c_6.1
    obtain ⟨t, ht, rfl⟩ := gT_n c_6.2.1
    refine lv_aload_n F.1 F.2.1 dX6_back_16 rfl (lv_at hl 0 rfl) ?_
    refine lv_iload_n F.1 F.2.1 dX6_back_17 rfl (lv_at hl 1 rfl) ?_
    refine lv_bipush (v := 7) F.1 F.2.1 dX6_back_18 (by decide) ?_
    refine lv_iload_n F.1 F.2.1 dX6_back_20 rfl (lv_at hl 2 rfl) ?_
    refine lv_iadd F.1 F.2.1 dX6_back_21 ?_
    refine tp (y := nI (7 + t)) (ad2 (a := 7) (b := t) (c := 7 + t) rfl rfl rfl) ?_
    refine iV (rest := []) (wsp := fun _ => oM a v :: ai ct (a 1) 210 f :: [ai ct (a 4) 8 c]) F (kX6_sideIs l dC dI ct a v f s (7 + t) (27 + 17 * s + t) (by omega) (by omega)) gX6_back_X6_sideIs rfl ⟨rfl, rfl⟩ nmX6_sideIs ⟨Nat.le_of_ble_eq_true rfl, Nat.le_of_ble_eq_true rfl⟩ eT_b (fun _ _ _ => trivial) hK hP hD hS hA 0 rfl rfl rfl [0, 1] (by decide) rfl rfl rfl hl.1 (Nat.le_of_ble_eq_true rfl) dX6_back_22 ⟨Nat.zero_le _, Nat.zero_le _⟩ (fun _ => rfl) (fun _ => rfl) [a 0, a 1, a 4] rfl (fun _ => rfl) (fun r_22 u_22 H locs e_22 hP hD hS => ?_)
    obtain rfl := e_22
    refine lv_iload_n F.1 F.2.1 dX6_back_25 rfl (lv_at hl 3 rfl) ?_
    refine lv_icmp_lt (tgt := 48) F.1 F.2.1 dX6_back_26 (by decide) (fun c_26 => ?_) (fun c_26 => ?_)
    · refine lv_iconst (v := 0) F.1 F.2.1 dX6_back_48 (by decide) ?_
      refine lv_istore (lv' := [(4, .int 0), (0, .ref (a 0)), (1, .int (nI s)), (2, .int (nI t)), (3, .int x3)]) F.1 F.2.1 dX6_back_49 hl (by decide) rfl (fun ls hl => ?_)
      refine lv_iload F.1 F.2.1 dX6_back_51 (lv_at hl 0 rfl) ?_
      refine lv_if_eq (tgt := 67) F.1 F.2.1 dX6_back_53 (by decide) (fun c_53 => ?_) (fun c_53 => ?_)
      · refine lv_aload_n F.1 F.2.1 dX6_back_67 rfl (lv_at hl 1 rfl) ?_
        refine lv_ldc (v := (-1000005)) F.1 F.2.1 F.2.2.2.1 (F.2.2.2.2 _ (List.mem_of_getElem? (i := 2) rfl)) dX6_back_68 ?_
        refine iV (rest := []) (wsp := fun _ => oM a v :: ai ct (a 1) 210 f :: [ai ct (a 4) 8 (fnd c 5)]) F (kX6_finding l dC dI ct a v c (-1000005) 5 (by decide) (by decide) (by decide)) gX6_back_X6_finding rfl ⟨rfl, rfl⟩ nmX6_finding ⟨Nat.le_of_ble_eq_true rfl, Nat.le_of_ble_eq_true rfl⟩ eT_b (fun _ _ _ => trivial) hK hP hD hS hA 0 rfl rfl rfl [0, 2] (by decide) rfl rfl rfl hl.1 (Nat.le_of_ble_eq_true rfl) dX6_back_70 ⟨Nat.zero_le _, Nat.zero_le _⟩ (fun _ => rfl) (fun _ => rfl) [a 0, a 1, a 4] rfl (fun _ => rfl) (fun r_70 u_70 H locs e_70 hP hD hS => ?_)
        obtain rfl := e_70
        exact rtI (f, (fnd c 5)) F hr hlk hP hS rfl (Eq.trans (by rw [show tn (nI s) = s from nI_clamp (by omega), show tn (nI t) = t from nI_clamp (by omega)]; try exact (if_neg (fun q => Int32.not_lt.mpr q.1 c_26)).symm) (if_pos c_6).symm) dX6_back_73
      · exact absurd rfl c_53
    · refine lv_aload_n F.1 F.2.1 dX6_back_29 rfl (lv_at hl 0 rfl) ?_
      refine lv_iload_n F.1 F.2.1 dX6_back_30 rfl (lv_at hl 1 rfl) ?_
      refine lv_iconst (v := 2) F.1 F.2.1 dX6_back_31 (by decide) ?_
      refine lv_iload_n F.1 F.2.1 dX6_back_32 rfl (lv_at hl 2 rfl) ?_
      refine lv_iadd F.1 F.2.1 dX6_back_33 ?_
      refine tp (y := nI (2 + t)) (ad2 (a := 2) (b := t) (c := 2 + t) rfl rfl rfl) ?_
      refine iV (rest := []) (wsp := fun _ => oM a v :: ai ct (a 1) 210 f :: [ai ct (a 4) 8 c]) F (kX6_sideIs l dC dI ct a v f s (2 + t) (22 + 17 * s + t) (by omega) (by omega)) gX6_back_X6_sideIs rfl ⟨rfl, rfl⟩ nmX6_sideIs ⟨Nat.le_of_ble_eq_true rfl, Nat.le_of_ble_eq_true rfl⟩ eT_b (fun _ _ _ => trivial) hK hP hD hS hA 0 rfl rfl rfl [0, 1] (by decide) rfl rfl rfl hl.1 (Nat.le_of_ble_eq_true rfl) dX6_back_34 ⟨Nat.zero_le _, Nat.zero_le _⟩ (fun _ => rfl) (fun _ => rfl) [a 0, a 1, a 4] rfl (fun _ => rfl) (fun r_34 u_34 H locs e_34 hP hD hS => ?_)
      obtain rfl := e_34
      refine lv_iload_n F.1 F.2.1 dX6_back_37 rfl (lv_at hl 3 rfl) ?_
      refine lv_iadd F.1 F.2.1 dX6_back_38 ?_
      refine lv_bipush (v := 99) F.1 F.2.1 dX6_back_39 (by decide) ?_
      refine lv_icmp_gt (tgt := 48) F.1 F.2.1 dX6_back_41 (by decide) (fun c_41 => ?_) (fun c_41 => ?_)
      · refine lv_iconst (v := 0) F.1 F.2.1 dX6_back_48 (by decide) ?_
        refine lv_istore (lv' := [(4, .int 0), (0, .ref (a 0)), (1, .int (nI s)), (2, .int (nI t)), (3, .int x3)]) F.1 F.2.1 dX6_back_49 hl (by decide) rfl (fun ls hl => ?_)
        refine lv_iload F.1 F.2.1 dX6_back_51 (lv_at hl 0 rfl) ?_
        refine lv_if_eq (tgt := 67) F.1 F.2.1 dX6_back_53 (by decide) (fun c_53 => ?_) (fun c_53 => ?_)
        · refine lv_aload_n F.1 F.2.1 dX6_back_67 rfl (lv_at hl 1 rfl) ?_
          refine lv_ldc (v := (-1000005)) F.1 F.2.1 F.2.2.2.1 (F.2.2.2.2 _ (List.mem_of_getElem? (i := 2) rfl)) dX6_back_68 ?_
          refine iV (rest := []) (wsp := fun _ => oM a v :: ai ct (a 1) 210 f :: [ai ct (a 4) 8 (fnd c 5)]) F (kX6_finding l dC dI ct a v c (-1000005) 5 (by decide) (by decide) (by decide)) gX6_back_X6_finding rfl ⟨rfl, rfl⟩ nmX6_finding ⟨Nat.le_of_ble_eq_true rfl, Nat.le_of_ble_eq_true rfl⟩ eT_b (fun _ _ _ => trivial) hK hP hD hS hA 0 rfl rfl rfl [0, 2] (by decide) rfl rfl rfl hl.1 (Nat.le_of_ble_eq_true rfl) dX6_back_70 ⟨Nat.zero_le _, Nat.zero_le _⟩ (fun _ => rfl) (fun _ => rfl) [a 0, a 1, a 4] rfl (fun _ => rfl) (fun r_70 u_70 H locs e_70 hP hD hS => ?_)
          obtain rfl := e_70
          exact rtI (f, (fnd c 5)) F hr hlk hP hS rfl (Eq.trans (by rw [show tn (nI s) = s from nI_clamp (by omega), show tn (nI t) = t from nI_clamp (by omega)]; try exact (if_neg (fun q => Int32.not_lt.mpr q.2 c_41)).symm) (if_pos c_6).symm) dX6_back_73
        · exact absurd rfl c_53
      · refine lv_iconst (v := 1) F.1 F.2.1 dX6_back_44 (by decide) ?_
        refine lv_goto (tgt := 49) F.1 F.2.1 dX6_back_45 (by decide) ?_
        refine lv_istore (lv' := [(4, .int 1), (0, .ref (a 0)), (1, .int (nI s)), (2, .int (nI t)), (3, .int x3)]) F.1 F.2.1 dX6_back_49 hl (by decide) rfl (fun ls hl => ?_)
        refine lv_iload F.1 F.2.1 dX6_back_51 (lv_at hl 0 rfl) ?_
        refine lv_if_eq (tgt := 67) F.1 F.2.1 dX6_back_53 (by decide) (fun c_53 => ?_) (fun c_53 => ?_)
        · exact absurd c_53 (by decide)
        · refine lv_aload_n F.1 F.2.1 dX6_back_56 rfl (lv_at hl 1 rfl) ?_
          refine lv_iload_n F.1 F.2.1 dX6_back_57 rfl (lv_at hl 2 rfl) ?_
          refine lv_iload_n F.1 F.2.1 dX6_back_58 rfl (lv_at hl 3 rfl) ?_
          refine lv_iload_n F.1 F.2.1 dX6_back_59 rfl (lv_at hl 4 rfl) ?_
          refine lv_ineg F.1 F.2.1 dX6_back_60 ?_
          refine iV (rest := []) (wsp := fun _ => oM a v :: ai ct (a 1) 210 (laid f s t (-x3)) :: [ai ct (a 4) 8 c]) F (kX6_laid l dC dI ct a v f s t (-x3) (by omega) (by omega)) gX6_back_X6_laid rfl ⟨rfl, rfl⟩ nmX6_laid ⟨Nat.le_of_ble_eq_true rfl, Nat.le_of_ble_eq_true rfl⟩ eT_b (fun _ _ _ => trivial) hK hP hD hS hA 0 rfl rfl rfl [0, 1] (by decide) rfl rfl rfl hl.1 (Nat.le_of_ble_eq_true rfl) dX6_back_61 ⟨Nat.zero_le _, Nat.zero_le _⟩ (fun _ => rfl) (fun _ => rfl) [a 0, a 1, a 4] rfl (fun _ => rfl) (fun r_61 u_61 H locs e_61 hP hD hS => ?_)
          obtain rfl := e_61
          have eq_64 : laid f s t (-x3) = bakF f s t x3 := bak_eq f s t x3
          rw [eq_64] at hP hD
          refine tp (y := f (27 + 17 * s + t) - x3) (by rw [bak_eq]; exact pk_us) ?_
          refine lv_goto (tgt := 73) F.1 F.2.1 dX6_back_64 (by decide) ?_
          exact rtI ((bakF f s t x3), c) F hr hlk hP hS rfl (Eq.trans (by rw [show tn (nI s) = s from nI_clamp (by omega), show tn (nI t) = t from nI_clamp (by omega)]; try exact (if_pos ⟨Int32.not_lt.mp c_26, Int32.not_lt.mp c_41⟩).symm) (if_pos c_6).symm) dX6_back_73
  · have c_6 : ¬ ((0 ≤ x1 ∧ x1 ≤ 1) ∧ (0 ≤ x2 ∧ x2 ≤ 4) ∧ 1 ≤ x3 ∧ x3 ≤ 99) := b01f rfl c_6
    refine lv_aload_n F.1 F.2.1 dX6_back_9 rfl (lv_at hl 0 rfl) ?_
    refine lv_ldc (v := (-1000001)) F.1 F.2.1 F.2.2.2.1 (F.2.2.2.2 _ (List.mem_of_getElem? (i := 1) rfl)) dX6_back_10 ?_
    refine iV (rest := []) (wsp := fun _ => oM a v :: ai ct (a 1) 210 f :: [ai ct (a 4) 8 (fnd c 1)]) F (kX6_finding l dC dI ct a v c (-1000001) 1 (by decide) (by decide) (by decide)) gX6_back_X6_finding rfl ⟨rfl, rfl⟩ nmX6_finding ⟨Nat.le_of_ble_eq_true rfl, Nat.le_of_ble_eq_true rfl⟩ eT_b (fun _ _ _ => trivial) hK hP hD hS hA 0 rfl rfl rfl [0, 2] (by decide) rfl rfl rfl hl.1 (Nat.le_of_ble_eq_true rfl) dX6_back_12 ⟨Nat.zero_le _, Nat.zero_le _⟩ (fun _ => rfl) (fun _ => rfl) [a 0, a 1, a 4] rfl (fun _ => rfl) (fun r_12 u_12 H locs e_12 hP hD hS => ?_)
    obtain rfl := e_12
    exact rtI (f, (fnd c 1)) F hr hlk hP hS rfl ((if_neg (fun q => c_6 q)).symm) dX6_back_15

def rmX6_content : Room := { frames := 6, cells := 0, slots := 0, locals := 135 }
theorem nmX6_content : NmV yX6_content RX6 1 := by unfold NmV; decide +kernel
set_option maxHeartbeats 4000000 in
set_option maxRecDepth 100000 in
theorem kX6_content (l : Launch) (dC : Nat → ClassId) (dI : Nat → Nat → Nat) (ct : Nat → ClassId) (a : Nat → Nat) (v f c : Nat → Int32) (x1 : Int32) : MI (S := (Nat → Int32) × (Nat → Int32)) l yX6_content wsX6_content rmX6_content dC dI ct eT [.ref (a 0), .int x1] (oM a v :: ai ct (a 1) 210 f :: [ai ct (a 4) 8 c]) (fun u => oM a v :: ai ct (a 1) 210 u.1 :: [ai ct (a 4) 8 u.2]) (fun r u => (r, u.1, u.2) = sContent f c x1) := by
  refine MI.of (cc := cX6_content) (maxL := 2) (ret := (some .int)) (by decide) rfl (Nat.le_of_ble_eq_true rfl) ?_
  intro pg en z mi below meth cd A F hr hlk hin hK hP hD hA hS hE ls hl
  have F : CallFix pg mi cd cX6_content 2 z _ wsX6_content RX6 := F
  have hl : lv_has ls 2 [(0, .ref (a 0)), (1, .int x1)] := hl
  refine lv_iload_n F.1 F.2.1 dX6_content_0 rfl (lv_at hl 1 rfl) ?_
  refine iS (rest := []) (wsp := fun _ => oM a v :: ai ct (a 1) 210 f :: [ai ct (a 4) 8 c]) F (kX6_isSide l dC dI ct x1) gX6_content_X6_isSide rfl ⟨rfl, rfl⟩ nmX6_isSide ⟨Nat.le_of_ble_eq_true rfl, Nat.le_of_ble_eq_true rfl⟩ eT_b (fun _ _ _ => trivial) hK hP hD hS hA [] (by decide) rfl rfl rfl hl.1 (Nat.le_of_ble_eq_true rfl) dX6_content_1 ⟨Nat.zero_le _, Nat.zero_le _⟩ (fun _ => rfl) (fun _ => rfl) [a 0, a 1, a 4] rfl (fun _ => rfl) (fun r_1 u_1 H locs e_1 hP hD hS => ?_)
  obtain rfl := e_1
  refine lv_if_eq (tgt := 23) F.1 F.2.1 dX6_content_4 (by decide) (fun c_4 => ?_) (fun c_4 => ?_)
  · have c_4 : ¬ (0 ≤ x1 ∧ x1 ≤ 1) := b01f rfl c_4
    refine lv_aload_n F.1 F.2.1 dX6_content_23 rfl (lv_at hl 0 rfl) ?_
    refine lv_ldc (v := (-1000001)) F.1 F.2.1 F.2.2.2.1 (F.2.2.2.2 _ (List.mem_of_getElem? (i := 1) rfl)) dX6_content_24 ?_
    refine iV (rest := []) (wsp := fun _ => oM a v :: ai ct (a 1) 210 f :: [ai ct (a 4) 8 (fnd c 1)]) F (kX6_finding l dC dI ct a v c (-1000001) 1 (by decide) (by decide) (by decide)) gX6_content_X6_finding rfl ⟨rfl, rfl⟩ nmX6_finding ⟨Nat.le_of_ble_eq_true rfl, Nat.le_of_ble_eq_true rfl⟩ eT_b (fun _ _ _ => trivial) hK hP hD hS hA 0 rfl rfl rfl [0, 2] (by decide) rfl rfl rfl hl.1 (Nat.le_of_ble_eq_true rfl) dX6_content_26 ⟨Nat.zero_le _, Nat.zero_le _⟩ (fun _ => rfl) (fun _ => rfl) [a 0, a 1, a 4] rfl (fun _ => rfl) (fun r_26 u_26 H locs e_26 hP hD hS => ?_)
    obtain rfl := e_26
    exact rtI (f, (fnd c 1)) F hr hlk hP hS rfl ((if_neg (fun q => c_4 q)).symm) dX6_content_29
  · have c_4 : 0 ≤ x1 ∧ x1 ≤ 1 := b01t rfl c_4
    obtain ⟨s, hs, rfl⟩ := gS_n c_4
    refine lv_aload_n F.1 F.2.1 dX6_content_7 rfl (lv_at hl 0 rfl) ?_
    refine lv_iload_n F.1 F.2.1 dX6_content_8 rfl (lv_at hl 1 rfl) ?_
    refine iV (rest := []) (wsp := fun _ => oM a v :: ai ct (a 1) 210 f :: [ai ct (a 4) 8 c]) F (kX6_isContent l dC dI ct a v f s (by omega)) gX6_content_X6_isContent rfl ⟨rfl, rfl⟩ nmX6_isContent ⟨Nat.le_of_ble_eq_true rfl, Nat.le_of_ble_eq_true rfl⟩ eT_b (fun _ _ _ => trivial) hK hP hD hS hA 0 rfl rfl rfl [0, 1] (by decide) rfl rfl rfl hl.1 (Nat.le_of_ble_eq_true rfl) dX6_content_9 ⟨Nat.zero_le _, Nat.zero_le _⟩ (fun _ => rfl) (fun _ => rfl) [a 0, a 1, a 4] rfl (fun _ => rfl) (fun r_9 u_9 H locs e_9 hP hD hS => ?_)
    obtain rfl := e_9
    refine lv_if_eq (tgt := 19) F.1 F.2.1 dX6_content_12 (by decide) (fun c_12 => ?_) (fun c_12 => ?_)
    · have c_12 : ¬ (con f s) := b01f rfl c_12
      refine lv_iconst (v := 0) F.1 F.2.1 dX6_content_19 (by decide) ?_
      refine lv_goto (tgt := 29) F.1 F.2.1 dX6_content_20 (by decide) ?_
      exact rtI (f, c) F hr hlk hP hS rfl (Eq.trans (by rw [show tn (nI s) = s from nI_clamp (by omega)]; try exact (by unfold kContent; rw [if_neg c_12])) (if_pos c_4).symm) dX6_content_29
    · have c_12 : con f s := b01t rfl c_12
      refine lv_iconst (v := 1) F.1 F.2.1 dX6_content_15 (by decide) ?_
      refine lv_goto (tgt := 29) F.1 F.2.1 dX6_content_16 (by decide) ?_
      exact rtI (f, c) F hr hlk hP hS rfl (Eq.trans (by rw [show tn (nI s) = s from nI_clamp (by omega)]; try exact (by unfold kContent; rw [if_pos c_12])) (if_pos c_4).symm) dX6_content_29

def rmX6_does : Room := { frames := 7, cells := 0, slots := 0, locals := 156 }
theorem nmX6_does : NmV yX6_does RX6 1 := by unfold NmV; decide +kernel
set_option maxHeartbeats 4000000 in
set_option maxRecDepth 100000 in
theorem kX6_does (l : Launch) (dC : Nat → ClassId) (dI : Nat → Nat → Nat) (ct : Nat → ClassId) (a : Nat → Nat) (v f c : Nat → Int32) (x1 : Int32) : MI (S := (Nat → Int32) × (Nat → Int32)) l yX6_does wsX6_does rmX6_does dC dI ct eT [.ref (a 0), .int x1] (oM a v :: ai ct (a 1) 210 f :: [ai ct (a 4) 8 c]) (fun u => oM a v :: ai ct (a 1) 210 u.1 :: [ai ct (a 4) 8 u.2]) (fun r u => (r, u.1, u.2) = sDoes f c x1) := by
  refine MI.of (cc := cX6_does) (maxL := 2) (ret := (some .int)) (by decide) rfl (Nat.le_of_ble_eq_true rfl) ?_
  intro pg en z mi below meth cd A F hr hlk hin hK hP hD hA hS hE ls hl
  have F : CallFix pg mi cd cX6_does 2 z _ wsX6_does RX6 := F
  have hl : lv_has ls 2 [(0, .ref (a 0)), (1, .int x1)] := hl
  refine lv_iload_n F.1 F.2.1 dX6_does_0 rfl (lv_at hl 1 rfl) ?_
  refine iS (rest := []) (wsp := fun _ => oM a v :: ai ct (a 1) 210 f :: [ai ct (a 4) 8 c]) F (kX6_isSide l dC dI ct x1) gX6_does_X6_isSide rfl ⟨rfl, rfl⟩ nmX6_isSide ⟨Nat.le_of_ble_eq_true rfl, Nat.le_of_ble_eq_true rfl⟩ eT_b (fun _ _ _ => trivial) hK hP hD hS hA [] (by decide) rfl rfl rfl hl.1 (Nat.le_of_ble_eq_true rfl) dX6_does_1 ⟨Nat.zero_le _, Nat.zero_le _⟩ (fun _ => rfl) (fun _ => rfl) [a 0, a 1, a 4] rfl (fun _ => rfl) (fun r_1 u_1 H locs e_1 hP hD hS => ?_)
  obtain rfl := e_1
  refine lv_if_eq (tgt := 15) F.1 F.2.1 dX6_does_4 (by decide) (fun c_4 => ?_) (fun c_4 => ?_)
  · have c_4 : ¬ (0 ≤ x1 ∧ x1 ≤ 1) := b01f rfl c_4
    refine lv_aload_n F.1 F.2.1 dX6_does_15 rfl (lv_at hl 0 rfl) ?_
    refine lv_ldc (v := (-1000001)) F.1 F.2.1 F.2.2.2.1 (F.2.2.2.2 _ (List.mem_of_getElem? (i := 1) rfl)) dX6_does_16 ?_
    refine iV (rest := []) (wsp := fun _ => oM a v :: ai ct (a 1) 210 f :: [ai ct (a 4) 8 (fnd c 1)]) F (kX6_finding l dC dI ct a v c (-1000001) 1 (by decide) (by decide) (by decide)) gX6_does_X6_finding rfl ⟨rfl, rfl⟩ nmX6_finding ⟨Nat.le_of_ble_eq_true rfl, Nat.le_of_ble_eq_true rfl⟩ eT_b (fun _ _ _ => trivial) hK hP hD hS hA 0 rfl rfl rfl [0, 2] (by decide) rfl rfl rfl hl.1 (Nat.le_of_ble_eq_true rfl) dX6_does_18 ⟨Nat.zero_le _, Nat.zero_le _⟩ (fun _ => rfl) (fun _ => rfl) [a 0, a 1, a 4] rfl (fun _ => rfl) (fun r_18 u_18 H locs e_18 hP hD hS => ?_)
    obtain rfl := e_18
    exact rtI (f, (fnd c 1)) F hr hlk hP hS rfl ((if_neg (fun q => c_4 q)).symm) dX6_does_21
  · have c_4 : 0 ≤ x1 ∧ x1 ≤ 1 := b01t rfl c_4
    obtain ⟨s, hs, rfl⟩ := gS_n c_4
    refine lv_aload_n F.1 F.2.1 dX6_does_7 rfl (lv_at hl 0 rfl) ?_
    refine lv_iload_n F.1 F.2.1 dX6_does_8 rfl (lv_at hl 1 rfl) ?_
    refine iV (rest := []) (wsp := fun _ => oM a v :: ai ct (a 1) 210 f :: [ai ct (a 4) 8 c]) F (kX6_wouldDo l dC dI ct a v f s (by omega)) gX6_does_X6_wouldDo rfl ⟨rfl, rfl⟩ nmX6_wouldDo ⟨Nat.le_of_ble_eq_true rfl, Nat.le_of_ble_eq_true rfl⟩ eT_b (fun _ _ _ => trivial) hK hP hD hS hA 0 rfl rfl rfl [0, 1] (by decide) rfl rfl rfl hl.1 (Nat.le_of_ble_eq_true rfl) dX6_does_9 ⟨Nat.zero_le _, Nat.zero_le _⟩ (fun _ => rfl) (fun _ => rfl) [a 0, a 1, a 4] rfl (fun _ => rfl) (fun r_9 u_9 H locs e_9 hP hD hS => ?_)
    obtain rfl := e_9
    refine lv_goto (tgt := 21) F.1 F.2.1 dX6_does_12 (by decide) ?_
    exact rtI (f, c) F hr hlk hP hS rfl (Eq.trans (by rw [show tn (nI s) = s from nI_clamp (by omega)]; try exact rfl) (if_pos c_4).symm) dX6_does_21
