def rmX2_wordOfKind : Room := { frames := 5, cells := 0, slots := 0, locals := 107 }
theorem nmX2_wordOfKind : NmV yX2_wordOfKind RX2 0 := by unfold NmV; decide +kernel
set_option maxHeartbeats 4000000 in
set_option maxRecDepth 100000 in
theorem kX2_wordOfKind (l : Launch) (dC : Nat → ClassId) (dI : Nat → Nat → Nat) (ct : Nat → ClassId) (K : Nat → Nat) (sc ty : Nat) (y : Nat → Int32) (n : Nat) (t4 : Int32) (p : Nat) (hn : n ≤ 120) (hp : p ≤ n) : MI (S := Unit) l yX2_wordOfKind wsX2_wordOfKind rmX2_wordOfKind dC dI ct (EQ K ct rfS [sc, ty]) [.ref sc] ((sc, .inr (2, [.ref ty, .int (nI n), .int (nI (tK y n p)), .int (nI (tB y n p)), .int (nI (tE y n p)), .int (tW y n p t4)])) :: [ai ct ty 120 y]) (fun _ => (sc, .inr (2, [.ref ty, .int (nI n), .int (nI (tK y n p)), .int (nI (tB y n p)), .int (nI (tE y n p)), .int (tW y n p t4)])) :: [ai ct ty 120 y]) (fun r _ => r = wkF y n p) := by
  refine MI.ofz (cc := cX2_wordOfKind) (maxL := 1) (ret := (some .int)) (by decide) rfl (Nat.le_of_ble_eq_true rfl) ?_
  intro pg en z mi below meth cd A F hr hlk hin hK hP hD hA hS hAz hE ls hl
  have hz := EQ_z (pre := (sc, .inr (2, [.ref ty, .int (nI n), .int (nI (tK y n p)), .int (nI (tB y n p)), .int (nI (tE y n p)), .int (tW y n p t4)])) :: [ai ct ty 120 y]) (show EQ K ct rfS (List.map Prod.fst ((sc, .inr (2, [.ref ty, .int (nI n), .int (nI (tK y n p)), .int (nI (tB y n p)), .int (nI (tE y n p)), .int (tW y n p t4)])) :: [ai ct ty 120 y])) z from hE) hAz
  have F : CallFix pg mi cd cX2_wordOfKind 1 z _ wsX2_wordOfKind RX2 := F
  have hl : lv_has ls 1 [(0, .ref sc)] := hl
  refine lv_aload_n F.1 F.2.1 dX2_wordOfKind_0 rfl (lv_at hl 0 rfl) ?_
  refine va_ldcS F.1 F.2.1 (tx := "thing") (q := kS K 0) F.2.2.2.1 (hE.2.2.2.1 ("HedgeHeaps$Script", 100, "thing", 0) (List.mem_of_getElem? (i := 0) rfl)) dX2_wordOfKind_1 ?_
  refine iV (rest := []) (wsp := fun _ => (sc, .inr (2, [.ref ty, .int (nI n), .int (nI (tK y n p)), .int (nI (tB y n p)), .int (nI (tE y n p)), .int (tW y n p t4)])) :: [ai ct ty 120 y]) F (kX2_isWord l dC dI ct K rfS sc ty y n t4 p hn (by omega) 0 (by decide)) gX2_wordOfKind_X2_isWord rfl ⟨rfl, rfl⟩ nmX2_isWord ⟨Nat.le_of_ble_eq_true rfl, Nat.le_of_ble_eq_true rfl⟩ EQ_b (EQ_call hE hS hz [0, 1] rfl) hK hP hD hS hA 0 rfl rfl rfl [0, 1] (by decide) rfl rfl rfl hl.1 (Nat.le_of_ble_eq_true rfl) dX2_wordOfKind_3 ⟨Nat.zero_le _, Nat.zero_le _⟩ (fun _ => rfl) (fun _ => rfl) [sc, ty] rfl (fun _ => rfl) (fun r_3 u_3 H locs e_3 hP hD hS => ?_)
  obtain rfl := e_3
  refine lv_if_eq (tgt := 11) F.1 F.2.1 dX2_wordOfKind_6 (by decide) (fun c_6 => ?_) (fun c_6 => ?_)
  · have c_6 : ¬ (isW y n p 0) := b01f rfl c_6
    refine lv_aload_n F.1 F.2.1 dX2_wordOfKind_11 rfl (lv_at hl 0 rfl) ?_
    refine va_ldcS F.1 F.2.1 (tx := "food") (q := kS K 1) F.2.2.2.1 (hE.2.2.2.1 ("HedgeHeaps$Script", 102, "food", 1) (List.mem_of_getElem? (i := 1) rfl)) dX2_wordOfKind_12 ?_
    refine iV (rest := []) (wsp := fun _ => (sc, .inr (2, [.ref ty, .int (nI n), .int (nI (tK y n p)), .int (nI (tB y n p)), .int (nI (tE y n p)), .int (tW y n p t4)])) :: [ai ct ty 120 y]) F (kX2_isWord l dC dI ct K rfS sc ty y n t4 p hn (by omega) 1 (by decide)) gX2_wordOfKind_X2_isWord rfl ⟨rfl, rfl⟩ nmX2_isWord ⟨Nat.le_of_ble_eq_true rfl, Nat.le_of_ble_eq_true rfl⟩ EQ_b (EQ_call hE hS hz [0, 1] rfl) hK hP hD hS hA 0 rfl rfl rfl [0, 1] (by decide) rfl rfl rfl hl.1 (Nat.le_of_ble_eq_true rfl) dX2_wordOfKind_14 ⟨Nat.zero_le _, Nat.zero_le _⟩ (fun _ => rfl) (fun _ => rfl) [sc, ty] rfl (fun _ => rfl) (fun r_14 u_14 H locs e_14 hP hD hS => ?_)
    obtain rfl := e_14
    refine lv_if_eq (tgt := 22) F.1 F.2.1 dX2_wordOfKind_17 (by decide) (fun c_17 => ?_) (fun c_17 => ?_)
    · have c_17 : ¬ (isW y n p 1) := b01f rfl c_17
      refine lv_aload_n F.1 F.2.1 dX2_wordOfKind_22 rfl (lv_at hl 0 rfl) ?_
      refine va_ldcS F.1 F.2.1 (tx := "cloth") (q := kS K 2) F.2.2.2.1 (hE.2.2.2.1 ("HedgeHeaps$Script", 104, "cloth", 2) (List.mem_of_getElem? (i := 2) rfl)) dX2_wordOfKind_23 ?_
      refine iV (rest := []) (wsp := fun _ => (sc, .inr (2, [.ref ty, .int (nI n), .int (nI (tK y n p)), .int (nI (tB y n p)), .int (nI (tE y n p)), .int (tW y n p t4)])) :: [ai ct ty 120 y]) F (kX2_isWord l dC dI ct K rfS sc ty y n t4 p hn (by omega) 2 (by decide)) gX2_wordOfKind_X2_isWord rfl ⟨rfl, rfl⟩ nmX2_isWord ⟨Nat.le_of_ble_eq_true rfl, Nat.le_of_ble_eq_true rfl⟩ EQ_b (EQ_call hE hS hz [0, 1] rfl) hK hP hD hS hA 0 rfl rfl rfl [0, 1] (by decide) rfl rfl rfl hl.1 (Nat.le_of_ble_eq_true rfl) dX2_wordOfKind_25 ⟨Nat.zero_le _, Nat.zero_le _⟩ (fun _ => rfl) (fun _ => rfl) [sc, ty] rfl (fun _ => rfl) (fun r_25 u_25 H locs e_25 hP hD hS => ?_)
      obtain rfl := e_25
      refine lv_if_eq (tgt := 33) F.1 F.2.1 dX2_wordOfKind_28 (by decide) (fun c_28 => ?_) (fun c_28 => ?_)
      · have c_28 : ¬ (isW y n p 2) := b01f rfl c_28
        refine lv_aload_n F.1 F.2.1 dX2_wordOfKind_33 rfl (lv_at hl 0 rfl) ?_
        refine va_ldcS F.1 F.2.1 (tx := "meat") (q := kS K 3) F.2.2.2.1 (hE.2.2.2.1 ("HedgeHeaps$Script", 106, "meat", 3) (List.mem_of_getElem? (i := 3) rfl)) dX2_wordOfKind_34 ?_
        refine iV (rest := []) (wsp := fun _ => (sc, .inr (2, [.ref ty, .int (nI n), .int (nI (tK y n p)), .int (nI (tB y n p)), .int (nI (tE y n p)), .int (tW y n p t4)])) :: [ai ct ty 120 y]) F (kX2_isWord l dC dI ct K rfS sc ty y n t4 p hn (by omega) 3 (by decide)) gX2_wordOfKind_X2_isWord rfl ⟨rfl, rfl⟩ nmX2_isWord ⟨Nat.le_of_ble_eq_true rfl, Nat.le_of_ble_eq_true rfl⟩ EQ_b (EQ_call hE hS hz [0, 1] rfl) hK hP hD hS hA 0 rfl rfl rfl [0, 1] (by decide) rfl rfl rfl hl.1 (Nat.le_of_ble_eq_true rfl) dX2_wordOfKind_36 ⟨Nat.zero_le _, Nat.zero_le _⟩ (fun _ => rfl) (fun _ => rfl) [sc, ty] rfl (fun _ => rfl) (fun r_36 u_36 H locs e_36 hP hD hS => ?_)
        obtain rfl := e_36
        refine lv_if_eq (tgt := 44) F.1 F.2.1 dX2_wordOfKind_39 (by decide) (fun c_39 => ?_) (fun c_39 => ?_)
        · have c_39 : ¬ (isW y n p 3) := b01f rfl c_39
          refine lv_aload_n F.1 F.2.1 dX2_wordOfKind_44 rfl (lv_at hl 0 rfl) ?_
          refine va_ldcS F.1 F.2.1 (tx := "fur") (q := kS K 4) F.2.2.2.1 (hE.2.2.2.1 ("HedgeHeaps$Script", 108, "fur", 4) (List.mem_of_getElem? (i := 4) rfl)) dX2_wordOfKind_45 ?_
          refine iV (rest := []) (wsp := fun _ => (sc, .inr (2, [.ref ty, .int (nI n), .int (nI (tK y n p)), .int (nI (tB y n p)), .int (nI (tE y n p)), .int (tW y n p t4)])) :: [ai ct ty 120 y]) F (kX2_isWord l dC dI ct K rfS sc ty y n t4 p hn (by omega) 4 (by decide)) gX2_wordOfKind_X2_isWord rfl ⟨rfl, rfl⟩ nmX2_isWord ⟨Nat.le_of_ble_eq_true rfl, Nat.le_of_ble_eq_true rfl⟩ EQ_b (EQ_call hE hS hz [0, 1] rfl) hK hP hD hS hA 0 rfl rfl rfl [0, 1] (by decide) rfl rfl rfl hl.1 (Nat.le_of_ble_eq_true rfl) dX2_wordOfKind_47 ⟨Nat.zero_le _, Nat.zero_le _⟩ (fun _ => rfl) (fun _ => rfl) [sc, ty] rfl (fun _ => rfl) (fun r_47 u_47 H locs e_47 hP hD hS => ?_)
          obtain rfl := e_47
          refine lv_if_eq (tgt := 55) F.1 F.2.1 dX2_wordOfKind_50 (by decide) (fun c_50 => ?_) (fun c_50 => ?_)
          · have c_50 : ¬ (isW y n p 4) := b01f rfl c_50
            refine lv_aload_n F.1 F.2.1 dX2_wordOfKind_55 rfl (lv_at hl 0 rfl) ?_
            refine va_ldcS F.1 F.2.1 (tx := "tool") (q := kS K 5) F.2.2.2.1 (hE.2.2.2.1 ("HedgeHeaps$Script", 110, "tool", 5) (List.mem_of_getElem? (i := 5) rfl)) dX2_wordOfKind_56 ?_
            refine iV (rest := []) (wsp := fun _ => (sc, .inr (2, [.ref ty, .int (nI n), .int (nI (tK y n p)), .int (nI (tB y n p)), .int (nI (tE y n p)), .int (tW y n p t4)])) :: [ai ct ty 120 y]) F (kX2_isWord l dC dI ct K rfS sc ty y n t4 p hn (by omega) 5 (by decide)) gX2_wordOfKind_X2_isWord rfl ⟨rfl, rfl⟩ nmX2_isWord ⟨Nat.le_of_ble_eq_true rfl, Nat.le_of_ble_eq_true rfl⟩ EQ_b (EQ_call hE hS hz [0, 1] rfl) hK hP hD hS hA 0 rfl rfl rfl [0, 1] (by decide) rfl rfl rfl hl.1 (Nat.le_of_ble_eq_true rfl) dX2_wordOfKind_58 ⟨Nat.zero_le _, Nat.zero_le _⟩ (fun _ => rfl) (fun _ => rfl) [sc, ty] rfl (fun _ => rfl) (fun r_58 u_58 H locs e_58 hP hD hS => ?_)
            obtain rfl := e_58
            refine lv_if_eq (tgt := 66) F.1 F.2.1 dX2_wordOfKind_61 (by decide) (fun c_61 => ?_) (fun c_61 => ?_)
            · have c_61 : ¬ (isW y n p 5) := b01f rfl c_61
              refine lv_aload_n F.1 F.2.1 dX2_wordOfKind_66 rfl (lv_at hl 0 rfl) ?_
              refine va_ldcS F.1 F.2.1 (tx := "doll") (q := kS K 6) F.2.2.2.1 (hE.2.2.2.1 ("HedgeHeaps$Script", 112, "doll", 6) (List.mem_of_getElem? (i := 6) rfl)) dX2_wordOfKind_67 ?_
              refine iV (rest := []) (wsp := fun _ => (sc, .inr (2, [.ref ty, .int (nI n), .int (nI (tK y n p)), .int (nI (tB y n p)), .int (nI (tE y n p)), .int (tW y n p t4)])) :: [ai ct ty 120 y]) F (kX2_isWord l dC dI ct K rfS sc ty y n t4 p hn (by omega) 6 (by decide)) gX2_wordOfKind_X2_isWord rfl ⟨rfl, rfl⟩ nmX2_isWord ⟨Nat.le_of_ble_eq_true rfl, Nat.le_of_ble_eq_true rfl⟩ EQ_b (EQ_call hE hS hz [0, 1] rfl) hK hP hD hS hA 0 rfl rfl rfl [0, 1] (by decide) rfl rfl rfl hl.1 (Nat.le_of_ble_eq_true rfl) dX2_wordOfKind_69 ⟨Nat.zero_le _, Nat.zero_le _⟩ (fun _ => rfl) (fun _ => rfl) [sc, ty] rfl (fun _ => rfl) (fun r_69 u_69 H locs e_69 hP hD hS => ?_)
              obtain rfl := e_69
              refine lv_if_eq (tgt := 80) F.1 F.2.1 dX2_wordOfKind_72 (by decide) (fun c_72 => ?_) (fun c_72 => ?_)
              · have c_72 : ¬ (isW y n p 6) := b01f rfl c_72
                refine lv_iconst (v := (-1)) F.1 F.2.1 dX2_wordOfKind_80 (by decide) ?_
                exact rtI () F hr hlk hP hS rfl (by unfold wkF; rw [if_neg c_6, if_neg c_17, if_neg c_28, if_neg c_39, if_neg c_50, if_neg c_61, if_neg c_72]) dX2_wordOfKind_81
              · have c_72 : isW y n p 6 := b01t rfl c_72
                refine lv_bipush (v := 6) F.1 F.2.1 dX2_wordOfKind_75 (by decide) ?_
                refine lv_goto (tgt := 81) F.1 F.2.1 dX2_wordOfKind_77 (by decide) ?_
                exact rtI () F hr hlk hP hS rfl (by unfold wkF; rw [if_neg c_6, if_neg c_17, if_neg c_28, if_neg c_39, if_neg c_50, if_neg c_61, if_pos c_72]) dX2_wordOfKind_81
            · have c_61 : isW y n p 5 := b01t rfl c_61
              refine lv_iconst (v := 5) F.1 F.2.1 dX2_wordOfKind_64 (by decide) ?_
              exact rtI () F hr hlk hP hS rfl (by unfold wkF; rw [if_neg c_6, if_neg c_17, if_neg c_28, if_neg c_39, if_neg c_50, if_pos c_61]) dX2_wordOfKind_65
          · have c_50 : isW y n p 4 := b01t rfl c_50
            refine lv_iconst (v := 4) F.1 F.2.1 dX2_wordOfKind_53 (by decide) ?_
            exact rtI () F hr hlk hP hS rfl (by unfold wkF; rw [if_neg c_6, if_neg c_17, if_neg c_28, if_neg c_39, if_pos c_50]) dX2_wordOfKind_54
        · have c_39 : isW y n p 3 := b01t rfl c_39
          refine lv_iconst (v := 3) F.1 F.2.1 dX2_wordOfKind_42 (by decide) ?_
          exact rtI () F hr hlk hP hS rfl (by unfold wkF; rw [if_neg c_6, if_neg c_17, if_neg c_28, if_pos c_39]) dX2_wordOfKind_43
      · have c_28 : isW y n p 2 := b01t rfl c_28
        refine lv_iconst (v := 2) F.1 F.2.1 dX2_wordOfKind_31 (by decide) ?_
        exact rtI () F hr hlk hP hS rfl (by unfold wkF; rw [if_neg c_6, if_neg c_17, if_pos c_28]) dX2_wordOfKind_32
    · have c_17 : isW y n p 1 := b01t rfl c_17
      refine lv_iconst (v := 1) F.1 F.2.1 dX2_wordOfKind_20 (by decide) ?_
      exact rtI () F hr hlk hP hS rfl (by unfold wkF; rw [if_neg c_6, if_pos c_17]) dX2_wordOfKind_21
  · have c_6 : isW y n p 0 := b01t rfl c_6
    refine lv_iconst (v := 0) F.1 F.2.1 dX2_wordOfKind_9 (by decide) ?_
    exact rtI () F hr hlk hP hS rfl (by unfold wkF; rw [if_pos c_6]) dX2_wordOfKind_10
