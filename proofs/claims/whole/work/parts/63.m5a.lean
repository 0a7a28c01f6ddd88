def rmX6_booked : Room := { frames := 1, cells := 0, slots := 0, locals := 21 }
theorem nmX6_booked : NmV yX6_booked RX6 0 := by unfold NmV; decide +kernel
theorem hiX6_booked_6 : ∀ w ∈ u_ws RX6 TX6 22, w ∈ wsX6_booked := by decide +kernel
set_option maxHeartbeats 4000000 in
set_option maxRecDepth 100000 in
theorem kX6_booked (l : Launch) (dC : Nat → ClassId) (dI : Nat → Nat → Nat) (ct : Nat → ClassId) (a : Nat → Nat) (v f : Nat → Int32) (hRg : Rg f) : MI (S := Unit) l yX6_booked wsX6_booked rmX6_booked dC dI ct eT [.ref (a 0)] (oM a v :: [ai ct (a 1) 210 f]) (fun _ => oM a v :: [ai ct (a 1) 210 f]) (fun r _ => r = nI (min 12 (nN f))) := by
  refine MI.of (cc := cX6_booked) (maxL := 1) (ret := (some .int)) (by decide) rfl (Nat.le_of_ble_eq_true rfl) ?_
  intro pg en z mi below meth cd A F hr hlk hin hK hP hD hA hS hE ls hl
  have F : CallFix pg mi cd cX6_booked 1 z _ wsX6_booked RX6 := F
  have hl : lv_has ls 1 [(0, .ref (a 0))] := hl
  refine lv_bipush (v := 12) F.1 F.2.1 dX6_booked_0 (by decide) ?_
  refine lv_aload_n F.1 F.2.1 dX6_booked_2 rfl (lv_at hl 0 rfl) ?_
  refine gf F hK hP 0 rfl rfl hiX6_booked_6 0 (by decide) (List.mem_of_getElem? (i := 1) rfl) rfl dX6_booked_3 ?_
  refine lv_iconst (v := 0) F.1 F.2.1 dX6_booked_6 (by decide) ?_
  refine al (v := f 0) F hK hP 1 0 rfl rfl 0 rfl (by omega) (by decide) rfl dX6_booked_7 ?_
  refine va_mmin F.1 F.2.1 (F.2.2.1.trans hl.1.symm) F.2.2.2.1 (F.2.2.2.2 _ (List.mem_of_getElem? (i := 2) rfl)) (F.2.2.2.2 _ (List.mem_of_getElem? (i := 3) rfl)) (F.2.2.2.2 _ (List.mem_of_getElem? (i := 4) rfl)) (F.2.2.2.2 _ (List.mem_of_getElem? (i := 5) rfl)) (Nat.le_of_ble_eq_true rfl) (Nat.le_of_ble_eq_true rfl) (Nat.zero_le _) (Nat.zero_le _) dX6_booked_8 ?_
  refine tp (y := mn 12 (f 0)) rfl ?_
  exact rtI () F hr hlk hP hS rfl (mn12 hRg) dX6_booked_11

def rmX6_book : Room := { frames := 2, cells := 0, slots := 0, locals := 41 }
theorem nmX6_book : NmV yX6_book RX6 2 := by unfold NmV; decide +kernel
theorem hiX6_book_6 : ∀ w ∈ u_ws RX6 TX6 22, w ∈ wsX6_book := by decide +kernel
set_option maxHeartbeats 4000000 in
set_option maxRecDepth 100000 in
theorem kX6_book (l : Launch) (dC : Nat → ClassId) (dI : Nat → Nat → Nat) (ct : Nat → ClassId) (a : Nat → Nat) (v f c : Nat → Int32) (x1 x2 : Int32) (hRg : Rg f) : MI (S := (Nat → Int32) × (Nat → Int32)) l yX6_book wsX6_book rmX6_book dC dI ct eT [.ref (a 0), .int x1, .int x2] (oM a v :: ai ct (a 1) 210 f :: [ai ct (a 4) 8 c]) (fun u => oM a v :: ai ct (a 1) 210 u.1 :: [ai ct (a 4) 8 u.2]) (fun r u => (r, u.1, u.2) = sBook f c x1 x2) := by
  refine MI.of (cc := cX6_book) (maxL := 5) (ret := (some .int)) (by decide) rfl (Nat.le_of_ble_eq_true rfl) ?_
  intro pg en z mi below meth cd A F hr hlk hin hK hP hD hA hS hE ls hl
  have F : CallFix pg mi cd cX6_book 5 z _ wsX6_book RX6 := F
  have hl : lv_has ls 5 [(0, .ref (a 0)), (1, .int x1), (2, .int x2)] := hl
  have hn9 := (nN_of hRg).2
  refine lv_iload_n F.1 F.2.1 dX6_book_0 rfl (lv_at hl 1 rfl) ?_
  refine lv_if_lt (tgt := 14) F.1 F.2.1 dX6_book_1 (by decide) (fun c_1 => ?_) (fun c_1 => ?_)
  · refine lv_aload_n F.1 F.2.1 dX6_book_14 rfl (lv_at hl 0 rfl) ?_
    refine lv_ldc (v := (-1000001)) F.1 F.2.1 F.2.2.2.1 (F.2.2.2.2 _ (List.mem_of_getElem? (i := 1) rfl)) dX6_book_15 ?_
    refine iV (rest := []) (wsp := fun _ => oM a v :: ai ct (a 1) 210 f :: [ai ct (a 4) 8 (fnd c 1)]) F (kX6_finding l dC dI ct a v c (-1000001) 1 (by decide) (by decide) (by decide)) gX6_book_X6_finding rfl ⟨rfl, rfl⟩ nmX6_finding ⟨Nat.le_of_ble_eq_true rfl, Nat.le_of_ble_eq_true rfl⟩ eT_b (fun _ _ _ => trivial) hK hP hD hS hA 0 rfl rfl rfl [0, 2] (by decide) rfl rfl rfl hl.1 (Nat.le_of_ble_eq_true rfl) dX6_book_17 ⟨Nat.zero_le _, Nat.zero_le _⟩ (fun _ => rfl) (fun _ => rfl) [a 0, a 1, a 4] rfl (fun _ => rfl) (fun r_17 u_17 H locs e_17 hP hD hS => ?_)
    obtain rfl := e_17
    exact rtI (f, (fnd c 1)) F hr hlk hP hS rfl ((if_neg (fun q => absurd q.1 (Int32.not_le.mpr c_1))).symm) dX6_book_20
  · obtain ⟨i, hi, rfl⟩ := nn_of c_1
    refine lv_iload_n F.1 F.2.1 dX6_book_4 rfl (lv_at hl 2 rfl) ?_
    refine lv_iconst (v := 0) F.1 F.2.1 dX6_book_5 (by decide) ?_
    refine lv_bipush (v := 6) F.1 F.2.1 dX6_book_6 (by decide) ?_
    refine iS (rest := []) (wsp := fun _ => oM a v :: ai ct (a 1) 210 f :: [ai ct (a 4) 8 c]) F (kX6_within l dC dI ct x2 0 6) gX6_book_X6_within rfl ⟨rfl, rfl⟩ nmX6_within ⟨Nat.le_of_ble_eq_true rfl, Nat.le_of_ble_eq_true rfl⟩ eT_b (fun _ _ _ => trivial) hK hP hD hS hA [] (by decide) rfl rfl rfl hl.1 (Nat.le_of_ble_eq_true rfl) dX6_book_8 ⟨Nat.zero_le _, Nat.zero_le _⟩ (fun _ => rfl) (fun _ => rfl) [a 0, a 1, a 4] rfl (fun _ => rfl) (fun r_8 u_8 H locs e_8 hP hD hS => ?_)
    obtain rfl := e_8
    refine lv_if_ne (tgt := 21) F.1 F.2.1 dX6_book_11 (by decide) (fun c_11 => ?_) (fun c_11 => ?_)
    · have c_11 : 0 ≤ x2 ∧ x2 ≤ 6 := b01t rfl c_11
      obtain ⟨q, hq, rfl⟩ := g6_n c_11
      refine lv_iload_n F.1 F.2.1 dX6_book_21 rfl (lv_at hl 1 rfl) ?_
      refine lv_aload_n F.1 F.2.1 dX6_book_22 rfl (lv_at hl 0 rfl) ?_
      refine iV (rest := [.int (nI i)]) (wsp := fun _ => oM a v :: ai ct (a 1) 210 f :: [ai ct (a 4) 8 c]) F (kX6_booked l dC dI ct a v f hRg) gX6_book_X6_booked rfl ⟨rfl, rfl⟩ nmX6_booked ⟨Nat.le_of_ble_eq_true rfl, Nat.le_of_ble_eq_true rfl⟩ eT_b (fun _ _ _ => trivial) hK hP hD hS hA 0 rfl rfl rfl [0, 1] (by decide) rfl rfl rfl hl.1 (Nat.le_of_ble_eq_true rfl) dX6_book_23 ⟨Nat.zero_le _, Nat.zero_le _⟩ (fun _ => rfl) (fun _ => rfl) [a 0, a 1, a 4] rfl (fun _ => rfl) (fun r_23 u_23 H locs e_23 hP hD hS => ?_)
      obtain rfl := e_23
      refine lv_icmp_lt (tgt := 36) F.1 F.2.1 dX6_book_26 (by decide) (fun c_26 => ?_) (fun c_26 => ?_)
      · have hib := lt_of_nI c_26 hi (Nat.min_le_left _ _)
        refine lv_aload_n F.1 F.2.1 dX6_book_36 rfl (lv_at hl 0 rfl) ?_
        refine gf F hK hP 0 rfl rfl hiX6_book_6 0 (by decide) (List.mem_of_getElem? (i := 3) rfl) rfl dX6_book_37 ?_
        refine lv_iconst (v := 0) F.1 F.2.1 dX6_book_40 (by decide) ?_
        refine al (v := f 0) F hK hP 1 0 rfl rfl 0 rfl (by omega) (by decide) rfl dX6_book_41 ?_
        refine tp (y := nI (nN f)) ((nN_of hRg).1) ?_
        refine lv_iconst (v := 1) F.1 F.2.1 dX6_book_42 (by decide) ?_
        refine lv_isub F.1 F.2.1 dX6_book_43 ?_
        refine tp (y := nI (nN f - 1)) (sb2 (a := nN f) (b := 1) (c := nN f - 1) rfl rfl (by omega)) ?_
        refine lv_iload_n F.1 F.2.1 dX6_book_44 rfl (lv_at hl 1 rfl) ?_
        refine lv_isub F.1 F.2.1 dX6_book_45 ?_
        refine tp (y := nI (nN f - 1 - i)) (sb2 (a := nN f - 1) (b := i) (c := nN f - 1 - i) rfl rfl (by omega)) ?_
        refine lv_istore_n (lv' := [(3, .int (nI (nN f - 1 - i))), (0, .ref (a 0)), (1, .int (nI i)), (2, .int (nI q))]) F.1 F.2.1 dX6_book_46 rfl hl (by decide) rfl (fun ls hl => ?_)
        refine lv_iload_n F.1 F.2.1 dX6_book_47 rfl (lv_at hl 0 rfl) ?_
        refine lv_iconst (v := 2) F.1 F.2.1 dX6_book_48 (by decide) ?_
        refine lv_irem F.1 F.2.1 dX6_book_49 (by decide) ?_
        refine tp (y := nI ((nN f - 1 - i) % 2)) (pk_rem (d := 2) (by omega) (by decide) (by decide)) ?_
        refine lv_istore (lv' := [(4, .int (nI ((nN f - 1 - i) % 2))), (3, .int (nI (nN f - 1 - i))), (0, .ref (a 0)), (1, .int (nI i)), (2, .int (nI q))]) F.1 F.2.1 dX6_book_50 hl (by decide) rfl (fun ls hl => ?_)
        refine lv_iload_n F.1 F.2.1 dX6_book_52 rfl (lv_at hl 4 rfl) ?_
        refine lv_if_ne (tgt := 69) F.1 F.2.1 dX6_book_53 (by decide) (fun c_53 => ?_) (fun c_53 => ?_)
        · refine lv_iload_n F.1 F.2.1 dX6_book_69 rfl (lv_at hl 4 rfl) ?_
          refine lv_iconst (v := 1) F.1 F.2.1 dX6_book_70 (by decide) ?_
          refine lv_icmp_ne (tgt := 79) F.1 F.2.1 dX6_book_71 (by decide) (fun c_71 => ?_) (fun c_71 => ?_)
          · have q0 := q_ne (m := 0) c_53
            have q1 := q_ne (m := 1) c_71
            refine lv_aload_n F.1 F.2.1 dX6_book_79 rfl (lv_at hl 2 rfl) ?_
            refine gf F hK hP 0 rfl rfl hiX6_book_6 0 (by decide) (List.mem_of_getElem? (i := 3) rfl) rfl dX6_book_80 ?_
            refine lv_iload_n F.1 F.2.1 dX6_book_83 rfl (lv_at hl 1 rfl) ?_
            refine lv_iconst (v := 3) F.1 F.2.1 dX6_book_84 (by decide) ?_
            refine lv_iconst (v := 5) F.1 F.2.1 dX6_book_85 (by decide) ?_
            refine lv_iload F.1 F.2.1 dX6_book_86 (lv_at hl 0 rfl) ?_
            refine lv_imul F.1 F.2.1 dX6_book_88 ?_
            refine tp (y := nI (5 * ((nN f - 1 - i) % 2))) (ml2 (a := 5) (b := ((nN f - 1 - i) % 2)) (c := 5 * ((nN f - 1 - i) % 2)) rfl rfl rfl) ?_
            refine lv_iadd F.1 F.2.1 dX6_book_89 ?_
            refine tp (y := nI (3 + 5 * ((nN f - 1 - i) % 2))) (ad2 (a := 3) (b := 5 * ((nN f - 1 - i) % 2)) (c := 3 + 5 * ((nN f - 1 - i) % 2)) rfl rfl rfl) ?_
            refine lv_iload_n F.1 F.2.1 dX6_book_90 rfl (lv_at hl 4 rfl) ?_
            refine lv_iadd F.1 F.2.1 dX6_book_91 ?_
            refine tp (y := nI (3 + 5 * ((nN f - 1 - i) % 2) + q)) (ad2 (a := 3 + 5 * ((nN f - 1 - i) % 2)) (b := q) (c := 3 + 5 * ((nN f - 1 - i) % 2) + q) rfl rfl rfl) ?_
            refine lv_iconst (v := 2) F.1 F.2.1 dX6_book_92 (by decide) ?_
            refine lv_isub F.1 F.2.1 dX6_book_93 ?_
            refine tp (y := nI (3 + 5 * ((nN f - 1 - i) % 2) + (q - 2))) (sb2 (a := 3 + 5 * ((nN f - 1 - i) % 2) + q) (b := 2) (c := 3 + 5 * ((nN f - 1 - i) % 2) + (q - 2)) rfl rfl (by omega)) ?_
            refine iS (rest := [.ref (a 1)]) (wsp := fun _ => oM a v :: ai ct (a 1) 210 f :: [ai ct (a 4) 8 c]) F (kX6_bookAt l dC dI ct (nN f - 1 - i) (3 + 5 * ((nN f - 1 - i) % 2) + (q - 2)) (57 + 13 * ((nN f - 1 - i) % 12) + 5 * ((nN f - 1 - i) % 2) + (q - 2)) (by omega) (by omega)) gX6_book_X6_bookAt rfl ⟨rfl, rfl⟩ nmX6_bookAt ⟨Nat.le_of_ble_eq_true rfl, Nat.le_of_ble_eq_true rfl⟩ eT_b (fun _ _ _ => trivial) hK hP hD hS hA [] (by decide) rfl rfl rfl hl.1 (Nat.le_of_ble_eq_true rfl) dX6_book_94 ⟨Nat.zero_le _, Nat.zero_le _⟩ (fun _ => rfl) (fun _ => rfl) [a 0, a 1, a 4] rfl (fun _ => rfl) (fun r_94 u_94 H locs e_94 hP hD hS => ?_)
            obtain rfl := e_94
            refine al (v := f (57 + 13 * ((nN f - 1 - i) % 12) + 5 * ((nN f - 1 - i) % 2) + (q - 2))) F hK hP 1 0 rfl rfl (57 + 13 * ((nN f - 1 - i) % 12) + 5 * ((nN f - 1 - i) % 2) + (q - 2)) rfl (by omega) (by decide) rfl dX6_book_97 ?_
            exact rtI (f, c) F hr hlk hP hS rfl (Eq.trans (by rw [show tn (nI i) = i from nI_clamp hi, show tn (nI q) = q from nI_clamp (by omega), mn12 hRg]; rw [if_neg (nI_ge hib (by omega)), kBook, if_neg (q_ne (m := 0) c_53), if_neg (q_ne (m := 1) c_71)]) (if_pos ⟨Int32.not_lt.mp c_1, c_11⟩).symm) dX6_book_98
          · refine lv_iload F.1 F.2.1 dX6_book_74 (lv_at hl 0 rfl) ?_
            refine lv_goto (tgt := 98) F.1 F.2.1 dX6_book_76 (by decide) ?_
            exact rtI (f, c) F hr hlk hP hS rfl (Eq.trans (by rw [show tn (nI i) = i from nI_clamp hi, show tn (nI q) = q from nI_clamp (by omega), mn12 hRg]; rw [if_neg (nI_ge hib (by omega)), kBook, if_neg (q_ne (m := 0) c_53), if_pos (nI_of_eq (b := 1) c_71 (by omega) (by omega))]) (if_pos ⟨Int32.not_lt.mp c_1, c_11⟩).symm) dX6_book_98
        · refine lv_aload_n F.1 F.2.1 dX6_book_56 rfl (lv_at hl 2 rfl) ?_
          refine gf F hK hP 0 rfl rfl hiX6_book_6 0 (by decide) (List.mem_of_getElem? (i := 3) rfl) rfl dX6_book_57 ?_
          refine lv_iload_n F.1 F.2.1 dX6_book_60 rfl (lv_at hl 1 rfl) ?_
          refine lv_iconst (v := 0) F.1 F.2.1 dX6_book_61 (by decide) ?_
          refine iS (rest := [.ref (a 1)]) (wsp := fun _ => oM a v :: ai ct (a 1) 210 f :: [ai ct (a 4) 8 c]) F (kX6_bookAt l dC dI ct (nN f - 1 - i) 0 (54 + 13 * ((nN f - 1 - i) % 12)) (by omega) (by omega)) gX6_book_X6_bookAt rfl ⟨rfl, rfl⟩ nmX6_bookAt ⟨Nat.le_of_ble_eq_true rfl, Nat.le_of_ble_eq_true rfl⟩ eT_b (fun _ _ _ => trivial) hK hP hD hS hA [] (by decide) rfl rfl rfl hl.1 (Nat.le_of_ble_eq_true rfl) dX6_book_62 ⟨Nat.zero_le _, Nat.zero_le _⟩ (fun _ => rfl) (fun _ => rfl) [a 0, a 1, a 4] rfl (fun _ => rfl) (fun r_62 u_62 H locs e_62 hP hD hS => ?_)
          obtain rfl := e_62
          refine al (v := f (54 + 13 * ((nN f - 1 - i) % 12))) F hK hP 1 0 rfl rfl (54 + 13 * ((nN f - 1 - i) % 12)) rfl (by omega) (by decide) rfl dX6_book_65 ?_
          refine lv_goto (tgt := 98) F.1 F.2.1 dX6_book_66 (by decide) ?_
          exact rtI (f, c) F hr hlk hP hS rfl (Eq.trans (by rw [show tn (nI i) = i from nI_clamp hi, show tn (nI q) = q from nI_clamp (by omega), mn12 hRg]; rw [if_neg (nI_ge hib (by omega)), kBook, if_pos (nI_of_eq (b := 0) c_53 (by omega) (by omega))]) (if_pos ⟨Int32.not_lt.mp c_1, c_11⟩).symm) dX6_book_98
      · refine lv_aload_n F.1 F.2.1 dX6_book_29 rfl (lv_at hl 0 rfl) ?_
        refine lv_ldc (v := (-1000004)) F.1 F.2.1 F.2.2.2.1 (F.2.2.2.2 _ (List.mem_of_getElem? (i := 2) rfl)) dX6_book_30 ?_
        refine iV (rest := []) (wsp := fun _ => oM a v :: ai ct (a 1) 210 f :: [ai ct (a 4) 8 (fnd c 4)]) F (kX6_finding l dC dI ct a v c (-1000004) 4 (by decide) (by decide) (by decide)) gX6_book_X6_finding rfl ⟨rfl, rfl⟩ nmX6_finding ⟨Nat.le_of_ble_eq_true rfl, Nat.le_of_ble_eq_true rfl⟩ eT_b (fun _ _ _ => trivial) hK hP hD hS hA 0 rfl rfl rfl [0, 2] (by decide) rfl rfl rfl hl.1 (Nat.le_of_ble_eq_true rfl) dX6_book_32 ⟨Nat.zero_le _, Nat.zero_le _⟩ (fun _ => rfl) (fun _ => rfl) [a 0, a 1, a 4] rfl (fun _ => rfl) (fun r_32 u_32 H locs e_32 hP hD hS => ?_)
        obtain rfl := e_32
        exact rtI (f, (fnd c 4)) F hr hlk hP hS rfl (Eq.trans (by rw [show tn (nI i) = i from nI_clamp hi, show tn (nI q) = q from nI_clamp (by omega), mn12 hRg]; rw [if_pos (Int32.not_lt.mp c_26)]; rfl) (if_pos ⟨Int32.not_lt.mp c_1, c_11⟩).symm) dX6_book_35
    · have c_11 : ¬ (0 ≤ x2 ∧ x2 ≤ 6) := b01f rfl c_11
      refine lv_aload_n F.1 F.2.1 dX6_book_14 rfl (lv_at hl 0 rfl) ?_
      refine lv_ldc (v := (-1000001)) F.1 F.2.1 F.2.2.2.1 (F.2.2.2.2 _ (List.mem_of_getElem? (i := 1) rfl)) dX6_book_15 ?_
      refine iV (rest := []) (wsp := fun _ => oM a v :: ai ct (a 1) 210 f :: [ai ct (a 4) 8 (fnd c 1)]) F (kX6_finding l dC dI ct a v c (-1000001) 1 (by decide) (by decide) (by decide)) gX6_book_X6_finding rfl ⟨rfl, rfl⟩ nmX6_finding ⟨Nat.le_of_ble_eq_true rfl, Nat.le_of_ble_eq_true rfl⟩ eT_b (fun _ _ _ => trivial) hK hP hD hS hA 0 rfl rfl rfl [0, 2] (by decide) rfl rfl rfl hl.1 (Nat.le_of_ble_eq_true rfl) dX6_book_17 ⟨Nat.zero_le _, Nat.zero_le _⟩ (fun _ => rfl) (fun _ => rfl) [a 0, a 1, a 4] rfl (fun _ => rfl) (fun r_17 u_17 H locs e_17 hP hD hS => ?_)
      obtain rfl := e_17
      exact rtI (f, (fnd c 1)) F hr hlk hP hS rfl ((if_neg (fun q => c_11 q.2)).symm) dX6_book_20

def rmX6_wouldHaveDone : Room := { frames := 3, cells := 0, slots := 0, locals := 67 }
theorem nmX6_wouldHaveDone : NmV yX6_wouldHaveDone RX6 2 := by unfold NmV; decide +kernel
theorem hiX6_wouldHaveDone_6 : ∀ w ∈ u_ws RX6 TX6 22, w ∈ wsX6_wouldHaveDone := by decide +kernel
set_option maxHeartbeats 4000000 in
set_option maxRecDepth 100000 in
theorem kX6_wouldHaveDone (l : Launch) (dC : Nat → ClassId) (dI : Nat → Nat → Nat) (ct : Nat → ClassId) (a : Nat → Nat) (v f : Nat → Int32) (s n : Nat) (hs : s < 2) (hn : n < 2147483648) : MI (S := Unit) l yX6_wouldHaveDone wsX6_wouldHaveDone rmX6_wouldHaveDone dC dI ct eT [.ref (a 0), .int (nI s), .int (nI n)] (oM a v :: [ai ct (a 1) 210 f]) (fun _ => oM a v :: [ai ct (a 1) 210 f]) (fun r _ => r = whF f s (n % 12)) := by
  refine MI.of (cc := cX6_wouldHaveDone) (maxL := 12) (ret := (some .int)) (by decide) rfl (Nat.le_of_ble_eq_true rfl) ?_
  intro pg en z mi below meth cd A F hr hlk hin hK hP hD hA hS hE ls hl
  have F : CallFix pg mi cd cX6_wouldHaveDone 12 z _ wsX6_wouldHaveDone RX6 := F
  have hl : lv_has ls 12 [(0, .ref (a 0)), (1, .int (nI s)), (2, .int (nI n))] := hl
  refine lv_iconst (v := 0) F.1 F.2.1 dX6_wouldHaveDone_0 (by decide) ?_
  refine lv_istore_n (lv' := [(3, .int 0), (0, .ref (a 0)), (1, .int (nI s)), (2, .int (nI n))]) F.1 F.2.1 dX6_wouldHaveDone_1 rfl hl (by decide) rfl (fun ls hl => ?_)
  refine lv_iconst (v := 0) F.1 F.2.1 dX6_wouldHaveDone_2 (by decide) ?_
  refine lv_istore (lv' := [(4, .int 0), (3, .int 0), (0, .ref (a 0)), (1, .int (nI s)), (2, .int (nI n))]) F.1 F.2.1 dX6_wouldHaveDone_3 hl (by decide) rfl (fun ls hl => ?_)
  refine lv_iconst (v := 0) F.1 F.2.1 dX6_wouldHaveDone_5 (by decide) ?_
  refine lv_istore (lv' := [(5, .int 0), (4, .int 0), (3, .int 0), (0, .ref (a 0)), (1, .int (nI s)), (2, .int (nI n))]) F.1 F.2.1 dX6_wouldHaveDone_6 hl (by decide) rfl (fun ls hl => ?_)
  refine lv_iconst (v := 0) F.1 F.2.1 dX6_wouldHaveDone_8 (by decide) ?_
  refine lv_istore (lv' := [(6, .int 0), (5, .int 0), (4, .int 0), (3, .int 0), (0, .ref (a 0)), (1, .int (nI s)), (2, .int (nI n))]) F.1 F.2.1 dX6_wouldHaveDone_9 hl (by decide) rfl (fun ls hl => ?_)
  refine lv_aload_n F.1 F.2.1 dX6_wouldHaveDone_11 rfl (lv_at hl 4 rfl) ?_
  refine gf F hK hP 0 rfl rfl hiX6_wouldHaveDone_6 0 (by decide) (List.mem_of_getElem? (i := 1) rfl) rfl dX6_wouldHaveDone_12 ?_
  refine lv_iload_n F.1 F.2.1 dX6_wouldHaveDone_15 rfl (lv_at hl 6 rfl) ?_
  refine lv_iconst (v := 1) F.1 F.2.1 dX6_wouldHaveDone_16 (by decide) ?_
  refine iS (rest := [.ref (a 1)]) (wsp := fun _ => oM a v :: [ai ct (a 1) 210 f]) F (kX6_bookAt l dC dI ct n 1 (55 + 13 * (n % 12)) (by omega) (by omega)) gX6_wouldHaveDone_X6_bookAt rfl ⟨rfl, rfl⟩ nmX6_bookAt ⟨Nat.le_of_ble_eq_true rfl, Nat.le_of_ble_eq_true rfl⟩ eT_b (fun _ _ _ => trivial) hK hP hD hS hA [] (by decide) rfl rfl rfl hl.1 (Nat.le_of_ble_eq_true rfl) dX6_wouldHaveDone_17 ⟨Nat.zero_le _, Nat.zero_le _⟩ (fun _ => rfl) (fun _ => rfl) [a 0, a 1] rfl (fun _ => rfl) (fun r_17 u_17 H locs e_17 hP hD hS => ?_)
  obtain rfl := e_17
  refine al (v := f (55 + 13 * (n % 12))) F hK hP 1 0 rfl rfl (55 + 13 * (n % 12)) rfl (by omega) (by decide) rfl dX6_wouldHaveDone_20 ?_
  refine lv_istore (lv' := [(7, .int (f (55 + 13 * (n % 12)))), (6, .int 0), (5, .int 0), (4, .int 0), (3, .int 0), (0, .ref (a 0)), (1, .int (nI s)), (2, .int (nI n))]) F.1 F.2.1 dX6_wouldHaveDone_21 hl (by decide) rfl (fun ls hl => ?_)
  refine lv_iconst (v := 0) F.1 F.2.1 dX6_wouldHaveDone_23 (by decide) ?_
  refine lv_istore (lv' := [(8, .int 0), (7, .int (f (55 + 13 * (n % 12)))), (6, .int 0), (5, .int 0), (4, .int 0), (3, .int 0), (0, .ref (a 0)), (1, .int (nI s)), (2, .int (nI n))]) F.1 F.2.1 dX6_wouldHaveDone_24 hl (by decide) rfl (fun ls hl => ?_)
  refine loopN (I := fun k H locs ls => va_P (dC, dI) vwCl (oM a v :: [ai ct (a 1) 210 f]) H ∧ va_D A (oM a v :: [ai ct (a 1) 210 f]) ∧ va_S A z.heap H locs ∧ lv_has ls 12 [(8, .int (nI k)), (6, .int (bsU f (1 - s) (n % 12) k)), (5, .int (bsU f s (n % 12) k)), (4, .int (bvU f s (1 - s) (n % 12) k)), (3, .int (bvU f s s (n % 12) k)), (7, .int (f (55 + 13 * (n % 12)))), (0, .ref (a 0)), (1, .int (nI s)), (2, .int (nI n))]) 5 0 (by omega) ⟨hP, hD, hS, lv_sub hl [0, 2, 3, 4, 5, 1, 6, 7, 8] rfl⟩ (fun H locs ls hI => ?_) (fun k hk_k H locs ls hI ih_26 => ?_)
  · obtain ⟨hP, hD, hS, hl⟩ := hI
    refine lv_iload F.1 F.2.1 dX6_wouldHaveDone_26 (lv_at hl 0 rfl) ?_
    refine lv_iconst (v := 5) F.1 F.2.1 dX6_wouldHaveDone_28 (by decide) ?_
    refine lv_icmp_ge (tgt := 136) F.1 F.2.1 dX6_wouldHaveDone_29 (by decide) (fun c_29 => ?_) (fun c_29 => ?_)
    · refine lv_iload F.1 F.2.1 dX6_wouldHaveDone_136 (lv_at hl 1 rfl) ?_
      refine lv_if_le (tgt := 158) F.1 F.2.1 dX6_wouldHaveDone_138 (by decide) (fun c_138 => ?_) (fun c_138 => ?_)
      · refine lv_iload F.1 F.2.1 dX6_wouldHaveDone_158 (lv_at hl 2 rfl) ?_
        refine lv_if_le (tgt := 167) F.1 F.2.1 dX6_wouldHaveDone_160 (by decide) (fun c_160 => ?_) (fun c_160 => ?_)
        · refine lv_iconst (v := 0) F.1 F.2.1 dX6_wouldHaveDone_167 (by decide) ?_
          exact rtI () F hr hlk hP hS rfl (((if_neg (fun q => Int32.not_lt.mpr c_138 q.1)).trans (if_neg (Int32.not_lt.mpr c_160))).symm) dX6_wouldHaveDone_168
        · refine lv_iconst (v := 2) F.1 F.2.1 dX6_wouldHaveDone_163 (by decide) ?_
          refine lv_goto (tgt := 168) F.1 F.2.1 dX6_wouldHaveDone_164 (by decide) ?_
          exact rtI () F hr hlk hP hS rfl (((if_neg (fun q => Int32.not_lt.mpr c_138 q.1)).trans (if_pos (Int32.not_le.mp c_160))).symm) dX6_wouldHaveDone_168
      · refine lv_iload F.1 F.2.1 dX6_wouldHaveDone_141 (lv_at hl 3 rfl) ?_
        refine lv_iload_n F.1 F.2.1 dX6_wouldHaveDone_143 rfl (lv_at hl 4 rfl) ?_
        refine lv_aload_n F.1 F.2.1 dX6_wouldHaveDone_144 rfl (lv_at hl 6 rfl) ?_
        refine lv_iload_n F.1 F.2.1 dX6_wouldHaveDone_145 rfl (lv_at hl 7 rfl) ?_
        refine lv_iconst (v := 0) F.1 F.2.1 dX6_wouldHaveDone_146 (by decide) ?_
        refine iV (rest := [.int (bvU f s s (n % 12) 5), .int (bvU f s (1 - s) (n % 12) 5)]) (wsp := fun _ => oM a v :: [ai ct (a 1) 210 f]) F (kX6_sideIs l dC dI ct a v f s 0 (20 + 17 * s) (by omega) (by omega)) gX6_wouldHaveDone_X6_sideIs rfl ⟨rfl, rfl⟩ nmX6_sideIs ⟨Nat.le_of_ble_eq_true rfl, Nat.le_of_ble_eq_true rfl⟩ eT_b (fun _ _ _ => trivial) hK hP hD hS hA 0 rfl rfl rfl [0, 1] (by decide) rfl rfl rfl hl.1 (Nat.le_of_ble_eq_true rfl) dX6_wouldHaveDone_147 ⟨Nat.zero_le _, Nat.zero_le _⟩ (fun _ => rfl) (fun _ => rfl) [a 0, a 1] rfl (fun _ => rfl) (fun r_147 u_147 H locs e_147 hP hD hS => ?_)
        obtain rfl := e_147
        refine lv_iadd F.1 F.2.1 dX6_wouldHaveDone_150 ?_
        refine lv_icmp_lt (tgt := 158) F.1 F.2.1 dX6_wouldHaveDone_151 (by decide) (fun c_151 => ?_) (fun c_151 => ?_)
        · refine lv_iload F.1 F.2.1 dX6_wouldHaveDone_158 (lv_at hl 2 rfl) ?_
          refine lv_if_le (tgt := 167) F.1 F.2.1 dX6_wouldHaveDone_160 (by decide) (fun c_160 => ?_) (fun c_160 => ?_)
          · refine lv_iconst (v := 0) F.1 F.2.1 dX6_wouldHaveDone_167 (by decide) ?_
            exact rtI () F hr hlk hP hS rfl (((if_neg (fun q => Int32.not_lt.mpr q.2 c_151)).trans (if_neg (Int32.not_lt.mpr c_160))).symm) dX6_wouldHaveDone_168
          · refine lv_iconst (v := 2) F.1 F.2.1 dX6_wouldHaveDone_163 (by decide) ?_
            refine lv_goto (tgt := 168) F.1 F.2.1 dX6_wouldHaveDone_164 (by decide) ?_
            exact rtI () F hr hlk hP hS rfl (((if_neg (fun q => Int32.not_lt.mpr q.2 c_151)).trans (if_pos (Int32.not_le.mp c_160))).symm) dX6_wouldHaveDone_168
        · refine lv_iconst (v := 1) F.1 F.2.1 dX6_wouldHaveDone_154 (by decide) ?_
          refine lv_goto (tgt := 168) F.1 F.2.1 dX6_wouldHaveDone_155 (by decide) ?_
          exact rtI () F hr hlk hP hS rfl ((if_pos ⟨Int32.not_le.mp c_138, Int32.not_lt.mp c_151⟩).symm) dX6_wouldHaveDone_168
    · exact absurd (nI_le (Nat.le_refl _) (by decide)) c_29
  · obtain ⟨hP, hD, hS, hl⟩ := hI
    refine lv_iload F.1 F.2.1 dX6_wouldHaveDone_26 (lv_at hl 0 rfl) ?_
    refine lv_iconst (v := 5) F.1 F.2.1 dX6_wouldHaveDone_28 (by decide) ?_
    refine lv_icmp_ge (tgt := 136) F.1 F.2.1 dX6_wouldHaveDone_29 (by decide) (fun c_29 => ?_) (fun c_29 => ?_)
    · exact absurd c_29 (nI_ge hk_k (by decide))
    · refine lv_aload_n F.1 F.2.1 dX6_wouldHaveDone_32 rfl (lv_at hl 6 rfl) ?_
      refine lv_iload_n F.1 F.2.1 dX6_wouldHaveDone_33 rfl (lv_at hl 7 rfl) ?_
      refine lv_bipush (v := 12) F.1 F.2.1 dX6_wouldHaveDone_34 (by decide) ?_
      refine lv_iload F.1 F.2.1 dX6_wouldHaveDone_36 (lv_at hl 0 rfl) ?_
      refine lv_iadd F.1 F.2.1 dX6_wouldHaveDone_38 ?_
      refine tp (y := nI (12 + k)) (ad2 (a := 12) (b := k) (c := 12 + k) rfl rfl rfl) ?_
      refine iV (rest := []) (wsp := fun _ => oM a v :: [ai ct (a 1) 210 f]) F (kX6_sideIs l dC dI ct a v f s (12 + k) (32 + 17 * s + k) (by omega) (by omega)) gX6_wouldHaveDone_X6_sideIs rfl ⟨rfl, rfl⟩ nmX6_sideIs ⟨Nat.le_of_ble_eq_true rfl, Nat.le_of_ble_eq_true rfl⟩ eT_b (fun _ _ _ => trivial) hK hP hD hS hA 0 rfl rfl rfl [0, 1] (by decide) rfl rfl rfl hl.1 (Nat.le_of_ble_eq_true rfl) dX6_wouldHaveDone_39 ⟨Nat.zero_le _, Nat.zero_le _⟩ (fun _ => rfl) (fun _ => rfl) [a 0, a 1] rfl (fun _ => rfl) (fun r_39 u_39 H locs e_39 hP hD hS => ?_)
      obtain rfl := e_39
      refine lv_istore (lv' := [(9, .int (f (32 + 17 * s + k))), (8, .int (nI k)), (6, .int (bsU f (1 - s) (n % 12) k)), (5, .int (bsU f s (n % 12) k)), (4, .int (bvU f s (1 - s) (n % 12) k)), (3, .int (bvU f s s (n % 12) k)), (7, .int (f (55 + 13 * (n % 12)))), (0, .ref (a 0)), (1, .int (nI s)), (2, .int (nI n))]) F.1 F.2.1 dX6_wouldHaveDone_42 hl (by decide) rfl (fun ls hl => ?_)
      refine lv_aload_n F.1 F.2.1 dX6_wouldHaveDone_44 rfl (lv_at hl 7 rfl) ?_
      refine gf F hK hP 0 rfl rfl hiX6_wouldHaveDone_6 0 (by decide) (List.mem_of_getElem? (i := 1) rfl) rfl dX6_wouldHaveDone_45 ?_
      refine lv_iload_n F.1 F.2.1 dX6_wouldHaveDone_48 rfl (lv_at hl 9 rfl) ?_
      refine lv_iconst (v := 3) F.1 F.2.1 dX6_wouldHaveDone_49 (by decide) ?_
      refine lv_iconst (v := 5) F.1 F.2.1 dX6_wouldHaveDone_50 (by decide) ?_
      refine lv_iload_n F.1 F.2.1 dX6_wouldHaveDone_51 rfl (lv_at hl 8 rfl) ?_
      refine lv_imul F.1 F.2.1 dX6_wouldHaveDone_52 ?_
      refine tp (y := nI (5 * s)) (ml2 (a := 5) (b := s) (c := 5 * s) rfl rfl rfl) ?_
      refine lv_iadd F.1 F.2.1 dX6_wouldHaveDone_53 ?_
      refine tp (y := nI (3 + 5 * s)) (ad2 (a := 3) (b := 5 * s) (c := 3 + 5 * s) rfl rfl rfl) ?_
      refine lv_iload F.1 F.2.1 dX6_wouldHaveDone_54 (lv_at hl 1 rfl) ?_
      refine lv_iadd F.1 F.2.1 dX6_wouldHaveDone_56 ?_
      refine tp (y := nI (3 + 5 * s + k)) (ad2 (a := 3 + 5 * s) (b := k) (c := 3 + 5 * s + k) rfl rfl rfl) ?_
      refine iS (rest := [.ref (a 1)]) (wsp := fun _ => oM a v :: [ai ct (a 1) 210 f]) F (kX6_bookAt l dC dI ct n (3 + 5 * s + k) (57 + 13 * (n % 12) + 5 * s + k) (by omega) (by omega)) gX6_wouldHaveDone_X6_bookAt rfl ⟨rfl, rfl⟩ nmX6_bookAt ⟨Nat.le_of_ble_eq_true rfl, Nat.le_of_ble_eq_true rfl⟩ eT_b (fun _ _ _ => trivial) hK hP hD hS hA [] (by decide) rfl rfl rfl hl.1 (Nat.le_of_ble_eq_true rfl) dX6_wouldHaveDone_57 ⟨Nat.zero_le _, Nat.zero_le _⟩ (fun _ => rfl) (fun _ => rfl) [a 0, a 1] rfl (fun _ => rfl) (fun r_57 u_57 H locs e_57 hP hD hS => ?_)
      obtain rfl := e_57
      refine al (v := f (57 + 13 * (n % 12) + 5 * s + k)) F hK hP 1 0 rfl rfl (57 + 13 * (n % 12) + 5 * s + k) rfl (by omega) (by decide) rfl dX6_wouldHaveDone_60 ?_
      refine lv_istore (lv' := [(10, .int (f (57 + 13 * (n % 12) + 5 * s + k))), (9, .int (f (32 + 17 * s + k))), (8, .int (nI k)), (6, .int (bsU f (1 - s) (n % 12) k)), (5, .int (bsU f s (n % 12) k)), (4, .int (bvU f s (1 - s) (n % 12) k)), (3, .int (bvU f s s (n % 12) k)), (7, .int (f (55 + 13 * (n % 12)))), (0, .ref (a 0)), (1, .int (nI s)), (2, .int (nI n))]) F.1 F.2.1 dX6_wouldHaveDone_61 hl (by decide) rfl (fun ls hl => ?_)
      refine lv_aload_n F.1 F.2.1 dX6_wouldHaveDone_63 rfl (lv_at hl 8 rfl) ?_
      refine gf F hK hP 0 rfl rfl hiX6_wouldHaveDone_6 0 (by decide) (List.mem_of_getElem? (i := 1) rfl) rfl dX6_wouldHaveDone_64 ?_
      refine lv_iload_n F.1 F.2.1 dX6_wouldHaveDone_67 rfl (lv_at hl 10 rfl) ?_
      refine lv_iconst (v := 3) F.1 F.2.1 dX6_wouldHaveDone_68 (by decide) ?_
      refine lv_iconst (v := 5) F.1 F.2.1 dX6_wouldHaveDone_69 (by decide) ?_
      refine lv_iconst (v := 1) F.1 F.2.1 dX6_wouldHaveDone_70 (by decide) ?_
      refine lv_iload_n F.1 F.2.1 dX6_wouldHaveDone_71 rfl (lv_at hl 9 rfl) ?_
      refine lv_isub F.1 F.2.1 dX6_wouldHaveDone_72 ?_
      refine tp (y := nI (1 - s)) (sb2 (a := 1) (b := s) (c := 1 - s) rfl rfl (by omega)) ?_
      refine lv_imul F.1 F.2.1 dX6_wouldHaveDone_73 ?_
      refine tp (y := nI (5 * (1 - s))) (ml2 (a := 5) (b := 1 - s) (c := 5 * (1 - s)) rfl rfl rfl) ?_
      refine lv_iadd F.1 F.2.1 dX6_wouldHaveDone_74 ?_
      refine tp (y := nI (3 + 5 * (1 - s))) (ad2 (a := 3) (b := 5 * (1 - s)) (c := 3 + 5 * (1 - s)) rfl rfl rfl) ?_
      refine lv_iload F.1 F.2.1 dX6_wouldHaveDone_75 (lv_at hl 2 rfl) ?_
      refine lv_iadd F.1 F.2.1 dX6_wouldHaveDone_77 ?_
      refine tp (y := nI (3 + 5 * (1 - s) + k)) (ad2 (a := 3 + 5 * (1 - s)) (b := k) (c := 3 + 5 * (1 - s) + k) rfl rfl rfl) ?_
      refine iS (rest := [.ref (a 1)]) (wsp := fun _ => oM a v :: [ai ct (a 1) 210 f]) F (kX6_bookAt l dC dI ct n (3 + 5 * (1 - s) + k) (57 + 13 * (n % 12) + 5 * (1 - s) + k) (by omega) (by omega)) gX6_wouldHaveDone_X6_bookAt rfl ⟨rfl, rfl⟩ nmX6_bookAt ⟨Nat.le_of_ble_eq_true rfl, Nat.le_of_ble_eq_true rfl⟩ eT_b (fun _ _ _ => trivial) hK hP hD hS hA [] (by decide) rfl rfl rfl hl.1 (Nat.le_of_ble_eq_true rfl) dX6_wouldHaveDone_78 ⟨Nat.zero_le _, Nat.zero_le _⟩ (fun _ => rfl) (fun _ => rfl) [a 0, a 1] rfl (fun _ => rfl) (fun r_78 u_78 H locs e_78 hP hD hS => ?_)
      obtain rfl := e_78
      refine al (v := f (57 + 13 * (n % 12) + 5 * (1 - s) + k)) F hK hP 1 0 rfl rfl (57 + 13 * (n % 12) + 5 * (1 - s) + k) rfl (by omega) (by decide) rfl dX6_wouldHaveDone_81 ?_
      refine lv_istore (lv' := [(11, .int (f (57 + 13 * (n % 12) + 5 * (1 - s) + k))), (10, .int (f (57 + 13 * (n % 12) + 5 * s + k))), (9, .int (f (32 + 17 * s + k))), (8, .int (nI k)), (6, .int (bsU f (1 - s) (n % 12) k)), (5, .int (bsU f s (n % 12) k)), (4, .int (bvU f s (1 - s) (n % 12) k)), (3, .int (bvU f s s (n % 12) k)), (7, .int (f (55 + 13 * (n % 12)))), (0, .ref (a 0)), (1, .int (nI s)), (2, .int (nI n))]) F.1 F.2.1 dX6_wouldHaveDone_82 hl (by decide) rfl (fun ls hl => ?_)
      refine lv_iload_n F.1 F.2.1 dX6_wouldHaveDone_84 rfl (lv_at hl 7 rfl) ?_
      refine lv_aload_n F.1 F.2.1 dX6_wouldHaveDone_85 rfl (lv_at hl 9 rfl) ?_
      refine lv_iload F.1 F.2.1 dX6_wouldHaveDone_86 (lv_at hl 3 rfl) ?_
      refine lv_iload F.1 F.2.1 dX6_wouldHaveDone_88 (lv_at hl 1 rfl) ?_
      refine lv_iload F.1 F.2.1 dX6_wouldHaveDone_90 (lv_at hl 2 rfl) ?_
      refine lv_iload F.1 F.2.1 dX6_wouldHaveDone_92 (lv_at hl 8 rfl) ?_
      refine iV (rest := [.int (bvU f s s (n % 12) k)]) (wsp := fun _ => oM a v :: [ai ct (a 1) 210 f]) F (kX6_priceBy l dC dI ct a v f k (f (57 + 13 * (n % 12) + 5 * s + k)) (f (32 + 17 * s + k)) (f (55 + 13 * (n % 12))) (by omega)) gX6_wouldHaveDone_X6_priceBy rfl ⟨rfl, rfl⟩ nmX6_priceBy ⟨Nat.le_of_ble_eq_true rfl, Nat.le_of_ble_eq_true rfl⟩ eT_b (fun _ _ _ => trivial) hK hP hD hS hA 0 rfl rfl rfl [0, 1] (by decide) rfl rfl rfl hl.1 (Nat.le_of_ble_eq_true rfl) dX6_wouldHaveDone_94 ⟨Nat.zero_le _, Nat.zero_le _⟩ (fun _ => rfl) (fun _ => rfl) [a 0, a 1] rfl (fun _ => rfl) (fun r_94 u_94 H locs e_94 hP hD hS => ?_)
      obtain rfl := e_94
      refine lv_iadd F.1 F.2.1 dX6_wouldHaveDone_97 ?_
      refine lv_istore_n (lv' := [(3, .int ((bvU f s s (n % 12) k) + (prc (f (15 + k)) (f (32 + 17 * s + k)) (f (55 + 13 * (n % 12))) (f (57 + 13 * (n % 12) + 5 * s + k))))), (11, .int (f (57 + 13 * (n % 12) + 5 * (1 - s) + k))), (10, .int (f (57 + 13 * (n % 12) + 5 * s + k))), (9, .int (f (32 + 17 * s + k))), (8, .int (nI k)), (6, .int (bsU f (1 - s) (n % 12) k)), (5, .int (bsU f s (n % 12) k)), (4, .int (bvU f s (1 - s) (n % 12) k)), (7, .int (f (55 + 13 * (n % 12)))), (0, .ref (a 0)), (1, .int (nI s)), (2, .int (nI n))]) F.1 F.2.1 dX6_wouldHaveDone_98 rfl hl (by decide) rfl (fun ls hl => ?_)
      refine lv_iload F.1 F.2.1 dX6_wouldHaveDone_99 (lv_at hl 7 rfl) ?_
      refine lv_aload_n F.1 F.2.1 dX6_wouldHaveDone_101 rfl (lv_at hl 9 rfl) ?_
      refine lv_iload F.1 F.2.1 dX6_wouldHaveDone_102 (lv_at hl 4 rfl) ?_
      refine lv_iload F.1 F.2.1 dX6_wouldHaveDone_104 (lv_at hl 1 rfl) ?_
      refine lv_iload F.1 F.2.1 dX6_wouldHaveDone_106 (lv_at hl 3 rfl) ?_
      refine lv_iload F.1 F.2.1 dX6_wouldHaveDone_108 (lv_at hl 8 rfl) ?_
      refine iV (rest := [.int (bvU f s (1 - s) (n % 12) k)]) (wsp := fun _ => oM a v :: [ai ct (a 1) 210 f]) F (kX6_priceBy l dC dI ct a v f k (f (57 + 13 * (n % 12) + 5 * (1 - s) + k)) (f (32 + 17 * s + k)) (f (55 + 13 * (n % 12))) (by omega)) gX6_wouldHaveDone_X6_priceBy rfl ⟨rfl, rfl⟩ nmX6_priceBy ⟨Nat.le_of_ble_eq_true rfl, Nat.le_of_ble_eq_true rfl⟩ eT_b (fun _ _ _ => trivial) hK hP hD hS hA 0 rfl rfl rfl [0, 1] (by decide) rfl rfl rfl hl.1 (Nat.le_of_ble_eq_true rfl) dX6_wouldHaveDone_110 ⟨Nat.zero_le _, Nat.zero_le _⟩ (fun _ => rfl) (fun _ => rfl) [a 0, a 1] rfl (fun _ => rfl) (fun r_110 u_110 H locs e_110 hP hD hS => ?_)
      obtain rfl := e_110
      refine lv_iadd F.1 F.2.1 dX6_wouldHaveDone_113 ?_
      refine lv_istore (lv' := [(4, .int ((bvU f s (1 - s) (n % 12) k) + (prc (f (15 + k)) (f (32 + 17 * s + k)) (f (55 + 13 * (n % 12))) (f (57 + 13 * (n % 12) + 5 * (1 - s) + k))))), (3, .int ((bvU f s s (n % 12) k) + (prc (f (15 + k)) (f (32 + 17 * s + k)) (f (55 + 13 * (n % 12))) (f (57 + 13 * (n % 12) + 5 * s + k))))), (11, .int (f (57 + 13 * (n % 12) + 5 * (1 - s) + k))), (10, .int (f (57 + 13 * (n % 12) + 5 * s + k))), (9, .int (f (32 + 17 * s + k))), (8, .int (nI k)), (6, .int (bsU f (1 - s) (n % 12) k)), (5, .int (bsU f s (n % 12) k)), (7, .int (f (55 + 13 * (n % 12)))), (0, .ref (a 0)), (1, .int (nI s)), (2, .int (nI n))]) F.1 F.2.1 dX6_wouldHaveDone_114 hl (by decide) rfl (fun ls hl => ?_)
      refine lv_iload F.1 F.2.1 dX6_wouldHaveDone_116 (lv_at hl 7 rfl) ?_
      refine lv_iload F.1 F.2.1 dX6_wouldHaveDone_118 (lv_at hl 3 rfl) ?_
      refine lv_iadd F.1 F.2.1 dX6_wouldHaveDone_120 ?_
      refine lv_istore (lv' := [(5, .int ((bsU f s (n % 12) k) + (f (57 + 13 * (n % 12) + 5 * s + k)))), (4, .int ((bvU f s (1 - s) (n % 12) k) + (prc (f (15 + k)) (f (32 + 17 * s + k)) (f (55 + 13 * (n % 12))) (f (57 + 13 * (n % 12) + 5 * (1 - s) + k))))), (3, .int ((bvU f s s (n % 12) k) + (prc (f (15 + k)) (f (32 + 17 * s + k)) (f (55 + 13 * (n % 12))) (f (57 + 13 * (n % 12) + 5 * s + k))))), (11, .int (f (57 + 13 * (n % 12) + 5 * (1 - s) + k))), (10, .int (f (57 + 13 * (n % 12) + 5 * s + k))), (9, .int (f (32 + 17 * s + k))), (8, .int (nI k)), (6, .int (bsU f (1 - s) (n % 12) k)), (7, .int (f (55 + 13 * (n % 12)))), (0, .ref (a 0)), (1, .int (nI s)), (2, .int (nI n))]) F.1 F.2.1 dX6_wouldHaveDone_121 hl (by decide) rfl (fun ls hl => ?_)
      refine lv_iload F.1 F.2.1 dX6_wouldHaveDone_123 (lv_at hl 7 rfl) ?_
      refine lv_iload F.1 F.2.1 dX6_wouldHaveDone_125 (lv_at hl 3 rfl) ?_
      refine lv_iadd F.1 F.2.1 dX6_wouldHaveDone_127 ?_
      refine lv_istore (lv' := [(6, .int ((bsU f (1 - s) (n % 12) k) + (f (57 + 13 * (n % 12) + 5 * (1 - s) + k)))), (5, .int ((bsU f s (n % 12) k) + (f (57 + 13 * (n % 12) + 5 * s + k)))), (4, .int ((bvU f s (1 - s) (n % 12) k) + (prc (f (15 + k)) (f (32 + 17 * s + k)) (f (55 + 13 * (n % 12))) (f (57 + 13 * (n % 12) + 5 * (1 - s) + k))))), (3, .int ((bvU f s s (n % 12) k) + (prc (f (15 + k)) (f (32 + 17 * s + k)) (f (55 + 13 * (n % 12))) (f (57 + 13 * (n % 12) + 5 * s + k))))), (11, .int (f (57 + 13 * (n % 12) + 5 * (1 - s) + k))), (10, .int (f (57 + 13 * (n % 12) + 5 * s + k))), (9, .int (f (32 + 17 * s + k))), (8, .int (nI k)), (7, .int (f (55 + 13 * (n % 12)))), (0, .ref (a 0)), (1, .int (nI s)), (2, .int (nI n))]) F.1 F.2.1 dX6_wouldHaveDone_128 hl (by decide) rfl (fun ls hl => ?_)
      refine lv_iinc (v := nI (k + 1)) (lv' := [(8, .int (nI (k + 1))), (6, .int ((bsU f (1 - s) (n % 12) k) + (f (57 + 13 * (n % 12) + 5 * (1 - s) + k)))), (5, .int ((bsU f s (n % 12) k) + (f (57 + 13 * (n % 12) + 5 * s + k)))), (4, .int ((bvU f s (1 - s) (n % 12) k) + (prc (f (15 + k)) (f (32 + 17 * s + k)) (f (55 + 13 * (n % 12))) (f (57 + 13 * (n % 12) + 5 * (1 - s) + k))))), (3, .int ((bvU f s s (n % 12) k) + (prc (f (15 + k)) (f (32 + 17 * s + k)) (f (55 + 13 * (n % 12))) (f (57 + 13 * (n % 12) + 5 * s + k))))), (11, .int (f (57 + 13 * (n % 12) + 5 * (1 - s) + k))), (10, .int (f (57 + 13 * (n % 12) + 5 * s + k))), (9, .int (f (32 + 17 * s + k))), (7, .int (f (55 + 13 * (n % 12)))), (0, .ref (a 0)), (1, .int (nI s)), (2, .int (nI n))]) F.1 F.2.1 dX6_wouldHaveDone_130 hl (k := 7) rfl (by rw [show Int32.ofInt 1 = nI 1 from rfl, nI_add]) (by decide) rfl (fun ls hl => ?_)
      refine lv_goto (tgt := 26) F.1 F.2.1 dX6_wouldHaveDone_133 (by decide) ?_
      exact ih_26 _ _ _ ⟨hP, hD, hS, lv_sub hl [0, 1, 2, 3, 4, 8, 9, 10, 11] rfl⟩

def rmX6_allFits : Room := { frames := 4, cells := 0, slots := 0, locals := 98 }
theorem nmX6_allFits : NmV yX6_allFits RX6 1 := by unfold NmV; decide +kernel
theorem hiX6_allFits_6 : ∀ w ∈ u_ws RX6 TX6 22, w ∈ wsX6_allFits := by decide +kernel
set_option maxHeartbeats 4000000 in
set_option maxRecDepth 100000 in
theorem kX6_allFits (l : Launch) (dC : Nat → ClassId) (dI : Nat → Nat → Nat) (ct : Nat → ClassId) (a : Nat → Nat) (v f : Nat → Int32) (s : Nat) (hs : s < 2) (hRg : Rg f) : MI (S := Unit) l yX6_allFits wsX6_allFits rmX6_allFits dC dI ct eT [.ref (a 0), .int (nI s)] (oM a v :: [ai ct (a 1) 210 f]) (fun _ => oM a v :: [ai ct (a 1) 210 f]) (fun r _ => r = afF f s) := by
  refine MI.of (cc := cX6_allFits) (maxL := 6) (ret := (some .boolean)) (by decide) rfl (Nat.le_of_ble_eq_true rfl) ?_
  intro pg en z mi below meth cd A F hr hlk hin hK hP hD hA hS hE ls hl
  have F : CallFix pg mi cd cX6_allFits 6 z _ wsX6_allFits RX6 := F
  have hl : lv_has ls 6 [(0, .ref (a 0)), (1, .int (nI s))] := hl
  have hn9 := (nN_of hRg).2
  refine lv_iconst (v := 1) F.1 F.2.1 dX6_allFits_0 (by decide) ?_
  refine lv_istore_n (lv' := [(2, .int 1), (0, .ref (a 0)), (1, .int (nI s))]) F.1 F.2.1 dX6_allFits_1 rfl hl (by decide) rfl (fun ls hl => ?_)
  refine lv_iconst (v := 0) F.1 F.2.1 dX6_allFits_2 (by decide) ?_
  refine lv_istore_n (lv' := [(3, .int 0), (2, .int 1), (0, .ref (a 0)), (1, .int (nI s))]) F.1 F.2.1 dX6_allFits_3 rfl hl (by decide) rfl (fun ls hl => ?_)
  refine loopN (I := fun k H locs ls => va_P (dC, dI) vwCl (oM a v :: [ai ct (a 1) 210 f]) H ∧ va_D A (oM a v :: [ai ct (a 1) 210 f]) ∧ va_S A z.heap H locs ∧ lv_has ls 6 [(3, .int (nI k)), (2, .int (afU f s k)), (0, .ref (a 0)), (1, .int (nI s))]) (min 12 (nN f)) 0 (by omega) ⟨hP, hD, hS, lv_sub hl [0, 1, 2, 3] rfl⟩ (fun H locs ls hI => ?_) (fun k hk_k H locs ls hI ih_4 => ?_)
  · obtain ⟨hP, hD, hS, hl⟩ := hI
    refine lv_iload_n F.1 F.2.1 dX6_allFits_4 rfl (lv_at hl 0 rfl) ?_
    refine lv_aload_n F.1 F.2.1 dX6_allFits_5 rfl (lv_at hl 2 rfl) ?_
    refine iV (rest := [.int (nI (min 12 (nN f)))]) (wsp := fun _ => oM a v :: [ai ct (a 1) 210 f]) F (kX6_booked l dC dI ct a v f hRg) gX6_allFits_X6_booked rfl ⟨rfl, rfl⟩ nmX6_booked ⟨Nat.le_of_ble_eq_true rfl, Nat.le_of_ble_eq_true rfl⟩ eT_b (fun _ _ _ => trivial) hK hP hD hS hA 0 rfl rfl rfl [0, 1] (by decide) rfl rfl rfl hl.1 (Nat.le_of_ble_eq_true rfl) dX6_allFits_6 ⟨Nat.zero_le _, Nat.zero_le _⟩ (fun _ => rfl) (fun _ => rfl) [a 0, a 1] rfl (fun _ => rfl) (fun r_6 u_6 H locs e_6 hP hD hS => ?_)
    obtain rfl := e_6
    refine lv_icmp_ge (tgt := 95) F.1 F.2.1 dX6_allFits_9 (by decide) (fun c_9 => ?_) (fun c_9 => ?_)
    · refine lv_iload_n F.1 F.2.1 dX6_allFits_95 rfl (lv_at hl 1 rfl) ?_
      exact rtZ () F hr hlk hP hS rfl rfl (afU01 _ _ _) dX6_allFits_96
    · exact absurd (nI_le (Nat.le_refl _) (by omega)) c_9
  · obtain ⟨hP, hD, hS, hl⟩ := hI
    refine lv_iload_n F.1 F.2.1 dX6_allFits_4 rfl (lv_at hl 0 rfl) ?_
    refine lv_aload_n F.1 F.2.1 dX6_allFits_5 rfl (lv_at hl 2 rfl) ?_
    refine iV (rest := [.int (nI k)]) (wsp := fun _ => oM a v :: [ai ct (a 1) 210 f]) F (kX6_booked l dC dI ct a v f hRg) gX6_allFits_X6_booked rfl ⟨rfl, rfl⟩ nmX6_booked ⟨Nat.le_of_ble_eq_true rfl, Nat.le_of_ble_eq_true rfl⟩ eT_b (fun _ _ _ => trivial) hK hP hD hS hA 0 rfl rfl rfl [0, 1] (by decide) rfl rfl rfl hl.1 (Nat.le_of_ble_eq_true rfl) dX6_allFits_6 ⟨Nat.zero_le _, Nat.zero_le _⟩ (fun _ => rfl) (fun _ => rfl) [a 0, a 1] rfl (fun _ => rfl) (fun r_6 u_6 H locs e_6 hP hD hS => ?_)
    obtain rfl := e_6
    refine lv_icmp_ge (tgt := 95) F.1 F.2.1 dX6_allFits_9 (by decide) (fun c_9 => ?_) (fun c_9 => ?_)
    · exact absurd c_9 (nI_ge hk_k (by omega))
    · refine lv_aload_n F.1 F.2.1 dX6_allFits_12 rfl (lv_at hl 2 rfl) ?_
      refine gf F hK hP 0 rfl rfl hiX6_allFits_6 0 (by decide) (List.mem_of_getElem? (i := 1) rfl) rfl dX6_allFits_13 ?_
      refine lv_iconst (v := 0) F.1 F.2.1 dX6_allFits_16 (by decide) ?_
      refine al (v := f 0) F hK hP 1 0 rfl rfl 0 rfl (by omega) (by decide) rfl dX6_allFits_17 ?_
      refine tp (y := nI (nN f)) ((nN_of hRg).1) ?_
      refine lv_iconst (v := 1) F.1 F.2.1 dX6_allFits_18 (by decide) ?_
      refine lv_isub F.1 F.2.1 dX6_allFits_19 ?_
      refine tp (y := nI (nN f - 1)) (sb2 (a := nN f) (b := 1) (c := nN f - 1) rfl rfl (by omega)) ?_
      refine lv_iload_n F.1 F.2.1 dX6_allFits_20 rfl (lv_at hl 0 rfl) ?_
      refine lv_isub F.1 F.2.1 dX6_allFits_21 ?_
      refine tp (y := nI (nN f - 1 - k)) (sb2 (a := nN f - 1) (b := k) (c := nN f - 1 - k) rfl rfl (by omega)) ?_
      refine lv_istore (lv' := [(4, .int (nI (nN f - 1 - k))), (3, .int (nI k)), (2, .int (afU f s k)), (0, .ref (a 0)), (1, .int (nI s))]) F.1 F.2.1 dX6_allFits_22 hl (by decide) rfl (fun ls hl => ?_)
      refine lv_iload F.1 F.2.1 dX6_allFits_24 (lv_at hl 0 rfl) ?_
      refine lv_iconst (v := 2) F.1 F.2.1 dX6_allFits_26 (by decide) ?_
      refine lv_irem F.1 F.2.1 dX6_allFits_27 (by decide) ?_
      refine tp (y := nI ((nN f - 1 - k) % 2)) (pk_rem (d := 2) (by omega) (by decide) (by decide)) ?_
      refine lv_iload_n F.1 F.2.1 dX6_allFits_28 rfl (lv_at hl 4 rfl) ?_
      refine lv_icmp_ne (tgt := 50) F.1 F.2.1 dX6_allFits_29 (by decide) (fun c_29 => ?_) (fun c_29 => ?_)
      · refine lv_iconst (v := 0) F.1 F.2.1 dX6_allFits_50 (by decide) ?_
        refine lv_istore (lv' := [(5, .int 0), (4, .int (nI (nN f - 1 - k))), (3, .int (nI k)), (2, .int (afU f s k)), (0, .ref (a 0)), (1, .int (nI s))]) F.1 F.2.1 dX6_allFits_51 hl (by decide) rfl (fun ls hl => ?_)
        refine lv_iload_n F.1 F.2.1 dX6_allFits_53 rfl (lv_at hl 3 rfl) ?_
        refine lv_if_eq (tgt := 87) F.1 F.2.1 dX6_allFits_54 (by decide) (fun c_54 => ?_) (fun c_54 => ?_)
        · refine lv_iconst (v := 0) F.1 F.2.1 dX6_allFits_87 (by decide) ?_
          refine lv_istore_n (lv' := [(2, .int 0), (5, .int 0), (4, .int (nI (nN f - 1 - k))), (3, .int (nI k)), (0, .ref (a 0)), (1, .int (nI s))]) F.1 F.2.1 dX6_allFits_88 rfl hl (by decide) rfl (fun ls hl => ?_)
          refine lv_iinc (v := nI (k + 1)) (lv' := [(3, .int (nI (k + 1))), (2, .int 0), (5, .int 0), (4, .int (nI (nN f - 1 - k))), (0, .ref (a 0)), (1, .int (nI s))]) F.1 F.2.1 dX6_allFits_89 hl (k := 3) rfl (by rw [show Int32.ofInt 1 = nI 1 from rfl, nI_add]) (by decide) rfl (fun ls hl => ?_)
          refine lv_goto (tgt := 4) F.1 F.2.1 dX6_allFits_92 (by decide) ?_
          have eb : afU f s (k + 1) = 0 := if_neg (fun q => q.1 c_54)
          exact ih_4 _ _ _ ⟨hP, hD, hS, lv_sub hl [0, 1, 4, 5] (by rw [eb]; rfl)⟩
        · refine lv_iload F.1 F.2.1 dX6_allFits_57 (lv_at hl 0 rfl) ?_
          refine lv_if_eq (tgt := 83) F.1 F.2.1 dX6_allFits_59 (by decide) (fun c_59 => ?_) (fun c_59 => ?_)
          · refine lv_iconst (v := 1) F.1 F.2.1 dX6_allFits_83 (by decide) ?_
            refine lv_goto (tgt := 88) F.1 F.2.1 dX6_allFits_84 (by decide) ?_
            refine lv_istore_n (lv' := [(2, .int 1), (5, .int 0), (4, .int (nI (nN f - 1 - k))), (3, .int (nI k)), (0, .ref (a 0)), (1, .int (nI s))]) F.1 F.2.1 dX6_allFits_88 rfl hl (by decide) rfl (fun ls hl => ?_)
            refine lv_iinc (v := nI (k + 1)) (lv' := [(3, .int (nI (k + 1))), (2, .int 1), (5, .int 0), (4, .int (nI (nN f - 1 - k))), (0, .ref (a 0)), (1, .int (nI s))]) F.1 F.2.1 dX6_allFits_89 hl (k := 3) rfl (by rw [show Int32.ofInt 1 = nI 1 from rfl, nI_add]) (by decide) rfl (fun ls hl => ?_)
            refine lv_goto (tgt := 4) F.1 F.2.1 dX6_allFits_92 (by decide) ?_
            have eb : afU f s (k + 1) = 1 := if_pos ⟨c_54, fun q => absurd (congrArg nI q.1) c_29⟩
            exact ih_4 _ _ _ ⟨hP, hD, hS, lv_sub hl [0, 1, 4, 5] (by rw [eb]; rfl)⟩
          · exact absurd rfl c_59
      · refine lv_aload_n F.1 F.2.1 dX6_allFits_32 rfl (lv_at hl 3 rfl) ?_
        refine gf F hK hP 0 rfl rfl hiX6_allFits_6 0 (by decide) (List.mem_of_getElem? (i := 1) rfl) rfl dX6_allFits_33 ?_
        refine lv_iload F.1 F.2.1 dX6_allFits_36 (lv_at hl 0 rfl) ?_
        refine lv_iconst (v := 2) F.1 F.2.1 dX6_allFits_38 (by decide) ?_
        refine iS (rest := [.ref (a 1)]) (wsp := fun _ => oM a v :: [ai ct (a 1) 210 f]) F (kX6_bookAt l dC dI ct (nN f - 1 - k) 2 (56 + 13 * ((nN f - 1 - k) % 12)) (by omega) (by omega)) gX6_allFits_X6_bookAt rfl ⟨rfl, rfl⟩ nmX6_bookAt ⟨Nat.le_of_ble_eq_true rfl, Nat.le_of_ble_eq_true rfl⟩ eT_b (fun _ _ _ => trivial) hK hP hD hS hA [] (by decide) rfl rfl rfl hl.1 (Nat.le_of_ble_eq_true rfl) dX6_allFits_39 ⟨Nat.zero_le _, Nat.zero_le _⟩ (fun _ => rfl) (fun _ => rfl) [a 0, a 1] rfl (fun _ => rfl) (fun r_39 u_39 H locs e_39 hP hD hS => ?_)
        obtain rfl := e_39
        refine al (v := f (56 + 13 * ((nN f - 1 - k) % 12))) F hK hP 1 0 rfl rfl (56 + 13 * ((nN f - 1 - k) % 12)) rfl (by omega) (by decide) rfl dX6_allFits_42 ?_
        refine lv_if_le (tgt := 50) F.1 F.2.1 dX6_allFits_43 (by decide) (fun c_43 => ?_) (fun c_43 => ?_)
        · refine lv_iconst (v := 0) F.1 F.2.1 dX6_allFits_50 (by decide) ?_
          refine lv_istore (lv' := [(5, .int 0), (4, .int (nI (nN f - 1 - k))), (3, .int (nI k)), (2, .int (afU f s k)), (0, .ref (a 0)), (1, .int (nI s))]) F.1 F.2.1 dX6_allFits_51 hl (by decide) rfl (fun ls hl => ?_)
          refine lv_iload_n F.1 F.2.1 dX6_allFits_53 rfl (lv_at hl 3 rfl) ?_
          refine lv_if_eq (tgt := 87) F.1 F.2.1 dX6_allFits_54 (by decide) (fun c_54 => ?_) (fun c_54 => ?_)
          · refine lv_iconst (v := 0) F.1 F.2.1 dX6_allFits_87 (by decide) ?_
            refine lv_istore_n (lv' := [(2, .int 0), (5, .int 0), (4, .int (nI (nN f - 1 - k))), (3, .int (nI k)), (0, .ref (a 0)), (1, .int (nI s))]) F.1 F.2.1 dX6_allFits_88 rfl hl (by decide) rfl (fun ls hl => ?_)
            refine lv_iinc (v := nI (k + 1)) (lv' := [(3, .int (nI (k + 1))), (2, .int 0), (5, .int 0), (4, .int (nI (nN f - 1 - k))), (0, .ref (a 0)), (1, .int (nI s))]) F.1 F.2.1 dX6_allFits_89 hl (k := 3) rfl (by rw [show Int32.ofInt 1 = nI 1 from rfl, nI_add]) (by decide) rfl (fun ls hl => ?_)
            refine lv_goto (tgt := 4) F.1 F.2.1 dX6_allFits_92 (by decide) ?_
            have eb : afU f s (k + 1) = 0 := if_neg (fun q => q.1 c_54)
            exact ih_4 _ _ _ ⟨hP, hD, hS, lv_sub hl [0, 1, 4, 5] (by rw [eb]; rfl)⟩
          · refine lv_iload F.1 F.2.1 dX6_allFits_57 (lv_at hl 0 rfl) ?_
            refine lv_if_eq (tgt := 83) F.1 F.2.1 dX6_allFits_59 (by decide) (fun c_59 => ?_) (fun c_59 => ?_)
            · refine lv_iconst (v := 1) F.1 F.2.1 dX6_allFits_83 (by decide) ?_
              refine lv_goto (tgt := 88) F.1 F.2.1 dX6_allFits_84 (by decide) ?_
              refine lv_istore_n (lv' := [(2, .int 1), (5, .int 0), (4, .int (nI (nN f - 1 - k))), (3, .int (nI k)), (0, .ref (a 0)), (1, .int (nI s))]) F.1 F.2.1 dX6_allFits_88 rfl hl (by decide) rfl (fun ls hl => ?_)
              refine lv_iinc (v := nI (k + 1)) (lv' := [(3, .int (nI (k + 1))), (2, .int 1), (5, .int 0), (4, .int (nI (nN f - 1 - k))), (0, .ref (a 0)), (1, .int (nI s))]) F.1 F.2.1 dX6_allFits_89 hl (k := 3) rfl (by rw [show Int32.ofInt 1 = nI 1 from rfl, nI_add]) (by decide) rfl (fun ls hl => ?_)
              refine lv_goto (tgt := 4) F.1 F.2.1 dX6_allFits_92 (by decide) ?_
              have eb : afU f s (k + 1) = 1 := if_pos ⟨c_54, fun q => absurd q.2 (Int32.not_lt.mpr c_43)⟩
              exact ih_4 _ _ _ ⟨hP, hD, hS, lv_sub hl [0, 1, 4, 5] (by rw [eb]; rfl)⟩
            · exact absurd rfl c_59
        · refine lv_iconst (v := 1) F.1 F.2.1 dX6_allFits_46 (by decide) ?_
          refine lv_goto (tgt := 51) F.1 F.2.1 dX6_allFits_47 (by decide) ?_
          refine lv_istore (lv' := [(5, .int 1), (4, .int (nI (nN f - 1 - k))), (3, .int (nI k)), (2, .int (afU f s k)), (0, .ref (a 0)), (1, .int (nI s))]) F.1 F.2.1 dX6_allFits_51 hl (by decide) rfl (fun ls hl => ?_)
          refine lv_iload_n F.1 F.2.1 dX6_allFits_53 rfl (lv_at hl 3 rfl) ?_
          refine lv_if_eq (tgt := 87) F.1 F.2.1 dX6_allFits_54 (by decide) (fun c_54 => ?_) (fun c_54 => ?_)
          · refine lv_iconst (v := 0) F.1 F.2.1 dX6_allFits_87 (by decide) ?_
            refine lv_istore_n (lv' := [(2, .int 0), (5, .int 1), (4, .int (nI (nN f - 1 - k))), (3, .int (nI k)), (0, .ref (a 0)), (1, .int (nI s))]) F.1 F.2.1 dX6_allFits_88 rfl hl (by decide) rfl (fun ls hl => ?_)
            refine lv_iinc (v := nI (k + 1)) (lv' := [(3, .int (nI (k + 1))), (2, .int 0), (5, .int 1), (4, .int (nI (nN f - 1 - k))), (0, .ref (a 0)), (1, .int (nI s))]) F.1 F.2.1 dX6_allFits_89 hl (k := 3) rfl (by rw [show Int32.ofInt 1 = nI 1 from rfl, nI_add]) (by decide) rfl (fun ls hl => ?_)
            refine lv_goto (tgt := 4) F.1 F.2.1 dX6_allFits_92 (by decide) ?_
            have eb : afU f s (k + 1) = 0 := if_neg (fun q => q.1 c_54)
            exact ih_4 _ _ _ ⟨hP, hD, hS, lv_sub hl [0, 1, 4, 5] (by rw [eb]; rfl)⟩
          · refine lv_iload F.1 F.2.1 dX6_allFits_57 (lv_at hl 0 rfl) ?_
            refine lv_if_eq (tgt := 83) F.1 F.2.1 dX6_allFits_59 (by decide) (fun c_59 => ?_) (fun c_59 => ?_)
            · exact absurd c_59 (by decide)
            · refine lv_aload_n F.1 F.2.1 dX6_allFits_62 rfl (lv_at hl 4 rfl) ?_
              refine lv_iload_n F.1 F.2.1 dX6_allFits_63 rfl (lv_at hl 5 rfl) ?_
              refine lv_iload F.1 F.2.1 dX6_allFits_64 (lv_at hl 1 rfl) ?_
              refine iV (rest := []) (wsp := fun _ => oM a v :: [ai ct (a 1) 210 f]) F (kX6_wouldHaveDone l dC dI ct a v f s (nN f - 1 - k) (by omega) (by omega)) gX6_allFits_X6_wouldHaveDone rfl ⟨rfl, rfl⟩ nmX6_wouldHaveDone ⟨Nat.le_of_ble_eq_true rfl, Nat.le_of_ble_eq_true rfl⟩ eT_b (fun _ _ _ => trivial) hK hP hD hS hA 0 rfl rfl rfl [0, 1] (by decide) rfl rfl rfl hl.1 (Nat.le_of_ble_eq_true rfl) dX6_allFits_66 ⟨Nat.zero_le _, Nat.zero_le _⟩ (fun _ => rfl) (fun _ => rfl) [a 0, a 1] rfl (fun _ => rfl) (fun r_66 u_66 H locs e_66 hP hD hS => ?_)
              obtain rfl := e_66
              refine lv_aload_n F.1 F.2.1 dX6_allFits_69 rfl (lv_at hl 4 rfl) ?_
              refine gf F hK hP 0 rfl rfl hiX6_allFits_6 0 (by decide) (List.mem_of_getElem? (i := 1) rfl) rfl dX6_allFits_70 ?_
              refine lv_iload F.1 F.2.1 dX6_allFits_73 (lv_at hl 1 rfl) ?_
              refine lv_iconst (v := 0) F.1 F.2.1 dX6_allFits_75 (by decide) ?_
              refine iS (rest := [.ref (a 1), .int (whF f s ((nN f - 1 - k) % 12))]) (wsp := fun _ => oM a v :: [ai ct (a 1) 210 f]) F (kX6_bookAt l dC dI ct (nN f - 1 - k) 0 (54 + 13 * ((nN f - 1 - k) % 12)) (by omega) (by omega)) gX6_allFits_X6_bookAt rfl ⟨rfl, rfl⟩ nmX6_bookAt ⟨Nat.le_of_ble_eq_true rfl, Nat.le_of_ble_eq_true rfl⟩ eT_b (fun _ _ _ => trivial) hK hP hD hS hA [] (by decide) rfl rfl rfl hl.1 (Nat.le_of_ble_eq_true rfl) dX6_allFits_76 ⟨Nat.zero_le _, Nat.zero_le _⟩ (fun _ => rfl) (fun _ => rfl) [a 0, a 1] rfl (fun _ => rfl) (fun r_76 u_76 H locs e_76 hP hD hS => ?_)
              obtain rfl := e_76
              refine al (v := f (54 + 13 * ((nN f - 1 - k) % 12))) F hK hP 1 0 rfl rfl (54 + 13 * ((nN f - 1 - k) % 12)) rfl (by omega) (by decide) rfl dX6_allFits_79 ?_
              refine lv_icmp_ne (tgt := 87) F.1 F.2.1 dX6_allFits_80 (by decide) (fun c_80 => ?_) (fun c_80 => ?_)
              · refine lv_iconst (v := 0) F.1 F.2.1 dX6_allFits_87 (by decide) ?_
                refine lv_istore_n (lv' := [(2, .int 0), (5, .int 1), (4, .int (nI (nN f - 1 - k))), (3, .int (nI k)), (0, .ref (a 0)), (1, .int (nI s))]) F.1 F.2.1 dX6_allFits_88 rfl hl (by decide) rfl (fun ls hl => ?_)
                refine lv_iinc (v := nI (k + 1)) (lv' := [(3, .int (nI (k + 1))), (2, .int 0), (5, .int 1), (4, .int (nI (nN f - 1 - k))), (0, .ref (a 0)), (1, .int (nI s))]) F.1 F.2.1 dX6_allFits_89 hl (k := 3) rfl (by rw [show Int32.ofInt 1 = nI 1 from rfl, nI_add]) (by decide) rfl (fun ls hl => ?_)
                refine lv_goto (tgt := 4) F.1 F.2.1 dX6_allFits_92 (by decide) ?_
                have eb : afU f s (k + 1) = 0 := if_neg (fun q => c_80 (q.2 ⟨nI_of_eq c_29 (by omega) (by omega), Int32.not_le.mp c_43⟩))
                exact ih_4 _ _ _ ⟨hP, hD, hS, lv_sub hl [0, 1, 4, 5] (by rw [eb]; rfl)⟩
              · refine lv_iconst (v := 1) F.1 F.2.1 dX6_allFits_83 (by decide) ?_
                refine lv_goto (tgt := 88) F.1 F.2.1 dX6_allFits_84 (by decide) ?_
                refine lv_istore_n (lv' := [(2, .int 1), (5, .int 1), (4, .int (nI (nN f - 1 - k))), (3, .int (nI k)), (0, .ref (a 0)), (1, .int (nI s))]) F.1 F.2.1 dX6_allFits_88 rfl hl (by decide) rfl (fun ls hl => ?_)
                refine lv_iinc (v := nI (k + 1)) (lv' := [(3, .int (nI (k + 1))), (2, .int 1), (5, .int 1), (4, .int (nI (nN f - 1 - k))), (0, .ref (a 0)), (1, .int (nI s))]) F.1 F.2.1 dX6_allFits_89 hl (k := 3) rfl (by rw [show Int32.ofInt 1 = nI 1 from rfl, nI_add]) (by decide) rfl (fun ls hl => ?_)
                refine lv_goto (tgt := 4) F.1 F.2.1 dX6_allFits_92 (by decide) ?_
                have eb : afU f s (k + 1) = 1 := if_pos ⟨c_54, fun _ => c_80⟩
                exact ih_4 _ _ _ ⟨hP, hD, hS, lv_sub hl [0, 1, 4, 5] (by rw [eb]; rfl)⟩

def rmX6_fitting : Room := { frames := 5, cells := 0, slots := 0, locals := 123 }
theorem nmX6_fitting : NmV yX6_fitting RX6 3 := by unfold NmV; decide +kernel
theorem hiX6_fitting_6 : ∀ w ∈ u_ws RX6 TX6 22, w ∈ wsX6_fitting := by decide +kernel
set_option maxHeartbeats 4000000 in
set_option maxRecDepth 100000 in
theorem kX6_fitting (l : Launch) (dC : Nat → ClassId) (dI : Nat → Nat → Nat) (ct : Nat → ClassId) (a : Nat → Nat) (v f : Nat → Int32) (s q m : Nat) (hs : s < 2) (hat : q < 54) (h0 : q ≠ 0) (hm : m < 31) (hR : ∀ v, v ≤ m → Rg (upd f q (nI v))) : MI (S := Unit) l yX6_fitting wsX6_fitting rmX6_fitting dC dI ct eT [.ref (a 0), .int (nI s), .int (nI q), .int (nI m)] (oM a v :: [ai ct (a 1) 210 f]) (fun _ => oM a v :: [ai ct (a 1) 210 f]) (fun r _ => r = fiU f s q (m + 1)) := by
  refine MI.of (cc := cX6_fitting) (maxL := 7) (ret := (some .int)) (by decide) rfl (Nat.le_of_ble_eq_true rfl) ?_
  intro pg en z mi below meth cd A F hr hlk hin hK hP hD hA hS hE ls hl
  have F : CallFix pg mi cd cX6_fitting 7 z _ wsX6_fitting RX6 := F
  have hl : lv_has ls 7 [(0, .ref (a 0)), (1, .int (nI s)), (2, .int (nI q)), (3, .int (nI m))] := hl
  refine lv_aload_n F.1 F.2.1 dX6_fitting_0 rfl (lv_at hl 0 rfl) ?_
  refine gf F hK hP 0 rfl rfl hiX6_fitting_6 0 (by decide) (List.mem_of_getElem? (i := 1) rfl) rfl dX6_fitting_1 ?_
  refine lv_iload_n F.1 F.2.1 dX6_fitting_4 rfl (lv_at hl 2 rfl) ?_
  refine al (v := f q) F hK hP 1 0 rfl rfl q rfl (by omega) (by decide) rfl dX6_fitting_5 ?_
  refine lv_istore (lv' := [(4, .int (f q)), (0, .ref (a 0)), (1, .int (nI s)), (2, .int (nI q)), (3, .int (nI m))]) F.1 F.2.1 dX6_fitting_6 hl (by decide) rfl (fun ls hl => ?_)
  refine lv_iconst (v := 0) F.1 F.2.1 dX6_fitting_8 (by decide) ?_
  refine lv_istore (lv' := [(5, .int 0), (4, .int (f q)), (0, .ref (a 0)), (1, .int (nI s)), (2, .int (nI q)), (3, .int (nI m))]) F.1 F.2.1 dX6_fitting_9 hl (by decide) rfl (fun ls hl => ?_)
  refine lv_iconst (v := 0) F.1 F.2.1 dX6_fitting_11 (by decide) ?_
  refine lv_istore (lv' := [(6, .int 0), (5, .int 0), (4, .int (f q)), (0, .ref (a 0)), (1, .int (nI s)), (2, .int (nI q)), (3, .int (nI m))]) F.1 F.2.1 dX6_fitting_12 hl (by decide) rfl (fun ls hl => ?_)
  rw [← upd_self f q] at hP hD
  refine loopN (I := fun k H locs ls => ∃ y : Int32, va_P (dC, dI) vwCl (oM a v :: [ai ct (a 1) 210 (upd f q y)]) H ∧ va_D A (oM a v :: [ai ct (a 1) 210 (upd f q y)]) ∧ va_S A z.heap H locs ∧ lv_has ls 7 [(6, .int (nI k)), (5, .int (fiU f s q k)), (4, .int (f q)), (0, .ref (a 0)), (1, .int (nI s)), (2, .int (nI q)), (3, .int (nI m))]) (m + 1) 0 (by omega) ⟨(f q), hP, hD, hS, lv_sub hl [0, 1, 2, 3, 4, 5, 6] rfl⟩ (fun H locs ls hI => ?_) (fun k hk_k H locs ls hI ih_14 => ?_)
  · obtain ⟨y, hP, hD, hS, hl⟩ := hI
    refine lv_iload F.1 F.2.1 dX6_fitting_14 (lv_at hl 0 rfl) ?_
    refine lv_iload_n F.1 F.2.1 dX6_fitting_16 rfl (lv_at hl 6 rfl) ?_
    refine lv_icmp_gt (tgt := 55) F.1 F.2.1 dX6_fitting_17 (by decide) (fun c_17 => ?_) (fun c_17 => ?_)
    · refine lv_aload_n F.1 F.2.1 dX6_fitting_55 rfl (lv_at hl 3 rfl) ?_
      refine gf F hK hP 0 rfl rfl hiX6_fitting_6 0 (by decide) (List.mem_of_getElem? (i := 1) rfl) rfl dX6_fitting_56 ?_
      refine lv_iload_n F.1 F.2.1 dX6_fitting_59 rfl (lv_at hl 5 rfl) ?_
      refine lv_iload F.1 F.2.1 dX6_fitting_60 (lv_at hl 2 rfl) ?_
      refine ast (ws' := oM a v :: [ai ct (a 1) 210 (upd (upd f q y) q (f q))]) F hK hP hD hS 1 0 rfl rfl q rfl (by omega) (by decide) dX6_fitting_62 (weq.rf _) (fun H locs hP hD hS => ?_)
      have eq_63 : upd (upd f q y) q (f q) = f := upd_back _ _ _
      rw [eq_63] at hP hD
      refine lv_iload F.1 F.2.1 dX6_fitting_63 (lv_at hl 1 rfl) ?_
      exact rtI () F hr hlk hP hS rfl rfl dX6_fitting_65
    · exact absurd (nI_lt (Nat.lt_succ_self m) (by omega)) c_17
  · obtain ⟨y, hP, hD, hS, hl⟩ := hI
    refine lv_iload F.1 F.2.1 dX6_fitting_14 (lv_at hl 0 rfl) ?_
    refine lv_iload_n F.1 F.2.1 dX6_fitting_16 rfl (lv_at hl 6 rfl) ?_
    refine lv_icmp_gt (tgt := 55) F.1 F.2.1 dX6_fitting_17 (by decide) (fun c_17 => ?_) (fun c_17 => ?_)
    · exact absurd c_17 (nI_nlt (b := k) (a := m) (by omega) (by omega))
    · refine lv_aload_n F.1 F.2.1 dX6_fitting_20 rfl (lv_at hl 3 rfl) ?_
      refine gf F hK hP 0 rfl rfl hiX6_fitting_6 0 (by decide) (List.mem_of_getElem? (i := 1) rfl) rfl dX6_fitting_21 ?_
      refine lv_iload_n F.1 F.2.1 dX6_fitting_24 rfl (lv_at hl 5 rfl) ?_
      refine lv_iload F.1 F.2.1 dX6_fitting_25 (lv_at hl 0 rfl) ?_
      refine ast (ws' := oM a v :: [ai ct (a 1) 210 (upd (upd f q y) q (nI k))]) F hK hP hD hS 1 0 rfl rfl q rfl (by omega) (by decide) dX6_fitting_27 (weq.rf _) (fun H locs hP hD hS => ?_)
      have eq_28 : upd (upd f q y) q (nI k) = upd f q (nI k) := upd_upd _ _ _ _
      rw [eq_28] at hP hD
      refine lv_iload F.1 F.2.1 dX6_fitting_28 (lv_at hl 1 rfl) ?_
      refine lv_aload_n F.1 F.2.1 dX6_fitting_30 rfl (lv_at hl 3 rfl) ?_
      refine lv_iload_n F.1 F.2.1 dX6_fitting_31 rfl (lv_at hl 4 rfl) ?_
      refine iV (rest := [.int (fiU f s q k)]) (wsp := fun _ => oM a v :: [ai ct (a 1) 210 (upd f q (nI k))]) F (kX6_allFits l dC dI ct a v (upd f q (nI k)) s (by omega) (hR k (by omega))) gX6_fitting_X6_allFits rfl ⟨rfl, rfl⟩ nmX6_allFits ⟨Nat.le_of_ble_eq_true rfl, Nat.le_of_ble_eq_true rfl⟩ eT_b (fun _ _ _ => trivial) hK hP hD hS hA 0 rfl rfl rfl [0, 1] (by decide) rfl rfl rfl hl.1 (Nat.le_of_ble_eq_true rfl) dX6_fitting_32 ⟨Nat.zero_le _, Nat.zero_le _⟩ (fun _ => rfl) (fun _ => rfl) [a 0, a 1] rfl (fun _ => rfl) (fun r_32 u_32 H locs e_32 hP hD hS => ?_)
      obtain rfl := e_32
      refine lv_if_eq (tgt := 45) F.1 F.2.1 dX6_fitting_35 (by decide) (fun c_35 => ?_) (fun c_35 => ?_)
      · refine lv_iconst (v := 0) F.1 F.2.1 dX6_fitting_45 (by decide) ?_
        refine lv_ior F.1 F.2.1 dX6_fitting_46 ?_
        refine lv_istore (lv' := [(5, .int ((fiU f s q k) ||| 0)), (6, .int (nI k)), (4, .int (f q)), (0, .ref (a 0)), (1, .int (nI s)), (2, .int (nI q)), (3, .int (nI m))]) F.1 F.2.1 dX6_fitting_47 hl (by decide) rfl (fun ls hl => ?_)
        refine lv_iinc (v := nI (k + 1)) (lv' := [(6, .int (nI (k + 1))), (5, .int ((fiU f s q k) ||| 0)), (4, .int (f q)), (0, .ref (a 0)), (1, .int (nI s)), (2, .int (nI q)), (3, .int (nI m))]) F.1 F.2.1 dX6_fitting_49 hl (k := 1) rfl (by rw [show Int32.ofInt 1 = nI 1 from rfl, nI_add]) (by decide) rfl (fun ls hl => ?_)
        refine lv_goto (tgt := 14) F.1 F.2.1 dX6_fitting_52 (by decide) ?_
        have eb : fiU f s q (k + 1) = (fiU f s q k) ||| 0 := congrArg (fiU f s q k ||| ·) (if_pos c_35)
        exact ih_14 _ _ _ ⟨(nI k), hP, hD, hS, lv_sub hl [0, 1, 2, 3, 4, 5, 6] (by rw [eb]; rfl)⟩
      · refine lv_iconst (v := 1) F.1 F.2.1 dX6_fitting_38 (by decide) ?_
        refine lv_iload F.1 F.2.1 dX6_fitting_39 (lv_at hl 0 rfl) ?_
        refine lv_ishl F.1 F.2.1 dX6_fitting_41 ?_
        refine lv_goto (tgt := 46) F.1 F.2.1 dX6_fitting_42 (by decide) ?_
        refine lv_ior F.1 F.2.1 dX6_fitting_46 ?_
        refine lv_istore (lv' := [(5, .int ((fiU f s q k) ||| ((1 : Int32) <<< ((nI k) &&& 31)))), (6, .int (nI k)), (4, .int (f q)), (0, .ref (a 0)), (1, .int (nI s)), (2, .int (nI q)), (3, .int (nI m))]) F.1 F.2.1 dX6_fitting_47 hl (by decide) rfl (fun ls hl => ?_)
        refine lv_iinc (v := nI (k + 1)) (lv' := [(6, .int (nI (k + 1))), (5, .int ((fiU f s q k) ||| ((1 : Int32) <<< ((nI k) &&& 31)))), (4, .int (f q)), (0, .ref (a 0)), (1, .int (nI s)), (2, .int (nI q)), (3, .int (nI m))]) F.1 F.2.1 dX6_fitting_49 hl (k := 1) rfl (by rw [show Int32.ofInt 1 = nI 1 from rfl, nI_add]) (by decide) rfl (fun ls hl => ?_)
        refine lv_goto (tgt := 14) F.1 F.2.1 dX6_fitting_52 (by decide) ?_
        have eb : fiU f s q (k + 1) = (fiU f s q k) ||| ((1 : Int32) <<< ((nI k) &&& 31)) := congrArg (fiU f s q k ||| ·) (if_neg c_35)
        exact ih_14 _ _ _ ⟨(nI k), hP, hD, hS, lv_sub hl [0, 1, 2, 3, 4, 5, 6] (by rw [eb]; rfl)⟩

def rmX6_fits : Room := { frames := 6, cells := 0, slots := 0, locals := 149 }
theorem nmX6_fits : NmV yX6_fits RX6 2 := by unfold NmV; decide +kernel
set_option maxHeartbeats 4000000 in
set_option maxRecDepth 100000 in
theorem kX6_fits (l : Launch) (dC : Nat → ClassId) (dI : Nat → Nat → Nat) (ct : Nat → ClassId) (a : Nat → Nat) (v f c : Nat → Int32) (x1 x2 : Int32) (hRg : Rg f) : MI (S := (Nat → Int32) × (Nat → Int32)) l yX6_fits wsX6_fits rmX6_fits dC dI ct eT [.ref (a 0), .int x1, .int x2] (oM a v :: ai ct (a 1) 210 f :: [ai ct (a 4) 8 c]) (fun u => oM a v :: ai ct (a 1) 210 u.1 :: [ai ct (a 4) 8 u.2]) (fun r u => (r, u.1, u.2) = sFits f c x1 x2) := by
  refine MI.of (cc := cX6_fits) (maxL := 3) (ret := (some .int)) (by decide) rfl (Nat.le_of_ble_eq_true rfl) ?_
  intro pg en z mi below meth cd A F hr hlk hin hK hP hD hA hS hE ls hl
  have F : CallFix pg mi cd cX6_fits 3 z _ wsX6_fits RX6 := F
  have hl : lv_has ls 3 [(0, .ref (a 0)), (1, .int x1), (2, .int x2)] := hl
  refine lv_iload_n F.1 F.2.1 dX6_fits_0 rfl (lv_at hl 1 rfl) ?_
  refine iS (rest := []) (wsp := fun _ => oM a v :: ai ct (a 1) 210 f :: [ai ct (a 4) 8 c]) F (kX6_isSide l dC dI ct x1) gX6_fits_X6_isSide rfl ⟨rfl, rfl⟩ nmX6_isSide ⟨Nat.le_of_ble_eq_true rfl, Nat.le_of_ble_eq_true rfl⟩ eT_b (fun _ _ _ => trivial) hK hP hD hS hA [] (by decide) rfl rfl rfl hl.1 (Nat.le_of_ble_eq_true rfl) dX6_fits_1 ⟨Nat.zero_le _, Nat.zero_le _⟩ (fun _ => rfl) (fun _ => rfl) [a 0, a 1, a 4] rfl (fun _ => rfl) (fun r_1 u_1 H locs e_1 hP hD hS => ?_)
  obtain rfl := e_1
  refine lv_if_eq (tgt := 32) F.1 F.2.1 dX6_fits_4 (by decide) (fun c_4 => ?_) (fun c_4 => ?_)
  · have c_4 : ¬ (0 ≤ x1 ∧ x1 ≤ 1) := b01f rfl c_4
    refine lv_aload_n F.1 F.2.1 dX6_fits_32 rfl (lv_at hl 0 rfl) ?_
    refine lv_ldc (v := (-1000001)) F.1 F.2.1 F.2.2.2.1 (F.2.2.2.2 _ (List.mem_of_getElem? (i := 1) rfl)) dX6_fits_33 ?_
    refine iV (rest := []) (wsp := fun _ => oM a v :: ai ct (a 1) 210 f :: [ai ct (a 4) 8 (fnd c 1)]) F (kX6_finding l dC dI ct a v c (-1000001) 1 (by decide) (by decide) (by decide)) gX6_fits_X6_finding rfl ⟨rfl, rfl⟩ nmX6_finding ⟨Nat.le_of_ble_eq_true rfl, Nat.le_of_ble_eq_true rfl⟩ eT_b (fun _ _ _ => trivial) hK hP hD hS hA 0 rfl rfl rfl [0, 2] (by decide) rfl rfl rfl hl.1 (Nat.le_of_ble_eq_true rfl) dX6_fits_35 ⟨Nat.zero_le _, Nat.zero_le _⟩ (fun _ => rfl) (fun _ => rfl) [a 0, a 1, a 4] rfl (fun _ => rfl) (fun r_35 u_35 H locs e_35 hP hD hS => ?_)
    obtain rfl := e_35
    exact rtI (f, (fnd c 1)) F hr hlk hP hS rfl ((if_neg (fun q => c_4 q.1)).symm) dX6_fits_38
  · have c_4 : 0 ≤ x1 ∧ x1 ≤ 1 := b01t rfl c_4
    obtain ⟨s, hs, rfl⟩ := gS_n c_4
    refine lv_iload_n F.1 F.2.1 dX6_fits_7 rfl (lv_at hl 2 rfl) ?_
    refine iS (rest := []) (wsp := fun _ => oM a v :: ai ct (a 1) 210 f :: [ai ct (a 4) 8 c]) F (kX6_isThing l dC dI ct x2) gX6_fits_X6_isThing rfl ⟨rfl, rfl⟩ nmX6_isThing ⟨Nat.le_of_ble_eq_true rfl, Nat.le_of_ble_eq_true rfl⟩ eT_b (fun _ _ _ => trivial) hK hP hD hS hA [] (by decide) rfl rfl rfl hl.1 (Nat.le_of_ble_eq_true rfl) dX6_fits_8 ⟨Nat.zero_le _, Nat.zero_le _⟩ (fun _ => rfl) (fun _ => rfl) [a 0, a 1, a 4] rfl (fun _ => rfl) (fun r_8 u_8 H locs e_8 hP hD hS => ?_)
    obtain rfl := e_8
    refine lv_if_eq (tgt := 32) F.1 F.2.1 dX6_fits_11 (by decide) (fun c_11 => ?_) (fun c_11 => ?_)
    · have c_11 : ¬ (0 ≤ x2 ∧ x2 ≤ 4) := b01f rfl c_11
      refine lv_aload_n F.1 F.2.1 dX6_fits_32 rfl (lv_at hl 0 rfl) ?_
      refine lv_ldc (v := (-1000001)) F.1 F.2.1 F.2.2.2.1 (F.2.2.2.2 _ (List.mem_of_getElem? (i := 1) rfl)) dX6_fits_33 ?_
      refine iV (rest := []) (wsp := fun _ => oM a v :: ai ct (a 1) 210 f :: [ai ct (a 4) 8 (fnd c 1)]) F (kX6_finding l dC dI ct a v c (-1000001) 1 (by decide) (by decide) (by decide)) gX6_fits_X6_finding rfl ⟨rfl, rfl⟩ nmX6_finding ⟨Nat.le_of_ble_eq_true rfl, Nat.le_of_ble_eq_true rfl⟩ eT_b (fun _ _ _ => trivial) hK hP hD hS hA 0 rfl rfl rfl [0, 2] (by decide) rfl rfl rfl hl.1 (Nat.le_of_ble_eq_true rfl) dX6_fits_35 ⟨Nat.zero_le _, Nat.zero_le _⟩ (fun _ => rfl) (fun _ => rfl) [a 0, a 1, a 4] rfl (fun _ => rfl) (fun r_35 u_35 H locs e_35 hP hD hS => ?_)
      obtain rfl := e_35
      exact rtI (f, (fnd c 1)) F hr hlk hP hS rfl ((if_neg (fun q => c_11 q.2)).symm) dX6_fits_38
    · have c_11 : 0 ≤ x2 ∧ x2 ≤ 4 := b01t rfl c_11
      obtain ⟨t, ht, rfl⟩ := gT_n c_11
      refine lv_aload_n F.1 F.2.1 dX6_fits_14 rfl (lv_at hl 0 rfl) ?_
      refine lv_iload_n F.1 F.2.1 dX6_fits_15 rfl (lv_at hl 1 rfl) ?_
      refine lv_iload_n F.1 F.2.1 dX6_fits_16 rfl (lv_at hl 1 rfl) ?_
      refine lv_bipush (v := 12) F.1 F.2.1 dX6_fits_17 (by decide) ?_
      refine lv_iload_n F.1 F.2.1 dX6_fits_19 rfl (lv_at hl 2 rfl) ?_
      refine lv_iadd F.1 F.2.1 dX6_fits_20 ?_
      refine tp (y := nI (12 + t)) (ad2 (a := 12) (b := t) (c := 12 + t) rfl rfl rfl) ?_
      refine iS (rest := [.int (nI s), .ref (a 0)]) (wsp := fun _ => oM a v :: ai ct (a 1) 210 f :: [ai ct (a 4) 8 c]) F (kX6_at l dC dI ct s (12 + t) (32 + 17 * s + t) (by omega)) gX6_fits_X6_at rfl ⟨rfl, rfl⟩ nmX6_at ⟨Nat.le_of_ble_eq_true rfl, Nat.le_of_ble_eq_true rfl⟩ eT_b (fun _ _ _ => trivial) hK hP hD hS hA [] (by decide) rfl rfl rfl hl.1 (Nat.le_of_ble_eq_true rfl) dX6_fits_21 ⟨Nat.zero_le _, Nat.zero_le _⟩ (fun _ => rfl) (fun _ => rfl) [a 0, a 1, a 4] rfl (fun _ => rfl) (fun r_21 u_21 H locs e_21 hP hD hS => ?_)
      obtain rfl := e_21
      refine lv_bipush (v := 20) F.1 F.2.1 dX6_fits_24 (by decide) ?_
      refine iV (rest := []) (wsp := fun _ => oM a v :: ai ct (a 1) 210 f :: [ai ct (a 4) 8 c]) F (kX6_fitting l dC dI ct a v f s (32 + 17 * s + t) 20 (by omega) (by omega) (by omega) (by omega) (fun v hv => hRg.worth hs ht ⟨v, hv, rfl⟩)) gX6_fits_X6_fitting rfl ⟨rfl, rfl⟩ nmX6_fitting ⟨Nat.le_of_ble_eq_true rfl, Nat.le_of_ble_eq_true rfl⟩ eT_b (fun _ _ _ => trivial) hK hP hD hS hA 0 rfl rfl rfl [0, 1] (by decide) rfl rfl rfl hl.1 (Nat.le_of_ble_eq_true rfl) dX6_fits_26 ⟨Nat.zero_le _, Nat.zero_le _⟩ (fun _ => rfl) (fun _ => rfl) [a 0, a 1, a 4] rfl (fun _ => rfl) (fun r_26 u_26 H locs e_26 hP hD hS => ?_)
      obtain rfl := e_26
      refine lv_goto (tgt := 38) F.1 F.2.1 dX6_fits_29 (by decide) ?_
      exact rtI (f, c) F hr hlk hP hS rfl (Eq.trans (by rw [show tn (nI s) = s from nI_clamp (by omega), show tn (nI t) = t from nI_clamp (by omega)]; try exact rfl) (if_pos ⟨c_4, c_11⟩).symm) dX6_fits_38

def rmX6_greeds : Room := { frames := 6, cells := 0, slots := 0, locals := 149 }
theorem nmX6_greeds : NmV yX6_greeds RX6 1 := by unfold NmV; decide +kernel
set_option maxHeartbeats 4000000 in
set_option maxRecDepth 100000 in
theorem kX6_greeds (l : Launch) (dC : Nat → ClassId) (dI : Nat → Nat → Nat) (ct : Nat → ClassId) (a : Nat → Nat) (v f c : Nat → Int32) (x1 : Int32) (hRg : Rg f) : MI (S := (Nat → Int32) × (Nat → Int32)) l yX6_greeds wsX6_greeds rmX6_greeds dC dI ct eT [.ref (a 0), .int x1] (oM a v :: ai ct (a 1) 210 f :: [ai ct (a 4) 8 c]) (fun u => oM a v :: ai ct (a 1) 210 u.1 :: [ai ct (a 4) 8 u.2]) (fun r u => (r, u.1, u.2) = sGreeds f c x1) := by
  refine MI.of (cc := cX6_greeds) (maxL := 2) (ret := (some .int)) (by decide) rfl (Nat.le_of_ble_eq_true rfl) ?_
  intro pg en z mi below meth cd A F hr hlk hin hK hP hD hA hS hE ls hl
  have F : CallFix pg mi cd cX6_greeds 2 z _ wsX6_greeds RX6 := F
  have hl : lv_has ls 2 [(0, .ref (a 0)), (1, .int x1)] := hl
  refine lv_iload_n F.1 F.2.1 dX6_greeds_0 rfl (lv_at hl 1 rfl) ?_
  refine iS (rest := []) (wsp := fun _ => oM a v :: ai ct (a 1) 210 f :: [ai ct (a 4) 8 c]) F (kX6_isSide l dC dI ct x1) gX6_greeds_X6_isSide rfl ⟨rfl, rfl⟩ nmX6_isSide ⟨Nat.le_of_ble_eq_true rfl, Nat.le_of_ble_eq_true rfl⟩ eT_b (fun _ _ _ => trivial) hK hP hD hS hA [] (by decide) rfl rfl rfl hl.1 (Nat.le_of_ble_eq_true rfl) dX6_greeds_1 ⟨Nat.zero_le _, Nat.zero_le _⟩ (fun _ => rfl) (fun _ => rfl) [a 0, a 1, a 4] rfl (fun _ => rfl) (fun r_1 u_1 H locs e_1 hP hD hS => ?_)
  obtain rfl := e_1
  refine lv_if_eq (tgt := 22) F.1 F.2.1 dX6_greeds_4 (by decide) (fun c_4 => ?_) (fun c_4 => ?_)
  · have c_4 : ¬ (0 ≤ x1 ∧ x1 ≤ 1) := b01f rfl c_4
    refine lv_aload_n F.1 F.2.1 dX6_greeds_22 rfl (lv_at hl 0 rfl) ?_
    refine lv_ldc (v := (-1000001)) F.1 F.2.1 F.2.2.2.1 (F.2.2.2.2 _ (List.mem_of_getElem? (i := 1) rfl)) dX6_greeds_23 ?_
    refine iV (rest := []) (wsp := fun _ => oM a v :: ai ct (a 1) 210 f :: [ai ct (a 4) 8 (fnd c 1)]) F (kX6_finding l dC dI ct a v c (-1000001) 1 (by decide) (by decide) (by decide)) gX6_greeds_X6_finding rfl ⟨rfl, rfl⟩ nmX6_finding ⟨Nat.le_of_ble_eq_true rfl, Nat.le_of_ble_eq_true rfl⟩ eT_b (fun _ _ _ => trivial) hK hP hD hS hA 0 rfl rfl rfl [0, 2] (by decide) rfl rfl rfl hl.1 (Nat.le_of_ble_eq_true rfl) dX6_greeds_25 ⟨Nat.zero_le _, Nat.zero_le _⟩ (fun _ => rfl) (fun _ => rfl) [a 0, a 1, a 4] rfl (fun _ => rfl) (fun r_25 u_25 H locs e_25 hP hD hS => ?_)
    obtain rfl := e_25
    exact rtI (f, (fnd c 1)) F hr hlk hP hS rfl ((if_neg (fun q => c_4 q)).symm) dX6_greeds_28
  · have c_4 : 0 ≤ x1 ∧ x1 ≤ 1 := b01t rfl c_4
    obtain ⟨s, hs, rfl⟩ := gS_n c_4
    refine lv_aload_n F.1 F.2.1 dX6_greeds_7 rfl (lv_at hl 0 rfl) ?_
    refine lv_iload_n F.1 F.2.1 dX6_greeds_8 rfl (lv_at hl 1 rfl) ?_
    refine lv_iload_n F.1 F.2.1 dX6_greeds_9 rfl (lv_at hl 1 rfl) ?_
    refine lv_iconst (v := 0) F.1 F.2.1 dX6_greeds_10 (by decide) ?_
    refine iS (rest := [.int (nI s), .ref (a 0)]) (wsp := fun _ => oM a v :: ai ct (a 1) 210 f :: [ai ct (a 4) 8 c]) F (kX6_at l dC dI ct s 0 (20 + 17 * s) (by omega)) gX6_greeds_X6_at rfl ⟨rfl, rfl⟩ nmX6_at ⟨Nat.le_of_ble_eq_true rfl, Nat.le_of_ble_eq_true rfl⟩ eT_b (fun _ _ _ => trivial) hK hP hD hS hA [] (by decide) rfl rfl rfl hl.1 (Nat.le_of_ble_eq_true rfl) dX6_greeds_11 ⟨Nat.zero_le _, Nat.zero_le _⟩ (fun _ => rfl) (fun _ => rfl) [a 0, a 1, a 4] rfl (fun _ => rfl) (fun r_11 u_11 H locs e_11 hP hD hS => ?_)
    obtain rfl := e_11
    refine lv_bipush (v := 30) F.1 F.2.1 dX6_greeds_14 (by decide) ?_
    refine iV (rest := []) (wsp := fun _ => oM a v :: ai ct (a 1) 210 f :: [ai ct (a 4) 8 c]) F (kX6_fitting l dC dI ct a v f s (20 + 17 * s) 30 (by omega) (by omega) (by omega) (by omega) (fun v hv => hRg.greed hs ⟨v, by omega, rfl⟩)) gX6_greeds_X6_fitting rfl ⟨rfl, rfl⟩ nmX6_fitting ⟨Nat.le_of_ble_eq_true rfl, Nat.le_of_ble_eq_true rfl⟩ eT_b (fun _ _ _ => trivial) hK hP hD hS hA 0 rfl rfl rfl [0, 1] (by decide) rfl rfl rfl hl.1 (Nat.le_of_ble_eq_true rfl) dX6_greeds_16 ⟨Nat.zero_le _, Nat.zero_le _⟩ (fun _ => rfl) (fun _ => rfl) [a 0, a 1, a 4] rfl (fun _ => rfl) (fun r_16 u_16 H locs e_16 hP hD hS => ?_)
    obtain rfl := e_16
    refine lv_goto (tgt := 28) F.1 F.2.1 dX6_greeds_19 (by decide) ?_
    exact rtI (f, c) F hr hlk hP hS rfl (Eq.trans (by rw [show tn (nI s) = s from nI_clamp (by omega)]; try exact rfl) (if_pos c_4).symm) dX6_greeds_28

def rmX6_drawn : Room := { frames := 0, cells := 0, slots := 0, locals := 0 }
theorem nmX6_drawn : NmV yX6_drawn RX6 1 := by unfold NmV; decide +kernel
theorem hiX6_drawn_6 : ∀ w ∈ u_ws RX6 TX6 22, w ∈ wsX6_drawn := by decide +kernel
set_option maxHeartbeats 4000000 in
set_option maxRecDepth 100000 in
theorem kX6_drawn (l : Launch) (dC : Nat → ClassId) (dI : Nat → Nat → Nat) (ct : Nat → ClassId) (a : Nat → Nat) (v f : Nat → Int32) (zq : Int32) (d : Nat) (hz : f 4 = zq) (h0 : 0 < d) (hd : d < 100) : MI (S := Unit) l yX6_drawn wsX6_drawn rmX6_drawn dC dI ct eT [.ref (a 0), .int (nI d)] (oM a v :: [ai ct (a 1) 210 f]) (fun _ => oM a v :: [ai ct (a 1) 210 (upd f 4 (lcg zq))]) (fun r _ => r = nI (dN (lcg zq) % d)) := by
  refine MI.of (cc := cX6_drawn) (maxL := 2) (ret := (some .int)) (by decide) rfl (Nat.le_of_ble_eq_true rfl) ?_
  intro pg en z mi below meth cd A F hr hlk hin hK hP hD hA hS hE ls hl
  have F : CallFix pg mi cd cX6_drawn 2 z _ wsX6_drawn RX6 := F
  have hl : lv_has ls 2 [(0, .ref (a 0)), (1, .int (nI d))] := hl
  refine lv_aload_n F.1 F.2.1 dX6_drawn_0 rfl (lv_at hl 0 rfl) ?_
  refine gf F hK hP 0 rfl rfl hiX6_drawn_6 0 (by decide) (List.mem_of_getElem? (i := 1) rfl) rfl dX6_drawn_1 ?_
  refine lv_iconst (v := 4) F.1 F.2.1 dX6_drawn_4 (by decide) ?_
  refine lv_aload_n F.1 F.2.1 dX6_drawn_5 rfl (lv_at hl 0 rfl) ?_
  refine gf F hK hP 0 rfl rfl hiX6_drawn_6 0 (by decide) (List.mem_of_getElem? (i := 1) rfl) rfl dX6_drawn_6 ?_
  refine lv_iconst (v := 4) F.1 F.2.1 dX6_drawn_9 (by decide) ?_
  refine al (v := f 4) F hK hP 1 0 rfl rfl 4 rfl (by omega) (by decide) rfl dX6_drawn_10 ?_
  refine tp (y := zq) hz ?_
  refine lv_ldc (v := (1103515245)) F.1 F.2.1 F.2.2.2.1 (F.2.2.2.2 _ (List.mem_of_getElem? (i := 2) rfl)) dX6_drawn_11 ?_
  refine lv_imul F.1 F.2.1 dX6_drawn_13 ?_
  refine lv_sipush (v := 12345) F.1 F.2.1 dX6_drawn_14 (by decide) ?_
  refine lv_iadd F.1 F.2.1 dX6_drawn_17 ?_
  refine ast (ws' := oM a v :: [ai ct (a 1) 210 (upd f 4 ((zq * (1103515245)) + 12345))]) F hK hP hD hS 1 0 rfl rfl 4 rfl (by omega) (by decide) dX6_drawn_18 (weq.rf _) (fun H locs hP hD hS => ?_)
  refine lv_aload_n F.1 F.2.1 dX6_drawn_19 rfl (lv_at hl 0 rfl) ?_
  refine gf F hK hP 0 rfl rfl hiX6_drawn_6 0 (by decide) (List.mem_of_getElem? (i := 1) rfl) rfl dX6_drawn_20 ?_
  refine lv_iconst (v := 4) F.1 F.2.1 dX6_drawn_23 (by decide) ?_
  refine al (v := (upd f 4 ((zq * (1103515245)) + 12345)) 4) F hK hP 1 0 rfl rfl 4 rfl (by omega) (by decide) rfl dX6_drawn_24 ?_
  refine tp (y := lcg zq) pk_us ?_
  refine lv_bipush (v := 8) F.1 F.2.1 dX6_drawn_25 (by decide) ?_
  refine lv_iushr F.1 F.2.1 dX6_drawn_27 rfl ?_
  refine tp (y := nI (dN (lcg zq))) ((drw_e _).1) ?_
  refine lv_iload_n F.1 F.2.1 dX6_drawn_28 rfl (lv_at hl 1 rfl) ?_
  refine lv_irem F.1 F.2.1 dX6_drawn_29 (nI_ne0 h0 (by omega)) ?_
  refine tp (y := nI (dN (lcg zq) % d)) (pk_rem (d := d) (by have := (drw_e (lcg zq)).2; omega) h0 (by omega)) ?_
  exact rtI () F hr hlk hP hS rfl rfl dX6_drawn_30

def rmX6_season : Room := { frames := 9, cells := 0, slots := 0, locals := 202 }
theorem nmX6_season : NmV yX6_season RX6 1 := by unfold NmV; decide +kernel
theorem hiX6_season_6 : ∀ w ∈ u_ws RX6 TX6 22, w ∈ wsX6_season := by decide +kernel
set_option maxHeartbeats 4000000 in
set_option maxRecDepth 100000 in
theorem kX6_season (l : Launch) (dC : Nat → ClassId) (dI : Nat → Nat → Nat) (ct : Nat → ClassId) (a : Nat → Nat) (v f c : Nat → Int32) (x1 : Int32) (hRg : Rg f) : MI (S := (Nat → Int32) × (Nat → Int32)) l yX6_season wsX6_season rmX6_season dC dI ct eT [.ref (a 0), .int x1] (oM a v :: ai ct (a 1) 210 f :: [ai ct (a 4) 8 c]) (fun u => oM a v :: ai ct (a 1) 210 u.1 :: [ai ct (a 4) 8 u.2]) (fun r u => (r, u.1, u.2) = sSeason f c x1) := by
  refine MI.of (cc := cX6_season) (maxL := 6) (ret := (some .int)) (by decide) rfl (Nat.le_of_ble_eq_true rfl) ?_
  intro pg en z mi below meth cd A F hr hlk hin hK hP hD hA hS hE ls hl
  have F : CallFix pg mi cd cX6_season 6 z _ wsX6_season RX6 := F
  have hl : lv_has ls 6 [(0, .ref (a 0)), (1, .int x1)] := hl
  refine lv_iload_n F.1 F.2.1 dX6_season_0 rfl (lv_at hl 1 rfl) ?_
  refine lv_iconst (v := 1) F.1 F.2.1 dX6_season_1 (by decide) ?_
  refine lv_bipush (v := 12) F.1 F.2.1 dX6_season_2 (by decide) ?_
  refine iS (rest := []) (wsp := fun _ => oM a v :: ai ct (a 1) 210 f :: [ai ct (a 4) 8 c]) F (kX6_within l dC dI ct x1 1 12) gX6_season_X6_within rfl ⟨rfl, rfl⟩ nmX6_within ⟨Nat.le_of_ble_eq_true rfl, Nat.le_of_ble_eq_true rfl⟩ eT_b (fun _ _ _ => trivial) hK hP hD hS hA [] (by decide) rfl rfl rfl hl.1 (Nat.le_of_ble_eq_true rfl) dX6_season_4 ⟨Nat.zero_le _, Nat.zero_le _⟩ (fun _ => rfl) (fun _ => rfl) [a 0, a 1, a 4] rfl (fun _ => rfl) (fun r_4 u_4 H locs e_4 hP hD hS => ?_)
  obtain rfl := e_4
  refine lv_if_ne (tgt := 17) F.1 F.2.1 dX6_season_7 (by decide) (fun c_7 => ?_) (fun c_7 => ?_)
  · have c_7 : 1 ≤ x1 ∧ x1 ≤ 12 := b01t rfl c_7
    obtain ⟨n, hn1, hn, rfl⟩ := g12_n c_7
    refine lv_aload_n F.1 F.2.1 dX6_season_17 rfl (lv_at hl 0 rfl) ?_
    refine lv_iconst (v := 2) F.1 F.2.1 dX6_season_18 (by decide) ?_
    refine lv_iload_n F.1 F.2.1 dX6_season_19 rfl (lv_at hl 1 rfl) ?_
    refine lv_imul F.1 F.2.1 dX6_season_20 ?_
    refine tp (y := nI (2 * n)) (ml2 (a := 2) (b := n) (c := 2 * n) rfl rfl rfl) ?_
    refine iV (rest := []) (wsp := fun _ => oM a v :: ai ct (a 1) 210 f :: [ai ct (a 4) 8 c]) F (kX6_isTooLate l dC dI ct a v f (nI (2 * n))) gX6_season_X6_isTooLate rfl ⟨rfl, rfl⟩ nmX6_isTooLate ⟨Nat.le_of_ble_eq_true rfl, Nat.le_of_ble_eq_true rfl⟩ eT_b (fun _ _ _ => trivial) hK hP hD hS hA 0 rfl rfl rfl [0, 1] (by decide) rfl rfl rfl hl.1 (Nat.le_of_ble_eq_true rfl) dX6_season_21 ⟨Nat.zero_le _, Nat.zero_le _⟩ (fun _ => rfl) (fun _ => rfl) [a 0, a 1, a 4] rfl (fun _ => rfl) (fun r_21 u_21 H locs e_21 hP hD hS => ?_)
    obtain rfl := e_21
    refine lv_if_eq (tgt := 34) F.1 F.2.1 dX6_season_24 (by decide) (fun c_24 => ?_) (fun c_24 => ?_)
    · have c_24 : ¬ (9999 < f 0 + (nI (2 * n))) := b01f rfl c_24
      have hN := late_no hRg (n := 2 * n) (by omega) c_24
      refine lv_iconst (v := 0) F.1 F.2.1 dX6_season_34 (by decide) ?_
      refine lv_istore_n (lv' := [(2, .int 0), (0, .ref (a 0)), (1, .int (nI n))]) F.1 F.2.1 dX6_season_35 rfl hl (by decide) rfl (fun ls hl => ?_)
      refine lv_iconst (v := 0) F.1 F.2.1 dX6_season_36 (by decide) ?_
      refine lv_istore_n (lv' := [(3, .int 0), (2, .int 0), (0, .ref (a 0)), (1, .int (nI n))]) F.1 F.2.1 dX6_season_37 rfl hl (by decide) rfl (fun ls hl => ?_)
      refine loopN (I := fun k H locs ls => va_P (dC, dI) vwCl (oM a v :: ai ct (a 1) 210 (seU f k) :: [ai ct (a 4) 8 c]) H ∧ va_D A (oM a v :: ai ct (a 1) 210 (seU f k) :: [ai ct (a 4) 8 c]) ∧ va_S A z.heap H locs ∧ lv_has ls 6 [(3, .int (nI k)), (2, .int (seT f k)), (0, .ref (a 0)), (1, .int (nI n))]) n 0 (by omega) ⟨hP, hD, hS, lv_sub hl [0, 1, 2, 3] rfl⟩ (fun H locs ls hI => ?_) (fun k hk_k H locs ls hI ih_38 => ?_)
      · obtain ⟨hP, hD, hS, hl⟩ := hI
        refine lv_iload_n F.1 F.2.1 dX6_season_38 rfl (lv_at hl 0 rfl) ?_
        refine lv_iload_n F.1 F.2.1 dX6_season_39 rfl (lv_at hl 3 rfl) ?_
        refine lv_icmp_ge (tgt := 105) F.1 F.2.1 dX6_season_40 (by decide) (fun c_40 => ?_) (fun c_40 => ?_)
        · refine lv_iload_n F.1 F.2.1 dX6_season_105 rfl (lv_at hl 1 rfl) ?_
          exact rtI ((seU f n), c) F hr hlk hP hS rfl (Eq.trans (by rw [show tn (nI n) = n from nI_clamp (by omega)]; try exact (if_neg c_24).symm) (if_pos c_7).symm) dX6_season_106
        · exact absurd (nI_le (Nat.le_refl _) (by omega)) c_40
      · obtain ⟨hP, hD, hS, hl⟩ := hI
        have q5 := Rg_seU hRg k (by omega)
        have e5 : nN (seA (seU f k)) = nN f + 2 * k := (nN_e2 (seA_0 _)).trans q5.2
        refine lv_iload_n F.1 F.2.1 dX6_season_38 rfl (lv_at hl 0 rfl) ?_
        refine lv_iload_n F.1 F.2.1 dX6_season_39 rfl (lv_at hl 3 rfl) ?_
        refine lv_icmp_ge (tgt := 105) F.1 F.2.1 dX6_season_40 (by decide) (fun c_40 => ?_) (fun c_40 => ?_)
        · exact absurd c_40 (nI_ge hk_k (by omega))
        · refine lv_aload_n F.1 F.2.1 dX6_season_43 rfl (lv_at hl 2 rfl) ?_
          refine gf F hK hP 0 rfl rfl hiX6_season_6 0 (by decide) (List.mem_of_getElem? (i := 3) rfl) rfl dX6_season_44 ?_
          refine lv_iconst (v := 1) F.1 F.2.1 dX6_season_47 (by decide) ?_
          refine lv_aload_n F.1 F.2.1 dX6_season_48 rfl (lv_at hl 2 rfl) ?_
          refine lv_bipush (v := 10) F.1 F.2.1 dX6_season_49 (by decide) ?_
          refine iV (rest := [.int 1, .ref (a 1)]) (wsp := fun _ => oM a v :: ai ct (a 1) 210 (upd (seU f k) 4 (lcg (seU f k 4))) :: [ai ct (a 4) 8 c]) F (kX6_drawn l dC dI ct a v (seU f k) (seU f k 4) 10 rfl (by omega) (by omega)) gX6_season_X6_drawn rfl ⟨rfl, rfl⟩ nmX6_drawn ⟨Nat.le_of_ble_eq_true rfl, Nat.le_of_ble_eq_true rfl⟩ eT_b (fun _ _ _ => trivial) hK hP hD hS hA 0 rfl rfl rfl [0, 1] (by decide) rfl rfl rfl hl.1 (Nat.le_of_ble_eq_true rfl) dX6_season_51 ⟨Nat.zero_le _, Nat.zero_le _⟩ (fun _ => rfl) (fun _ => rfl) [a 0, a 1, a 4] rfl (fun _ => rfl) (fun r_51 u_51 H locs e_51 hP hD hS => ?_)
          obtain rfl := e_51
          refine ast (ws' := oM a v :: ai ct (a 1) 210 (upd (upd (seU f k) 4 (lcg (seU f k 4))) 1 (nI (dN (lcg (seU f k 4)) % 10))) :: [ai ct (a 4) 8 c]) F hK hP hD hS 1 0 rfl rfl 1 rfl (by omega) (by decide) dX6_season_54 (weq.rf _) (fun H locs hP hD hS => ?_)
          refine lv_aload_n F.1 F.2.1 dX6_season_55 rfl (lv_at hl 2 rfl) ?_
          refine lv_iconst (v := 2) F.1 F.2.1 dX6_season_56 (by decide) ?_
          refine iV (rest := []) (wsp := fun _ => oM a v :: ai ct (a 1) 210 (upd (upd (upd (seU f k) 4 (lcg (seU f k 4))) 1 (nI (dN (lcg (seU f k 4)) % 10))) 4 (lcg (z1F (seU f k)))) :: [ai ct (a 4) 8 c]) F (kX6_drawn l dC dI ct a v (upd (upd (seU f k) 4 (lcg (seU f k 4))) 1 (nI (dN (lcg (seU f k 4)) % 10))) (z1F (seU f k)) 2 ((pk_un (by omega)).trans pk_us) (by omega) (by omega)) gX6_season_X6_drawn rfl ⟨rfl, rfl⟩ nmX6_drawn ⟨Nat.le_of_ble_eq_true rfl, Nat.le_of_ble_eq_true rfl⟩ eT_b (fun _ _ _ => trivial) hK hP hD hS hA 0 rfl rfl rfl [0, 1] (by decide) rfl rfl rfl hl.1 (Nat.le_of_ble_eq_true rfl) dX6_season_57 ⟨Nat.zero_le _, Nat.zero_le _⟩ (fun _ => rfl) (fun _ => rfl) [a 0, a 1, a 4] rfl (fun _ => rfl) (fun r_57 u_57 H locs e_57 hP hD hS => ?_)
          obtain rfl := e_57
          refine lv_istore (lv' := [(4, .int (nI (dN (lcg (z1F (seU f k))) % 2))), (3, .int (nI k)), (2, .int (seT f k)), (0, .ref (a 0)), (1, .int (nI n))]) F.1 F.2.1 dX6_season_60 hl (by decide) rfl (fun ls hl => ?_)
          refine lv_aload_n F.1 F.2.1 dX6_season_62 rfl (lv_at hl 3 rfl) ?_
          refine lv_iconst (v := 5) F.1 F.2.1 dX6_season_63 (by decide) ?_
          refine iV (rest := []) (wsp := fun _ => oM a v :: ai ct (a 1) 210 (upd (upd (upd (upd (seU f k) 4 (lcg (seU f k 4))) 1 (nI (dN (lcg (seU f k 4)) % 10))) 4 (lcg (z1F (seU f k)))) 4 (lcg (z2F (seU f k)))) :: [ai ct (a 4) 8 c]) F (kX6_drawn l dC dI ct a v (upd (upd (upd (seU f k) 4 (lcg (seU f k 4))) 1 (nI (dN (lcg (seU f k 4)) % 10))) 4 (lcg (z1F (seU f k)))) (z2F (seU f k)) 5 pk_us (by omega) (by omega)) gX6_season_X6_drawn rfl ⟨rfl, rfl⟩ nmX6_drawn ⟨Nat.le_of_ble_eq_true rfl, Nat.le_of_ble_eq_true rfl⟩ eT_b (fun _ _ _ => trivial) hK hP hD hS hA 0 rfl rfl rfl [0, 1] (by decide) rfl rfl rfl hl.1 (Nat.le_of_ble_eq_true rfl) dX6_season_64 ⟨Nat.zero_le _, Nat.zero_le _⟩ (fun _ => rfl) (fun _ => rfl) [a 0, a 1, a 4] rfl (fun _ => rfl) (fun r_64 u_64 H locs e_64 hP hD hS => ?_)
          obtain rfl := e_64
          have eq_67 : upd (upd (upd (upd (seU f k) 4 (lcg (seU f k 4))) 1 (nI (dN (lcg (seU f k 4)) % 10))) 4 (lcg (z1F (seU f k)))) 4 (lcg (z2F (seU f k))) = drF (seU f k) := rfl
          rw [eq_67] at hP hD
          refine lv_istore (lv' := [(5, .int (nI (dN (lcg (z2F (seU f k))) % 5))), (4, .int (nI (dN (lcg (z1F (seU f k))) % 2))), (3, .int (nI k)), (2, .int (seT f k)), (0, .ref (a 0)), (1, .int (nI n))]) F.1 F.2.1 dX6_season_67 hl (by decide) rfl (fun ls hl => ?_)
          refine lv_aload_n F.1 F.2.1 dX6_season_69 rfl (lv_at hl 4 rfl) ?_
          refine lv_iload F.1 F.2.1 dX6_season_70 (lv_at hl 1 rfl) ?_
          refine lv_iload F.1 F.2.1 dX6_season_72 (lv_at hl 0 rfl) ?_
          refine lv_iconst (v := 1) F.1 F.2.1 dX6_season_74 (by decide) ?_
          refine iV (rest := []) (wsp := fun _ => oM a v :: ai ct (a 1) 210 (drF (seU f k)) :: [ai ct (a 4) 8 c]) F (kX6_mayLay l dC dI ct a v (drF (seU f k)) (dN (lcg (z1F (seU f k))) % 2) (dN (lcg (z2F (seU f k))) % 5) 1 (by omega) (by omega)) gX6_season_X6_mayLay rfl ⟨rfl, rfl⟩ nmX6_mayLay ⟨Nat.le_of_ble_eq_true rfl, Nat.le_of_ble_eq_true rfl⟩ eT_b (fun _ _ _ => trivial) hK hP hD hS hA 0 rfl rfl rfl [0, 1] (by decide) rfl rfl rfl hl.1 (Nat.le_of_ble_eq_true rfl) dX6_season_75 ⟨Nat.zero_le _, Nat.zero_le _⟩ (fun _ => rfl) (fun _ => rfl) [a 0, a 1, a 4] rfl (fun _ => rfl) (fun r_75 u_75 H locs e_75 hP hD hS => ?_)
          obtain rfl := e_75
          refine lv_if_eq (tgt := 91) F.1 F.2.1 dX6_season_78 (by decide) (fun c_78 => ?_) (fun c_78 => ?_)
          · have c_78 : ¬ (may (drF (seU f k)) (dN (lcg (z1F (seU f k))) % 2) (dN (lcg (z2F (seU f k))) % 5) 1) := b01f rfl c_78
            have eq_91 : (drF (seU f k)) = seA (seU f k) := (if_neg c_78).symm
            rw [eq_91] at hP hD
            refine lv_iload_n F.1 F.2.1 dX6_season_91 rfl (lv_at hl 3 rfl) ?_
            refine lv_aload_n F.1 F.2.1 dX6_season_92 rfl (lv_at hl 4 rfl) ?_
            refine lv_iconst (v := 2) F.1 F.2.1 dX6_season_93 (by decide) ?_
            refine iV (rest := [.int (seT f k)]) (wsp := fun _ => oM a v :: ai ct (a 1) 210 (ngU (seA (seU f k)) 2) :: [ai ct (a 4) 8 c]) F (kX6_nightsGo l dC dI ct a v (seA (seU f k)) 2 (by omega) (fun j hj => Gd_of (Rg_ngU (Rg_seA q5.1) j (by omega)).1)) gX6_season_X6_nightsGo rfl ⟨rfl, rfl⟩ nmX6_nightsGo ⟨Nat.le_of_ble_eq_true rfl, Nat.le_of_ble_eq_true rfl⟩ eT_b (fun _ _ _ => trivial) hK hP hD hS hA 0 rfl rfl rfl [0, 1] (by decide) rfl rfl rfl hl.1 (Nat.le_of_ble_eq_true rfl) dX6_season_94 ⟨Nat.zero_le _, Nat.zero_le _⟩ (fun _ => rfl) (fun _ => rfl) [a 0, a 1, a 4] rfl (fun _ => rfl) (fun r_94 u_94 H locs e_94 hP hD hS => ?_)
            obtain rfl := e_94
            refine lv_iadd F.1 F.2.1 dX6_season_97 ?_
            refine lv_istore_n (lv' := [(2, .int ((seT f k) + (tkU (seA (seU f k)) 2))), (5, .int (nI (dN (lcg (z2F (seU f k))) % 5))), (4, .int (nI (dN (lcg (z1F (seU f k))) % 2))), (3, .int (nI k)), (0, .ref (a 0)), (1, .int (nI n))]) F.1 F.2.1 dX6_season_98 rfl hl (by decide) rfl (fun ls hl => ?_)
            refine lv_iinc (v := nI (k + 1)) (lv' := [(3, .int (nI (k + 1))), (2, .int ((seT f k) + (tkU (seA (seU f k)) 2))), (5, .int (nI (dN (lcg (z2F (seU f k))) % 5))), (4, .int (nI (dN (lcg (z1F (seU f k))) % 2))), (0, .ref (a 0)), (1, .int (nI n))]) F.1 F.2.1 dX6_season_99 hl (k := 3) rfl (by rw [show Int32.ofInt 1 = nI 1 from rfl, nI_add]) (by decide) rfl (fun ls hl => ?_)
            refine lv_goto (tgt := 38) F.1 F.2.1 dX6_season_102 (by decide) ?_
            have eb : ngU (seA (seU f k)) 2 = seU f (k + 1) := rfl
            rw [eb] at hP hD
            exact ih_38 _ _ _ ⟨hP, hD, hS, lv_sub hl [0, 1, 4, 5] rfl⟩
          · have c_78 : may (drF (seU f k)) (dN (lcg (z1F (seU f k))) % 2) (dN (lcg (z2F (seU f k))) % 5) 1 := b01t rfl c_78
            refine lv_aload_n F.1 F.2.1 dX6_season_81 rfl (lv_at hl 4 rfl) ?_
            refine lv_iload F.1 F.2.1 dX6_season_82 (lv_at hl 1 rfl) ?_
            refine lv_iload F.1 F.2.1 dX6_season_84 (lv_at hl 0 rfl) ?_
            refine lv_iconst (v := 1) F.1 F.2.1 dX6_season_86 (by decide) ?_
            refine iV (rest := []) (wsp := fun _ => oM a v :: ai ct (a 1) 210 (laid (drF (seU f k)) (dN (lcg (z1F (seU f k))) % 2) (dN (lcg (z2F (seU f k))) % 5) 1) :: [ai ct (a 4) 8 c]) F (kX6_laid l dC dI ct a v (drF (seU f k)) (dN (lcg (z1F (seU f k))) % 2) (dN (lcg (z2F (seU f k))) % 5) 1 (by omega) (by omega)) gX6_season_X6_laid rfl ⟨rfl, rfl⟩ nmX6_laid ⟨Nat.le_of_ble_eq_true rfl, Nat.le_of_ble_eq_true rfl⟩ eT_b (fun _ _ _ => trivial) hK hP hD hS hA 0 rfl rfl rfl [0, 1] (by decide) rfl rfl rfl hl.1 (Nat.le_of_ble_eq_true rfl) dX6_season_87 ⟨Nat.zero_le _, Nat.zero_le _⟩ (fun _ => rfl) (fun _ => rfl) [a 0, a 1, a 4] rfl (fun _ => rfl) (fun r_87 u_87 H locs e_87 hP hD hS => ?_)
            obtain rfl := e_87
            refine lv_pop F.1 F.2.1 dX6_season_90 rfl ?_
            have eq_91 : laid (drF (seU f k)) (dN (lcg (z1F (seU f k))) % 2) (dN (lcg (z2F (seU f k))) % 5) 1 = seA (seU f k) := (if_pos c_78).symm
            rw [eq_91] at hP hD
            refine lv_iload_n F.1 F.2.1 dX6_season_91 rfl (lv_at hl 3 rfl) ?_
            refine lv_aload_n F.1 F.2.1 dX6_season_92 rfl (lv_at hl 4 rfl) ?_
            refine lv_iconst (v := 2) F.1 F.2.1 dX6_season_93 (by decide) ?_
            refine iV (rest := [.int (seT f k)]) (wsp := fun _ => oM a v :: ai ct (a 1) 210 (ngU (seA (seU f k)) 2) :: [ai ct (a 4) 8 c]) F (kX6_nightsGo l dC dI ct a v (seA (seU f k)) 2 (by omega) (fun j hj => Gd_of (Rg_ngU (Rg_seA q5.1) j (by omega)).1)) gX6_season_X6_nightsGo rfl ⟨rfl, rfl⟩ nmX6_nightsGo ⟨Nat.le_of_ble_eq_true rfl, Nat.le_of_ble_eq_true rfl⟩ eT_b (fun _ _ _ => trivial) hK hP hD hS hA 0 rfl rfl rfl [0, 1] (by decide) rfl rfl rfl hl.1 (Nat.le_of_ble_eq_true rfl) dX6_season_94 ⟨Nat.zero_le _, Nat.zero_le _⟩ (fun _ => rfl) (fun _ => rfl) [a 0, a 1, a 4] rfl (fun _ => rfl) (fun r_94 u_94 H locs e_94 hP hD hS => ?_)
            obtain rfl := e_94
            refine lv_iadd F.1 F.2.1 dX6_season_97 ?_
            refine lv_istore_n (lv' := [(2, .int ((seT f k) + (tkU (seA (seU f k)) 2))), (5, .int (nI (dN (lcg (z2F (seU f k))) % 5))), (4, .int (nI (dN (lcg (z1F (seU f k))) % 2))), (3, .int (nI k)), (0, .ref (a 0)), (1, .int (nI n))]) F.1 F.2.1 dX6_season_98 rfl hl (by decide) rfl (fun ls hl => ?_)
            refine lv_iinc (v := nI (k + 1)) (lv' := [(3, .int (nI (k + 1))), (2, .int ((seT f k) + (tkU (seA (seU f k)) 2))), (5, .int (nI (dN (lcg (z2F (seU f k))) % 5))), (4, .int (nI (dN (lcg (z1F (seU f k))) % 2))), (0, .ref (a 0)), (1, .int (nI n))]) F.1 F.2.1 dX6_season_99 hl (k := 3) rfl (by rw [show Int32.ofInt 1 = nI 1 from rfl, nI_add]) (by decide) rfl (fun ls hl => ?_)
            refine lv_goto (tgt := 38) F.1 F.2.1 dX6_season_102 (by decide) ?_
            have eb : ngU (seA (seU f k)) 2 = seU f (k + 1) := rfl
            rw [eb] at hP hD
            exact ih_38 _ _ _ ⟨hP, hD, hS, lv_sub hl [0, 1, 4, 5] rfl⟩
    · have c_24 : 9999 < f 0 + (nI (2 * n)) := b01t rfl c_24
      refine lv_aload_n F.1 F.2.1 dX6_season_27 rfl (lv_at hl 0 rfl) ?_
      refine lv_ldc (v := (-1000005)) F.1 F.2.1 F.2.2.2.1 (F.2.2.2.2 _ (List.mem_of_getElem? (i := 2) rfl)) dX6_season_28 ?_
      refine iV (rest := []) (wsp := fun _ => oM a v :: ai ct (a 1) 210 f :: [ai ct (a 4) 8 (fnd c 5)]) F (kX6_finding l dC dI ct a v c (-1000005) 5 (by decide) (by decide) (by decide)) gX6_season_X6_finding rfl ⟨rfl, rfl⟩ nmX6_finding ⟨Nat.le_of_ble_eq_true rfl, Nat.le_of_ble_eq_true rfl⟩ eT_b (fun _ _ _ => trivial) hK hP hD hS hA 0 rfl rfl rfl [0, 2] (by decide) rfl rfl rfl hl.1 (Nat.le_of_ble_eq_true rfl) dX6_season_30 ⟨Nat.zero_le _, Nat.zero_le _⟩ (fun _ => rfl) (fun _ => rfl) [a 0, a 1, a 4] rfl (fun _ => rfl) (fun r_30 u_30 H locs e_30 hP hD hS => ?_)
      obtain rfl := e_30
      exact rtI (f, (fnd c 5)) F hr hlk hP hS rfl (Eq.trans (by rw [show tn (nI n) = n from nI_clamp (by omega)]; try exact (if_pos c_24).symm) (if_pos c_7).symm) dX6_season_33
  · have c_7 : ¬ (1 ≤ x1 ∧ x1 ≤ 12) := b01f rfl c_7
    refine lv_aload_n F.1 F.2.1 dX6_season_10 rfl (lv_at hl 0 rfl) ?_
    refine lv_ldc (v := (-1000001)) F.1 F.2.1 F.2.2.2.1 (F.2.2.2.2 _ (List.mem_of_getElem? (i := 1) rfl)) dX6_season_11 ?_
    refine iV (rest := []) (wsp := fun _ => oM a v :: ai ct (a 1) 210 f :: [ai ct (a 4) 8 (fnd c 1)]) F (kX6_finding l dC dI ct a v c (-1000001) 1 (by decide) (by decide) (by decide)) gX6_season_X6_finding rfl ⟨rfl, rfl⟩ nmX6_finding ⟨Nat.le_of_ble_eq_true rfl, Nat.le_of_ble_eq_true rfl⟩ eT_b (fun _ _ _ => trivial) hK hP hD hS hA 0 rfl rfl rfl [0, 2] (by decide) rfl rfl rfl hl.1 (Nat.le_of_ble_eq_true rfl) dX6_season_13 ⟨Nat.zero_le _, Nat.zero_le _⟩ (fun _ => rfl) (fun _ => rfl) [a 0, a 1, a 4] rfl (fun _ => rfl) (fun r_13 u_13 H locs e_13 hP hD hS => ?_)
    obtain rfl := e_13
    exact rtI (f, (fnd c 1)) F hr hlk hP hS rfl ((if_neg (fun q => c_7 q)).symm) dX6_season_16
