def rmX6_mayHave : Room := { frames := 2, cells := 0, slots := 0, locals := 43 }
theorem nmX6_mayHave : NmV yX6_mayHave RX6 2 := by unfold NmV; decide +kernel
set_option maxHeartbeats 4000000 in
set_option maxRecDepth 100000 in
theorem kX6_mayHave (l : Launch) (dC : Nat → ClassId) (dI : Nat → Nat → Nat) (ct : Nat → ClassId) (a : Nat → Nat) (v f : Nat → Int32) (s k : Nat) (hs : s < 2) (hk : k < 64) : MI (S := Unit) l yX6_mayHave wsX6_mayHave rmX6_mayHave dC dI ct eT [.ref (a 0), .int (nI s), .int (nI k)] (oM a v :: [ai ct (a 1) 210 f]) (fun _ => oM a v :: [ai ct (a 1) 210 f]) (fun r _ => r = if may3 f s k then 1 else 0) := by
  refine MI.of (cc := cX6_mayHave) (maxL := 3) (ret := (some .boolean)) (by decide) rfl (Nat.le_of_ble_eq_true rfl) ?_
  intro pg en z mi below meth cd A F hr hlk hin hK hP hD hA hS hE ls hl
  have F : CallFix pg mi cd cX6_mayHave 3 z _ wsX6_mayHave RX6 := F
  have hl : lv_has ls 3 [(0, .ref (a 0)), (1, .int (nI s)), (2, .int (nI k))] := hl
  refine lv_aload_n F.1 F.2.1 dX6_mayHave_0 rfl (lv_at hl 0 rfl) ?_
  refine lv_iload_n F.1 F.2.1 dX6_mayHave_1 rfl (lv_at hl 1 rfl) ?_
  refine lv_iconst (v := 2) F.1 F.2.1 dX6_mayHave_2 (by decide) ?_
  refine iV (rest := []) (wsp := fun _ => oM a v :: [ai ct (a 1) 210 f]) F (kX6_sideIs l dC dI ct a v f s 2 (22 + 17 * s) (by omega) (by omega)) gX6_mayHave_X6_sideIs rfl ⟨rfl, rfl⟩ nmX6_sideIs ⟨Nat.le_of_ble_eq_true rfl, Nat.le_of_ble_eq_true rfl⟩ eT_b (fun _ _ _ => trivial) hK hP hD hS hA 0 rfl rfl rfl [0, 1] (by decide) rfl rfl rfl hl.1 (Nat.le_of_ble_eq_true rfl) dX6_mayHave_3 ⟨Nat.zero_le _, Nat.zero_le _⟩ (fun _ => rfl) (fun _ => rfl) [a 0, a 1] rfl (fun _ => rfl) (fun r_3 u_3 H locs e_3 hP hD hS => ?_)
  obtain rfl := e_3
  refine lv_iload_n F.1 F.2.1 dX6_mayHave_6 rfl (lv_at hl 2 rfl) ?_
  refine lv_iconst (v := 4) F.1 F.2.1 dX6_mayHave_7 (by decide) ?_
  refine lv_irem F.1 F.2.1 dX6_mayHave_8 (by decide) ?_
  refine tp (y := nI (k % 4)) (pk_rem (d := 4) (by omega) (by decide) (by decide)) ?_
  refine lv_icmp_lt (tgt := 43) F.1 F.2.1 dX6_mayHave_9 (by decide) (fun c_9 => ?_) (fun c_9 => ?_)
  · refine lv_iconst (v := 0) F.1 F.2.1 dX6_mayHave_43 (by decide) ?_
    exact rtZ () F hr hlk hP hS rfl ((if_neg (fun q => Int32.not_lt.mpr q.1 c_9)).symm) (Or.inl rfl) dX6_mayHave_44
  · refine lv_aload_n F.1 F.2.1 dX6_mayHave_12 rfl (lv_at hl 0 rfl) ?_
    refine lv_iload_n F.1 F.2.1 dX6_mayHave_13 rfl (lv_at hl 1 rfl) ?_
    refine lv_iconst (v := 3) F.1 F.2.1 dX6_mayHave_14 (by decide) ?_
    refine iV (rest := []) (wsp := fun _ => oM a v :: [ai ct (a 1) 210 f]) F (kX6_sideIs l dC dI ct a v f s 3 (23 + 17 * s) (by omega) (by omega)) gX6_mayHave_X6_sideIs rfl ⟨rfl, rfl⟩ nmX6_sideIs ⟨Nat.le_of_ble_eq_true rfl, Nat.le_of_ble_eq_true rfl⟩ eT_b (fun _ _ _ => trivial) hK hP hD hS hA 0 rfl rfl rfl [0, 1] (by decide) rfl rfl rfl hl.1 (Nat.le_of_ble_eq_true rfl) dX6_mayHave_15 ⟨Nat.zero_le _, Nat.zero_le _⟩ (fun _ => rfl) (fun _ => rfl) [a 0, a 1] rfl (fun _ => rfl) (fun r_15 u_15 H locs e_15 hP hD hS => ?_)
    obtain rfl := e_15
    refine lv_iload_n F.1 F.2.1 dX6_mayHave_18 rfl (lv_at hl 2 rfl) ?_
    refine lv_iconst (v := 4) F.1 F.2.1 dX6_mayHave_19 (by decide) ?_
    refine lv_idiv F.1 F.2.1 dX6_mayHave_20 (by decide) ?_
    refine tp (y := nI (k / 4)) (pk_div (d := 4) (by omega) (by decide) (by decide)) ?_
    refine lv_iconst (v := 4) F.1 F.2.1 dX6_mayHave_21 (by decide) ?_
    refine lv_irem F.1 F.2.1 dX6_mayHave_22 (by decide) ?_
    refine tp (y := nI (k / 4 % 4)) (pk_rem (d := 4) (by omega) (by decide) (by decide)) ?_
    refine lv_icmp_lt (tgt := 43) F.1 F.2.1 dX6_mayHave_23 (by decide) (fun c_23 => ?_) (fun c_23 => ?_)
    · refine lv_iconst (v := 0) F.1 F.2.1 dX6_mayHave_43 (by decide) ?_
      exact rtZ () F hr hlk hP hS rfl ((if_neg (fun q => Int32.not_lt.mpr q.2.1 c_23)).symm) (Or.inl rfl) dX6_mayHave_44
    · refine lv_aload_n F.1 F.2.1 dX6_mayHave_26 rfl (lv_at hl 0 rfl) ?_
      refine lv_iload_n F.1 F.2.1 dX6_mayHave_27 rfl (lv_at hl 1 rfl) ?_
      refine lv_iconst (v := 4) F.1 F.2.1 dX6_mayHave_28 (by decide) ?_
      refine iV (rest := []) (wsp := fun _ => oM a v :: [ai ct (a 1) 210 f]) F (kX6_sideIs l dC dI ct a v f s 4 (24 + 17 * s) (by omega) (by omega)) gX6_mayHave_X6_sideIs rfl ⟨rfl, rfl⟩ nmX6_sideIs ⟨Nat.le_of_ble_eq_true rfl, Nat.le_of_ble_eq_true rfl⟩ eT_b (fun _ _ _ => trivial) hK hP hD hS hA 0 rfl rfl rfl [0, 1] (by decide) rfl rfl rfl hl.1 (Nat.le_of_ble_eq_true rfl) dX6_mayHave_29 ⟨Nat.zero_le _, Nat.zero_le _⟩ (fun _ => rfl) (fun _ => rfl) [a 0, a 1] rfl (fun _ => rfl) (fun r_29 u_29 H locs e_29 hP hD hS => ?_)
      obtain rfl := e_29
      refine lv_iload_n F.1 F.2.1 dX6_mayHave_32 rfl (lv_at hl 2 rfl) ?_
      refine lv_bipush (v := 16) F.1 F.2.1 dX6_mayHave_33 (by decide) ?_
      refine lv_idiv F.1 F.2.1 dX6_mayHave_35 (by decide) ?_
      refine tp (y := nI (k / 16)) (pk_div (d := 16) (by omega) (by decide) (by decide)) ?_
      refine lv_icmp_lt (tgt := 43) F.1 F.2.1 dX6_mayHave_36 (by decide) (fun c_36 => ?_) (fun c_36 => ?_)
      · refine lv_iconst (v := 0) F.1 F.2.1 dX6_mayHave_43 (by decide) ?_
        exact rtZ () F hr hlk hP hS rfl ((if_neg (fun q => Int32.not_lt.mpr q.2.2 c_36)).symm) (Or.inl rfl) dX6_mayHave_44
      · refine lv_iconst (v := 1) F.1 F.2.1 dX6_mayHave_39 (by decide) ?_
        refine lv_goto (tgt := 44) F.1 F.2.1 dX6_mayHave_40 (by decide) ?_
        exact rtZ () F hr hlk hP hS rfl ((if_pos ⟨Int32.not_lt.mp c_9, Int32.not_lt.mp c_23, Int32.not_lt.mp c_36⟩).symm) (Or.inr rfl) dX6_mayHave_44

def rmX6_findBest : Room := { frames := 10, cells := 0, slots := 0, locals := 226 }
theorem nmX6_findBest : NmV yX6_findBest RX6 2 := by unfold NmV; decide +kernel
theorem hiX6_findBest_6 : ∀ w ∈ u_ws RX6 TX6 22, w ∈ wsX6_findBest := by decide +kernel
set_option maxHeartbeats 4000000 in
set_option maxRecDepth 100000 in
theorem kX6_findBest (l : Launch) (dC : Nat → ClassId) (dI : Nat → Nat → Nat) (ct : Nat → ClassId) (a : Nat → Nat) (v f h : Nat → Int32) (s n : Nat) (hs : s < 2) (hn : n ≤ 60) (hRg : Rg f) (hN : nN f + n ≤ 9999) : MV (S := Unit) l yX6_findBest wsX6_findBest rmX6_findBest dC dI ct eT [.ref (a 0), .int (nI s), .int (nI n)] (oM a v :: ai ct (a 1) 210 f :: [ai ct (a 3) 210 h]) (fun _ => oM a (beV f s n v 64) :: ai ct (a 1) 210 f :: [ai ct (a 3) 210 f]) (fun _ => True) := by
  refine MV.of (cc := cX6_findBest) (maxL := 7) (ret := none) (by decide) rfl (Nat.le_of_ble_eq_true rfl) ?_
  intro pg en z mi below meth cd A F hr hlk hin hK hP hD hA hS hE ls hl
  have F : CallFix pg mi cd cX6_findBest 7 z _ wsX6_findBest RX6 := F
  have hl : lv_has ls 7 [(0, .ref (a 0)), (1, .int (nI s)), (2, .int (nI n))] := hl
  refine lv_aload_n F.1 F.2.1 dX6_findBest_0 rfl (lv_at hl 0 rfl) ?_
  refine gf F hK hP 0 rfl rfl hiX6_findBest_6 0 (by decide) (List.mem_of_getElem? (i := 1) rfl) rfl dX6_findBest_1 ?_
  refine lv_aload_n F.1 F.2.1 dX6_findBest_4 rfl (lv_at hl 0 rfl) ?_
  refine gf F hK hP 0 rfl rfl hiX6_findBest_6 2 (by decide) (List.mem_of_getElem? (i := 2) rfl) rfl dX6_findBest_5 ?_
  refine vS (rest := []) (wsp := fun _ => oM a v :: ai ct (a 1) 210 f :: [ai ct (a 3) 210 f]) F (kX6_copyRow l dC dI ct (a 1) (a 3) f h) gX6_findBest_X6_copyRow rfl ⟨rfl, rfl⟩ nmX6_copyRow ⟨Nat.le_of_ble_eq_true rfl, Nat.le_of_ble_eq_true rfl⟩ eT_b (fun _ _ _ => trivial) hK hP hD hS hA [1, 2] (by decide) rfl rfl rfl hl.1 (Nat.le_of_ble_eq_true rfl) dX6_findBest_8 ⟨Nat.zero_le _, Nat.zero_le _⟩ (fun _ => rfl) (fun _ => rfl) [a 0, a 1, a 3] rfl (fun _ => rfl) (fun u_8 H locs e_8 hP hD hS => ?_)
  refine lv_aload_n F.1 F.2.1 dX6_findBest_11 rfl (lv_at hl 0 rfl) ?_
  refine lv_iconst (v := (-1)) F.1 F.2.1 dX6_findBest_12 (by decide) ?_
  refine pf (ws' := oM a (upd v 5 (-1)) :: ai ct (a 1) 210 f :: [ai ct (a 3) 210 f]) F hK hP hD hS 0 rfl rfl hiX6_findBest_6 tyX6 tyX6_ok nmX6 5 (by decide) (List.mem_of_getElem? (i := 3) rfl) rfl rfl rfl (Nat.le_of_ble_eq_true rfl) dX6_findBest_13 (weq.rf _) (fun H locs hP hD hS => ?_)
  refine lv_iconst (v := 0) F.1 F.2.1 dX6_findBest_16 (by decide) ?_
  refine lv_istore_n (lv' := [(3, .int 0), (0, .ref (a 0)), (1, .int (nI s)), (2, .int (nI n))]) F.1 F.2.1 dX6_findBest_17 rfl hl (by decide) rfl (fun ls hl => ?_)
  refine loopN (I := fun k H locs ls => va_P (dC, dI) vwCl (oM a (beV f s n v k) :: ai ct (a 1) 210 f :: [ai ct (a 3) 210 f]) H ∧ va_D A (oM a (beV f s n v k) :: ai ct (a 1) 210 f :: [ai ct (a 3) 210 f]) ∧ va_S A z.heap H locs ∧ lv_has ls 7 [(3, .int (nI k)), (0, .ref (a 0)), (1, .int (nI s)), (2, .int (nI n))]) 64 0 (by omega) ⟨hP, hD, hS, lv_sub hl [0, 1, 2, 3] rfl⟩ (fun H locs ls hI => ?_) (fun k hk_k H locs ls hI ih_18 => ?_)
  · obtain ⟨hP, hD, hS, hl⟩ := hI
    refine lv_iload_n F.1 F.2.1 dX6_findBest_18 rfl (lv_at hl 0 rfl) ?_
    refine lv_bipush (v := 64) F.1 F.2.1 dX6_findBest_19 (by decide) ?_
    refine lv_icmp_ge (tgt := 125) F.1 F.2.1 dX6_findBest_21 (by decide) (fun c_21 => ?_) (fun c_21 => ?_)
    · exact rtV () F hr hlk hP hS rfl trivial dX6_findBest_125
    · exact absurd (nI_le (Nat.le_refl _) (by decide)) c_21
  · obtain ⟨hP, hD, hS, hl⟩ := hI
    refine lv_iload_n F.1 F.2.1 dX6_findBest_18 rfl (lv_at hl 0 rfl) ?_
    refine lv_bipush (v := 64) F.1 F.2.1 dX6_findBest_19 (by decide) ?_
    refine lv_icmp_ge (tgt := 125) F.1 F.2.1 dX6_findBest_21 (by decide) (fun c_21 => ?_) (fun c_21 => ?_)
    · exact absurd c_21 (nI_ge hk_k (by decide))
    · refine lv_aload_n F.1 F.2.1 dX6_findBest_24 rfl (lv_at hl 1 rfl) ?_
      refine lv_iload_n F.1 F.2.1 dX6_findBest_25 rfl (lv_at hl 2 rfl) ?_
      refine lv_iload_n F.1 F.2.1 dX6_findBest_26 rfl (lv_at hl 2 rfl) ?_
      refine vV (rest := []) (wsp := fun _ => oM a (beV f s n v k) :: ai ct (a 1) 210 (goU f s s 5) :: [ai ct (a 3) 210 f]) F (kX6_goesHome l dC dI ct a (beV f s n v k) f s s (by omega) (by omega)) gX6_findBest_X6_goesHome rfl ⟨rfl, rfl⟩ nmX6_goesHome ⟨Nat.le_of_ble_eq_true rfl, Nat.le_of_ble_eq_true rfl⟩ eT_b (fun _ _ _ => trivial) hK hP hD hS hA 0 rfl rfl rfl [0, 1] (by decide) rfl rfl rfl hl.1 (Nat.le_of_ble_eq_true rfl) dX6_findBest_27 ⟨Nat.zero_le _, Nat.zero_le _⟩ (fun _ => rfl) (fun _ => rfl) [a 0, a 1, a 3] rfl (fun _ => rfl) (fun u_27 H locs e_27 hP hD hS => ?_)
      refine lv_aload_n F.1 F.2.1 dX6_findBest_30 rfl (lv_at hl 1 rfl) ?_
      refine lv_iload_n F.1 F.2.1 dX6_findBest_31 rfl (lv_at hl 2 rfl) ?_
      refine lv_iload_n F.1 F.2.1 dX6_findBest_32 rfl (lv_at hl 0 rfl) ?_
      refine iV (rest := []) (wsp := fun _ => oM a (beV f s n v k) :: ai ct (a 1) 210 (goU f s s 5) :: [ai ct (a 3) 210 f]) F (kX6_mayHave l dC dI ct a (beV f s n v k) (goU f s s 5) s k (by omega) (by omega)) gX6_findBest_X6_mayHave rfl ⟨rfl, rfl⟩ nmX6_mayHave ⟨Nat.le_of_ble_eq_true rfl, Nat.le_of_ble_eq_true rfl⟩ eT_b (fun _ _ _ => trivial) hK hP hD hS hA 0 rfl rfl rfl [0, 1] (by decide) rfl rfl rfl hl.1 (Nat.le_of_ble_eq_true rfl) dX6_findBest_33 ⟨Nat.zero_le _, Nat.zero_le _⟩ (fun _ => rfl) (fun _ => rfl) [a 0, a 1, a 3] rfl (fun _ => rfl) (fun r_33 u_33 H locs e_33 hP hD hS => ?_)
      obtain rfl := e_33
      refine lv_istore (lv' := [(4, .int (if may3 (goU f s s 5) s k then 1 else 0)), (3, .int (nI k)), (0, .ref (a 0)), (1, .int (nI s)), (2, .int (nI n))]) F.1 F.2.1 dX6_findBest_36 hl (by decide) rfl (fun ls hl => ?_)
      refine lv_iload_n F.1 F.2.1 dX6_findBest_38 rfl (lv_at hl 1 rfl) ?_
      refine lv_istore (lv' := [(5, .int (nI k)), (4, .int (if may3 (goU f s s 5) s k then 1 else 0)), (3, .int (nI k)), (0, .ref (a 0)), (1, .int (nI s)), (2, .int (nI n))]) F.1 F.2.1 dX6_findBest_39 hl (by decide) rfl (fun ls hl => ?_)
      refine lv_iconst (v := 0) F.1 F.2.1 dX6_findBest_41 (by decide) ?_
      refine lv_istore (lv' := [(6, .int 0), (5, .int (nI k)), (4, .int (if may3 (goU f s s 5) s k then 1 else 0)), (3, .int (nI k)), (0, .ref (a 0)), (1, .int (nI s)), (2, .int (nI n))]) F.1 F.2.1 dX6_findBest_42 hl (by decide) rfl (fun ls hl => ?_)
      refine lv_iload F.1 F.2.1 dX6_findBest_44 (lv_at hl 0 rfl) ?_
      refine lv_iconst (v := 3) F.1 F.2.1 dX6_findBest_46 (by decide) ?_
      refine lv_icmp_ge (tgt := 79) F.1 F.2.1 dX6_findBest_47 (by decide) (fun c_47 => ?_) (fun c_47 => ?_)
      · exact absurd c_47 (by decide)
      · refine lv_iload F.1 F.2.1 dX6_findBest_50 (lv_at hl 2 rfl) ?_
        refine lv_if_eq (tgt := 79) F.1 F.2.1 dX6_findBest_52 (by decide) (fun c_52 => ?_) (fun c_52 => ?_)
        · have c_52 : ¬ (may3 (goU f s s 5) s k) := b01f rfl c_52
          refine lv_aload_n F.1 F.2.1 dX6_findBest_79 rfl (lv_at hl 4 rfl) ?_
          refine lv_iload_n F.1 F.2.1 dX6_findBest_80 rfl (lv_at hl 5 rfl) ?_
          refine lv_iload_n F.1 F.2.1 dX6_findBest_81 rfl (lv_at hl 6 rfl) ?_
          refine iV (rest := []) (wsp := fun _ => oM a (beV f s n v k) :: ai ct (a 1) 210 f :: [ai ct (a 3) 210 f]) F (kX6_then l dC dI ct a (beV f s n v k) (goU f s s 5) f s n (by omega) (by omega) (fun j hj => Gd_of (goR hRg hs hs hN j hj))) gX6_findBest_X6_then rfl ⟨rfl, rfl⟩ nmX6_then ⟨Nat.le_of_ble_eq_true rfl, Nat.le_of_ble_eq_true rfl⟩ eT_b (fun _ _ _ => trivial) hK hP hD hS hA 0 rfl rfl rfl [0, 1, 2] (by decide) rfl rfl rfl hl.1 (Nat.le_of_ble_eq_true rfl) dX6_findBest_82 ⟨Nat.zero_le _, Nat.zero_le _⟩ (fun _ => rfl) (fun _ => rfl) [a 0, a 1, a 3] rfl (fun _ => rfl) (fun r_82 u_82 H locs e_82 hP hD hS => ?_)
          obtain rfl := e_82
          refine lv_istore (lv' := [(6, .int (allU (ngU (goU f s s 5) n) s 5)), (5, .int (nI k)), (4, .int (if may3 (goU f s s 5) s k then 1 else 0)), (3, .int (nI k)), (0, .ref (a 0)), (1, .int (nI s)), (2, .int (nI n))]) F.1 F.2.1 dX6_findBest_85 hl (by decide) rfl (fun ls hl => ?_)
          refine lv_iload F.1 F.2.1 dX6_findBest_87 (lv_at hl 2 rfl) ?_
          refine lv_if_eq (tgt := 119) F.1 F.2.1 dX6_findBest_89 (by decide) (fun c_89 => ?_) (fun c_89 => ?_)
          · have c_89 : ¬ (may3 (goU f s s 5) s k) := b01f rfl c_89
            refine lv_iinc (v := nI (k + 1)) (lv' := [(3, .int (nI (k + 1))), (6, .int (allU (ngU (goU f s s 5) n) s 5)), (5, .int (nI k)), (4, .int (if may3 (goU f s s 5) s k then 1 else 0)), (0, .ref (a 0)), (1, .int (nI s)), (2, .int (nI n))]) F.1 F.2.1 dX6_findBest_119 hl (k := 3) rfl (by rw [show Int32.ofInt 1 = nI 1 from rfl, nI_add]) (by decide) rfl (fun ls hl => ?_)
            refine lv_goto (tgt := 18) F.1 F.2.1 dX6_findBest_122 (by decide) ?_
            have eb : (beV f s n v k) = beV f s n v (k + 1) := (if_neg (fun q => c_52 q.1)).symm
            rw [eb] at hP hD
            exact ih_18 _ _ _ ⟨hP, hD, hS, lv_sub hl [0, 4, 5, 6] rfl⟩
          · exact absurd (if_neg c_52) c_89
        · have c_52 : may3 (goU f s s 5) s k := b01t rfl c_52
          refine lv_aload_n F.1 F.2.1 dX6_findBest_55 rfl (lv_at hl 4 rfl) ?_
          refine lv_iload_n F.1 F.2.1 dX6_findBest_56 rfl (lv_at hl 5 rfl) ?_
          refine lv_iload F.1 F.2.1 dX6_findBest_57 (lv_at hl 0 rfl) ?_
          refine lv_iload F.1 F.2.1 dX6_findBest_59 (lv_at hl 1 rfl) ?_
          refine lv_iconst (v := 4) F.1 F.2.1 dX6_findBest_61 (by decide) ?_
          refine lv_irem F.1 F.2.1 dX6_findBest_62 (by decide) ?_
          refine tp (y := nI (k % 4)) (pk_rem (d := 4) (by omega) (by decide) (by decide)) ?_
          refine iV (rest := []) (wsp := fun _ => oM a (beV f s n v k) :: ai ct (a 1) 210 (laid (goU f s s 5) s 0 (nI (k % 4))) :: [ai ct (a 3) 210 f]) F (kX6_laid l dC dI ct a (beV f s n v k) (goU f s s 5) s 0 (nI (k % 4)) (by omega) (by omega)) gX6_findBest_X6_laid rfl ⟨rfl, rfl⟩ nmX6_laid ⟨Nat.le_of_ble_eq_true rfl, Nat.le_of_ble_eq_true rfl⟩ eT_b (fun _ _ _ => trivial) hK hP hD hS hA 0 rfl rfl rfl [0, 1] (by decide) rfl rfl rfl hl.1 (Nat.le_of_ble_eq_true rfl) dX6_findBest_63 ⟨Nat.zero_le _, Nat.zero_le _⟩ (fun _ => rfl) (fun _ => rfl) [a 0, a 1, a 3] rfl (fun _ => rfl) (fun r_63 u_63 H locs e_63 hP hD hS => ?_)
          obtain rfl := e_63
          refine lv_pop F.1 F.2.1 dX6_findBest_66 rfl ?_
          refine lv_iload F.1 F.2.1 dX6_findBest_67 (lv_at hl 1 rfl) ?_
          refine lv_iconst (v := 4) F.1 F.2.1 dX6_findBest_69 (by decide) ?_
          refine lv_idiv F.1 F.2.1 dX6_findBest_70 (by decide) ?_
          refine tp (y := nI (k / 4)) (pk_div (d := 4) (by omega) (by decide) (by decide)) ?_
          refine lv_istore (lv' := [(5, .int (nI (k / 4))), (6, .int 0), (4, .int (if may3 (goU f s s 5) s k then 1 else 0)), (3, .int (nI k)), (0, .ref (a 0)), (1, .int (nI s)), (2, .int (nI n))]) F.1 F.2.1 dX6_findBest_71 hl (by decide) rfl (fun ls hl => ?_)
          refine lv_iinc (v := 1) (lv' := [(6, .int 1), (5, .int (nI (k / 4))), (4, .int (if may3 (goU f s s 5) s k then 1 else 0)), (3, .int (nI k)), (0, .ref (a 0)), (1, .int (nI s)), (2, .int (nI n))]) F.1 F.2.1 dX6_findBest_73 hl (k := 1) rfl (by decide) (by decide) rfl (fun ls hl => ?_)
          refine lv_goto (tgt := 44) F.1 F.2.1 dX6_findBest_76 (by decide) ?_
          refine lv_iload F.1 F.2.1 dX6_findBest_44 (lv_at hl 0 rfl) ?_
          refine lv_iconst (v := 3) F.1 F.2.1 dX6_findBest_46 (by decide) ?_
          refine lv_icmp_ge (tgt := 79) F.1 F.2.1 dX6_findBest_47 (by decide) (fun c_47' => ?_) (fun c_47' => ?_)
          · exact absurd c_47' (by decide)
          · refine lv_iload F.1 F.2.1 dX6_findBest_50 (lv_at hl 2 rfl) ?_
            refine lv_if_eq (tgt := 79) F.1 F.2.1 dX6_findBest_52 (by decide) (fun c_52' => ?_) (fun c_52' => ?_)
            · exact absurd c_52' (by rw [if_pos c_52]; decide)
            · have c_52' : may3 (goU f s s 5) s k := b01t rfl c_52'
              refine lv_aload_n F.1 F.2.1 dX6_findBest_55 rfl (lv_at hl 4 rfl) ?_
              refine lv_iload_n F.1 F.2.1 dX6_findBest_56 rfl (lv_at hl 5 rfl) ?_
              refine lv_iload F.1 F.2.1 dX6_findBest_57 (lv_at hl 0 rfl) ?_
              refine lv_iload F.1 F.2.1 dX6_findBest_59 (lv_at hl 1 rfl) ?_
              refine lv_iconst (v := 4) F.1 F.2.1 dX6_findBest_61 (by decide) ?_
              refine lv_irem F.1 F.2.1 dX6_findBest_62 (by decide) ?_
              refine tp (y := nI (k / 4 % 4)) (pk_rem (d := 4) (by omega) (by decide) (by decide)) ?_
              refine iV (rest := []) (wsp := fun _ => oM a (beV f s n v k) :: ai ct (a 1) 210 (laid (laid (goU f s s 5) s 0 (nI (k % 4))) s 1 (nI (k / 4 % 4))) :: [ai ct (a 3) 210 f]) F (kX6_laid l dC dI ct a (beV f s n v k) (laid (goU f s s 5) s 0 (nI (k % 4))) s 1 (nI (k / 4 % 4)) (by omega) (by omega)) gX6_findBest_X6_laid rfl ⟨rfl, rfl⟩ nmX6_laid ⟨Nat.le_of_ble_eq_true rfl, Nat.le_of_ble_eq_true rfl⟩ eT_b (fun _ _ _ => trivial) hK hP hD hS hA 0 rfl rfl rfl [0, 1] (by decide) rfl rfl rfl hl.1 (Nat.le_of_ble_eq_true rfl) dX6_findBest_63 ⟨Nat.zero_le _, Nat.zero_le _⟩ (fun _ => rfl) (fun _ => rfl) [a 0, a 1, a 3] rfl (fun _ => rfl) (fun r_63 u_63 H locs e_63 hP hD hS => ?_)
              obtain rfl := e_63
              refine lv_pop F.1 F.2.1 dX6_findBest_66 rfl ?_
              refine lv_iload F.1 F.2.1 dX6_findBest_67 (lv_at hl 1 rfl) ?_
              refine lv_iconst (v := 4) F.1 F.2.1 dX6_findBest_69 (by decide) ?_
              refine lv_idiv F.1 F.2.1 dX6_findBest_70 (by decide) ?_
              refine tp (y := nI (k / 4 / 4)) (pk_div (d := 4) (by omega) (by decide) (by decide)) ?_
              refine lv_istore (lv' := [(5, .int (nI (k / 4 / 4))), (6, .int 1), (4, .int (if may3 (goU f s s 5) s k then 1 else 0)), (3, .int (nI k)), (0, .ref (a 0)), (1, .int (nI s)), (2, .int (nI n))]) F.1 F.2.1 dX6_findBest_71 hl (by decide) rfl (fun ls hl => ?_)
              refine lv_iinc (v := 2) (lv' := [(6, .int 2), (5, .int (nI (k / 4 / 4))), (4, .int (if may3 (goU f s s 5) s k then 1 else 0)), (3, .int (nI k)), (0, .ref (a 0)), (1, .int (nI s)), (2, .int (nI n))]) F.1 F.2.1 dX6_findBest_73 hl (k := 1) rfl (by decide) (by decide) rfl (fun ls hl => ?_)
              refine lv_goto (tgt := 44) F.1 F.2.1 dX6_findBest_76 (by decide) ?_
              refine lv_iload F.1 F.2.1 dX6_findBest_44 (lv_at hl 0 rfl) ?_
              refine lv_iconst (v := 3) F.1 F.2.1 dX6_findBest_46 (by decide) ?_
              refine lv_icmp_ge (tgt := 79) F.1 F.2.1 dX6_findBest_47 (by decide) (fun c_47'' => ?_) (fun c_47'' => ?_)
              · exact absurd c_47'' (by decide)
              · refine lv_iload F.1 F.2.1 dX6_findBest_50 (lv_at hl 2 rfl) ?_
                refine lv_if_eq (tgt := 79) F.1 F.2.1 dX6_findBest_52 (by decide) (fun c_52'' => ?_) (fun c_52'' => ?_)
                · exact absurd c_52'' (by rw [if_pos c_52]; decide)
                · have c_52'' : may3 (goU f s s 5) s k := b01t rfl c_52''
                  refine lv_aload_n F.1 F.2.1 dX6_findBest_55 rfl (lv_at hl 4 rfl) ?_
                  refine lv_iload_n F.1 F.2.1 dX6_findBest_56 rfl (lv_at hl 5 rfl) ?_
                  refine lv_iload F.1 F.2.1 dX6_findBest_57 (lv_at hl 0 rfl) ?_
                  refine lv_iload F.1 F.2.1 dX6_findBest_59 (lv_at hl 1 rfl) ?_
                  refine lv_iconst (v := 4) F.1 F.2.1 dX6_findBest_61 (by decide) ?_
                  refine lv_irem F.1 F.2.1 dX6_findBest_62 (by decide) ?_
                  refine tp (y := nI (k / 16)) ((pk_rem (d := 4) (by omega) (by decide) (by decide)).trans (congrArg nI (by omega))) ?_
                  refine iV (rest := []) (wsp := fun _ => oM a (beV f s n v k) :: ai ct (a 1) 210 (laid (laid (laid (goU f s s 5) s 0 (nI (k % 4))) s 1 (nI (k / 4 % 4))) s 2 (nI (k / 16))) :: [ai ct (a 3) 210 f]) F (kX6_laid l dC dI ct a (beV f s n v k) (laid (laid (goU f s s 5) s 0 (nI (k % 4))) s 1 (nI (k / 4 % 4))) s 2 (nI (k / 16)) (by omega) (by omega)) gX6_findBest_X6_laid rfl ⟨rfl, rfl⟩ nmX6_laid ⟨Nat.le_of_ble_eq_true rfl, Nat.le_of_ble_eq_true rfl⟩ eT_b (fun _ _ _ => trivial) hK hP hD hS hA 0 rfl rfl rfl [0, 1] (by decide) rfl rfl rfl hl.1 (Nat.le_of_ble_eq_true rfl) dX6_findBest_63 ⟨Nat.zero_le _, Nat.zero_le _⟩ (fun _ => rfl) (fun _ => rfl) [a 0, a 1, a 3] rfl (fun _ => rfl) (fun r_63 u_63 H locs e_63 hP hD hS => ?_)
                  obtain rfl := e_63
                  refine lv_pop F.1 F.2.1 dX6_findBest_66 rfl ?_
                  refine lv_iload F.1 F.2.1 dX6_findBest_67 (lv_at hl 1 rfl) ?_
                  refine lv_iconst (v := 4) F.1 F.2.1 dX6_findBest_69 (by decide) ?_
                  refine lv_idiv F.1 F.2.1 dX6_findBest_70 (by decide) ?_
                  refine tp (y := nI (k / 4 / 4 / 4)) (pk_div (d := 4) (by omega) (by decide) (by decide)) ?_
                  refine lv_istore (lv' := [(5, .int (nI (k / 4 / 4 / 4))), (6, .int 2), (4, .int (if may3 (goU f s s 5) s k then 1 else 0)), (3, .int (nI k)), (0, .ref (a 0)), (1, .int (nI s)), (2, .int (nI n))]) F.1 F.2.1 dX6_findBest_71 hl (by decide) rfl (fun ls hl => ?_)
                  refine lv_iinc (v := 3) (lv' := [(6, .int 3), (5, .int (nI (k / 4 / 4 / 4))), (4, .int (if may3 (goU f s s 5) s k then 1 else 0)), (3, .int (nI k)), (0, .ref (a 0)), (1, .int (nI s)), (2, .int (nI n))]) F.1 F.2.1 dX6_findBest_73 hl (k := 1) rfl (by decide) (by decide) rfl (fun ls hl => ?_)
                  refine lv_goto (tgt := 44) F.1 F.2.1 dX6_findBest_76 (by decide) ?_
                  refine lv_iload F.1 F.2.1 dX6_findBest_44 (lv_at hl 0 rfl) ?_
                  refine lv_iconst (v := 3) F.1 F.2.1 dX6_findBest_46 (by decide) ?_
                  refine lv_icmp_ge (tgt := 79) F.1 F.2.1 dX6_findBest_47 (by decide) (fun c_47''' => ?_) (fun c_47''' => ?_)
                  · refine lv_aload_n F.1 F.2.1 dX6_findBest_79 rfl (lv_at hl 4 rfl) ?_
                    refine lv_iload_n F.1 F.2.1 dX6_findBest_80 rfl (lv_at hl 5 rfl) ?_
                    refine lv_iload_n F.1 F.2.1 dX6_findBest_81 rfl (lv_at hl 6 rfl) ?_
                    refine iV (rest := []) (wsp := fun _ => oM a (beV f s n v k) :: ai ct (a 1) 210 f :: [ai ct (a 3) 210 f]) F (kX6_then l dC dI ct a (beV f s n v k) (laid (laid (laid (goU f s s 5) s 0 (nI (k % 4))) s 1 (nI (k / 4 % 4))) s 2 (nI (k / 16))) f s n (by omega) (by omega) (fun j hj => Gd_of (beR hRg hs hk_k hN c_52 j hj))) gX6_findBest_X6_then rfl ⟨rfl, rfl⟩ nmX6_then ⟨Nat.le_of_ble_eq_true rfl, Nat.le_of_ble_eq_true rfl⟩ eT_b (fun _ _ _ => trivial) hK hP hD hS hA 0 rfl rfl rfl [0, 1, 2] (by decide) rfl rfl rfl hl.1 (Nat.le_of_ble_eq_true rfl) dX6_findBest_82 ⟨Nat.zero_le _, Nat.zero_le _⟩ (fun _ => rfl) (fun _ => rfl) [a 0, a 1, a 3] rfl (fun _ => rfl) (fun r_82 u_82 H locs e_82 hP hD hS => ?_)
                    obtain rfl := e_82
                    refine lv_istore (lv' := [(6, .int (allU (ngU (laid (laid (laid (goU f s s 5) s 0 (nI (k % 4))) s 1 (nI (k / 4 % 4))) s 2 (nI (k / 16))) n) s 5)), (5, .int (nI (k / 4 / 4 / 4))), (4, .int (if may3 (goU f s s 5) s k then 1 else 0)), (3, .int (nI k)), (0, .ref (a 0)), (1, .int (nI s)), (2, .int (nI n))]) F.1 F.2.1 dX6_findBest_85 hl (by decide) rfl (fun ls hl => ?_)
                    refine lv_iload F.1 F.2.1 dX6_findBest_87 (lv_at hl 2 rfl) ?_
                    refine lv_if_eq (tgt := 119) F.1 F.2.1 dX6_findBest_89 (by decide) (fun c_89 => ?_) (fun c_89 => ?_)
                    · exact absurd c_89 (by rw [if_pos c_52]; decide)
                    · have c_89 : may3 (goU f s s 5) s k := b01t rfl c_89
                      refine lv_aload_n F.1 F.2.1 dX6_findBest_92 rfl (lv_at hl 4 rfl) ?_
                      refine gf F hK hP 0 rfl rfl hiX6_findBest_6 5 (by decide) (List.mem_of_getElem? (i := 3) rfl) rfl dX6_findBest_93 ?_
                      refine lv_if_lt (tgt := 108) F.1 F.2.1 dX6_findBest_96 (by decide) (fun c_96 => ?_) (fun c_96 => ?_)
                      · refine lv_aload_n F.1 F.2.1 dX6_findBest_108 rfl (lv_at hl 4 rfl) ?_
                        refine lv_iload_n F.1 F.2.1 dX6_findBest_109 rfl (lv_at hl 3 rfl) ?_
                        refine pf (ws' := oM a (upd (beV f s n v k) 5 (nI k)) :: ai ct (a 1) 210 f :: [ai ct (a 3) 210 f]) F hK hP hD hS 0 rfl rfl hiX6_findBest_6 tyX6 tyX6_ok nmX6 5 (by decide) (List.mem_of_getElem? (i := 3) rfl) rfl rfl rfl (Nat.le_of_ble_eq_true rfl) dX6_findBest_110 (weq.rf _) (fun H locs hP hD hS => ?_)
                        refine lv_aload_n F.1 F.2.1 dX6_findBest_113 rfl (lv_at hl 4 rfl) ?_
                        refine lv_iload F.1 F.2.1 dX6_findBest_114 (lv_at hl 0 rfl) ?_
                        refine pf (ws' := oM a (upd (upd (beV f s n v k) 5 (nI k)) 6 (allU (ngU (laid (laid (laid (goU f s s 5) s 0 (nI (k % 4))) s 1 (nI (k / 4 % 4))) s 2 (nI (k / 16))) n) s 5)) :: ai ct (a 1) 210 f :: [ai ct (a 3) 210 f]) F hK hP hD hS 0 rfl rfl hiX6_findBest_6 tyX6 tyX6_ok nmX6 6 (by decide) (List.mem_of_getElem? (i := 4) rfl) rfl rfl rfl (Nat.le_of_ble_eq_true rfl) dX6_findBest_116 (weq.rf _) (fun H locs hP hD hS => ?_)
                        refine lv_iinc (v := nI (k + 1)) (lv' := [(3, .int (nI (k + 1))), (6, .int (allU (ngU (laid (laid (laid (goU f s s 5) s 0 (nI (k % 4))) s 1 (nI (k / 4 % 4))) s 2 (nI (k / 16))) n) s 5)), (5, .int (nI (k / 4 / 4 / 4))), (4, .int (if may3 (goU f s s 5) s k then 1 else 0)), (0, .ref (a 0)), (1, .int (nI s)), (2, .int (nI n))]) F.1 F.2.1 dX6_findBest_119 hl (k := 3) rfl (by rw [show Int32.ofInt 1 = nI 1 from rfl, nI_add]) (by decide) rfl (fun ls hl => ?_)
                        refine lv_goto (tgt := 18) F.1 F.2.1 dX6_findBest_122 (by decide) ?_
                        have eb : upd (upd (beV f s n v k) 5 (nI k)) 6 (allU (ngU (laid (laid (laid (goU f s s 5) s 0 (nI (k % 4))) s 1 (nI (k / 4 % 4))) s 2 (nI (k / 16))) n) s 5) = beV f s n v (k + 1) := (if_pos ⟨c_52, Or.inl c_96⟩).symm
                        rw [eb] at hP hD
                        exact ih_18 _ _ _ ⟨hP, hD, hS, lv_sub hl [0, 4, 5, 6] rfl⟩
                      · refine lv_iload F.1 F.2.1 dX6_findBest_99 (lv_at hl 0 rfl) ?_
                        refine lv_aload_n F.1 F.2.1 dX6_findBest_101 rfl (lv_at hl 4 rfl) ?_
                        refine gf F hK hP 0 rfl rfl hiX6_findBest_6 6 (by decide) (List.mem_of_getElem? (i := 4) rfl) rfl dX6_findBest_102 ?_
                        refine lv_icmp_le (tgt := 119) F.1 F.2.1 dX6_findBest_105 (by decide) (fun c_105 => ?_) (fun c_105 => ?_)
                        · refine lv_iinc (v := nI (k + 1)) (lv' := [(3, .int (nI (k + 1))), (6, .int (allU (ngU (laid (laid (laid (goU f s s 5) s 0 (nI (k % 4))) s 1 (nI (k / 4 % 4))) s 2 (nI (k / 16))) n) s 5)), (5, .int (nI (k / 4 / 4 / 4))), (4, .int (if may3 (goU f s s 5) s k then 1 else 0)), (0, .ref (a 0)), (1, .int (nI s)), (2, .int (nI n))]) F.1 F.2.1 dX6_findBest_119 hl (k := 3) rfl (by rw [show Int32.ofInt 1 = nI 1 from rfl, nI_add]) (by decide) rfl (fun ls hl => ?_)
                          refine lv_goto (tgt := 18) F.1 F.2.1 dX6_findBest_122 (by decide) ?_
                          have eb : (beV f s n v k) = beV f s n v (k + 1) := (if_neg (fun q => q.2.elim c_96 (fun w => Int32.not_lt.mpr c_105 w))).symm
                          rw [eb] at hP hD
                          exact ih_18 _ _ _ ⟨hP, hD, hS, lv_sub hl [0, 4, 5, 6] rfl⟩
                        · refine lv_aload_n F.1 F.2.1 dX6_findBest_108 rfl (lv_at hl 4 rfl) ?_
                          refine lv_iload_n F.1 F.2.1 dX6_findBest_109 rfl (lv_at hl 3 rfl) ?_
                          refine pf (ws' := oM a (upd (beV f s n v k) 5 (nI k)) :: ai ct (a 1) 210 f :: [ai ct (a 3) 210 f]) F hK hP hD hS 0 rfl rfl hiX6_findBest_6 tyX6 tyX6_ok nmX6 5 (by decide) (List.mem_of_getElem? (i := 3) rfl) rfl rfl rfl (Nat.le_of_ble_eq_true rfl) dX6_findBest_110 (weq.rf _) (fun H locs hP hD hS => ?_)
                          refine lv_aload_n F.1 F.2.1 dX6_findBest_113 rfl (lv_at hl 4 rfl) ?_
                          refine lv_iload F.1 F.2.1 dX6_findBest_114 (lv_at hl 0 rfl) ?_
                          refine pf (ws' := oM a (upd (upd (beV f s n v k) 5 (nI k)) 6 (allU (ngU (laid (laid (laid (goU f s s 5) s 0 (nI (k % 4))) s 1 (nI (k / 4 % 4))) s 2 (nI (k / 16))) n) s 5)) :: ai ct (a 1) 210 f :: [ai ct (a 3) 210 f]) F hK hP hD hS 0 rfl rfl hiX6_findBest_6 tyX6 tyX6_ok nmX6 6 (by decide) (List.mem_of_getElem? (i := 4) rfl) rfl rfl rfl (Nat.le_of_ble_eq_true rfl) dX6_findBest_116 (weq.rf _) (fun H locs hP hD hS => ?_)
                          refine lv_iinc (v := nI (k + 1)) (lv' := [(3, .int (nI (k + 1))), (6, .int (allU (ngU (laid (laid (laid (goU f s s 5) s 0 (nI (k % 4))) s 1 (nI (k / 4 % 4))) s 2 (nI (k / 16))) n) s 5)), (5, .int (nI (k / 4 / 4 / 4))), (4, .int (if may3 (goU f s s 5) s k then 1 else 0)), (0, .ref (a 0)), (1, .int (nI s)), (2, .int (nI n))]) F.1 F.2.1 dX6_findBest_119 hl (k := 3) rfl (by rw [show Int32.ofInt 1 = nI 1 from rfl, nI_add]) (by decide) rfl (fun ls hl => ?_)
                          refine lv_goto (tgt := 18) F.1 F.2.1 dX6_findBest_122 (by decide) ?_
                          have eb : upd (upd (beV f s n v k) 5 (nI k)) 6 (allU (ngU (laid (laid (laid (goU f s s 5) s 0 (nI (k % 4))) s 1 (nI (k / 4 % 4))) s 2 (nI (k / 16))) n) s 5) = beV f s n v (k + 1) := (if_pos ⟨c_52, Or.inr (Int32.not_le.mp c_105)⟩).symm
                          rw [eb] at hP hD
                          exact ih_18 _ _ _ ⟨hP, hD, hS, lv_sub hl [0, 4, 5, 6] rfl⟩
                  · exact absurd (by decide) c_47'''

def rmX6_greed : Room := { frames := 10, cells := 0, slots := 0, locals := 226 }
theorem nmX6_greed : NmV yX6_greed RX6 2 := by unfold NmV; decide +kernel
theorem hiX6_greed_6 : ∀ w ∈ u_ws RX6 TX6 22, w ∈ wsX6_greed := by decide +kernel
set_option maxHeartbeats 4000000 in
set_option maxRecDepth 100000 in
theorem kX6_greed (l : Launch) (dC : Nat → ClassId) (dI : Nat → Nat → Nat) (ct : Nat → ClassId) (a : Nat → Nat) (v f c h : Nat → Int32) (x1 x2 : Int32) (hRg : Rg f) : MI (S := (Nat → Int32) × (Nat → Int32) × (Nat → Int32)) l yX6_greed wsX6_greed rmX6_greed dC dI ct eT [.ref (a 0), .int x1, .int x2] (oM a v :: ai ct (a 1) 210 f :: ai ct (a 4) 8 c :: [ai ct (a 3) 210 h]) (fun u => oM a v :: ai ct (a 1) 210 u.1 :: ai ct (a 4) 8 u.2.1 :: [ai ct (a 3) 210 u.2.2]) (fun r u => (r, u.1, u.2.1) = sGreed f c x1 x2) := by
  refine MI.of (cc := cX6_greed) (maxL := 8) (ret := (some .int)) (by decide) rfl (Nat.le_of_ble_eq_true rfl) ?_
  intro pg en z mi below meth cd A F hr hlk hin hK hP hD hA hS hE ls hl
  have F : CallFix pg mi cd cX6_greed 8 z _ wsX6_greed RX6 := F
  have hl : lv_has ls 8 [(0, .ref (a 0)), (1, .int x1), (2, .int x2)] := hl
  refine lv_aload_n F.1 F.2.1 dX6_greed_0 rfl (lv_at hl 0 rfl) ?_
  refine lv_iload_n F.1 F.2.1 dX6_greed_1 rfl (lv_at hl 1 rfl) ?_
  refine iS (rest := [.ref (a 0)]) (wsp := fun _ => oM a v :: ai ct (a 1) 210 f :: ai ct (a 4) 8 c :: [ai ct (a 3) 210 h]) F (kX6_isSide l dC dI ct x1) gX6_greed_X6_isSide rfl ⟨rfl, rfl⟩ nmX6_isSide ⟨Nat.le_of_ble_eq_true rfl, Nat.le_of_ble_eq_true rfl⟩ eT_b (fun _ _ _ => trivial) hK hP hD hS hA [] (by decide) rfl rfl rfl hl.1 (Nat.le_of_ble_eq_true rfl) dX6_greed_2 ⟨Nat.zero_le _, Nat.zero_le _⟩ (fun _ => rfl) (fun _ => rfl) [a 0, a 1, a 4, a 3] rfl (fun _ => rfl) (fun r_2 u_2 H locs e_2 hP hD hS => ?_)
  obtain rfl := e_2
  refine lv_iload_n F.1 F.2.1 dX6_greed_5 rfl (lv_at hl 2 rfl) ?_
  refine lv_bipush (v := 30) F.1 F.2.1 dX6_greed_6 (by decide) ?_
  refine iV (rest := []) (wsp := fun _ => oM a v :: ai ct (a 1) 210 f :: ai ct (a 4) 8 c :: [ai ct (a 3) 210 h]) F (kX6_refuses l dC dI ct a v f (if 0 ≤ x1 ∧ x1 ≤ 1 then 1 else 0) x2 30) gX6_greed_X6_refuses rfl ⟨rfl, rfl⟩ nmX6_refuses ⟨Nat.le_of_ble_eq_true rfl, Nat.le_of_ble_eq_true rfl⟩ eT_b (fun _ _ _ => trivial) hK hP hD hS hA 0 rfl rfl rfl [0, 1] (by decide) rfl rfl rfl hl.1 (Nat.le_of_ble_eq_true rfl) dX6_greed_8 ⟨Nat.zero_le _, Nat.zero_le _⟩ (fun _ => rfl) (fun _ => rfl) [a 0, a 1, a 4, a 3] rfl (fun _ => rfl) (fun r_8 u_8 H locs e_8 hP hD hS => ?_)
  obtain rfl := e_8
  refine tp ref_eq ?_
  by_cases cg : (0 ≤ x1 ∧ x1 ≤ 1) ∧ 1 ≤ x2 ∧ x2 ≤ 30
  · refine tp (if_pos cg) ?_
    by_cases cl : 9999 < f 0 + x2
    · refine tp (if_pos cl) ?_
      obtain ⟨s, hs, rfl⟩ := gS_n cg.1
      obtain ⟨n, hn1, hn, rfl⟩ := g30_n cg.2
      refine lv_istore_n (lv' := [(3, .int (-1000005)), (0, .ref (a 0)), (1, .int (nI s)), (2, .int (nI n))]) F.1 F.2.1 dX6_greed_11 rfl hl (by decide) rfl (fun ls hl => ?_)
      refine lv_iload_n F.1 F.2.1 dX6_greed_12 rfl (lv_at hl 0 rfl) ?_
      refine lv_if_eq (tgt := 22) F.1 F.2.1 dX6_greed_13 (by decide) (fun c_13 => ?_) (fun c_13 => ?_)
      · exact absurd c_13 (by decide)
      · refine lv_aload_n F.1 F.2.1 dX6_greed_16 rfl (lv_at hl 1 rfl) ?_
        refine lv_iload_n F.1 F.2.1 dX6_greed_17 rfl (lv_at hl 0 rfl) ?_
        refine iV (rest := []) (wsp := fun _ => oM a v :: ai ct (a 1) 210 f :: ai ct (a 4) 8 (fnd c 5) :: [ai ct (a 3) 210 h]) F (kX6_finding l dC dI ct a v c (-1000005) 5 (by decide) (by decide) (by decide)) gX6_greed_X6_finding rfl ⟨rfl, rfl⟩ nmX6_finding ⟨Nat.le_of_ble_eq_true rfl, Nat.le_of_ble_eq_true rfl⟩ eT_b (fun _ _ _ => trivial) hK hP hD hS hA 0 rfl rfl rfl [0, 2] (by decide) rfl rfl rfl hl.1 (Nat.le_of_ble_eq_true rfl) dX6_greed_18 ⟨Nat.zero_le _, Nat.zero_le _⟩ (fun _ => rfl) (fun _ => rfl) [a 0, a 1, a 4, a 3] rfl (fun _ => rfl) (fun r_18 u_18 H locs e_18 hP hD hS => ?_)
        obtain rfl := e_18
        exact rtI (f, (fnd c 5), h) F hr hlk hP hS rfl (Eq.trans (by rw [show tn (nI s) = s from nI_clamp (by omega), show tn (nI n) = n from nI_clamp (by omega)]; try exact (if_pos cl).symm) (if_pos cg).symm) dX6_greed_21
    · refine tp (if_neg cl) ?_
      obtain ⟨s, hs, rfl⟩ := gS_n cg.1
      obtain ⟨n, hn1, hn, rfl⟩ := g30_n cg.2
      have hN := late_no hRg (by omega) cl
      refine lv_istore_n (lv' := [(3, .int 0), (0, .ref (a 0)), (1, .int (nI s)), (2, .int (nI n))]) F.1 F.2.1 dX6_greed_11 rfl hl (by decide) rfl (fun ls hl => ?_)
      refine lv_iload_n F.1 F.2.1 dX6_greed_12 rfl (lv_at hl 0 rfl) ?_
      refine lv_if_eq (tgt := 22) F.1 F.2.1 dX6_greed_13 (by decide) (fun c_13 => ?_) (fun c_13 => ?_)
      · refine lv_aload_n F.1 F.2.1 dX6_greed_22 rfl (lv_at hl 1 rfl) ?_
        refine gf F hK hP 0 rfl rfl hiX6_greed_6 0 (by decide) (List.mem_of_getElem? (i := 1) rfl) rfl dX6_greed_23 ?_
        refine lv_aload_n F.1 F.2.1 dX6_greed_26 rfl (lv_at hl 1 rfl) ?_
        refine gf F hK hP 0 rfl rfl hiX6_greed_6 2 (by decide) (List.mem_of_getElem? (i := 2) rfl) rfl dX6_greed_27 ?_
        refine vS (rest := []) (wsp := fun _ => oM a v :: ai ct (a 1) 210 f :: ai ct (a 4) 8 c :: [ai ct (a 3) 210 f]) F (kX6_copyRow l dC dI ct (a 1) (a 3) f h) gX6_greed_X6_copyRow rfl ⟨rfl, rfl⟩ nmX6_copyRow ⟨Nat.le_of_ble_eq_true rfl, Nat.le_of_ble_eq_true rfl⟩ eT_b (fun _ _ _ => trivial) hK hP hD hS hA [1, 3] (by decide) rfl rfl rfl hl.1 (Nat.le_of_ble_eq_true rfl) dX6_greed_30 ⟨Nat.zero_le _, Nat.zero_le _⟩ (fun _ => rfl) (fun _ => rfl) [a 0, a 1, a 4, a 3] rfl (fun _ => rfl) (fun u_30 H locs e_30 hP hD hS => ?_)
        refine lv_iconst (v := (-1)) F.1 F.2.1 dX6_greed_33 (by decide) ?_
        refine lv_istore (lv' := [(4, .int (-1)), (3, .int 0), (0, .ref (a 0)), (1, .int (nI s)), (2, .int (nI n))]) F.1 F.2.1 dX6_greed_34 hl (by decide) rfl (fun ls hl => ?_)
        refine lv_iconst (v := (-1)) F.1 F.2.1 dX6_greed_36 (by decide) ?_
        refine lv_istore (lv' := [(5, .int (-1)), (4, .int (-1)), (3, .int 0), (0, .ref (a 0)), (1, .int (nI s)), (2, .int (nI n))]) F.1 F.2.1 dX6_greed_37 hl (by decide) rfl (fun ls hl => ?_)
        refine lv_iconst (v := 0) F.1 F.2.1 dX6_greed_39 (by decide) ?_
        refine lv_istore (lv' := [(6, .int 0), (5, .int (-1)), (4, .int (-1)), (3, .int 0), (0, .ref (a 0)), (1, .int (nI s)), (2, .int (nI n))]) F.1 F.2.1 dX6_greed_40 hl (by decide) rfl (fun ls hl => ?_)
        refine loopN (I := fun k H locs ls => va_P (dC, dI) vwCl (oM a v :: ai ct (a 1) 210 f :: ai ct (a 4) 8 c :: [ai ct (a 3) 210 f]) H ∧ va_D A (oM a v :: ai ct (a 1) 210 f :: ai ct (a 4) 8 c :: [ai ct (a 3) 210 f]) ∧ va_S A z.heap H locs ∧ lv_has ls 8 [(6, .int (nI k)), (5, .int ((grU f s n k).2)), (4, .int ((grU f s n k).1)), (0, .ref (a 0)), (1, .int (nI s)), (2, .int (nI n))]) 51 0 (by omega) ⟨hP, hD, hS, lv_sub hl [0, 1, 2, 4, 5, 6] rfl⟩ (fun H locs ls hI => ?_) (fun k hk_k H locs ls hI ih_42 => ?_)
        · obtain ⟨hP, hD, hS, hl⟩ := hI
          refine lv_iload F.1 F.2.1 dX6_greed_42 (lv_at hl 0 rfl) ?_
          refine lv_bipush (v := 50) F.1 F.2.1 dX6_greed_44 (by decide) ?_
          refine lv_icmp_gt (tgt := 100) F.1 F.2.1 dX6_greed_46 (by decide) (fun c_46 => ?_) (fun c_46 => ?_)
          · refine lv_iload F.1 F.2.1 dX6_greed_100 (lv_at hl 2 rfl) ?_
            exact rtI (f, c, f) F hr hlk hP hS rfl (Eq.trans (by rw [show tn (nI s) = s from nI_clamp (by omega), show tn (nI n) = n from nI_clamp (by omega)]; try exact (if_neg cl).symm) (if_pos cg).symm) dX6_greed_102
          · exact absurd (by decide) c_46
        · obtain ⟨hP, hD, hS, hl⟩ := hI
          refine lv_iload F.1 F.2.1 dX6_greed_42 (lv_at hl 0 rfl) ?_
          refine lv_bipush (v := 50) F.1 F.2.1 dX6_greed_44 (by decide) ?_
          refine lv_icmp_gt (tgt := 100) F.1 F.2.1 dX6_greed_46 (by decide) (fun c_46 => ?_) (fun c_46 => ?_)
          · exact absurd c_46 (nI_nlt (b := k) (a := 50) (by omega) (by decide))
          · refine lv_aload_n F.1 F.2.1 dX6_greed_49 rfl (lv_at hl 3 rfl) ?_
            refine gf F hK hP 0 rfl rfl hiX6_greed_6 0 (by decide) (List.mem_of_getElem? (i := 1) rfl) rfl dX6_greed_50 ?_
            refine lv_iload_n F.1 F.2.1 dX6_greed_53 rfl (lv_at hl 4 rfl) ?_
            refine lv_iconst (v := 0) F.1 F.2.1 dX6_greed_54 (by decide) ?_
            refine iS (rest := [.ref (a 1)]) (wsp := fun _ => oM a v :: ai ct (a 1) 210 f :: ai ct (a 4) 8 c :: [ai ct (a 3) 210 f]) F (kX6_at l dC dI ct s 0 (20 + 17 * s) (by omega)) gX6_greed_X6_at rfl ⟨rfl, rfl⟩ nmX6_at ⟨Nat.le_of_ble_eq_true rfl, Nat.le_of_ble_eq_true rfl⟩ eT_b (fun _ _ _ => trivial) hK hP hD hS hA [] (by decide) rfl rfl rfl hl.1 (Nat.le_of_ble_eq_true rfl) dX6_greed_55 ⟨Nat.zero_le _, Nat.zero_le _⟩ (fun _ => rfl) (fun _ => rfl) [a 0, a 1, a 4, a 3] rfl (fun _ => rfl) (fun r_55 u_55 H locs e_55 hP hD hS => ?_)
            obtain rfl := e_55
            refine lv_iload F.1 F.2.1 dX6_greed_58 (lv_at hl 0 rfl) ?_
            refine ast (ws' := oM a v :: ai ct (a 1) 210 (upd f (20 + 17 * s) (nI k)) :: ai ct (a 4) 8 c :: [ai ct (a 3) 210 f]) F hK hP hD hS 1 0 rfl rfl (20 + 17 * s) rfl (by omega) (by decide) dX6_greed_60 (weq.rf _) (fun H locs hP hD hS => ?_)
            refine lv_aload_n F.1 F.2.1 dX6_greed_61 rfl (lv_at hl 3 rfl) ?_
            refine lv_iload_n F.1 F.2.1 dX6_greed_62 rfl (lv_at hl 4 rfl) ?_
            refine lv_iload_n F.1 F.2.1 dX6_greed_63 rfl (lv_at hl 5 rfl) ?_
            refine iV (rest := []) (wsp := fun _ => oM a v :: ai ct (a 1) 210 f :: ai ct (a 4) 8 c :: [ai ct (a 3) 210 f]) F (kX6_then l dC dI ct a v (upd f (20 + 17 * s) (nI k)) f s n (by omega) (by omega) (fun j hj => Gd_of (Rg_gr hRg hs (by omega) hN j hj))) gX6_greed_X6_then rfl ⟨rfl, rfl⟩ nmX6_then ⟨Nat.le_of_ble_eq_true rfl, Nat.le_of_ble_eq_true rfl⟩ eT_b (fun _ _ _ => trivial) hK hP hD hS hA 0 rfl rfl rfl [0, 1, 3] (by decide) rfl rfl rfl hl.1 (Nat.le_of_ble_eq_true rfl) dX6_greed_64 ⟨Nat.zero_le _, Nat.zero_le _⟩ (fun _ => rfl) (fun _ => rfl) [a 0, a 1, a 4, a 3] rfl (fun _ => rfl) (fun r_64 u_64 H locs e_64 hP hD hS => ?_)
            obtain rfl := e_64
            refine lv_istore (lv' := [(7, .int (allU (ngU (upd f (20 + 17 * s) (nI k)) n) s 5)), (6, .int (nI k)), (5, .int ((grU f s n k).2)), (4, .int ((grU f s n k).1)), (0, .ref (a 0)), (1, .int (nI s)), (2, .int (nI n))]) F.1 F.2.1 dX6_greed_67 hl (by decide) rfl (fun ls hl => ?_)
            refine lv_iload F.1 F.2.1 dX6_greed_69 (lv_at hl 0 rfl) ?_
            refine lv_iload F.1 F.2.1 dX6_greed_71 (lv_at hl 2 rfl) ?_
            refine lv_icmp_le (tgt := 81) F.1 F.2.1 dX6_greed_73 (by decide) (fun c_73 => ?_) (fun c_73 => ?_)
            · refine lv_iload F.1 F.2.1 dX6_greed_81 (lv_at hl 3 rfl) ?_
              refine lv_istore (lv' := [(4, .int ((grU f s n k).1)), (7, .int (allU (ngU (upd f (20 + 17 * s) (nI k)) n) s 5)), (6, .int (nI k)), (5, .int ((grU f s n k).2)), (0, .ref (a 0)), (1, .int (nI s)), (2, .int (nI n))]) F.1 F.2.1 dX6_greed_83 hl (by decide) rfl (fun ls hl => ?_)
              refine lv_iload F.1 F.2.1 dX6_greed_85 (lv_at hl 3 rfl) ?_
              refine lv_iload F.1 F.2.1 dX6_greed_87 (lv_at hl 1 rfl) ?_
              refine va_mmax F.1 F.2.1 (F.2.2.1.trans hl.1.symm) F.2.2.2.1 (F.2.2.2.2 _ (List.mem_of_getElem? (i := 3) rfl)) (F.2.2.2.2 _ (List.mem_of_getElem? (i := 4) rfl)) (F.2.2.2.2 _ (List.mem_of_getElem? (i := 5) rfl)) (F.2.2.2.2 _ (List.mem_of_getElem? (i := 6) rfl)) (Nat.le_of_ble_eq_true rfl) (Nat.le_of_ble_eq_true rfl) (Nat.zero_le _) (Nat.zero_le _) dX6_greed_89 ?_
              refine tp (y := mx ((grU f s n k).2) (allU (ngU (upd f (20 + 17 * s) (nI k)) n) s 5)) rfl ?_
              refine lv_istore (lv' := [(5, .int (mx ((grU f s n k).2) (allU (ngU (upd f (20 + 17 * s) (nI k)) n) s 5))), (4, .int ((grU f s n k).1)), (7, .int (allU (ngU (upd f (20 + 17 * s) (nI k)) n) s 5)), (6, .int (nI k)), (0, .ref (a 0)), (1, .int (nI s)), (2, .int (nI n))]) F.1 F.2.1 dX6_greed_92 hl (by decide) rfl (fun ls hl => ?_)
              refine lv_iinc (v := nI (k + 1)) (lv' := [(6, .int (nI (k + 1))), (5, .int (mx ((grU f s n k).2) (allU (ngU (upd f (20 + 17 * s) (nI k)) n) s 5))), (4, .int ((grU f s n k).1)), (7, .int (allU (ngU (upd f (20 + 17 * s) (nI k)) n) s 5)), (0, .ref (a 0)), (1, .int (nI s)), (2, .int (nI n))]) F.1 F.2.1 dX6_greed_94 hl (k := 3) rfl (by rw [show Int32.ofInt 1 = nI 1 from rfl, nI_add]) (by decide) rfl (fun ls hl => ?_)
              refine lv_goto (tgt := 42) F.1 F.2.1 dX6_greed_97 (by decide) ?_
              have eb : grU f s n (k + 1) = grU f s n k := if_neg (Int32.not_lt.mpr c_73)
              have em : mx (grU f s n k).2 (grVal f s n k) = (grU f s n k).2 := if_neg (Int32.not_lt.mpr c_73)
              exact ih_42 _ _ _ ⟨hP, hD, hS, lv_sub hl [0, 1, 2, 4, 5, 6] (by rw [eb]; exact congrArg (fun z => [(6, Value.int (nI (k + 1))), (5, Value.int z), (4, Value.int (grU f s n k).1), (0, Value.ref (a 0)), (1, Value.int (nI s)), (2, Value.int (nI n))]) em)⟩
            · refine lv_iload F.1 F.2.1 dX6_greed_76 (lv_at hl 1 rfl) ?_
              refine lv_goto (tgt := 83) F.1 F.2.1 dX6_greed_78 (by decide) ?_
              refine lv_istore (lv' := [(4, .int (nI k)), (7, .int (allU (ngU (upd f (20 + 17 * s) (nI k)) n) s 5)), (6, .int (nI k)), (5, .int ((grU f s n k).2)), (0, .ref (a 0)), (1, .int (nI s)), (2, .int (nI n))]) F.1 F.2.1 dX6_greed_83 hl (by decide) rfl (fun ls hl => ?_)
              refine lv_iload F.1 F.2.1 dX6_greed_85 (lv_at hl 3 rfl) ?_
              refine lv_iload F.1 F.2.1 dX6_greed_87 (lv_at hl 1 rfl) ?_
              refine va_mmax F.1 F.2.1 (F.2.2.1.trans hl.1.symm) F.2.2.2.1 (F.2.2.2.2 _ (List.mem_of_getElem? (i := 3) rfl)) (F.2.2.2.2 _ (List.mem_of_getElem? (i := 4) rfl)) (F.2.2.2.2 _ (List.mem_of_getElem? (i := 5) rfl)) (F.2.2.2.2 _ (List.mem_of_getElem? (i := 6) rfl)) (Nat.le_of_ble_eq_true rfl) (Nat.le_of_ble_eq_true rfl) (Nat.zero_le _) (Nat.zero_le _) dX6_greed_89 ?_
              refine tp (y := mx ((grU f s n k).2) (allU (ngU (upd f (20 + 17 * s) (nI k)) n) s 5)) rfl ?_
              refine lv_istore (lv' := [(5, .int (mx ((grU f s n k).2) (allU (ngU (upd f (20 + 17 * s) (nI k)) n) s 5))), (4, .int (nI k)), (7, .int (allU (ngU (upd f (20 + 17 * s) (nI k)) n) s 5)), (6, .int (nI k)), (0, .ref (a 0)), (1, .int (nI s)), (2, .int (nI n))]) F.1 F.2.1 dX6_greed_92 hl (by decide) rfl (fun ls hl => ?_)
              refine lv_iinc (v := nI (k + 1)) (lv' := [(6, .int (nI (k + 1))), (5, .int (mx ((grU f s n k).2) (allU (ngU (upd f (20 + 17 * s) (nI k)) n) s 5))), (4, .int (nI k)), (7, .int (allU (ngU (upd f (20 + 17 * s) (nI k)) n) s 5)), (0, .ref (a 0)), (1, .int (nI s)), (2, .int (nI n))]) F.1 F.2.1 dX6_greed_94 hl (k := 3) rfl (by rw [show Int32.ofInt 1 = nI 1 from rfl, nI_add]) (by decide) rfl (fun ls hl => ?_)
              refine lv_goto (tgt := 42) F.1 F.2.1 dX6_greed_97 (by decide) ?_
              have eb : grU f s n (k + 1) = (nI k, grVal f s n k) := if_pos (Int32.not_le.mp c_73)
              have em : mx (grU f s n k).2 (grVal f s n k) = grVal f s n k := if_pos (Int32.not_le.mp c_73)
              exact ih_42 _ _ _ ⟨hP, hD, hS, lv_sub hl [0, 1, 2, 4, 5, 6] (by rw [eb]; exact congrArg (fun z => [(6, Value.int (nI (k + 1))), (5, Value.int z), (4, Value.int (nI k)), (0, Value.ref (a 0)), (1, Value.int (nI s)), (2, Value.int (nI n))]) em)⟩
      · exact absurd rfl c_13
  · refine tp (if_neg cg) ?_
    refine lv_istore_n (lv' := [(3, .int (-1000001)), (0, .ref (a 0)), (1, .int x1), (2, .int x2)]) F.1 F.2.1 dX6_greed_11 rfl hl (by decide) rfl (fun ls hl => ?_)
    refine lv_iload_n F.1 F.2.1 dX6_greed_12 rfl (lv_at hl 0 rfl) ?_
    refine lv_if_eq (tgt := 22) F.1 F.2.1 dX6_greed_13 (by decide) (fun c_13 => ?_) (fun c_13 => ?_)
    · exact absurd c_13 (by decide)
    · refine lv_aload_n F.1 F.2.1 dX6_greed_16 rfl (lv_at hl 1 rfl) ?_
      refine lv_iload_n F.1 F.2.1 dX6_greed_17 rfl (lv_at hl 0 rfl) ?_
      refine iV (rest := []) (wsp := fun _ => oM a v :: ai ct (a 1) 210 f :: ai ct (a 4) 8 (fnd c 1) :: [ai ct (a 3) 210 h]) F (kX6_finding l dC dI ct a v c (-1000001) 1 (by decide) (by decide) (by decide)) gX6_greed_X6_finding rfl ⟨rfl, rfl⟩ nmX6_finding ⟨Nat.le_of_ble_eq_true rfl, Nat.le_of_ble_eq_true rfl⟩ eT_b (fun _ _ _ => trivial) hK hP hD hS hA 0 rfl rfl rfl [0, 2] (by decide) rfl rfl rfl hl.1 (Nat.le_of_ble_eq_true rfl) dX6_greed_18 ⟨Nat.zero_le _, Nat.zero_le _⟩ (fun _ => rfl) (fun _ => rfl) [a 0, a 1, a 4, a 3] rfl (fun _ => rfl) (fun r_18 u_18 H locs e_18 hP hD hS => ?_)
      obtain rfl := e_18
      exact rtI (f, (fnd c 1), h) F hr hlk hP hS rfl ((if_neg (fun q => cg q)).symm) dX6_greed_21

def rmX6_temptation : Room := { frames := 10, cells := 0, slots := 0, locals := 226 }
theorem nmX6_temptation : NmV yX6_temptation RX6 2 := by unfold NmV; decide +kernel
theorem hiX6_temptation_6 : ∀ w ∈ u_ws RX6 TX6 22, w ∈ wsX6_temptation := by decide +kernel
set_option maxHeartbeats 4000000 in
set_option maxRecDepth 100000 in
theorem kX6_temptation (l : Launch) (dC : Nat → ClassId) (dI : Nat → Nat → Nat) (ct : Nat → ClassId) (a : Nat → Nat) (v f c h : Nat → Int32) (x1 x2 : Int32) (hRg : Rg f) : MI (S := (Nat → Int32) × (Nat → Int32) × (Nat → Int32)) l yX6_temptation wsX6_temptation rmX6_temptation dC dI ct eT [.ref (a 0), .int x1, .int x2] (oM a v :: ai ct (a 1) 210 f :: ai ct (a 4) 8 c :: [ai ct (a 3) 210 h]) (fun u => oM a v :: ai ct (a 1) 210 u.1 :: ai ct (a 4) 8 u.2.1 :: [ai ct (a 3) 210 u.2.2]) (fun r u => (r, u.1, u.2.1) = sTempt f c x1 x2) := by
  refine MI.of (cc := cX6_temptation) (maxL := 6) (ret := (some .int)) (by decide) rfl (Nat.le_of_ble_eq_true rfl) ?_
  intro pg en z mi below meth cd A F hr hlk hin hK hP hD hA hS hE ls hl
  have F : CallFix pg mi cd cX6_temptation 6 z _ wsX6_temptation RX6 := F
  have hl : lv_has ls 6 [(0, .ref (a 0)), (1, .int x1), (2, .int x2)] := hl
  refine lv_aload_n F.1 F.2.1 dX6_temptation_0 rfl (lv_at hl 0 rfl) ?_
  refine lv_iload_n F.1 F.2.1 dX6_temptation_1 rfl (lv_at hl 1 rfl) ?_
  refine iS (rest := [.ref (a 0)]) (wsp := fun _ => oM a v :: ai ct (a 1) 210 f :: ai ct (a 4) 8 c :: [ai ct (a 3) 210 h]) F (kX6_isSide l dC dI ct x1) gX6_temptation_X6_isSide rfl ⟨rfl, rfl⟩ nmX6_isSide ⟨Nat.le_of_ble_eq_true rfl, Nat.le_of_ble_eq_true rfl⟩ eT_b (fun _ _ _ => trivial) hK hP hD hS hA [] (by decide) rfl rfl rfl hl.1 (Nat.le_of_ble_eq_true rfl) dX6_temptation_2 ⟨Nat.zero_le _, Nat.zero_le _⟩ (fun _ => rfl) (fun _ => rfl) [a 0, a 1, a 4, a 3] rfl (fun _ => rfl) (fun r_2 u_2 H locs e_2 hP hD hS => ?_)
  obtain rfl := e_2
  refine lv_iload_n F.1 F.2.1 dX6_temptation_5 rfl (lv_at hl 2 rfl) ?_
  refine lv_bipush (v := 60) F.1 F.2.1 dX6_temptation_6 (by decide) ?_
  refine iV (rest := []) (wsp := fun _ => oM a v :: ai ct (a 1) 210 f :: ai ct (a 4) 8 c :: [ai ct (a 3) 210 h]) F (kX6_refuses l dC dI ct a v f (if 0 ≤ x1 ∧ x1 ≤ 1 then 1 else 0) x2 60) gX6_temptation_X6_refuses rfl ⟨rfl, rfl⟩ nmX6_refuses ⟨Nat.le_of_ble_eq_true rfl, Nat.le_of_ble_eq_true rfl⟩ eT_b (fun _ _ _ => trivial) hK hP hD hS hA 0 rfl rfl rfl [0, 1] (by decide) rfl rfl rfl hl.1 (Nat.le_of_ble_eq_true rfl) dX6_temptation_8 ⟨Nat.zero_le _, Nat.zero_le _⟩ (fun _ => rfl) (fun _ => rfl) [a 0, a 1, a 4, a 3] rfl (fun _ => rfl) (fun r_8 u_8 H locs e_8 hP hD hS => ?_)
  obtain rfl := e_8
  refine tp ref_eq ?_
  by_cases cg : (0 ≤ x1 ∧ x1 ≤ 1) ∧ 1 ≤ x2 ∧ x2 ≤ 60
  · refine tp (if_pos cg) ?_
    by_cases cl : 9999 < f 0 + x2
    · refine tp (if_pos cl) ?_
      obtain ⟨s, hs, rfl⟩ := gS_n cg.1
      obtain ⟨n, hn1, hn, rfl⟩ := g60_n cg.2
      refine lv_istore_n (lv' := [(3, .int (-1000005)), (0, .ref (a 0)), (1, .int (nI s)), (2, .int (nI n))]) F.1 F.2.1 dX6_temptation_11 rfl hl (by decide) rfl (fun ls hl => ?_)
      refine lv_iload_n F.1 F.2.1 dX6_temptation_12 rfl (lv_at hl 0 rfl) ?_
      refine lv_if_eq (tgt := 22) F.1 F.2.1 dX6_temptation_13 (by decide) (fun c_13 => ?_) (fun c_13 => ?_)
      · exact absurd c_13 (by decide)
      · refine lv_aload_n F.1 F.2.1 dX6_temptation_16 rfl (lv_at hl 1 rfl) ?_
        refine lv_iload_n F.1 F.2.1 dX6_temptation_17 rfl (lv_at hl 0 rfl) ?_
        refine iV (rest := []) (wsp := fun _ => oM a v :: ai ct (a 1) 210 f :: ai ct (a 4) 8 (fnd c 5) :: [ai ct (a 3) 210 h]) F (kX6_finding l dC dI ct a v c (-1000005) 5 (by decide) (by decide) (by decide)) gX6_temptation_X6_finding rfl ⟨rfl, rfl⟩ nmX6_finding ⟨Nat.le_of_ble_eq_true rfl, Nat.le_of_ble_eq_true rfl⟩ eT_b (fun _ _ _ => trivial) hK hP hD hS hA 0 rfl rfl rfl [0, 2] (by decide) rfl rfl rfl hl.1 (Nat.le_of_ble_eq_true rfl) dX6_temptation_18 ⟨Nat.zero_le _, Nat.zero_le _⟩ (fun _ => rfl) (fun _ => rfl) [a 0, a 1, a 4, a 3] rfl (fun _ => rfl) (fun r_18 u_18 H locs e_18 hP hD hS => ?_)
        obtain rfl := e_18
        exact rtI (f, (fnd c 5), h) F hr hlk hP hS rfl (Eq.trans (by rw [show tn (nI s) = s from nI_clamp (by omega), show tn (nI n) = n from nI_clamp (by omega)]; try exact (if_pos cl).symm) (if_pos cg).symm) dX6_temptation_21
    · refine tp (if_neg cl) ?_
      obtain ⟨s, hs, rfl⟩ := gS_n cg.1
      obtain ⟨n, hn1, hn, rfl⟩ := g60_n cg.2
      have hN := late_no hRg (by omega) cl
      refine lv_istore_n (lv' := [(3, .int 0), (0, .ref (a 0)), (1, .int (nI s)), (2, .int (nI n))]) F.1 F.2.1 dX6_temptation_11 rfl hl (by decide) rfl (fun ls hl => ?_)
      refine lv_iload_n F.1 F.2.1 dX6_temptation_12 rfl (lv_at hl 0 rfl) ?_
      refine lv_if_eq (tgt := 22) F.1 F.2.1 dX6_temptation_13 (by decide) (fun c_13 => ?_) (fun c_13 => ?_)
      · refine lv_aload_n F.1 F.2.1 dX6_temptation_22 rfl (lv_at hl 1 rfl) ?_
        refine gf F hK hP 0 rfl rfl hiX6_temptation_6 0 (by decide) (List.mem_of_getElem? (i := 1) rfl) rfl dX6_temptation_23 ?_
        refine lv_aload_n F.1 F.2.1 dX6_temptation_26 rfl (lv_at hl 1 rfl) ?_
        refine gf F hK hP 0 rfl rfl hiX6_temptation_6 2 (by decide) (List.mem_of_getElem? (i := 2) rfl) rfl dX6_temptation_27 ?_
        refine vS (rest := []) (wsp := fun _ => oM a v :: ai ct (a 1) 210 f :: ai ct (a 4) 8 c :: [ai ct (a 3) 210 f]) F (kX6_copyRow l dC dI ct (a 1) (a 3) f h) gX6_temptation_X6_copyRow rfl ⟨rfl, rfl⟩ nmX6_copyRow ⟨Nat.le_of_ble_eq_true rfl, Nat.le_of_ble_eq_true rfl⟩ eT_b (fun _ _ _ => trivial) hK hP hD hS hA [1, 3] (by decide) rfl rfl rfl hl.1 (Nat.le_of_ble_eq_true rfl) dX6_temptation_30 ⟨Nat.zero_le _, Nat.zero_le _⟩ (fun _ => rfl) (fun _ => rfl) [a 0, a 1, a 4, a 3] rfl (fun _ => rfl) (fun u_30 H locs e_30 hP hD hS => ?_)
        refine lv_aload_n F.1 F.2.1 dX6_temptation_33 rfl (lv_at hl 1 rfl) ?_
        refine lv_iload_n F.1 F.2.1 dX6_temptation_34 rfl (lv_at hl 2 rfl) ?_
        refine lv_iload_n F.1 F.2.1 dX6_temptation_35 rfl (lv_at hl 3 rfl) ?_
        refine iV (rest := []) (wsp := fun _ => oM a v :: ai ct (a 1) 210 f :: ai ct (a 4) 8 c :: [ai ct (a 3) 210 f]) F (kX6_then l dC dI ct a v f f s n (by omega) (by omega) (fun j hj => Gd_of (Rg_all hRg hN j hj))) gX6_temptation_X6_then rfl ⟨rfl, rfl⟩ nmX6_then ⟨Nat.le_of_ble_eq_true rfl, Nat.le_of_ble_eq_true rfl⟩ eT_b (fun _ _ _ => trivial) hK hP hD hS hA 0 rfl rfl rfl [0, 1, 3] (by decide) rfl rfl rfl hl.1 (Nat.le_of_ble_eq_true rfl) dX6_temptation_36 ⟨Nat.zero_le _, Nat.zero_le _⟩ (fun _ => rfl) (fun _ => rfl) [a 0, a 1, a 4, a 3] rfl (fun _ => rfl) (fun r_36 u_36 H locs e_36 hP hD hS => ?_)
        obtain rfl := e_36
        refine lv_istore (lv' := [(4, .int (allU (ngU f n) s 5)), (3, .int 0), (0, .ref (a 0)), (1, .int (nI s)), (2, .int (nI n))]) F.1 F.2.1 dX6_temptation_39 hl (by decide) rfl (fun ls hl => ?_)
        refine lv_aload_n F.1 F.2.1 dX6_temptation_41 rfl (lv_at hl 2 rfl) ?_
        refine lv_iload_n F.1 F.2.1 dX6_temptation_42 rfl (lv_at hl 3 rfl) ?_
        refine iV (rest := []) (wsp := fun _ => oM a v :: ai ct (a 1) 210 (upd (goU f (1 - s) s 5) (21 + 17 * (1 - s)) 0) :: ai ct (a 4) 8 c :: [ai ct (a 3) 210 f]) F (kX6_stolen l dC dI ct a v f s (by omega)) gX6_temptation_X6_stolen rfl ⟨rfl, rfl⟩ nmX6_stolen ⟨Nat.le_of_ble_eq_true rfl, Nat.le_of_ble_eq_true rfl⟩ eT_b (fun _ _ _ => trivial) hK hP hD hS hA 0 rfl rfl rfl [0, 1] (by decide) rfl rfl rfl hl.1 (Nat.le_of_ble_eq_true rfl) dX6_temptation_43 ⟨Nat.zero_le _, Nat.zero_le _⟩ (fun _ => rfl) (fun _ => rfl) [a 0, a 1, a 4, a 3] rfl (fun _ => rfl) (fun r_43 u_43 H locs e_43 hP hD hS => ?_)
        obtain rfl := e_43
        refine lv_istore (lv' := [(5, .int (valU f s (1 - s) 5)), (4, .int (allU (ngU f n) s 5)), (3, .int 0), (0, .ref (a 0)), (1, .int (nI s)), (2, .int (nI n))]) F.1 F.2.1 dX6_temptation_46 hl (by decide) rfl (fun ls hl => ?_)
        refine lv_aload_n F.1 F.2.1 dX6_temptation_48 rfl (lv_at hl 3 rfl) ?_
        refine lv_iload F.1 F.2.1 dX6_temptation_49 (lv_at hl 0 rfl) ?_
        refine lv_if_ge (tgt := 59) F.1 F.2.1 dX6_temptation_51 (by decide) (fun c_51 => ?_) (fun c_51 => ?_)
        · refine lv_aload_n F.1 F.2.1 dX6_temptation_59 rfl (lv_at hl 3 rfl) ?_
          refine lv_iload_n F.1 F.2.1 dX6_temptation_60 rfl (lv_at hl 4 rfl) ?_
          refine iV (rest := [.ref (a 0)]) (wsp := fun _ => oM a v :: ai ct (a 1) 210 (upd (goU f (1 - s) s 5) (21 + 17 * (1 - s)) 0) :: ai ct (a 4) 8 c :: [ai ct (a 3) 210 f]) F (kX6_allOf l dC dI ct a v (upd (goU f (1 - s) s 5) (21 + 17 * (1 - s)) 0) s (by omega)) gX6_temptation_X6_allOf rfl ⟨rfl, rfl⟩ nmX6_allOf ⟨Nat.le_of_ble_eq_true rfl, Nat.le_of_ble_eq_true rfl⟩ eT_b (fun _ _ _ => trivial) hK hP hD hS hA 0 rfl rfl rfl [0, 1] (by decide) rfl rfl rfl hl.1 (Nat.le_of_ble_eq_true rfl) dX6_temptation_61 ⟨Nat.zero_le _, Nat.zero_le _⟩ (fun _ => rfl) (fun _ => rfl) [a 0, a 1, a 4, a 3] rfl (fun _ => rfl) (fun r_61 u_61 H locs e_61 hP hD hS => ?_)
          obtain rfl := e_61
          refine lv_iload F.1 F.2.1 dX6_temptation_64 (lv_at hl 1 rfl) ?_
          refine lv_isub F.1 F.2.1 dX6_temptation_66 ?_
          refine iV (rest := []) (wsp := fun _ => oM a v :: ai ct (a 1) 210 f :: ai ct (a 4) 8 c :: [ai ct (a 3) 210 f]) F (kX6_putBack l dC dI ct a v (upd (goU f (1 - s) s 5) (21 + 17 * (1 - s)) 0) f ((allU (upd (goU f (1 - s) s 5) (21 + 17 * (1 - s)) 0) s 5) - (allU (ngU f n) s 5))) gX6_temptation_X6_putBack rfl ⟨rfl, rfl⟩ nmX6_putBack ⟨Nat.le_of_ble_eq_true rfl, Nat.le_of_ble_eq_true rfl⟩ eT_b (fun _ _ _ => trivial) hK hP hD hS hA 0 rfl rfl rfl [0, 1, 3] (by decide) rfl rfl rfl hl.1 (Nat.le_of_ble_eq_true rfl) dX6_temptation_67 ⟨Nat.zero_le _, Nat.zero_le _⟩ (fun _ => rfl) (fun _ => rfl) [a 0, a 1, a 4, a 3] rfl (fun _ => rfl) (fun r_67 u_67 H locs e_67 hP hD hS => ?_)
          obtain rfl := e_67
          exact rtI (f, c, f) F hr hlk hP hS rfl (Eq.trans (by rw [show tn (nI s) = s from nI_clamp (by omega), show tn (nI n) = n from nI_clamp (by omega)]; try exact (if_neg cl).symm) (if_pos cg).symm) dX6_temptation_70
        · exact absurd (val_nn hRg hs (by omega)) c_51
      · exact absurd rfl c_13
  · refine tp (if_neg cg) ?_
    refine lv_istore_n (lv' := [(3, .int (-1000001)), (0, .ref (a 0)), (1, .int x1), (2, .int x2)]) F.1 F.2.1 dX6_temptation_11 rfl hl (by decide) rfl (fun ls hl => ?_)
    refine lv_iload_n F.1 F.2.1 dX6_temptation_12 rfl (lv_at hl 0 rfl) ?_
    refine lv_if_eq (tgt := 22) F.1 F.2.1 dX6_temptation_13 (by decide) (fun c_13 => ?_) (fun c_13 => ?_)
    · exact absurd c_13 (by decide)
    · refine lv_aload_n F.1 F.2.1 dX6_temptation_16 rfl (lv_at hl 1 rfl) ?_
      refine lv_iload_n F.1 F.2.1 dX6_temptation_17 rfl (lv_at hl 0 rfl) ?_
      refine iV (rest := []) (wsp := fun _ => oM a v :: ai ct (a 1) 210 f :: ai ct (a 4) 8 (fnd c 1) :: [ai ct (a 3) 210 h]) F (kX6_finding l dC dI ct a v c (-1000001) 1 (by decide) (by decide) (by decide)) gX6_temptation_X6_finding rfl ⟨rfl, rfl⟩ nmX6_finding ⟨Nat.le_of_ble_eq_true rfl, Nat.le_of_ble_eq_true rfl⟩ eT_b (fun _ _ _ => trivial) hK hP hD hS hA 0 rfl rfl rfl [0, 2] (by decide) rfl rfl rfl hl.1 (Nat.le_of_ble_eq_true rfl) dX6_temptation_18 ⟨Nat.zero_le _, Nat.zero_le _⟩ (fun _ => rfl) (fun _ => rfl) [a 0, a 1, a 4, a 3] rfl (fun _ => rfl) (fun r_18 u_18 H locs e_18 hP hD hS => ?_)
      obtain rfl := e_18
      exact rtI (f, (fnd c 1), h) F hr hlk hP hS rfl ((if_neg (fun q => cg q)).symm) dX6_temptation_21

def rmX6_kindFor : Room := { frames := 9, cells := 0, slots := 0, locals := 202 }
theorem nmX6_kindFor : NmV yX6_kindFor RX6 2 := by unfold NmV; decide +kernel
theorem hiX6_kindFor_6 : ∀ w ∈ u_ws RX6 TX6 22, w ∈ wsX6_kindFor := by decide +kernel
set_option maxHeartbeats 4000000 in
set_option maxRecDepth 100000 in
theorem kX6_kindFor (l : Launch) (dC : Nat → ClassId) (dI : Nat → Nat → Nat) (ct : Nat → ClassId) (a : Nat → Nat) (v f c h : Nat → Int32) (x1 x2 : Int32) (hRg : Rg f) : MI (S := (Nat → Int32) × (Nat → Int32) × (Nat → Int32)) l yX6_kindFor wsX6_kindFor rmX6_kindFor dC dI ct eT [.ref (a 0), .int x1, .int x2] (oM a v :: ai ct (a 1) 210 f :: ai ct (a 4) 8 c :: [ai ct (a 3) 210 h]) (fun u => oM a v :: ai ct (a 1) 210 u.1 :: ai ct (a 4) 8 u.2.1 :: [ai ct (a 3) 210 u.2.2]) (fun r u => (r, u.1, u.2.1) = sKindFor f c x1 x2) := by
  refine MI.of (cc := cX6_kindFor) (maxL := 10) (ret := (some .int)) (by decide) rfl (Nat.le_of_ble_eq_true rfl) ?_
  intro pg en z mi below meth cd A F hr hlk hin hK hP hD hA hS hE ls hl
  have F : CallFix pg mi cd cX6_kindFor 10 z _ wsX6_kindFor RX6 := F
  have hl : lv_has ls 10 [(0, .ref (a 0)), (1, .int x1), (2, .int x2)] := hl
  refine lv_aload_n F.1 F.2.1 dX6_kindFor_0 rfl (lv_at hl 0 rfl) ?_
  refine lv_iload_n F.1 F.2.1 dX6_kindFor_1 rfl (lv_at hl 1 rfl) ?_
  refine iS (rest := [.ref (a 0)]) (wsp := fun _ => oM a v :: ai ct (a 1) 210 f :: ai ct (a 4) 8 c :: [ai ct (a 3) 210 h]) F (kX6_isThing l dC dI ct x1) gX6_kindFor_X6_isThing rfl ⟨rfl, rfl⟩ nmX6_isThing ⟨Nat.le_of_ble_eq_true rfl, Nat.le_of_ble_eq_true rfl⟩ eT_b (fun _ _ _ => trivial) hK hP hD hS hA [] (by decide) rfl rfl rfl hl.1 (Nat.le_of_ble_eq_true rfl) dX6_kindFor_2 ⟨Nat.zero_le _, Nat.zero_le _⟩ (fun _ => rfl) (fun _ => rfl) [a 0, a 1, a 4, a 3] rfl (fun _ => rfl) (fun r_2 u_2 H locs e_2 hP hD hS => ?_)
  obtain rfl := e_2
  refine lv_iload_n F.1 F.2.1 dX6_kindFor_5 rfl (lv_at hl 2 rfl) ?_
  refine lv_bipush (v := 30) F.1 F.2.1 dX6_kindFor_6 (by decide) ?_
  refine iV (rest := []) (wsp := fun _ => oM a v :: ai ct (a 1) 210 f :: ai ct (a 4) 8 c :: [ai ct (a 3) 210 h]) F (kX6_refuses l dC dI ct a v f (if 0 ≤ x1 ∧ x1 ≤ 4 then 1 else 0) x2 30) gX6_kindFor_X6_refuses rfl ⟨rfl, rfl⟩ nmX6_refuses ⟨Nat.le_of_ble_eq_true rfl, Nat.le_of_ble_eq_true rfl⟩ eT_b (fun _ _ _ => trivial) hK hP hD hS hA 0 rfl rfl rfl [0, 1] (by decide) rfl rfl rfl hl.1 (Nat.le_of_ble_eq_true rfl) dX6_kindFor_8 ⟨Nat.zero_le _, Nat.zero_le _⟩ (fun _ => rfl) (fun _ => rfl) [a 0, a 1, a 4, a 3] rfl (fun _ => rfl) (fun r_8 u_8 H locs e_8 hP hD hS => ?_)
  obtain rfl := e_8
  refine tp ref_eq ?_
  by_cases cg : (0 ≤ x1 ∧ x1 ≤ 4) ∧ 1 ≤ x2 ∧ x2 ≤ 30
  · refine tp (if_pos cg) ?_
    by_cases cl : 9999 < f 0 + x2
    · refine tp (if_pos cl) ?_
      obtain ⟨t, ht, rfl⟩ := gT_n cg.1
      obtain ⟨n, hn1, hn, rfl⟩ := g30_n cg.2
      refine lv_istore_n (lv' := [(3, .int (-1000005)), (0, .ref (a 0)), (1, .int (nI t)), (2, .int (nI n))]) F.1 F.2.1 dX6_kindFor_11 rfl hl (by decide) rfl (fun ls hl => ?_)
      refine lv_iload_n F.1 F.2.1 dX6_kindFor_12 rfl (lv_at hl 0 rfl) ?_
      refine lv_if_eq (tgt := 22) F.1 F.2.1 dX6_kindFor_13 (by decide) (fun c_13 => ?_) (fun c_13 => ?_)
      · exact absurd c_13 (by decide)
      · refine lv_aload_n F.1 F.2.1 dX6_kindFor_16 rfl (lv_at hl 1 rfl) ?_
        refine lv_iload_n F.1 F.2.1 dX6_kindFor_17 rfl (lv_at hl 0 rfl) ?_
        refine iV (rest := []) (wsp := fun _ => oM a v :: ai ct (a 1) 210 f :: ai ct (a 4) 8 (fnd c 5) :: [ai ct (a 3) 210 h]) F (kX6_finding l dC dI ct a v c (-1000005) 5 (by decide) (by decide) (by decide)) gX6_kindFor_X6_finding rfl ⟨rfl, rfl⟩ nmX6_finding ⟨Nat.le_of_ble_eq_true rfl, Nat.le_of_ble_eq_true rfl⟩ eT_b (fun _ _ _ => trivial) hK hP hD hS hA 0 rfl rfl rfl [0, 2] (by decide) rfl rfl rfl hl.1 (Nat.le_of_ble_eq_true rfl) dX6_kindFor_18 ⟨Nat.zero_le _, Nat.zero_le _⟩ (fun _ => rfl) (fun _ => rfl) [a 0, a 1, a 4, a 3] rfl (fun _ => rfl) (fun r_18 u_18 H locs e_18 hP hD hS => ?_)
        obtain rfl := e_18
        exact rtI (f, (fnd c 5), h) F hr hlk hP hS rfl (Eq.trans (by rw [show tn (nI t) = t from nI_clamp (by omega), show tn (nI n) = n from nI_clamp (by omega)]; try exact (if_pos cl).symm) (if_pos cg).symm) dX6_kindFor_21
    · refine tp (if_neg cl) ?_
      obtain ⟨t, ht, rfl⟩ := gT_n cg.1
      obtain ⟨n, hn1, hn, rfl⟩ := g30_n cg.2
      have hN := late_no hRg (by omega) cl
      refine lv_istore_n (lv' := [(3, .int 0), (0, .ref (a 0)), (1, .int (nI t)), (2, .int (nI n))]) F.1 F.2.1 dX6_kindFor_11 rfl hl (by decide) rfl (fun ls hl => ?_)
      refine lv_iload_n F.1 F.2.1 dX6_kindFor_12 rfl (lv_at hl 0 rfl) ?_
      refine lv_if_eq (tgt := 22) F.1 F.2.1 dX6_kindFor_13 (by decide) (fun c_13 => ?_) (fun c_13 => ?_)
      · refine lv_aload_n F.1 F.2.1 dX6_kindFor_22 rfl (lv_at hl 1 rfl) ?_
        refine gf F hK hP 0 rfl rfl hiX6_kindFor_6 0 (by decide) (List.mem_of_getElem? (i := 1) rfl) rfl dX6_kindFor_23 ?_
        refine lv_aload_n F.1 F.2.1 dX6_kindFor_26 rfl (lv_at hl 1 rfl) ?_
        refine gf F hK hP 0 rfl rfl hiX6_kindFor_6 2 (by decide) (List.mem_of_getElem? (i := 2) rfl) rfl dX6_kindFor_27 ?_
        refine vS (rest := []) (wsp := fun _ => oM a v :: ai ct (a 1) 210 f :: ai ct (a 4) 8 c :: [ai ct (a 3) 210 f]) F (kX6_copyRow l dC dI ct (a 1) (a 3) f h) gX6_kindFor_X6_copyRow rfl ⟨rfl, rfl⟩ nmX6_copyRow ⟨Nat.le_of_ble_eq_true rfl, Nat.le_of_ble_eq_true rfl⟩ eT_b (fun _ _ _ => trivial) hK hP hD hS hA [1, 3] (by decide) rfl rfl rfl hl.1 (Nat.le_of_ble_eq_true rfl) dX6_kindFor_30 ⟨Nat.zero_le _, Nat.zero_le _⟩ (fun _ => rfl) (fun _ => rfl) [a 0, a 1, a 4, a 3] rfl (fun _ => rfl) (fun u_30 H locs e_30 hP hD hS => ?_)
        refine lv_iconst (v := (-1)) F.1 F.2.1 dX6_kindFor_33 (by decide) ?_
        refine lv_istore (lv' := [(4, .int (-1)), (3, .int 0), (0, .ref (a 0)), (1, .int (nI t)), (2, .int (nI n))]) F.1 F.2.1 dX6_kindFor_34 hl (by decide) rfl (fun ls hl => ?_)
        refine lv_iconst (v := 0) F.1 F.2.1 dX6_kindFor_36 (by decide) ?_
        refine lv_istore (lv' := [(5, .int 0), (4, .int (-1)), (3, .int 0), (0, .ref (a 0)), (1, .int (nI t)), (2, .int (nI n))]) F.1 F.2.1 dX6_kindFor_37 hl (by decide) rfl (fun ls hl => ?_)
        refine lv_iconst (v := 0) F.1 F.2.1 dX6_kindFor_39 (by decide) ?_
        refine lv_istore (lv' := [(6, .int 0), (5, .int 0), (4, .int (-1)), (3, .int 0), (0, .ref (a 0)), (1, .int (nI t)), (2, .int (nI n))]) F.1 F.2.1 dX6_kindFor_40 hl (by decide) rfl (fun ls hl => ?_)
        refine loopN (I := fun k H locs ls => va_P (dC, dI) vwCl (oM a v :: ai ct (a 1) 210 f :: ai ct (a 4) 8 c :: [ai ct (a 3) 210 f]) H ∧ va_D A (oM a v :: ai ct (a 1) 210 f :: ai ct (a 4) 8 c :: [ai ct (a 3) 210 f]) ∧ va_S A z.heap H locs ∧ lv_has ls 10 [(6, .int (nI k)), (5, .int ((kfU f t n k).2)), (4, .int ((kfU f t n k).1)), (0, .ref (a 0)), (1, .int (nI t)), (2, .int (nI n))]) 7 0 (by omega) ⟨hP, hD, hS, lv_sub hl [0, 1, 2, 4, 5, 6] rfl⟩ (fun H locs ls hI => ?_) (fun k hk_k H locs ls hI ih_42 => ?_)
        · obtain ⟨hP, hD, hS, hl⟩ := hI
          refine lv_iload F.1 F.2.1 dX6_kindFor_42 (lv_at hl 0 rfl) ?_
          refine lv_bipush (v := 6) F.1 F.2.1 dX6_kindFor_44 (by decide) ?_
          refine lv_icmp_gt (tgt := 138) F.1 F.2.1 dX6_kindFor_46 (by decide) (fun c_46 => ?_) (fun c_46 => ?_)
          · refine lv_iload F.1 F.2.1 dX6_kindFor_138 (lv_at hl 2 rfl) ?_
            exact rtI (f, c, f) F hr hlk hP hS rfl (Eq.trans (by rw [show tn (nI t) = t from nI_clamp (by omega), show tn (nI n) = n from nI_clamp (by omega)]; try exact (if_neg cl).symm) (if_pos cg).symm) dX6_kindFor_140
          · exact absurd (by decide) c_46
        · obtain ⟨hP, hD, hS, hl⟩ := hI
          refine lv_iload F.1 F.2.1 dX6_kindFor_42 (lv_at hl 0 rfl) ?_
          refine lv_bipush (v := 6) F.1 F.2.1 dX6_kindFor_44 (by decide) ?_
          refine lv_icmp_gt (tgt := 138) F.1 F.2.1 dX6_kindFor_46 (by decide) (fun c_46 => ?_) (fun c_46 => ?_)
          · exact absurd c_46 (nI_nlt (b := k) (a := 6) (by omega) (by decide))
          · refine lv_aload_n F.1 F.2.1 dX6_kindFor_49 rfl (lv_at hl 3 rfl) ?_
            refine gf F hK hP 0 rfl rfl hiX6_kindFor_6 0 (by decide) (List.mem_of_getElem? (i := 1) rfl) rfl dX6_kindFor_50 ?_
            refine lv_bipush (v := 15) F.1 F.2.1 dX6_kindFor_53 (by decide) ?_
            refine lv_iload_n F.1 F.2.1 dX6_kindFor_55 rfl (lv_at hl 4 rfl) ?_
            refine lv_iadd F.1 F.2.1 dX6_kindFor_56 ?_
            refine tp (y := nI (15 + t)) (ad2 (a := 15) (b := t) (c := 15 + t) rfl rfl rfl) ?_
            refine lv_iload F.1 F.2.1 dX6_kindFor_57 (lv_at hl 0 rfl) ?_
            refine ast (ws' := oM a v :: ai ct (a 1) 210 (upd f (15 + t) (nI k)) :: ai ct (a 4) 8 c :: [ai ct (a 3) 210 f]) F hK hP hD hS 1 0 rfl rfl (15 + t) rfl (by omega) (by decide) dX6_kindFor_59 (weq.rf _) (fun H locs hP hD hS => ?_)
            refine lv_aload_n F.1 F.2.1 dX6_kindFor_60 rfl (lv_at hl 3 rfl) ?_
            refine lv_iconst (v := 0) F.1 F.2.1 dX6_kindFor_61 (by decide) ?_
            refine iV (rest := []) (wsp := fun _ => oM a v :: ai ct (a 1) 210 (upd f (15 + t) (nI k)) :: ai ct (a 4) 8 c :: [ai ct (a 3) 210 f]) F (kX6_allOf l dC dI ct a v (upd f (15 + t) (nI k)) 0 (by omega)) gX6_kindFor_X6_allOf rfl ⟨rfl, rfl⟩ nmX6_allOf ⟨Nat.le_of_ble_eq_true rfl, Nat.le_of_ble_eq_true rfl⟩ eT_b (fun _ _ _ => trivial) hK hP hD hS hA 0 rfl rfl rfl [0, 1] (by decide) rfl rfl rfl hl.1 (Nat.le_of_ble_eq_true rfl) dX6_kindFor_62 ⟨Nat.zero_le _, Nat.zero_le _⟩ (fun _ => rfl) (fun _ => rfl) [a 0, a 1, a 4, a 3] rfl (fun _ => rfl) (fun r_62 u_62 H locs e_62 hP hD hS => ?_)
            obtain rfl := e_62
            refine lv_aload_n F.1 F.2.1 dX6_kindFor_65 rfl (lv_at hl 3 rfl) ?_
            refine lv_iconst (v := 1) F.1 F.2.1 dX6_kindFor_66 (by decide) ?_
            refine iV (rest := [.int (allU (upd f (15 + t) (nI k)) 0 5)]) (wsp := fun _ => oM a v :: ai ct (a 1) 210 (upd f (15 + t) (nI k)) :: ai ct (a 4) 8 c :: [ai ct (a 3) 210 f]) F (kX6_allOf l dC dI ct a v (upd f (15 + t) (nI k)) 1 (by omega)) gX6_kindFor_X6_allOf rfl ⟨rfl, rfl⟩ nmX6_allOf ⟨Nat.le_of_ble_eq_true rfl, Nat.le_of_ble_eq_true rfl⟩ eT_b (fun _ _ _ => trivial) hK hP hD hS hA 0 rfl rfl rfl [0, 1] (by decide) rfl rfl rfl hl.1 (Nat.le_of_ble_eq_true rfl) dX6_kindFor_67 ⟨Nat.zero_le _, Nat.zero_le _⟩ (fun _ => rfl) (fun _ => rfl) [a 0, a 1, a 4, a 3] rfl (fun _ => rfl) (fun r_67 u_67 H locs e_67 hP hD hS => ?_)
            obtain rfl := e_67
            refine lv_iadd F.1 F.2.1 dX6_kindFor_70 ?_
            refine lv_istore (lv' := [(7, .int ((allU (upd f (15 + t) (nI k)) 0 5) + (allU (upd f (15 + t) (nI k)) 1 5))), (6, .int (nI k)), (5, .int ((kfU f t n k).2)), (4, .int ((kfU f t n k).1)), (0, .ref (a 0)), (1, .int (nI t)), (2, .int (nI n))]) F.1 F.2.1 dX6_kindFor_71 hl (by decide) rfl (fun ls hl => ?_)
            refine lv_aload_n F.1 F.2.1 dX6_kindFor_73 rfl (lv_at hl 4 rfl) ?_
            refine lv_iload_n F.1 F.2.1 dX6_kindFor_74 rfl (lv_at hl 6 rfl) ?_
            refine iV (rest := []) (wsp := fun _ => oM a v :: ai ct (a 1) 210 (ngU (upd f (15 + t) (nI k)) n) :: ai ct (a 4) 8 c :: [ai ct (a 3) 210 f]) F (kX6_nightsGo l dC dI ct a v (upd f (15 + t) (nI k)) n (by omega) (fun j hj => Gd_of (Rg_kf hRg ht (by omega) hN j hj))) gX6_kindFor_X6_nightsGo rfl ⟨rfl, rfl⟩ nmX6_nightsGo ⟨Nat.le_of_ble_eq_true rfl, Nat.le_of_ble_eq_true rfl⟩ eT_b (fun _ _ _ => trivial) hK hP hD hS hA 0 rfl rfl rfl [0, 1] (by decide) rfl rfl rfl hl.1 (Nat.le_of_ble_eq_true rfl) dX6_kindFor_75 ⟨Nat.zero_le _, Nat.zero_le _⟩ (fun _ => rfl) (fun _ => rfl) [a 0, a 1, a 4, a 3] rfl (fun _ => rfl) (fun r_75 u_75 H locs e_75 hP hD hS => ?_)
            obtain rfl := e_75
            refine lv_istore (lv' := [(8, .int (tkU (upd f (15 + t) (nI k)) n)), (7, .int ((allU (upd f (15 + t) (nI k)) 0 5) + (allU (upd f (15 + t) (nI k)) 1 5))), (6, .int (nI k)), (5, .int ((kfU f t n k).2)), (4, .int ((kfU f t n k).1)), (0, .ref (a 0)), (1, .int (nI t)), (2, .int (nI n))]) F.1 F.2.1 dX6_kindFor_78 hl (by decide) rfl (fun ls hl => ?_)
            refine lv_aload_n F.1 F.2.1 dX6_kindFor_80 rfl (lv_at hl 5 rfl) ?_
            refine lv_iconst (v := 0) F.1 F.2.1 dX6_kindFor_81 (by decide) ?_
            refine iV (rest := []) (wsp := fun _ => oM a v :: ai ct (a 1) 210 (ngU (upd f (15 + t) (nI k)) n) :: ai ct (a 4) 8 c :: [ai ct (a 3) 210 f]) F (kX6_allOf l dC dI ct a v (ngU (upd f (15 + t) (nI k)) n) 0 (by omega)) gX6_kindFor_X6_allOf rfl ⟨rfl, rfl⟩ nmX6_allOf ⟨Nat.le_of_ble_eq_true rfl, Nat.le_of_ble_eq_true rfl⟩ eT_b (fun _ _ _ => trivial) hK hP hD hS hA 0 rfl rfl rfl [0, 1] (by decide) rfl rfl rfl hl.1 (Nat.le_of_ble_eq_true rfl) dX6_kindFor_82 ⟨Nat.zero_le _, Nat.zero_le _⟩ (fun _ => rfl) (fun _ => rfl) [a 0, a 1, a 4, a 3] rfl (fun _ => rfl) (fun r_82 u_82 H locs e_82 hP hD hS => ?_)
            obtain rfl := e_82
            refine lv_aload_n F.1 F.2.1 dX6_kindFor_85 rfl (lv_at hl 5 rfl) ?_
            refine lv_iconst (v := 1) F.1 F.2.1 dX6_kindFor_86 (by decide) ?_
            refine iV (rest := [.int (allU (ngU (upd f (15 + t) (nI k)) n) 0 5)]) (wsp := fun _ => oM a v :: ai ct (a 1) 210 (ngU (upd f (15 + t) (nI k)) n) :: ai ct (a 4) 8 c :: [ai ct (a 3) 210 f]) F (kX6_allOf l dC dI ct a v (ngU (upd f (15 + t) (nI k)) n) 1 (by omega)) gX6_kindFor_X6_allOf rfl ⟨rfl, rfl⟩ nmX6_allOf ⟨Nat.le_of_ble_eq_true rfl, Nat.le_of_ble_eq_true rfl⟩ eT_b (fun _ _ _ => trivial) hK hP hD hS hA 0 rfl rfl rfl [0, 1] (by decide) rfl rfl rfl hl.1 (Nat.le_of_ble_eq_true rfl) dX6_kindFor_87 ⟨Nat.zero_le _, Nat.zero_le _⟩ (fun _ => rfl) (fun _ => rfl) [a 0, a 1, a 4, a 3] rfl (fun _ => rfl) (fun r_87 u_87 H locs e_87 hP hD hS => ?_)
            obtain rfl := e_87
            refine lv_iadd F.1 F.2.1 dX6_kindFor_90 ?_
            refine lv_iload F.1 F.2.1 dX6_kindFor_91 (lv_at hl 1 rfl) ?_
            refine lv_isub F.1 F.2.1 dX6_kindFor_93 ?_
            refine lv_istore (lv' := [(9, .int (((allU (ngU (upd f (15 + t) (nI k)) n) 0 5) + (allU (ngU (upd f (15 + t) (nI k)) n) 1 5)) - ((allU (upd f (15 + t) (nI k)) 0 5) + (allU (upd f (15 + t) (nI k)) 1 5)))), (8, .int (tkU (upd f (15 + t) (nI k)) n)), (7, .int ((allU (upd f (15 + t) (nI k)) 0 5) + (allU (upd f (15 + t) (nI k)) 1 5))), (6, .int (nI k)), (5, .int ((kfU f t n k).2)), (4, .int ((kfU f t n k).1)), (0, .ref (a 0)), (1, .int (nI t)), (2, .int (nI n))]) F.1 F.2.1 dX6_kindFor_94 hl (by decide) rfl (fun ls hl => ?_)
            refine lv_iload F.1 F.2.1 dX6_kindFor_96 (lv_at hl 1 rfl) ?_
            refine lv_if_lt (tgt := 121) F.1 F.2.1 dX6_kindFor_98 (by decide) (fun c_98 => ?_) (fun c_98 => ?_)
            · exact absurd c_98 (Int32.not_lt.mpr (tk_nn _ (by omega)))
            · refine lv_iload F.1 F.2.1 dX6_kindFor_101 (lv_at hl 5 rfl) ?_
              refine lv_if_lt (tgt := 113) F.1 F.2.1 dX6_kindFor_103 (by decide) (fun c_103 => ?_) (fun c_103 => ?_)
              · refine lv_iload F.1 F.2.1 dX6_kindFor_113 (lv_at hl 3 rfl) ?_
                refine lv_istore (lv' := [(4, .int (nI k)), (9, .int (((allU (ngU (upd f (15 + t) (nI k)) n) 0 5) + (allU (ngU (upd f (15 + t) (nI k)) n) 1 5)) - ((allU (upd f (15 + t) (nI k)) 0 5) + (allU (upd f (15 + t) (nI k)) 1 5)))), (8, .int (tkU (upd f (15 + t) (nI k)) n)), (7, .int ((allU (upd f (15 + t) (nI k)) 0 5) + (allU (upd f (15 + t) (nI k)) 1 5))), (6, .int (nI k)), (5, .int ((kfU f t n k).2)), (0, .ref (a 0)), (1, .int (nI t)), (2, .int (nI n))]) F.1 F.2.1 dX6_kindFor_115 hl (by decide) rfl (fun ls hl => ?_)
                refine lv_iload F.1 F.2.1 dX6_kindFor_117 (lv_at hl 1 rfl) ?_
                refine lv_istore (lv' := [(5, .int (((allU (ngU (upd f (15 + t) (nI k)) n) 0 5) + (allU (ngU (upd f (15 + t) (nI k)) n) 1 5)) - ((allU (upd f (15 + t) (nI k)) 0 5) + (allU (upd f (15 + t) (nI k)) 1 5)))), (4, .int (nI k)), (9, .int (((allU (ngU (upd f (15 + t) (nI k)) n) 0 5) + (allU (ngU (upd f (15 + t) (nI k)) n) 1 5)) - ((allU (upd f (15 + t) (nI k)) 0 5) + (allU (upd f (15 + t) (nI k)) 1 5)))), (8, .int (tkU (upd f (15 + t) (nI k)) n)), (7, .int ((allU (upd f (15 + t) (nI k)) 0 5) + (allU (upd f (15 + t) (nI k)) 1 5))), (6, .int (nI k)), (0, .ref (a 0)), (1, .int (nI t)), (2, .int (nI n))]) F.1 F.2.1 dX6_kindFor_119 hl (by decide) rfl (fun ls hl => ?_)
                refine lv_aload_n F.1 F.2.1 dX6_kindFor_121 rfl (lv_at hl 6 rfl) ?_
                refine gf F hK hP 0 rfl rfl hiX6_kindFor_6 2 (by decide) (List.mem_of_getElem? (i := 2) rfl) rfl dX6_kindFor_122 ?_
                refine lv_aload_n F.1 F.2.1 dX6_kindFor_125 rfl (lv_at hl 6 rfl) ?_
                refine gf F hK hP 0 rfl rfl hiX6_kindFor_6 0 (by decide) (List.mem_of_getElem? (i := 1) rfl) rfl dX6_kindFor_126 ?_
                refine vS (rest := []) (wsp := fun _ => oM a v :: ai ct (a 1) 210 f :: ai ct (a 4) 8 c :: [ai ct (a 3) 210 f]) F (kX6_copyRow l dC dI ct (a 3) (a 1) f (ngU (upd f (15 + t) (nI k)) n)) gX6_kindFor_X6_copyRow rfl ⟨rfl, rfl⟩ nmX6_copyRow ⟨Nat.le_of_ble_eq_true rfl, Nat.le_of_ble_eq_true rfl⟩ eT_b (fun _ _ _ => trivial) hK hP hD hS hA [3, 1] (by decide) rfl rfl rfl hl.1 (Nat.le_of_ble_eq_true rfl) dX6_kindFor_129 ⟨Nat.zero_le _, Nat.zero_le _⟩ (fun _ => rfl) (fun _ => rfl) [a 0, a 1, a 4, a 3] rfl (fun _ => rfl) (fun u_129 H locs e_129 hP hD hS => ?_)
                refine lv_iinc (v := nI (k + 1)) (lv' := [(6, .int (nI (k + 1))), (5, .int (((allU (ngU (upd f (15 + t) (nI k)) n) 0 5) + (allU (ngU (upd f (15 + t) (nI k)) n) 1 5)) - ((allU (upd f (15 + t) (nI k)) 0 5) + (allU (upd f (15 + t) (nI k)) 1 5)))), (4, .int (nI k)), (9, .int (((allU (ngU (upd f (15 + t) (nI k)) n) 0 5) + (allU (ngU (upd f (15 + t) (nI k)) n) 1 5)) - ((allU (upd f (15 + t) (nI k)) 0 5) + (allU (upd f (15 + t) (nI k)) 1 5)))), (8, .int (tkU (upd f (15 + t) (nI k)) n)), (7, .int ((allU (upd f (15 + t) (nI k)) 0 5) + (allU (upd f (15 + t) (nI k)) 1 5))), (0, .ref (a 0)), (1, .int (nI t)), (2, .int (nI n))]) F.1 F.2.1 dX6_kindFor_132 hl (k := 5) rfl (by rw [show Int32.ofInt 1 = nI 1 from rfl, nI_add]) (by decide) rfl (fun ls hl => ?_)
                refine lv_goto (tgt := 42) F.1 F.2.1 dX6_kindFor_135 (by decide) ?_
                have eb : kfU f t n (k + 1) = (nI k, kfVal f t n k) := if_pos (Or.inl c_103)
                exact ih_42 _ _ _ ⟨hP, hD, hS, lv_sub hl [0, 1, 2, 6, 7, 8] (by rw [eb]; rfl)⟩
              · refine lv_iload F.1 F.2.1 dX6_kindFor_106 (lv_at hl 0 rfl) ?_
                refine lv_iload F.1 F.2.1 dX6_kindFor_108 (lv_at hl 4 rfl) ?_
                refine lv_icmp_le (tgt := 121) F.1 F.2.1 dX6_kindFor_110 (by decide) (fun c_110 => ?_) (fun c_110 => ?_)
                · refine lv_aload_n F.1 F.2.1 dX6_kindFor_121 rfl (lv_at hl 6 rfl) ?_
                  refine gf F hK hP 0 rfl rfl hiX6_kindFor_6 2 (by decide) (List.mem_of_getElem? (i := 2) rfl) rfl dX6_kindFor_122 ?_
                  refine lv_aload_n F.1 F.2.1 dX6_kindFor_125 rfl (lv_at hl 6 rfl) ?_
                  refine gf F hK hP 0 rfl rfl hiX6_kindFor_6 0 (by decide) (List.mem_of_getElem? (i := 1) rfl) rfl dX6_kindFor_126 ?_
                  refine vS (rest := []) (wsp := fun _ => oM a v :: ai ct (a 1) 210 f :: ai ct (a 4) 8 c :: [ai ct (a 3) 210 f]) F (kX6_copyRow l dC dI ct (a 3) (a 1) f (ngU (upd f (15 + t) (nI k)) n)) gX6_kindFor_X6_copyRow rfl ⟨rfl, rfl⟩ nmX6_copyRow ⟨Nat.le_of_ble_eq_true rfl, Nat.le_of_ble_eq_true rfl⟩ eT_b (fun _ _ _ => trivial) hK hP hD hS hA [3, 1] (by decide) rfl rfl rfl hl.1 (Nat.le_of_ble_eq_true rfl) dX6_kindFor_129 ⟨Nat.zero_le _, Nat.zero_le _⟩ (fun _ => rfl) (fun _ => rfl) [a 0, a 1, a 4, a 3] rfl (fun _ => rfl) (fun u_129 H locs e_129 hP hD hS => ?_)
                  refine lv_iinc (v := nI (k + 1)) (lv' := [(6, .int (nI (k + 1))), (9, .int (((allU (ngU (upd f (15 + t) (nI k)) n) 0 5) + (allU (ngU (upd f (15 + t) (nI k)) n) 1 5)) - ((allU (upd f (15 + t) (nI k)) 0 5) + (allU (upd f (15 + t) (nI k)) 1 5)))), (8, .int (tkU (upd f (15 + t) (nI k)) n)), (7, .int ((allU (upd f (15 + t) (nI k)) 0 5) + (allU (upd f (15 + t) (nI k)) 1 5))), (5, .int ((kfU f t n k).2)), (4, .int ((kfU f t n k).1)), (0, .ref (a 0)), (1, .int (nI t)), (2, .int (nI n))]) F.1 F.2.1 dX6_kindFor_132 hl (k := 3) rfl (by rw [show Int32.ofInt 1 = nI 1 from rfl, nI_add]) (by decide) rfl (fun ls hl => ?_)
                  refine lv_goto (tgt := 42) F.1 F.2.1 dX6_kindFor_135 (by decide) ?_
                  have eb : kfU f t n (k + 1) = kfU f t n k := if_neg (fun q => q.elim c_103 (fun w => Int32.not_lt.mpr c_110 w))
                  exact ih_42 _ _ _ ⟨hP, hD, hS, lv_sub hl [0, 4, 5, 6, 7, 8] (by rw [eb]; rfl)⟩
                · refine lv_iload F.1 F.2.1 dX6_kindFor_113 (lv_at hl 3 rfl) ?_
                  refine lv_istore (lv' := [(4, .int (nI k)), (9, .int (((allU (ngU (upd f (15 + t) (nI k)) n) 0 5) + (allU (ngU (upd f (15 + t) (nI k)) n) 1 5)) - ((allU (upd f (15 + t) (nI k)) 0 5) + (allU (upd f (15 + t) (nI k)) 1 5)))), (8, .int (tkU (upd f (15 + t) (nI k)) n)), (7, .int ((allU (upd f (15 + t) (nI k)) 0 5) + (allU (upd f (15 + t) (nI k)) 1 5))), (6, .int (nI k)), (5, .int ((kfU f t n k).2)), (0, .ref (a 0)), (1, .int (nI t)), (2, .int (nI n))]) F.1 F.2.1 dX6_kindFor_115 hl (by decide) rfl (fun ls hl => ?_)
                  refine lv_iload F.1 F.2.1 dX6_kindFor_117 (lv_at hl 1 rfl) ?_
                  refine lv_istore (lv' := [(5, .int (((allU (ngU (upd f (15 + t) (nI k)) n) 0 5) + (allU (ngU (upd f (15 + t) (nI k)) n) 1 5)) - ((allU (upd f (15 + t) (nI k)) 0 5) + (allU (upd f (15 + t) (nI k)) 1 5)))), (4, .int (nI k)), (9, .int (((allU (ngU (upd f (15 + t) (nI k)) n) 0 5) + (allU (ngU (upd f (15 + t) (nI k)) n) 1 5)) - ((allU (upd f (15 + t) (nI k)) 0 5) + (allU (upd f (15 + t) (nI k)) 1 5)))), (8, .int (tkU (upd f (15 + t) (nI k)) n)), (7, .int ((allU (upd f (15 + t) (nI k)) 0 5) + (allU (upd f (15 + t) (nI k)) 1 5))), (6, .int (nI k)), (0, .ref (a 0)), (1, .int (nI t)), (2, .int (nI n))]) F.1 F.2.1 dX6_kindFor_119 hl (by decide) rfl (fun ls hl => ?_)
                  refine lv_aload_n F.1 F.2.1 dX6_kindFor_121 rfl (lv_at hl 6 rfl) ?_
                  refine gf F hK hP 0 rfl rfl hiX6_kindFor_6 2 (by decide) (List.mem_of_getElem? (i := 2) rfl) rfl dX6_kindFor_122 ?_
                  refine lv_aload_n F.1 F.2.1 dX6_kindFor_125 rfl (lv_at hl 6 rfl) ?_
                  refine gf F hK hP 0 rfl rfl hiX6_kindFor_6 0 (by decide) (List.mem_of_getElem? (i := 1) rfl) rfl dX6_kindFor_126 ?_
                  refine vS (rest := []) (wsp := fun _ => oM a v :: ai ct (a 1) 210 f :: ai ct (a 4) 8 c :: [ai ct (a 3) 210 f]) F (kX6_copyRow l dC dI ct (a 3) (a 1) f (ngU (upd f (15 + t) (nI k)) n)) gX6_kindFor_X6_copyRow rfl ⟨rfl, rfl⟩ nmX6_copyRow ⟨Nat.le_of_ble_eq_true rfl, Nat.le_of_ble_eq_true rfl⟩ eT_b (fun _ _ _ => trivial) hK hP hD hS hA [3, 1] (by decide) rfl rfl rfl hl.1 (Nat.le_of_ble_eq_true rfl) dX6_kindFor_129 ⟨Nat.zero_le _, Nat.zero_le _⟩ (fun _ => rfl) (fun _ => rfl) [a 0, a 1, a 4, a 3] rfl (fun _ => rfl) (fun u_129 H locs e_129 hP hD hS => ?_)
                  refine lv_iinc (v := nI (k + 1)) (lv' := [(6, .int (nI (k + 1))), (5, .int (((allU (ngU (upd f (15 + t) (nI k)) n) 0 5) + (allU (ngU (upd f (15 + t) (nI k)) n) 1 5)) - ((allU (upd f (15 + t) (nI k)) 0 5) + (allU (upd f (15 + t) (nI k)) 1 5)))), (4, .int (nI k)), (9, .int (((allU (ngU (upd f (15 + t) (nI k)) n) 0 5) + (allU (ngU (upd f (15 + t) (nI k)) n) 1 5)) - ((allU (upd f (15 + t) (nI k)) 0 5) + (allU (upd f (15 + t) (nI k)) 1 5)))), (8, .int (tkU (upd f (15 + t) (nI k)) n)), (7, .int ((allU (upd f (15 + t) (nI k)) 0 5) + (allU (upd f (15 + t) (nI k)) 1 5))), (0, .ref (a 0)), (1, .int (nI t)), (2, .int (nI n))]) F.1 F.2.1 dX6_kindFor_132 hl (k := 5) rfl (by rw [show Int32.ofInt 1 = nI 1 from rfl, nI_add]) (by decide) rfl (fun ls hl => ?_)
                  refine lv_goto (tgt := 42) F.1 F.2.1 dX6_kindFor_135 (by decide) ?_
                  have eb : kfU f t n (k + 1) = (nI k, kfVal f t n k) := if_pos (Or.inr (Int32.not_le.mp c_110))
                  exact ih_42 _ _ _ ⟨hP, hD, hS, lv_sub hl [0, 1, 2, 6, 7, 8] (by rw [eb]; rfl)⟩
      · exact absurd rfl c_13
  · refine tp (if_neg cg) ?_
    refine lv_istore_n (lv' := [(3, .int (-1000001)), (0, .ref (a 0)), (1, .int x1), (2, .int x2)]) F.1 F.2.1 dX6_kindFor_11 rfl hl (by decide) rfl (fun ls hl => ?_)
    refine lv_iload_n F.1 F.2.1 dX6_kindFor_12 rfl (lv_at hl 0 rfl) ?_
    refine lv_if_eq (tgt := 22) F.1 F.2.1 dX6_kindFor_13 (by decide) (fun c_13 => ?_) (fun c_13 => ?_)
    · exact absurd c_13 (by decide)
    · refine lv_aload_n F.1 F.2.1 dX6_kindFor_16 rfl (lv_at hl 1 rfl) ?_
      refine lv_iload_n F.1 F.2.1 dX6_kindFor_17 rfl (lv_at hl 0 rfl) ?_
      refine iV (rest := []) (wsp := fun _ => oM a v :: ai ct (a 1) 210 f :: ai ct (a 4) 8 (fnd c 1) :: [ai ct (a 3) 210 h]) F (kX6_finding l dC dI ct a v c (-1000001) 1 (by decide) (by decide) (by decide)) gX6_kindFor_X6_finding rfl ⟨rfl, rfl⟩ nmX6_finding ⟨Nat.le_of_ble_eq_true rfl, Nat.le_of_ble_eq_true rfl⟩ eT_b (fun _ _ _ => trivial) hK hP hD hS hA 0 rfl rfl rfl [0, 2] (by decide) rfl rfl rfl hl.1 (Nat.le_of_ble_eq_true rfl) dX6_kindFor_18 ⟨Nat.zero_le _, Nat.zero_le _⟩ (fun _ => rfl) (fun _ => rfl) [a 0, a 1, a 4, a 3] rfl (fun _ => rfl) (fun r_18 u_18 H locs e_18 hP hD hS => ?_)
      obtain rfl := e_18
      exact rtI (f, (fnd c 1), h) F hr hlk hP hS rfl ((if_neg (fun q => cg q)).symm) dX6_kindFor_21

def rmX6_refusesBest : Room := { frames := 2, cells := 0, slots := 0, locals := 45 }
theorem nmX6_refusesBest : NmV yX6_refusesBest RX6 2 := by unfold NmV; decide +kernel
set_option maxHeartbeats 4000000 in
set_option maxRecDepth 100000 in
theorem kX6_refusesBest (l : Launch) (dC : Nat → ClassId) (dI : Nat → Nat → Nat) (ct : Nat → ClassId) (a : Nat → Nat) (v f : Nat → Int32) (x1 x2 : Int32) : MI (S := Unit) l yX6_refusesBest wsX6_refusesBest rmX6_refusesBest dC dI ct eT [.ref (a 0), .int x1, .int x2] (oM a v :: [ai ct (a 1) 210 f]) (fun _ => oM a v :: [ai ct (a 1) 210 f]) (fun r _ => r = if (0 ≤ x1 ∧ x1 ≤ 1) ∧ 1 ≤ x2 ∧ x2 ≤ 30 then (if 9999 < f 0 + x2 ∨ f (21 + 17 * tn x1) = 0 then -1000005 else 0) else -1000001) := by
  refine MI.of (cc := cX6_refusesBest) (maxL := 4) (ret := (some .int)) (by decide) rfl (Nat.le_of_ble_eq_true rfl) ?_
  intro pg en z mi below meth cd A F hr hlk hin hK hP hD hA hS hE ls hl
  have F : CallFix pg mi cd cX6_refusesBest 4 z _ wsX6_refusesBest RX6 := F
  have hl : lv_has ls 4 [(0, .ref (a 0)), (1, .int x1), (2, .int x2)] := hl
  refine lv_aload_n F.1 F.2.1 dX6_refusesBest_0 rfl (lv_at hl 0 rfl) ?_
  refine lv_iload_n F.1 F.2.1 dX6_refusesBest_1 rfl (lv_at hl 1 rfl) ?_
  refine iS (rest := [.ref (a 0)]) (wsp := fun _ => oM a v :: [ai ct (a 1) 210 f]) F (kX6_isSide l dC dI ct x1) gX6_refusesBest_X6_isSide rfl ⟨rfl, rfl⟩ nmX6_isSide ⟨Nat.le_of_ble_eq_true rfl, Nat.le_of_ble_eq_true rfl⟩ eT_b (fun _ _ _ => trivial) hK hP hD hS hA [] (by decide) rfl rfl rfl hl.1 (Nat.le_of_ble_eq_true rfl) dX6_refusesBest_2 ⟨Nat.zero_le _, Nat.zero_le _⟩ (fun _ => rfl) (fun _ => rfl) [a 0, a 1] rfl (fun _ => rfl) (fun r_2 u_2 H locs e_2 hP hD hS => ?_)
  obtain rfl := e_2
  refine lv_iload_n F.1 F.2.1 dX6_refusesBest_5 rfl (lv_at hl 2 rfl) ?_
  refine lv_bipush (v := 30) F.1 F.2.1 dX6_refusesBest_6 (by decide) ?_
  refine iV (rest := []) (wsp := fun _ => oM a v :: [ai ct (a 1) 210 f]) F (kX6_refuses l dC dI ct a v f (if 0 ≤ x1 ∧ x1 ≤ 1 then 1 else 0) x2 30) gX6_refusesBest_X6_refuses rfl ⟨rfl, rfl⟩ nmX6_refuses ⟨Nat.le_of_ble_eq_true rfl, Nat.le_of_ble_eq_true rfl⟩ eT_b (fun _ _ _ => trivial) hK hP hD hS hA 0 rfl rfl rfl [0, 1] (by decide) rfl rfl rfl hl.1 (Nat.le_of_ble_eq_true rfl) dX6_refusesBest_8 ⟨Nat.zero_le _, Nat.zero_le _⟩ (fun _ => rfl) (fun _ => rfl) [a 0, a 1] rfl (fun _ => rfl) (fun r_8 u_8 H locs e_8 hP hD hS => ?_)
  obtain rfl := e_8
  refine tp ref_eq ?_
  by_cases cg : (0 ≤ x1 ∧ x1 ≤ 1) ∧ 1 ≤ x2 ∧ x2 ≤ 30
  · refine tp (if_pos cg) ?_
    by_cases cl : 9999 < f 0 + x2
    · refine tp (if_pos cl) ?_
      obtain ⟨s, hs, rfl⟩ := gS_n cg.1
      refine lv_istore_n (lv' := [(3, .int (-1000005)), (0, .ref (a 0)), (1, .int (nI s)), (2, .int x2)]) F.1 F.2.1 dX6_refusesBest_11 rfl hl (by decide) rfl (fun ls hl => ?_)
      refine lv_iload_n F.1 F.2.1 dX6_refusesBest_12 rfl (lv_at hl 0 rfl) ?_
      refine lv_if_ne (tgt := 30) F.1 F.2.1 dX6_refusesBest_13 (by decide) (fun c_13 => ?_) (fun c_13 => ?_)
      · refine lv_iload_n F.1 F.2.1 dX6_refusesBest_30 rfl (lv_at hl 0 rfl) ?_
        exact rtI () F hr hlk hP hS rfl (((if_pos cg).trans (if_pos (Or.inl cl))).symm) dX6_refusesBest_31
      · exact absurd c_13 (by decide)
    · refine tp (if_neg cl) ?_
      obtain ⟨s, hs, rfl⟩ := gS_n cg.1
      refine lv_istore_n (lv' := [(3, .int 0), (0, .ref (a 0)), (1, .int (nI s)), (2, .int x2)]) F.1 F.2.1 dX6_refusesBest_11 rfl hl (by decide) rfl (fun ls hl => ?_)
      refine lv_iload_n F.1 F.2.1 dX6_refusesBest_12 rfl (lv_at hl 0 rfl) ?_
      refine lv_if_ne (tgt := 30) F.1 F.2.1 dX6_refusesBest_13 (by decide) (fun c_13 => ?_) (fun c_13 => ?_)
      · exact absurd rfl c_13
      · refine lv_aload_n F.1 F.2.1 dX6_refusesBest_16 rfl (lv_at hl 1 rfl) ?_
        refine lv_iload_n F.1 F.2.1 dX6_refusesBest_17 rfl (lv_at hl 2 rfl) ?_
        refine lv_iconst (v := 1) F.1 F.2.1 dX6_refusesBest_18 (by decide) ?_
        refine iV (rest := []) (wsp := fun _ => oM a v :: [ai ct (a 1) 210 f]) F (kX6_sideIs l dC dI ct a v f s 1 (21 + 17 * s) (by omega) (by omega)) gX6_refusesBest_X6_sideIs rfl ⟨rfl, rfl⟩ nmX6_sideIs ⟨Nat.le_of_ble_eq_true rfl, Nat.le_of_ble_eq_true rfl⟩ eT_b (fun _ _ _ => trivial) hK hP hD hS hA 0 rfl rfl rfl [0, 1] (by decide) rfl rfl rfl hl.1 (Nat.le_of_ble_eq_true rfl) dX6_refusesBest_19 ⟨Nat.zero_le _, Nat.zero_le _⟩ (fun _ => rfl) (fun _ => rfl) [a 0, a 1] rfl (fun _ => rfl) (fun r_19 u_19 H locs e_19 hP hD hS => ?_)
        obtain rfl := e_19
        refine lv_if_ne (tgt := 30) F.1 F.2.1 dX6_refusesBest_22 (by decide) (fun c_22 => ?_) (fun c_22 => ?_)
        · refine lv_iload_n F.1 F.2.1 dX6_refusesBest_30 rfl (lv_at hl 0 rfl) ?_
          exact rtI () F hr hlk hP hS rfl (by rw [if_pos cg, show tn (nI s) = s from nI_clamp (by omega), if_neg (fun q => q.elim cl c_22)]) dX6_refusesBest_31
        · refine lv_ldc (v := (-1000005)) F.1 F.2.1 F.2.2.2.1 (F.2.2.2.2 _ (List.mem_of_getElem? (i := 1) rfl)) dX6_refusesBest_25 ?_
          refine lv_goto (tgt := 31) F.1 F.2.1 dX6_refusesBest_27 (by decide) ?_
          exact rtI () F hr hlk hP hS rfl (by rw [if_pos cg, show tn (nI s) = s from nI_clamp (by omega), if_pos (Or.inr c_22)]) dX6_refusesBest_31
  · refine tp (if_neg cg) ?_
    refine lv_istore_n (lv' := [(3, .int (-1000001)), (0, .ref (a 0)), (1, .int x1), (2, .int x2)]) F.1 F.2.1 dX6_refusesBest_11 rfl hl (by decide) rfl (fun ls hl => ?_)
    refine lv_iload_n F.1 F.2.1 dX6_refusesBest_12 rfl (lv_at hl 0 rfl) ?_
    refine lv_if_ne (tgt := 30) F.1 F.2.1 dX6_refusesBest_13 (by decide) (fun c_13 => ?_) (fun c_13 => ?_)
    · refine lv_iload_n F.1 F.2.1 dX6_refusesBest_30 rfl (lv_at hl 0 rfl) ?_
      exact rtI () F hr hlk hP hS rfl ((if_neg cg).symm) dX6_refusesBest_31
    · exact absurd c_13 (by decide)
