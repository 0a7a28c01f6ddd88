def rmX2_isWord : Room := { frames := 4, cells := 0, slots := 0, locals := 85 }
theorem nmX2_isWord : NmV yX2_isWord RX2 1 := by unfold NmV; decide +kernel
theorem hiX2_isWord_2 : ∀ w ∈ u_ws RX2 TX2 6, w ∈ wsX2_isWord := by decide +kernel
set_option maxHeartbeats 4000000 in
set_option maxRecDepth 100000 in
theorem kX2_isWord (l : Launch) (dC : Nat → ClassId) (dI : Nat → Nat → Nat) (ct : Nat → ClassId) (K : Nat → Nat) (rf : List (String × Nat × String × Nat)) (sc ty : Nat) (y : Nat → Int32) (n : Nat) (t4 : Int32) (p : Nat) (hn : n ≤ 120) (hp : p ≤ n) (i : Nat) (hi : i < 14) : MI (S := Unit) l yX2_isWord wsX2_isWord rmX2_isWord dC dI ct (EQ K ct rf [sc, ty]) [.ref sc, .ref (kS K i)] ((sc, .inr (2, [.ref ty, .int (nI n), .int (nI (tK y n p)), .int (nI (tB y n p)), .int (nI (tE y n p)), .int (tW y n p t4)])) :: [ai ct ty 120 y]) (fun _ => (sc, .inr (2, [.ref ty, .int (nI n), .int (nI (tK y n p)), .int (nI (tB y n p)), .int (nI (tE y n p)), .int (tW y n p t4)])) :: [ai ct ty 120 y]) (fun r _ => r = if isW y n p i then 1 else 0) := by
  refine MI.ofz (cc := cX2_isWord) (maxL := 3) (ret := (some .boolean)) (by decide) rfl (Nat.le_of_ble_eq_true rfl) ?_
  intro pg en z mi below meth cd A F hr hlk hin hK hP hD hA hS hAz hE ls hl
  have hz := EQ_z (pre := (sc, .inr (2, [.ref ty, .int (nI n), .int (nI (tK y n p)), .int (nI (tB y n p)), .int (nI (tE y n p)), .int (tW y n p t4)])) :: [ai ct ty 120 y]) (show EQ K ct rf (List.map Prod.fst ((sc, .inr (2, [.ref ty, .int (nI n), .int (nI (tK y n p)), .int (nI (tB y n p)), .int (nI (tE y n p)), .int (tW y n p t4)])) :: [ai ct ty 120 y])) z from hE) hAz
  have F : CallFix pg mi cd cX2_isWord 3 z _ wsX2_isWord RX2 := F
  have hl : lv_has ls 3 [(0, .ref sc), (1, .ref (kS K i))] := hl
  have hle := tE_le (y := y) hp
  have hl5 := lnS_lt i hi
  refine lv_aload_n F.1 F.2.1 dX2_isWord_0 rfl (lv_at hl 0 rfl) ?_
  refine gf F hK hP 0 rfl rfl hiX2_isWord_2 2 (by decide) (List.mem_of_getElem? (i := 1) rfl) rfl dX2_isWord_1 ?_
  refine lv_iconst (v := 1) F.1 F.2.1 dX2_isWord_4 (by decide) ?_
  refine lv_icmp_ne (tgt := 24) F.1 F.2.1 dX2_isWord_5 (by decide) (fun c_5 => ?_) (fun c_5 => ?_)
  · refine lv_iconst (v := 0) F.1 F.2.1 dX2_isWord_24 (by decide) ?_
    exact rtZ () F hr hlk hP hS rfl ((if_neg (fun q => c_5 (by rw [(iwB_iff.mp q).1]; rfl))).symm) (Or.inl rfl) dX2_isWord_25
  · have ek : tK y n p = 1 := nI_of_eq (b := 1) c_5 (by have := tK_le y n p; omega) (by omega)
    refine lv_aload_n F.1 F.2.1 dX2_isWord_8 rfl (lv_at hl 0 rfl) ?_
    refine gf F hK hP 0 rfl rfl hiX2_isWord_2 4 (by decide) (List.mem_of_getElem? (i := 2) rfl) rfl dX2_isWord_9 ?_
    refine lv_aload_n F.1 F.2.1 dX2_isWord_12 rfl (lv_at hl 0 rfl) ?_
    refine gf F hK hP 0 rfl rfl hiX2_isWord_2 3 (by decide) (List.mem_of_getElem? (i := 3) rfl) rfl dX2_isWord_13 ?_
    refine lv_isub F.1 F.2.1 dX2_isWord_16 ?_
    refine tp (y := nI (tE y n p - tB y n p)) (sb2 (a := tE y n p) (b := tB y n p) (c := tE y n p - tB y n p) rfl rfl (by omega)) ?_
    refine lv_aload_n F.1 F.2.1 dX2_isWord_17 rfl (lv_at hl 1 rfl) ?_
    refine iVk (ws := (sc, .inr (2, [.ref ty, .int (nI n), .int (nI (tK y n p)), .int (nI (tB y n p)), .int (nI (tE y n p)), .int (tW y n p t4)])) :: [ai ct ty 120 y]) (rest := [.int (nI (tE y n p - tB y n p))]) F (kJ0_length_8abf5 l dC dI ct K rf i hi) gX2_isWord_J0_length_8abf5 rfl ⟨rfl, rfl⟩ nmJ0_length_8abf5 ⟨Nat.le_of_ble_eq_true rfl, Nat.le_of_ble_eq_true rfl⟩ EQ_b (EQ_call hE hS hz [] rfl) hK hP hD hS hA (rcv (hE.2.2.1.2.2.2.2 i hi).1 hz hS) rfl rfl hl.1 (Nat.le_of_ble_eq_true rfl) dX2_isWord_18 ⟨Nat.zero_le _, Nat.zero_le _⟩ [sc, ty] rfl (fun r_18 H locs e_18 hP hD hS => ?_)
    obtain rfl := e_18
    refine lv_icmp_eq (tgt := 26) F.1 F.2.1 dX2_isWord_21 (by decide) (fun c_21 => ?_) (fun c_21 => ?_)
    · have el : tE y n p - tB y n p = lnS i := nI_of_eq c_21 (by omega) (by omega)
      refine lv_iconst (v := 0) F.1 F.2.1 dX2_isWord_26 (by decide) ?_
      refine lv_istore_n (lv' := [(2, .int 0), (0, .ref sc), (1, .ref (kS K i))]) F.1 F.2.1 dX2_isWord_27 rfl hl (by decide) rfl (fun ls hl => ?_)
      refine loopN (I := fun k H locs ls => va_P (dC, dI) vwCl ((sc, .inr (2, [.ref ty, .int (nI n), .int (nI (tK y n p)), .int (nI (tB y n p)), .int (nI (tE y n p)), .int (tW y n p t4)])) :: [ai ct ty 120 y]) H ∧ va_D A ((sc, .inr (2, [.ref ty, .int (nI n), .int (nI (tK y n p)), .int (nI (tB y n p)), .int (nI (tE y n p)), .int (tW y n p t4)])) :: [ai ct ty 120 y]) ∧ va_S A z.heap H locs ∧ lv_has ls 3 [(2, .int (nI k)), (0, .ref sc), (1, .ref (kS K i))] ∧ ∀ j, j < k → y (tB y n p + j) = chS i j) (lnS i) 0 (by omega) ⟨hP, hD, hS, lv_sub hl [0, 1, 2] rfl, (fun j hj => absurd hj (Nat.not_lt_zero j))⟩ (fun H locs ls hI => ?_) (fun k hk_k H locs ls hI ih_28 => ?_)
      · obtain ⟨hP, hD, hS, hl, hx⟩ := hI
        refine lv_iload_n F.1 F.2.1 dX2_isWord_28 rfl (lv_at hl 0 rfl) ?_
        refine lv_aload_n F.1 F.2.1 dX2_isWord_29 rfl (lv_at hl 2 rfl) ?_
        refine iVk (ws := (sc, .inr (2, [.ref ty, .int (nI n), .int (nI (tK y n p)), .int (nI (tB y n p)), .int (nI (tE y n p)), .int (tW y n p t4)])) :: [ai ct ty 120 y]) (rest := [.int (nI (lnS i))]) F (kJ0_length_8abf5 l dC dI ct K rf i hi) gX2_isWord_J0_length_8abf5 rfl ⟨rfl, rfl⟩ nmJ0_length_8abf5 ⟨Nat.le_of_ble_eq_true rfl, Nat.le_of_ble_eq_true rfl⟩ EQ_b (EQ_call hE hS hz [] rfl) hK hP hD hS hA (rcv (hE.2.2.1.2.2.2.2 i hi).1 hz hS) rfl rfl hl.1 (Nat.le_of_ble_eq_true rfl) dX2_isWord_30 ⟨Nat.zero_le _, Nat.zero_le _⟩ [sc, ty] rfl (fun r_30 H locs e_30 hP hD hS => ?_)
        obtain rfl := e_30
        refine lv_icmp_ge (tgt := 63) F.1 F.2.1 dX2_isWord_33 (by decide) (fun c_33 => ?_) (fun c_33 => ?_)
        · refine lv_iconst (v := 1) F.1 F.2.1 dX2_isWord_63 (by decide) ?_
          exact rtZ () F hr hlk hP hS rfl ((if_pos (iwB_iff.mpr ⟨ek, el, hx⟩)).symm) (Or.inr rfl) dX2_isWord_64
        · exact absurd (nI_le (Nat.le_refl _) (by omega)) c_33
      · obtain ⟨hP, hD, hS, hl, hx⟩ := hI
        refine lv_iload_n F.1 F.2.1 dX2_isWord_28 rfl (lv_at hl 0 rfl) ?_
        refine lv_aload_n F.1 F.2.1 dX2_isWord_29 rfl (lv_at hl 2 rfl) ?_
        refine iVk (ws := (sc, .inr (2, [.ref ty, .int (nI n), .int (nI (tK y n p)), .int (nI (tB y n p)), .int (nI (tE y n p)), .int (tW y n p t4)])) :: [ai ct ty 120 y]) (rest := [.int (nI k)]) F (kJ0_length_8abf5 l dC dI ct K rf i hi) gX2_isWord_J0_length_8abf5 rfl ⟨rfl, rfl⟩ nmJ0_length_8abf5 ⟨Nat.le_of_ble_eq_true rfl, Nat.le_of_ble_eq_true rfl⟩ EQ_b (EQ_call hE hS hz [] rfl) hK hP hD hS hA (rcv (hE.2.2.1.2.2.2.2 i hi).1 hz hS) rfl rfl hl.1 (Nat.le_of_ble_eq_true rfl) dX2_isWord_30 ⟨Nat.zero_le _, Nat.zero_le _⟩ [sc, ty] rfl (fun r_30 H locs e_30 hP hD hS => ?_)
        obtain rfl := e_30
        refine lv_icmp_ge (tgt := 63) F.1 F.2.1 dX2_isWord_33 (by decide) (fun c_33 => ?_) (fun c_33 => ?_)
        · exact absurd c_33 (nI_ge hk_k (by omega))
        · refine lv_aload_n F.1 F.2.1 dX2_isWord_36 rfl (lv_at hl 1 rfl) ?_
          refine gf F hK hP 0 rfl rfl hiX2_isWord_2 0 (by decide) (List.mem_of_getElem? (i := 4) rfl) rfl dX2_isWord_37 ?_
          refine lv_aload_n F.1 F.2.1 dX2_isWord_40 rfl (lv_at hl 1 rfl) ?_
          refine gf F hK hP 0 rfl rfl hiX2_isWord_2 3 (by decide) (List.mem_of_getElem? (i := 3) rfl) rfl dX2_isWord_41 ?_
          refine lv_iload_n F.1 F.2.1 dX2_isWord_44 rfl (lv_at hl 0 rfl) ?_
          refine lv_iadd F.1 F.2.1 dX2_isWord_45 ?_
          refine tp (y := nI (tB y n p + k)) (ad2 (a := tB y n p) (b := k) (c := tB y n p + k) rfl rfl rfl) ?_
          refine al (v := y (tB y n p + k)) F hK hP 1 0 rfl rfl (tB y n p + k) rfl (by omega) (by decide) rfl dX2_isWord_46 ?_
          refine lv_aload_n F.1 F.2.1 dX2_isWord_47 rfl (lv_at hl 2 rfl) ?_
          refine lv_iload_n F.1 F.2.1 dX2_isWord_48 rfl (lv_at hl 0 rfl) ?_
          refine iVk (ws := (sc, .inr (2, [.ref ty, .int (nI n), .int (nI (tK y n p)), .int (nI (tB y n p)), .int (nI (tE y n p)), .int (tW y n p t4)])) :: [ai ct ty 120 y]) (rest := [.int (y (tB y n p + k))]) F (kJ0_charAt_5068e l dC dI ct K rf i k hi hk_k) gX2_isWord_J0_charAt_5068e rfl ⟨rfl, rfl⟩ nmJ0_charAt_5068e ⟨Nat.le_of_ble_eq_true rfl, Nat.le_of_ble_eq_true rfl⟩ EQ_b (EQ_call hE hS hz [] rfl) hK hP hD hS hA (rcv (hE.2.2.1.2.2.2.2 i hi).1 hz hS) rfl rfl hl.1 (Nat.le_of_ble_eq_true rfl) dX2_isWord_49 ⟨Nat.zero_le _, Nat.zero_le _⟩ [sc, ty] rfl (fun r_49 H locs e_49 hP hD hS => ?_)
          obtain rfl := e_49
          refine lv_icmp_eq (tgt := 57) F.1 F.2.1 dX2_isWord_52 (by decide) (fun c_52 => ?_) (fun c_52 => ?_)
          · refine lv_iinc (v := nI (k + 1)) (lv' := [(2, .int (nI (k + 1))), (0, .ref sc), (1, .ref (kS K i))]) F.1 F.2.1 dX2_isWord_57 hl (k := 0) rfl (by rw [show Int32.ofInt 1 = nI 1 from rfl, nI_add]) (by decide) rfl (fun ls hl => ?_)
            refine lv_goto (tgt := 28) F.1 F.2.1 dX2_isWord_60 (by decide) ?_
            exact ih_28 _ _ _ ⟨hP, hD, hS, lv_sub hl [0, 1, 2] rfl, (al_S hx c_52)⟩
          · refine lv_iconst (v := 0) F.1 F.2.1 dX2_isWord_55 (by decide) ?_
            exact rtZ () F hr hlk hP hS rfl ((if_neg (fun q => c_52 ((iwB_iff.mp q).2.2 k hk_k))).symm) (Or.inl rfl) dX2_isWord_56
    · refine lv_iconst (v := 0) F.1 F.2.1 dX2_isWord_24 (by decide) ?_
      exact rtZ () F hr hlk hP hS rfl ((if_neg (fun q => c_21 (by rw [(iwB_iff.mp q).2.1]))).symm) (Or.inl rfl) dX2_isWord_25
