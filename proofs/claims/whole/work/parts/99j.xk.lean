def rmJ6_bitCount_0f7a4 : Room := { frames := 0, cells := 0, slots := 0, locals := 0 }
theorem nmJ6_bitCount_0f7a4 : NmV yJ6_bitCount_0f7a4 RJ6 1 := by unfold NmV; decide +kernel
set_option maxHeartbeats 4000000 in
set_option maxRecDepth 100000 in
theorem kJ6_bitCount_0f7a4 (l : Launch) (dC : Nat → ClassId) (dI : Nat → Nat → Nat) (ct : Nat → ClassId) (w : Int32) : MI (S := Unit) l yJ6_bitCount_0f7a4 wsJ6_bitCount_0f7a4 rmJ6_bitCount_0f7a4 dC dI ct eT [.int w] ([] : va_W) (fun _ => ([] : va_W)) (fun r _ => r = bcF w) := by
  refine MI.ofF (cc := cJ6_bitCount_0f7a4) (maxL := 1) (ret := (some .int)) (by decide +kernel) rfl (Nat.le_of_ble_eq_true rfl) ?_
  intro pg en z mi below meth cd A F hr hlk hin hK hP hD hA hS hE ls hl
  have F : CallFix pg mi cd cJ6_bitCount_0f7a4 1 z _ wsJ6_bitCount_0f7a4 RJ6 := F
  have hl : lv_has ls 1 [(0, .int w)] := hl
  refine lv_iload_n F.1 F.2.1 dJ6_bitCount_0f7a4_0 rfl (lv_at hl 0 rfl) ?_
  refine lv_iload_n F.1 F.2.1 dJ6_bitCount_0f7a4_1 rfl (lv_at hl 0 rfl) ?_
  refine lv_iconst (v := 1) F.1 F.2.1 dJ6_bitCount_0f7a4_2 (by decide) ?_
  refine lv_iushr F.1 F.2.1 dJ6_bitCount_0f7a4_3 rfl ?_
  refine lv_ldcw (v := (1431655765)) F.1 F.2.1 F.2.2.2.1 (F.2.2.2.2 _ (List.mem_of_getElem? (i := 1) rfl)) dJ6_bitCount_0f7a4_4 ?_
  refine lv_iand F.1 F.2.1 dJ6_bitCount_0f7a4_7 ?_
  refine lv_isub F.1 F.2.1 dJ6_bitCount_0f7a4_8 ?_
  refine lv_istore_n (lv' := [(0, .int (w - (((w.toUInt32 >>> ((1 : Int32).toUInt32 &&& Int32.toUInt32 31)).toInt32) &&& (1431655765))))]) F.1 F.2.1 dJ6_bitCount_0f7a4_9 rfl hl (by decide) rfl (fun ls hl => ?_)
  refine lv_iload_n F.1 F.2.1 dJ6_bitCount_0f7a4_10 rfl (lv_at hl 0 rfl) ?_
  refine lv_ldcw (v := (858993459)) F.1 F.2.1 F.2.2.2.1 (F.2.2.2.2 _ (List.mem_of_getElem? (i := 2) rfl)) dJ6_bitCount_0f7a4_11 ?_
  refine lv_iand F.1 F.2.1 dJ6_bitCount_0f7a4_14 ?_
  refine lv_iload_n F.1 F.2.1 dJ6_bitCount_0f7a4_15 rfl (lv_at hl 0 rfl) ?_
  refine lv_iconst (v := 2) F.1 F.2.1 dJ6_bitCount_0f7a4_16 (by decide) ?_
  refine lv_iushr F.1 F.2.1 dJ6_bitCount_0f7a4_17 rfl ?_
  refine lv_ldcw (v := (858993459)) F.1 F.2.1 F.2.2.2.1 (F.2.2.2.2 _ (List.mem_of_getElem? (i := 2) rfl)) dJ6_bitCount_0f7a4_18 ?_
  refine lv_iand F.1 F.2.1 dJ6_bitCount_0f7a4_21 ?_
  refine lv_iadd F.1 F.2.1 dJ6_bitCount_0f7a4_22 ?_
  refine lv_istore_n (lv' := [(0, .int (((w - (((w.toUInt32 >>> ((1 : Int32).toUInt32 &&& Int32.toUInt32 31)).toInt32) &&& (1431655765))) &&& (858993459)) + ((((w - (((w.toUInt32 >>> ((1 : Int32).toUInt32 &&& Int32.toUInt32 31)).toInt32) &&& (1431655765))).toUInt32 >>> ((2 : Int32).toUInt32 &&& Int32.toUInt32 31)).toInt32) &&& (858993459))))]) F.1 F.2.1 dJ6_bitCount_0f7a4_23 rfl hl (by decide) rfl (fun ls hl => ?_)
  refine lv_iload_n F.1 F.2.1 dJ6_bitCount_0f7a4_24 rfl (lv_at hl 0 rfl) ?_
  refine lv_iload_n F.1 F.2.1 dJ6_bitCount_0f7a4_25 rfl (lv_at hl 0 rfl) ?_
  refine lv_iconst (v := 4) F.1 F.2.1 dJ6_bitCount_0f7a4_26 (by decide) ?_
  refine lv_iushr F.1 F.2.1 dJ6_bitCount_0f7a4_27 rfl ?_
  refine lv_iadd F.1 F.2.1 dJ6_bitCount_0f7a4_28 ?_
  refine lv_ldcw (v := (252645135)) F.1 F.2.1 F.2.2.2.1 (F.2.2.2.2 _ (List.mem_of_getElem? (i := 3) rfl)) dJ6_bitCount_0f7a4_29 ?_
  refine lv_iand F.1 F.2.1 dJ6_bitCount_0f7a4_32 ?_
  refine lv_istore_n (lv' := [(0, .int (((((w - (((w.toUInt32 >>> ((1 : Int32).toUInt32 &&& Int32.toUInt32 31)).toInt32) &&& (1431655765))) &&& (858993459)) + ((((w - (((w.toUInt32 >>> ((1 : Int32).toUInt32 &&& Int32.toUInt32 31)).toInt32) &&& (1431655765))).toUInt32 >>> ((2 : Int32).toUInt32 &&& Int32.toUInt32 31)).toInt32) &&& (858993459))) + (((((w - (((w.toUInt32 >>> ((1 : Int32).toUInt32 &&& Int32.toUInt32 31)).toInt32) &&& (1431655765))) &&& (858993459)) + ((((w - (((w.toUInt32 >>> ((1 : Int32).toUInt32 &&& Int32.toUInt32 31)).toInt32) &&& (1431655765))).toUInt32 >>> ((2 : Int32).toUInt32 &&& Int32.toUInt32 31)).toInt32) &&& (858993459))).toUInt32 >>> ((4 : Int32).toUInt32 &&& Int32.toUInt32 31)).toInt32)) &&& (252645135)))]) F.1 F.2.1 dJ6_bitCount_0f7a4_33 rfl hl (by decide) rfl (fun ls hl => ?_)
  refine lv_iload_n F.1 F.2.1 dJ6_bitCount_0f7a4_34 rfl (lv_at hl 0 rfl) ?_
  refine lv_iload_n F.1 F.2.1 dJ6_bitCount_0f7a4_35 rfl (lv_at hl 0 rfl) ?_
  refine lv_bipush (v := 8) F.1 F.2.1 dJ6_bitCount_0f7a4_36 (by decide) ?_
  refine lv_iushr F.1 F.2.1 dJ6_bitCount_0f7a4_38 rfl ?_
  refine lv_iadd F.1 F.2.1 dJ6_bitCount_0f7a4_39 ?_
  refine lv_istore_n (lv' := [(0, .int ((((((w - (((w.toUInt32 >>> ((1 : Int32).toUInt32 &&& Int32.toUInt32 31)).toInt32) &&& (1431655765))) &&& (858993459)) + ((((w - (((w.toUInt32 >>> ((1 : Int32).toUInt32 &&& Int32.toUInt32 31)).toInt32) &&& (1431655765))).toUInt32 >>> ((2 : Int32).toUInt32 &&& Int32.toUInt32 31)).toInt32) &&& (858993459))) + (((((w - (((w.toUInt32 >>> ((1 : Int32).toUInt32 &&& Int32.toUInt32 31)).toInt32) &&& (1431655765))) &&& (858993459)) + ((((w - (((w.toUInt32 >>> ((1 : Int32).toUInt32 &&& Int32.toUInt32 31)).toInt32) &&& (1431655765))).toUInt32 >>> ((2 : Int32).toUInt32 &&& Int32.toUInt32 31)).toInt32) &&& (858993459))).toUInt32 >>> ((4 : Int32).toUInt32 &&& Int32.toUInt32 31)).toInt32)) &&& (252645135)) + (((((((w - (((w.toUInt32 >>> ((1 : Int32).toUInt32 &&& Int32.toUInt32 31)).toInt32) &&& (1431655765))) &&& (858993459)) + ((((w - (((w.toUInt32 >>> ((1 : Int32).toUInt32 &&& Int32.toUInt32 31)).toInt32) &&& (1431655765))).toUInt32 >>> ((2 : Int32).toUInt32 &&& Int32.toUInt32 31)).toInt32) &&& (858993459))) + (((((w - (((w.toUInt32 >>> ((1 : Int32).toUInt32 &&& Int32.toUInt32 31)).toInt32) &&& (1431655765))) &&& (858993459)) + ((((w - (((w.toUInt32 >>> ((1 : Int32).toUInt32 &&& Int32.toUInt32 31)).toInt32) &&& (1431655765))).toUInt32 >>> ((2 : Int32).toUInt32 &&& Int32.toUInt32 31)).toInt32) &&& (858993459))).toUInt32 >>> ((4 : Int32).toUInt32 &&& Int32.toUInt32 31)).toInt32)) &&& (252645135)).toUInt32 >>> ((8 : Int32).toUInt32 &&& Int32.toUInt32 31)).toInt32)))]) F.1 F.2.1 dJ6_bitCount_0f7a4_40 rfl hl (by decide) rfl (fun ls hl => ?_)
  refine lv_iload_n F.1 F.2.1 dJ6_bitCount_0f7a4_41 rfl (lv_at hl 0 rfl) ?_
  refine lv_iload_n F.1 F.2.1 dJ6_bitCount_0f7a4_42 rfl (lv_at hl 0 rfl) ?_
  refine lv_bipush (v := 16) F.1 F.2.1 dJ6_bitCount_0f7a4_43 (by decide) ?_
  refine lv_iushr F.1 F.2.1 dJ6_bitCount_0f7a4_45 rfl ?_
  refine lv_iadd F.1 F.2.1 dJ6_bitCount_0f7a4_46 ?_
  refine lv_istore_n (lv' := [(0, .int (((((((w - (((w.toUInt32 >>> ((1 : Int32).toUInt32 &&& Int32.toUInt32 31)).toInt32) &&& (1431655765))) &&& (858993459)) + ((((w - (((w.toUInt32 >>> ((1 : Int32).toUInt32 &&& Int32.toUInt32 31)).toInt32) &&& (1431655765))).toUInt32 >>> ((2 : Int32).toUInt32 &&& Int32.toUInt32 31)).toInt32) &&& (858993459))) + (((((w - (((w.toUInt32 >>> ((1 : Int32).toUInt32 &&& Int32.toUInt32 31)).toInt32) &&& (1431655765))) &&& (858993459)) + ((((w - (((w.toUInt32 >>> ((1 : Int32).toUInt32 &&& Int32.toUInt32 31)).toInt32) &&& (1431655765))).toUInt32 >>> ((2 : Int32).toUInt32 &&& Int32.toUInt32 31)).toInt32) &&& (858993459))).toUInt32 >>> ((4 : Int32).toUInt32 &&& Int32.toUInt32 31)).toInt32)) &&& (252645135)) + (((((((w - (((w.toUInt32 >>> ((1 : Int32).toUInt32 &&& Int32.toUInt32 31)).toInt32) &&& (1431655765))) &&& (858993459)) + ((((w - (((w.toUInt32 >>> ((1 : Int32).toUInt32 &&& Int32.toUInt32 31)).toInt32) &&& (1431655765))).toUInt32 >>> ((2 : Int32).toUInt32 &&& Int32.toUInt32 31)).toInt32) &&& (858993459))) + (((((w - (((w.toUInt32 >>> ((1 : Int32).toUInt32 &&& Int32.toUInt32 31)).toInt32) &&& (1431655765))) &&& (858993459)) + ((((w - (((w.toUInt32 >>> ((1 : Int32).toUInt32 &&& Int32.toUInt32 31)).toInt32) &&& (1431655765))).toUInt32 >>> ((2 : Int32).toUInt32 &&& Int32.toUInt32 31)).toInt32) &&& (858993459))).toUInt32 >>> ((4 : Int32).toUInt32 &&& Int32.toUInt32 31)).toInt32)) &&& (252645135)).toUInt32 >>> ((8 : Int32).toUInt32 &&& Int32.toUInt32 31)).toInt32)) + ((((((((w - (((w.toUInt32 >>> ((1 : Int32).toUInt32 &&& Int32.toUInt32 31)).toInt32) &&& (1431655765))) &&& (858993459)) + ((((w - (((w.toUInt32 >>> ((1 : Int32).toUInt32 &&& Int32.toUInt32 31)).toInt32) &&& (1431655765))).toUInt32 >>> ((2 : Int32).toUInt32 &&& Int32.toUInt32 31)).toInt32) &&& (858993459))) + (((((w - (((w.toUInt32 >>> ((1 : Int32).toUInt32 &&& Int32.toUInt32 31)).toInt32) &&& (1431655765))) &&& (858993459)) + ((((w - (((w.toUInt32 >>> ((1 : Int32).toUInt32 &&& Int32.toUInt32 31)).toInt32) &&& (1431655765))).toUInt32 >>> ((2 : Int32).toUInt32 &&& Int32.toUInt32 31)).toInt32) &&& (858993459))).toUInt32 >>> ((4 : Int32).toUInt32 &&& Int32.toUInt32 31)).toInt32)) &&& (252645135)) + (((((((w - (((w.toUInt32 >>> ((1 : Int32).toUInt32 &&& Int32.toUInt32 31)).toInt32) &&& (1431655765))) &&& (858993459)) + ((((w - (((w.toUInt32 >>> ((1 : Int32).toUInt32 &&& Int32.toUInt32 31)).toInt32) &&& (1431655765))).toUInt32 >>> ((2 : Int32).toUInt32 &&& Int32.toUInt32 31)).toInt32) &&& (858993459))) + (((((w - (((w.toUInt32 >>> ((1 : Int32).toUInt32 &&& Int32.toUInt32 31)).toInt32) &&& (1431655765))) &&& (858993459)) + ((((w - (((w.toUInt32 >>> ((1 : Int32).toUInt32 &&& Int32.toUInt32 31)).toInt32) &&& (1431655765))).toUInt32 >>> ((2 : Int32).toUInt32 &&& Int32.toUInt32 31)).toInt32) &&& (858993459))).toUInt32 >>> ((4 : Int32).toUInt32 &&& Int32.toUInt32 31)).toInt32)) &&& (252645135)).toUInt32 >>> ((8 : Int32).toUInt32 &&& Int32.toUInt32 31)).toInt32)).toUInt32 >>> ((16 : Int32).toUInt32 &&& Int32.toUInt32 31)).toInt32)))]) F.1 F.2.1 dJ6_bitCount_0f7a4_47 rfl hl (by decide) rfl (fun ls hl => ?_)
  refine lv_iload_n F.1 F.2.1 dJ6_bitCount_0f7a4_48 rfl (lv_at hl 0 rfl) ?_
  refine lv_bipush (v := 63) F.1 F.2.1 dJ6_bitCount_0f7a4_49 (by decide) ?_
  refine lv_iand F.1 F.2.1 dJ6_bitCount_0f7a4_51 ?_
  exact rtI () F hr hlk hP hS rfl rfl dJ6_bitCount_0f7a4_52

def rmX5_known : Room := { frames := 6, cells := 0, slots := 0, locals := 140 }
theorem nmX5_known : NmV yX5_known RX5 1 := by unfold NmV; decide +kernel
set_option maxHeartbeats 4000000 in
set_option maxRecDepth 100000 in
theorem kX5_known (l : Launch) (dC : Nat → ClassId) (dI : Nat → Nat → Nat) (ct : Nat → ClassId) (x st kt sc sh fo bk sp : Nat) (tr b rw : Nat → Nat) (ik zz : Int32) (f c g w : Nat → Int32) (x1 : Int32) (hRg : Rg f) (hB : BkR f g) (hRB : RB f) : MI (S := (Nat → Int32) × (Nat → Int32) × (Nat → Int32)) l yX5_known wsX5_known rmX5_known dC dI ct eT [.ref x, .int x1] ((x, .inr (5, [.ref st, .ref kt, .int ik, .ref (tr 0), .ref sc, .ref sh, .ref fo])) :: (st, .inr (4, [.ref (b 0), .ref bk, .ref sp, .int zz])) :: (wB ct b f ++ (wB ct tr w ++ (wR ct bk rw (nI (nN f % 12)) (nI (min 12 (nN f))) g ++ [ai ct fo 7 (fun j => c (j + 1))])))) (fun u => (x, .inr (5, [.ref st, .ref kt, .int ik, .ref (tr 0), .ref sc, .ref sh, .ref fo])) :: (st, .inr (4, [.ref (b 0), .ref bk, .ref sp, .int zz])) :: (wB ct b u.1 ++ (wB ct tr u.2.2 ++ (wR ct bk rw (nI (nN u.1 % 12)) (nI (min 12 (nN u.1))) g ++ [ai ct fo 7 (fun j => u.2.1 (j + 1))])))) (fun r u => (r, u.1, u.2.1) = sKnown f c x1 ∧ u.1 = f) := by
  refine MI.of (cc := cX5_known) (maxL := 6) (ret := (some .int)) (by decide) rfl (Nat.le_of_ble_eq_true rfl) ?_
  intro pg en z mi below meth cd A F hr hlk hin hK hP hD hA hS hE ls hl
  have F : CallFix pg mi cd cX5_known 6 z _ wsX5_known RX5 := F
  have hl : lv_has ls 6 [(0, .ref x), (1, .int x1)] := hl
  refine lv_iload_n F.1 F.2.1 dX5_known_0 rfl (lv_at hl 1 rfl) ?_
  refine iS (rest := []) (wsp := fun _ => (x, .inr (5, [.ref st, .ref kt, .int ik, .ref (tr 0), .ref sc, .ref sh, .ref fo])) :: (st, .inr (4, [.ref (b 0), .ref bk, .ref sp, .int zz])) :: (wB ct b f ++ (wB ct tr w ++ (wR ct bk rw (nI (nN f % 12)) (nI (min 12 (nN f))) g ++ [ai ct fo 7 (fun j => c (j + 1))])))) F (kX5_isSide l dC dI ct x1) gX5_known_X5_isSide rfl ⟨rfl, rfl⟩ nmX5_isSide ⟨Nat.le_of_ble_eq_true rfl, Nat.le_of_ble_eq_true rfl⟩ eT_b (fun _ _ _ => trivial) hK hP hD hS hA [] (by decide) rfl rfl rfl hl.1 (Nat.le_of_ble_eq_true rfl) dX5_known_1 ⟨Nat.zero_le _, Nat.zero_le _⟩ (fun _ => rfl) (fun _ => rfl) [x, st, b 0, b 1, b 2, b 3, b 4, b 5, b 6, tr 0, tr 1, tr 2, tr 3, tr 4, tr 5, tr 6, bk, rw 12, rw 0, rw 1, rw 2, rw 3, rw 4, rw 5, rw 6, rw 7, rw 8, rw 9, rw 10, rw 11, fo] rfl (fun _ => rfl) (fun r_1 u_1 H locs e_1 hP hD hS => ?_)
  obtain rfl := e_1
  refine lv_if_ne (tgt := 13) F.1 F.2.1 dX5_known_4 (by decide) (fun c_4 => ?_) (fun c_4 => ?_)
  · have c_4 : 0 ≤ x1 ∧ x1 ≤ 1 := b01t rfl c_4
    obtain ⟨s, hs, rfl⟩ := gS_n c_4
    refine lv_iconst (v := 0) F.1 F.2.1 dX5_known_13 (by decide) ?_
    refine lv_istore_n (lv' := [(2, .int 0), (0, .ref x), (1, .int (nI s))]) F.1 F.2.1 dX5_known_14 rfl hl (by decide) rfl (fun ls hl => ?_)
    refine lv_bipush (v := 22) F.1 F.2.1 dX5_known_15 (by decide) ?_
    refine lv_istore_n (lv' := [(3, .int 22), (2, .int 0), (0, .ref x), (1, .int (nI s))]) F.1 F.2.1 dX5_known_17 rfl hl (by decide) rfl (fun ls hl => ?_)
    refine lv_iconst (v := 0) F.1 F.2.1 dX5_known_18 (by decide) ?_
    refine lv_istore (lv' := [(4, .int 0), (3, .int 22), (2, .int 0), (0, .ref x), (1, .int (nI s))]) F.1 F.2.1 dX5_known_19 hl (by decide) rfl (fun ls hl => ?_)
    refine loopN (I := fun k H locs ls => ∃ u : Nat → Int32, va_P (dC, dI) vwCl ((x, .inr (5, [.ref st, .ref kt, .int ik, .ref (tr 0), .ref sc, .ref sh, .ref fo])) :: (st, .inr (4, [.ref (b 0), .ref bk, .ref sp, .int zz])) :: (wB ct b f ++ (wB ct tr u ++ (wR ct bk rw (nI (nN f % 12)) (nI (min 12 (nN f))) g ++ [ai ct fo 7 (fun j => c (j + 1))])))) H ∧ va_D A ((x, .inr (5, [.ref st, .ref kt, .int ik, .ref (tr 0), .ref sc, .ref sh, .ref fo])) :: (st, .inr (4, [.ref (b 0), .ref bk, .ref sp, .int zz])) :: (wB ct b f ++ (wB ct tr u ++ (wR ct bk rw (nI (nN f % 12)) (nI (min 12 (nN f))) g ++ [ai ct fo 7 (fun j => c (j + 1))])))) ∧ va_S A z.heap H locs ∧ lv_has ls 6 [(4, .int (nI k)), (3, .int ((knX f s k).2)), (2, .int ((knX f s k).1)), (0, .ref x), (1, .int (nI s))]) 5 0 (by omega) ⟨w, hP, hD, hS, lv_sub hl [0, 1, 2, 3, 4] rfl⟩ (fun H locs ls hI => ?_) (fun k hk_k H locs ls hI ih_21 => ?_)
    · obtain ⟨u, hP, hD, hS, hl⟩ := hI
      refine lv_iload F.1 F.2.1 dX5_known_21 (lv_at hl 0 rfl) ?_
      refine lv_iconst (v := 5) F.1 F.2.1 dX5_known_23 (by decide) ?_
      refine lv_icmp_ge (tgt := 57) F.1 F.2.1 dX5_known_24 (by decide) (fun c_24 => ?_) (fun c_24 => ?_)
      · refine lv_iload_n F.1 F.2.1 dX5_known_57 rfl (lv_at hl 2 rfl) ?_
        exact rtI (f, c, u) F hr hlk hP hS rfl (⟨Eq.trans (by rw [show tn (nI s) = s from nI_clamp (by omega)]; unfold kKnown; rw [kn5]) (if_pos c_4).symm, rfl⟩) dX5_known_58
      · exact absurd (nI_le (Nat.le_refl _) (by decide)) c_24
    · obtain ⟨u, hP, hD, hS, hl⟩ := hI
      refine lv_iload F.1 F.2.1 dX5_known_21 (lv_at hl 0 rfl) ?_
      refine lv_iconst (v := 5) F.1 F.2.1 dX5_known_23 (by decide) ?_
      refine lv_icmp_ge (tgt := 57) F.1 F.2.1 dX5_known_24 (by decide) (fun c_24 => ?_) (fun c_24 => ?_)
      · exact absurd c_24 (nI_ge hk_k (by decide))
      · refine lv_aload_n F.1 F.2.1 dX5_known_27 rfl (lv_at hl 3 rfl) ?_
        refine lv_iload_n F.1 F.2.1 dX5_known_28 rfl (lv_at hl 4 rfl) ?_
        refine lv_iload F.1 F.2.1 dX5_known_29 (lv_at hl 0 rfl) ?_
        refine iV (rest := []) (wsp := fun u_31 => (x, .inr (5, [.ref st, .ref kt, .int ik, .ref (tr 0), .ref sc, .ref sh, .ref fo])) :: (st, .inr (4, [.ref (b 0), .ref bk, .ref sp, .int zz])) :: (wB ct b f ++ (wB ct tr u_31 ++ (wR ct bk rw (nI (nN f % 12)) (nI (min 12 (nN f))) g ++ [ai ct fo 7 (fun j => c (j + 1))])))) F (kX5_fittingWorths l dC dI ct x st kt sc sh fo bk sp tr b rw ik zz f g u s k (by omega) (by omega) hRg hB hRB) gX5_known_X5_fittingWorths rfl ⟨rfl, rfl⟩ nmX5_fittingWorths ⟨Nat.le_of_ble_eq_true rfl, Nat.le_of_ble_eq_true rfl⟩ eT_b (fun _ _ _ => trivial) hK hP hD hS hA 0 rfl rfl rfl [0, 1, 2, 3, 4, 5, 6, 7, 8, 9, 10, 11, 12, 13, 14, 15, 16, 17, 18, 19, 20, 21, 22, 23, 24, 25, 26, 27, 28, 29] (by decide) rfl rfl rfl hl.1 (Nat.le_of_ble_eq_true rfl) dX5_known_31 ⟨Nat.zero_le _, Nat.zero_le _⟩ (fun _ => rfl) (fun _ => by simp only [sA, List.cons_append, List.nil_append, List.set_cons_zero, List.set_cons_succ]) [x, st, b 0, b 1, b 2, b 3, b 4, b 5, b 6, tr 0, tr 1, tr 2, tr 3, tr 4, tr 5, tr 6, bk, rw 12, rw 0, rw 1, rw 2, rw 3, rw 4, rw 5, rw 6, rw 7, rw 8, rw 9, rw 10, rw 11, fo] rfl (fun _ => rfl) (fun r_31 u_31 H locs e_31 hP hD hS => ?_)
        obtain rfl := e_31
        refine iS (rest := []) (wsp := fun _ => (x, .inr (5, [.ref st, .ref kt, .int ik, .ref (tr 0), .ref sc, .ref sh, .ref fo])) :: (st, .inr (4, [.ref (b 0), .ref bk, .ref sp, .int zz])) :: (wB ct b f ++ (wB ct tr u_31 ++ (wR ct bk rw (nI (nN f % 12)) (nI (min 12 (nN f))) g ++ [ai ct fo 7 (fun j => c (j + 1))])))) F (kJ6_bitCount_0f7a4 l dC dI ct (fiU f s (32 + 17 * s + k) 21)) gX5_known_J6_bitCount_0f7a4 rfl ⟨rfl, rfl⟩ nmJ6_bitCount_0f7a4 ⟨Nat.le_of_ble_eq_true rfl, Nat.le_of_ble_eq_true rfl⟩ eT_b (fun _ _ _ => trivial) hK hP hD hS hA [] (by decide) rfl rfl rfl hl.1 (Nat.le_of_ble_eq_true rfl) dX5_known_34 ⟨Nat.zero_le _, Nat.zero_le _⟩ (fun _ => rfl) (fun _ => rfl) [x, st, b 0, b 1, b 2, b 3, b 4, b 5, b 6, tr 0, tr 1, tr 2, tr 3, tr 4, tr 5, tr 6, bk, rw 12, rw 0, rw 1, rw 2, rw 3, rw 4, rw 5, rw 6, rw 7, rw 8, rw 9, rw 10, rw 11, fo] rfl (fun _ => rfl) (fun r_34 u_34 H locs e_34 hP hD hS => ?_)
        obtain rfl := e_34
        refine tp (y := bcK f s k) rfl ?_
        refine lv_istore (lv' := [(5, .int (bcK f s k)), (4, .int (nI k)), (3, .int ((knX f s k).2)), (2, .int ((knX f s k).1)), (0, .ref x), (1, .int (nI s))]) F.1 F.2.1 dX5_known_37 hl (by decide) rfl (fun ls hl => ?_)
        refine lv_iload F.1 F.2.1 dX5_known_39 (lv_at hl 0 rfl) ?_
        refine lv_iload_n F.1 F.2.1 dX5_known_41 rfl (lv_at hl 2 rfl) ?_
        refine lv_icmp_ge (tgt := 51) F.1 F.2.1 dX5_known_42 (by decide) (fun c_42 => ?_) (fun c_42 => ?_)
        · refine lv_iinc (v := nI (k + 1)) (lv' := [(4, .int (nI (k + 1))), (5, .int (bcK f s k)), (3, .int ((knX f s k).2)), (2, .int ((knX f s k).1)), (0, .ref x), (1, .int (nI s))]) F.1 F.2.1 dX5_known_51 hl (k := 1) rfl (by rw [show Int32.ofInt 1 = nI 1 from rfl, nI_add]) (by decide) rfl (fun ls hl => ?_)
          refine lv_goto (tgt := 21) F.1 F.2.1 dX5_known_54 (by decide) ?_
          have eb : knX f s (k + 1) = knX f s k := if_neg (Int32.not_lt.mpr c_42)
          exact ih_21 _ _ _ ⟨u_31, hP, hD, hS, lv_sub hl [0, 2, 3, 4, 5] (by rw [eb]; rfl)⟩
        · refine lv_iload F.1 F.2.1 dX5_known_45 (lv_at hl 1 rfl) ?_
          refine lv_istore_n (lv' := [(2, .int (nI k)), (5, .int (bcK f s k)), (4, .int (nI k)), (3, .int ((knX f s k).2)), (0, .ref x), (1, .int (nI s))]) F.1 F.2.1 dX5_known_47 rfl hl (by decide) rfl (fun ls hl => ?_)
          refine lv_iload F.1 F.2.1 dX5_known_48 (lv_at hl 1 rfl) ?_
          refine lv_istore_n (lv' := [(3, .int (bcK f s k)), (2, .int (nI k)), (5, .int (bcK f s k)), (4, .int (nI k)), (0, .ref x), (1, .int (nI s))]) F.1 F.2.1 dX5_known_50 rfl hl (by decide) rfl (fun ls hl => ?_)
          refine lv_iinc (v := nI (k + 1)) (lv' := [(4, .int (nI (k + 1))), (3, .int (bcK f s k)), (2, .int (nI k)), (5, .int (bcK f s k)), (0, .ref x), (1, .int (nI s))]) F.1 F.2.1 dX5_known_51 hl (k := 3) rfl (by rw [show Int32.ofInt 1 = nI 1 from rfl, nI_add]) (by decide) rfl (fun ls hl => ?_)
          refine lv_goto (tgt := 21) F.1 F.2.1 dX5_known_54 (by decide) ?_
          have eb : knX f s (k + 1) = (nI k, bcK f s k) := if_pos (Int32.not_le.mp c_42)
          exact ih_21 _ _ _ ⟨u_31, hP, hD, hS, lv_sub hl [0, 1, 2, 4, 5] (by rw [eb]; rfl)⟩
  · have c_4 : ¬ (0 ≤ x1 ∧ x1 ≤ 1) := b01f rfl c_4
    refine lv_aload_n F.1 F.2.1 dX5_known_7 rfl (lv_at hl 0 rfl) ?_
    refine lv_iconst (v := 0) F.1 F.2.1 dX5_known_8 (by decide) ?_
    refine iV (rest := []) (wsp := fun _ => (x, .inr (5, [.ref st, .ref kt, .int ik, .ref (tr 0), .ref sc, .ref sh, .ref fo])) :: (st, .inr (4, [.ref (b 0), .ref bk, .ref sp, .int zz])) :: (wB ct b f ++ (wB ct tr w ++ (wR ct bk rw (nI (nN f % 12)) (nI (min 12 (nN f))) g ++ [ai ct fo 7 (fun j => (fnd c 1) (j + 1))])))) F (kX5_finding l dC dI ct x st kt sc sh fo tr ik c 0 1 (-1000001) (by decide) (by decide) (by decide)) gX5_known_X5_finding rfl ⟨rfl, rfl⟩ nmX5_finding ⟨Nat.le_of_ble_eq_true rfl, Nat.le_of_ble_eq_true rfl⟩ eT_b (fun _ _ _ => trivial) hK hP hD hS hA 0 rfl rfl rfl [0, 30] (by decide) rfl rfl rfl hl.1 (Nat.le_of_ble_eq_true rfl) dX5_known_9 ⟨Nat.zero_le _, Nat.zero_le _⟩ (fun _ => rfl) (fun _ => rfl) [x, st, b 0, b 1, b 2, b 3, b 4, b 5, b 6, tr 0, tr 1, tr 2, tr 3, tr 4, tr 5, tr 6, bk, rw 12, rw 0, rw 1, rw 2, rw 3, rw 4, rw 5, rw 6, rw 7, rw 8, rw 9, rw 10, rw 11, fo] rfl (fun _ => rfl) (fun r_9 u_9 H locs e_9 hP hD hS => ?_)
    obtain rfl := e_9
    exact rtI (f, (fnd c 1), w) F hr hlk hP hS rfl (⟨(if_neg c_4).symm, rfl⟩) dX5_known_12
