def rmX6_sheet : Room := { frames := 2, cells := 0, slots := 0, locals := 42 }
theorem nmX6_sheet : NmV yX6_sheet RX6 3 := by unfold NmV; decide +kernel
theorem hiX6_sheet_6 : ∀ w ∈ u_ws RX6 TX6 22, w ∈ wsX6_sheet := by decide +kernel
set_option maxHeartbeats 4000000 in
set_option maxRecDepth 100000 in
theorem kX6_sheet (l : Launch) (dC : Nat → ClassId) (dI : Nat → Nat → Nat) (ct : Nat → ClassId) (a : Nat → Nat) (v wd sz nm c : Nat → Int32) (x1 x2 x3 : Int32) : MI (S := (Nat → Int32) × (Nat → Int32) × (Nat → Int32) × (Nat → Int32)) l yX6_sheet wsX6_sheet rmX6_sheet dC dI ct eT [.ref (a 0), .int x1, .int x2, .int x3] (oM a v :: ai ct (a 8) 4 wd :: ai ct (a 9) 4 sz :: ai ct (a 10) 160 nm :: [ai ct (a 4) 8 c]) (fun u => oM a v :: ai ct (a 8) 4 u.1 :: ai ct (a 9) 4 u.2.1 :: ai ct (a 10) 160 u.2.2.1 :: [ai ct (a 4) 8 u.2.2.2]) (fun r u => (r, u.1, u.2.1, u.2.2.1, u.2.2.2) = sSheet wd sz nm c x1 x2 x3) := by
  refine MI.of (cc := cX6_sheet) (maxL := 5) (ret := (some .int)) (by decide) rfl (Nat.le_of_ble_eq_true rfl) ?_
  intro pg en z mi below meth cd A F hr hlk hin hK hP hD hA hS hE ls hl
  have F : CallFix pg mi cd cX6_sheet 5 z _ wsX6_sheet RX6 := F
  have hl : lv_has ls 5 [(0, .ref (a 0)), (1, .int x1), (2, .int x2), (3, .int x3)] := hl
  refine lv_iload_n F.1 F.2.1 dX6_sheet_0 rfl (lv_at hl 1 rfl) ?_
  refine iS (rest := []) (wsp := fun _ => oM a v :: ai ct (a 8) 4 wd :: ai ct (a 9) 4 sz :: ai ct (a 10) 160 nm :: [ai ct (a 4) 8 c]) F (kX6_isSheet l dC dI ct x1) gX6_sheet_X6_isSheet rfl ⟨rfl, rfl⟩ nmX6_isSheet ⟨Nat.le_of_ble_eq_true rfl, Nat.le_of_ble_eq_true rfl⟩ eT_b (fun _ _ _ => trivial) hK hP hD hS hA [] (by decide) rfl rfl rfl hl.1 (Nat.le_of_ble_eq_true rfl) dX6_sheet_1 ⟨Nat.zero_le _, Nat.zero_le _⟩ (fun _ => rfl) (fun _ => rfl) [a 0, a 8, a 9, a 10, a 4] rfl (fun _ => rfl) (fun r_1 u_1 H locs e_1 hP hD hS => ?_)
  obtain rfl := e_1
  refine lv_if_eq (tgt := 29) F.1 F.2.1 dX6_sheet_4 (by decide) (fun c_4 => ?_) (fun c_4 => ?_)
  · have c_4 : ¬ (0 ≤ x1 ∧ x1 ≤ 3) := b01f rfl c_4
    refine lv_aload_n F.1 F.2.1 dX6_sheet_29 rfl (lv_at hl 0 rfl) ?_
    refine lv_ldc (v := (-1000001)) F.1 F.2.1 F.2.2.2.1 (F.2.2.2.2 _ (List.mem_of_getElem? (i := 1) rfl)) dX6_sheet_30 ?_
    refine iV (rest := []) (wsp := fun _ => oM a v :: ai ct (a 8) 4 wd :: ai ct (a 9) 4 sz :: ai ct (a 10) 160 nm :: [ai ct (a 4) 8 (fnd c 1)]) F (kX6_finding l dC dI ct a v c (-1000001) 1 (by decide) (by decide) (by decide)) gX6_sheet_X6_finding rfl ⟨rfl, rfl⟩ nmX6_finding ⟨Nat.le_of_ble_eq_true rfl, Nat.le_of_ble_eq_true rfl⟩ eT_b (fun _ _ _ => trivial) hK hP hD hS hA 0 rfl rfl rfl [0, 4] (by decide) rfl rfl rfl hl.1 (Nat.le_of_ble_eq_true rfl) dX6_sheet_32 ⟨Nat.zero_le _, Nat.zero_le _⟩ (fun _ => rfl) (fun _ => rfl) [a 0, a 8, a 9, a 10, a 4] rfl (fun _ => rfl) (fun r_32 u_32 H locs e_32 hP hD hS => ?_)
    obtain rfl := e_32
    exact rtI (wd, sz, nm, (fnd c 1)) F hr hlk hP hS rfl ((if_neg (fun q => c_4 q.1)).symm) dX6_sheet_35
  · have c_4 : 0 ≤ x1 ∧ x1 ≤ 3 := b01t rfl c_4
    obtain ⟨s, hs, rfl⟩ := gH_n c_4
    refine lv_iload_n F.1 F.2.1 dX6_sheet_7 rfl (lv_at hl 2 rfl) ?_
    refine lv_if_eq (tgt := 36) F.1 F.2.1 dX6_sheet_8 (by decide) (fun c_8 => ?_) (fun c_8 => ?_)
    · refine lv_iload_n F.1 F.2.1 dX6_sheet_36 rfl (lv_at hl 3 rfl) ?_
      refine lv_if_ge (tgt := 48) F.1 F.2.1 dX6_sheet_37 (by decide) (fun c_37 => ?_) (fun c_37 => ?_)
      · refine lv_iload_n F.1 F.2.1 dX6_sheet_48 rfl (lv_at hl 3 rfl) ?_
        refine lv_bipush (v := 40) F.1 F.2.1 dX6_sheet_49 (by decide) ?_
        refine lv_icmp_le (tgt := 61) F.1 F.2.1 dX6_sheet_51 (by decide) (fun c_51 => ?_) (fun c_51 => ?_)
        · refine lv_aload_n F.1 F.2.1 dX6_sheet_61 rfl (lv_at hl 0 rfl) ?_
          refine gf F hK hP 0 rfl rfl hiX6_sheet_6 18 (by decide) (List.mem_of_getElem? (i := 3) rfl) rfl dX6_sheet_62 ?_
          refine lv_iload_n F.1 F.2.1 dX6_sheet_65 rfl (lv_at hl 1 rfl) ?_
          refine lv_iload_n F.1 F.2.1 dX6_sheet_66 rfl (lv_at hl 2 rfl) ?_
          refine ast (ws' := oM a v :: ai ct (a 8) 4 (upd wd s x2) :: ai ct (a 9) 4 sz :: ai ct (a 10) 160 nm :: [ai ct (a 4) 8 c]) F hK hP hD hS 1 0 rfl rfl s rfl (by omega) (by decide) dX6_sheet_67 (weq.rf _) (fun H locs hP hD hS => ?_)
          refine lv_aload_n F.1 F.2.1 dX6_sheet_68 rfl (lv_at hl 0 rfl) ?_
          refine gf F hK hP 0 rfl rfl hiX6_sheet_6 19 (by decide) (List.mem_of_getElem? (i := 4) rfl) rfl dX6_sheet_69 ?_
          refine lv_iload_n F.1 F.2.1 dX6_sheet_72 rfl (lv_at hl 1 rfl) ?_
          refine lv_iload_n F.1 F.2.1 dX6_sheet_73 rfl (lv_at hl 2 rfl) ?_
          refine lv_if_ne (tgt := 81) F.1 F.2.1 dX6_sheet_74 (by decide) (fun c_74 => ?_) (fun c_74 => ?_)
          · exact absurd c_8 c_74
          · refine lv_iconst (v := 0) F.1 F.2.1 dX6_sheet_77 (by decide) ?_
            refine tp (y := if x2 = 0 then 0 else x3) ((if_pos c_74).symm) ?_
            refine lv_goto (tgt := 82) F.1 F.2.1 dX6_sheet_78 (by decide) ?_
            refine ast (ws' := oM a v :: ai ct (a 8) 4 (upd wd s x2) :: ai ct (a 9) 4 (upd sz s (if x2 = 0 then 0 else x3)) :: ai ct (a 10) 160 nm :: [ai ct (a 4) 8 c]) F hK hP hD hS 2 0 rfl rfl s rfl (by omega) (by decide) dX6_sheet_82 (weq.rf _) (fun H locs hP hD hS => ?_)
            refine lv_iconst (v := 0) F.1 F.2.1 dX6_sheet_83 (by decide) ?_
            refine lv_istore (lv' := [(4, .int 0), (0, .ref (a 0)), (1, .int (nI s)), (2, .int x2), (3, .int x3)]) F.1 F.2.1 dX6_sheet_84 hl (by decide) rfl (fun ls hl => ?_)
            rw [← zN_0 nm s] at hP hD
            refine loopN (I := fun k H locs ls => va_P (dC, dI) vwCl (oM a v :: ai ct (a 8) 4 (upd wd s x2) :: ai ct (a 9) 4 (upd sz s (if x2 = 0 then 0 else x3)) :: ai ct (a 10) 160 (zN nm s k) :: [ai ct (a 4) 8 c]) H ∧ va_D A (oM a v :: ai ct (a 8) 4 (upd wd s x2) :: ai ct (a 9) 4 (upd sz s (if x2 = 0 then 0 else x3)) :: ai ct (a 10) 160 (zN nm s k) :: [ai ct (a 4) 8 c]) ∧ va_S A z.heap H locs ∧ lv_has ls 5 [(4, .int (nI k)), (0, .ref (a 0)), (1, .int (nI s)), (2, .int x2), (3, .int x3)]) 40 0 (by omega) ⟨hP, hD, hS, lv_sub hl [0, 1, 2, 3, 4] rfl⟩ (fun H locs ls hI => ?_) (fun k hk_k H locs ls hI ih_86 => ?_)
            · obtain ⟨hP, hD, hS, hl⟩ := hI
              refine lv_iload F.1 F.2.1 dX6_sheet_86 (lv_at hl 0 rfl) ?_
              refine lv_bipush (v := 40) F.1 F.2.1 dX6_sheet_88 (by decide) ?_
              refine lv_icmp_ge (tgt := 112) F.1 F.2.1 dX6_sheet_90 (by decide) (fun c_90 => ?_) (fun c_90 => ?_)
              · refine lv_aload_n F.1 F.2.1 dX6_sheet_112 rfl (lv_at hl 1 rfl) ?_
                refine gf F hK hP 0 rfl rfl hiX6_sheet_6 19 (by decide) (List.mem_of_getElem? (i := 4) rfl) rfl dX6_sheet_113 ?_
                refine lv_iload_n F.1 F.2.1 dX6_sheet_116 rfl (lv_at hl 2 rfl) ?_
                refine al (v := (upd sz s (if x2 = 0 then 0 else x3)) s) F hK hP 2 0 rfl rfl s rfl (by omega) (by decide) rfl dX6_sheet_117 ?_
                refine tp (y := if x2 = 0 then 0 else x3) pk_us ?_
                exact rtI ((upd wd s x2), (upd sz s (if x2 = 0 then 0 else x3)), (zN nm s 40), c) F hr hlk hP hS rfl (Eq.trans (by rw [if_neg (Int32.not_lt.mpr c_37), if_neg (Int32.not_lt.mpr c_51), show tn (nI s) = s from nI_clamp (by omega)]; rfl) (if_pos ⟨c_4, Or.inl c_8⟩).symm) dX6_sheet_118
              · exact absurd (nI_le (Nat.le_refl _) (by decide)) c_90
            · obtain ⟨hP, hD, hS, hl⟩ := hI
              refine lv_iload F.1 F.2.1 dX6_sheet_86 (lv_at hl 0 rfl) ?_
              refine lv_bipush (v := 40) F.1 F.2.1 dX6_sheet_88 (by decide) ?_
              refine lv_icmp_ge (tgt := 112) F.1 F.2.1 dX6_sheet_90 (by decide) (fun c_90 => ?_) (fun c_90 => ?_)
              · exact absurd c_90 (nI_ge hk_k (by decide))
              · refine lv_aload_n F.1 F.2.1 dX6_sheet_93 rfl (lv_at hl 1 rfl) ?_
                refine gf F hK hP 0 rfl rfl hiX6_sheet_6 20 (by decide) (List.mem_of_getElem? (i := 5) rfl) rfl dX6_sheet_94 ?_
                refine lv_bipush (v := 40) F.1 F.2.1 dX6_sheet_97 (by decide) ?_
                refine lv_iload_n F.1 F.2.1 dX6_sheet_99 rfl (lv_at hl 2 rfl) ?_
                refine lv_imul F.1 F.2.1 dX6_sheet_100 ?_
                refine tp (y := nI (40 * s)) (ml2 (a := 40) (b := s) (c := 40 * s) rfl rfl rfl) ?_
                refine lv_iload F.1 F.2.1 dX6_sheet_101 (lv_at hl 0 rfl) ?_
                refine lv_iadd F.1 F.2.1 dX6_sheet_103 ?_
                refine tp (y := nI (40 * s + k)) (ad2 (a := 40 * s) (b := k) (c := 40 * s + k) rfl rfl rfl) ?_
                refine lv_iconst (v := 0) F.1 F.2.1 dX6_sheet_104 (by decide) ?_
                refine ast (ws' := oM a v :: ai ct (a 8) 4 (upd wd s x2) :: ai ct (a 9) 4 (upd sz s (if x2 = 0 then 0 else x3)) :: ai ct (a 10) 160 (upd (zN nm s k) (40 * s + k) 0) :: [ai ct (a 4) 8 c]) F hK hP hD hS 3 0 rfl rfl (40 * s + k) rfl (by omega) (by decide) dX6_sheet_105 (weq.rf _) (fun H locs hP hD hS => ?_)
                refine lv_iinc (v := nI (k + 1)) (lv' := [(4, .int (nI (k + 1))), (0, .ref (a 0)), (1, .int (nI s)), (2, .int x2), (3, .int x3)]) F.1 F.2.1 dX6_sheet_106 hl (k := 0) rfl (by rw [show Int32.ofInt 1 = nI 1 from rfl, nI_add]) (by decide) rfl (fun ls hl => ?_)
                refine lv_goto (tgt := 86) F.1 F.2.1 dX6_sheet_109 (by decide) ?_
                have eb : upd (zN nm s k) (40 * s + k) 0 = zN nm s (k + 1) := zN_S nm s k
                rw [eb] at hP hD
                exact ih_86 _ _ _ ⟨hP, hD, hS, lv_sub hl [0, 1, 2, 3, 4] rfl⟩
        · refine lv_aload_n F.1 F.2.1 dX6_sheet_54 rfl (lv_at hl 0 rfl) ?_
          refine lv_ldc (v := (-1000001)) F.1 F.2.1 F.2.2.2.1 (F.2.2.2.2 _ (List.mem_of_getElem? (i := 1) rfl)) dX6_sheet_55 ?_
          refine iV (rest := []) (wsp := fun _ => oM a v :: ai ct (a 8) 4 wd :: ai ct (a 9) 4 sz :: ai ct (a 10) 160 nm :: [ai ct (a 4) 8 (fnd c 1)]) F (kX6_finding l dC dI ct a v c (-1000001) 1 (by decide) (by decide) (by decide)) gX6_sheet_X6_finding rfl ⟨rfl, rfl⟩ nmX6_finding ⟨Nat.le_of_ble_eq_true rfl, Nat.le_of_ble_eq_true rfl⟩ eT_b (fun _ _ _ => trivial) hK hP hD hS hA 0 rfl rfl rfl [0, 4] (by decide) rfl rfl rfl hl.1 (Nat.le_of_ble_eq_true rfl) dX6_sheet_57 ⟨Nat.zero_le _, Nat.zero_le _⟩ (fun _ => rfl) (fun _ => rfl) [a 0, a 8, a 9, a 10, a 4] rfl (fun _ => rfl) (fun r_57 u_57 H locs e_57 hP hD hS => ?_)
          obtain rfl := e_57
          exact rtI (wd, sz, nm, (fnd c 1)) F hr hlk hP hS rfl (Eq.trans (by rw [if_neg (Int32.not_lt.mpr c_37), if_pos (Int32.not_le.mp c_51)]; rfl) (if_pos ⟨c_4, Or.inl c_8⟩).symm) dX6_sheet_60
      · refine lv_aload_n F.1 F.2.1 dX6_sheet_40 rfl (lv_at hl 0 rfl) ?_
        refine lv_ldcw (v := (-1000007)) F.1 F.2.1 F.2.2.2.1 (F.2.2.2.2 _ (List.mem_of_getElem? (i := 2) rfl)) dX6_sheet_41 ?_
        refine iV (rest := []) (wsp := fun _ => oM a v :: ai ct (a 8) 4 wd :: ai ct (a 9) 4 sz :: ai ct (a 10) 160 nm :: [ai ct (a 4) 8 (fnd c 7)]) F (kX6_finding l dC dI ct a v c (-1000007) 7 (by decide) (by decide) (by decide)) gX6_sheet_X6_finding rfl ⟨rfl, rfl⟩ nmX6_finding ⟨Nat.le_of_ble_eq_true rfl, Nat.le_of_ble_eq_true rfl⟩ eT_b (fun _ _ _ => trivial) hK hP hD hS hA 0 rfl rfl rfl [0, 4] (by decide) rfl rfl rfl hl.1 (Nat.le_of_ble_eq_true rfl) dX6_sheet_44 ⟨Nat.zero_le _, Nat.zero_le _⟩ (fun _ => rfl) (fun _ => rfl) [a 0, a 8, a 9, a 10, a 4] rfl (fun _ => rfl) (fun r_44 u_44 H locs e_44 hP hD hS => ?_)
        obtain rfl := e_44
        exact rtI (wd, sz, nm, (fnd c 7)) F hr hlk hP hS rfl (Eq.trans (by rw [if_pos (Int32.not_le.mp c_37)]; rfl) (if_pos ⟨c_4, Or.inl c_8⟩).symm) dX6_sheet_47
    · refine lv_iload_n F.1 F.2.1 dX6_sheet_11 rfl (lv_at hl 2 rfl) ?_
      refine lv_bipush (v := 8) F.1 F.2.1 dX6_sheet_12 (by decide) ?_
      refine lv_icmp_eq (tgt := 36) F.1 F.2.1 dX6_sheet_14 (by decide) (fun c_14 => ?_) (fun c_14 => ?_)
      · refine lv_iload_n F.1 F.2.1 dX6_sheet_36 rfl (lv_at hl 3 rfl) ?_
        refine lv_if_ge (tgt := 48) F.1 F.2.1 dX6_sheet_37 (by decide) (fun c_37 => ?_) (fun c_37 => ?_)
        · refine lv_iload_n F.1 F.2.1 dX6_sheet_48 rfl (lv_at hl 3 rfl) ?_
          refine lv_bipush (v := 40) F.1 F.2.1 dX6_sheet_49 (by decide) ?_
          refine lv_icmp_le (tgt := 61) F.1 F.2.1 dX6_sheet_51 (by decide) (fun c_51 => ?_) (fun c_51 => ?_)
          · refine lv_aload_n F.1 F.2.1 dX6_sheet_61 rfl (lv_at hl 0 rfl) ?_
            refine gf F hK hP 0 rfl rfl hiX6_sheet_6 18 (by decide) (List.mem_of_getElem? (i := 3) rfl) rfl dX6_sheet_62 ?_
            refine lv_iload_n F.1 F.2.1 dX6_sheet_65 rfl (lv_at hl 1 rfl) ?_
            refine lv_iload_n F.1 F.2.1 dX6_sheet_66 rfl (lv_at hl 2 rfl) ?_
            refine ast (ws' := oM a v :: ai ct (a 8) 4 (upd wd s x2) :: ai ct (a 9) 4 sz :: ai ct (a 10) 160 nm :: [ai ct (a 4) 8 c]) F hK hP hD hS 1 0 rfl rfl s rfl (by omega) (by decide) dX6_sheet_67 (weq.rf _) (fun H locs hP hD hS => ?_)
            refine lv_aload_n F.1 F.2.1 dX6_sheet_68 rfl (lv_at hl 0 rfl) ?_
            refine gf F hK hP 0 rfl rfl hiX6_sheet_6 19 (by decide) (List.mem_of_getElem? (i := 4) rfl) rfl dX6_sheet_69 ?_
            refine lv_iload_n F.1 F.2.1 dX6_sheet_72 rfl (lv_at hl 1 rfl) ?_
            refine lv_iload_n F.1 F.2.1 dX6_sheet_73 rfl (lv_at hl 2 rfl) ?_
            refine lv_if_ne (tgt := 81) F.1 F.2.1 dX6_sheet_74 (by decide) (fun c_74 => ?_) (fun c_74 => ?_)
            · refine lv_iload_n F.1 F.2.1 dX6_sheet_81 rfl (lv_at hl 3 rfl) ?_
              refine tp (y := if x2 = 0 then 0 else x3) ((if_neg c_74).symm) ?_
              refine ast (ws' := oM a v :: ai ct (a 8) 4 (upd wd s x2) :: ai ct (a 9) 4 (upd sz s (if x2 = 0 then 0 else x3)) :: ai ct (a 10) 160 nm :: [ai ct (a 4) 8 c]) F hK hP hD hS 2 0 rfl rfl s rfl (by omega) (by decide) dX6_sheet_82 (weq.rf _) (fun H locs hP hD hS => ?_)
              refine lv_iconst (v := 0) F.1 F.2.1 dX6_sheet_83 (by decide) ?_
              refine lv_istore (lv' := [(4, .int 0), (0, .ref (a 0)), (1, .int (nI s)), (2, .int x2), (3, .int x3)]) F.1 F.2.1 dX6_sheet_84 hl (by decide) rfl (fun ls hl => ?_)
              rw [← zN_0 nm s] at hP hD
              refine loopN (I := fun k H locs ls => va_P (dC, dI) vwCl (oM a v :: ai ct (a 8) 4 (upd wd s x2) :: ai ct (a 9) 4 (upd sz s (if x2 = 0 then 0 else x3)) :: ai ct (a 10) 160 (zN nm s k) :: [ai ct (a 4) 8 c]) H ∧ va_D A (oM a v :: ai ct (a 8) 4 (upd wd s x2) :: ai ct (a 9) 4 (upd sz s (if x2 = 0 then 0 else x3)) :: ai ct (a 10) 160 (zN nm s k) :: [ai ct (a 4) 8 c]) ∧ va_S A z.heap H locs ∧ lv_has ls 5 [(4, .int (nI k)), (0, .ref (a 0)), (1, .int (nI s)), (2, .int x2), (3, .int x3)]) 40 0 (by omega) ⟨hP, hD, hS, lv_sub hl [0, 1, 2, 3, 4] rfl⟩ (fun H locs ls hI => ?_) (fun k hk_k H locs ls hI ih_86 => ?_)
              · obtain ⟨hP, hD, hS, hl⟩ := hI
                refine lv_iload F.1 F.2.1 dX6_sheet_86 (lv_at hl 0 rfl) ?_
                refine lv_bipush (v := 40) F.1 F.2.1 dX6_sheet_88 (by decide) ?_
                refine lv_icmp_ge (tgt := 112) F.1 F.2.1 dX6_sheet_90 (by decide) (fun c_90 => ?_) (fun c_90 => ?_)
                · refine lv_aload_n F.1 F.2.1 dX6_sheet_112 rfl (lv_at hl 1 rfl) ?_
                  refine gf F hK hP 0 rfl rfl hiX6_sheet_6 19 (by decide) (List.mem_of_getElem? (i := 4) rfl) rfl dX6_sheet_113 ?_
                  refine lv_iload_n F.1 F.2.1 dX6_sheet_116 rfl (lv_at hl 2 rfl) ?_
                  refine al (v := (upd sz s (if x2 = 0 then 0 else x3)) s) F hK hP 2 0 rfl rfl s rfl (by omega) (by decide) rfl dX6_sheet_117 ?_
                  refine tp (y := if x2 = 0 then 0 else x3) pk_us ?_
                  exact rtI ((upd wd s x2), (upd sz s (if x2 = 0 then 0 else x3)), (zN nm s 40), c) F hr hlk hP hS rfl (Eq.trans (by rw [if_neg (Int32.not_lt.mpr c_37), if_neg (Int32.not_lt.mpr c_51), show tn (nI s) = s from nI_clamp (by omega)]; rfl) (if_pos ⟨c_4, Or.inr (Or.inl c_14)⟩).symm) dX6_sheet_118
                · exact absurd (nI_le (Nat.le_refl _) (by decide)) c_90
              · obtain ⟨hP, hD, hS, hl⟩ := hI
                refine lv_iload F.1 F.2.1 dX6_sheet_86 (lv_at hl 0 rfl) ?_
                refine lv_bipush (v := 40) F.1 F.2.1 dX6_sheet_88 (by decide) ?_
                refine lv_icmp_ge (tgt := 112) F.1 F.2.1 dX6_sheet_90 (by decide) (fun c_90 => ?_) (fun c_90 => ?_)
                · exact absurd c_90 (nI_ge hk_k (by decide))
                · refine lv_aload_n F.1 F.2.1 dX6_sheet_93 rfl (lv_at hl 1 rfl) ?_
                  refine gf F hK hP 0 rfl rfl hiX6_sheet_6 20 (by decide) (List.mem_of_getElem? (i := 5) rfl) rfl dX6_sheet_94 ?_
                  refine lv_bipush (v := 40) F.1 F.2.1 dX6_sheet_97 (by decide) ?_
                  refine lv_iload_n F.1 F.2.1 dX6_sheet_99 rfl (lv_at hl 2 rfl) ?_
                  refine lv_imul F.1 F.2.1 dX6_sheet_100 ?_
                  refine tp (y := nI (40 * s)) (ml2 (a := 40) (b := s) (c := 40 * s) rfl rfl rfl) ?_
                  refine lv_iload F.1 F.2.1 dX6_sheet_101 (lv_at hl 0 rfl) ?_
                  refine lv_iadd F.1 F.2.1 dX6_sheet_103 ?_
                  refine tp (y := nI (40 * s + k)) (ad2 (a := 40 * s) (b := k) (c := 40 * s + k) rfl rfl rfl) ?_
                  refine lv_iconst (v := 0) F.1 F.2.1 dX6_sheet_104 (by decide) ?_
                  refine ast (ws' := oM a v :: ai ct (a 8) 4 (upd wd s x2) :: ai ct (a 9) 4 (upd sz s (if x2 = 0 then 0 else x3)) :: ai ct (a 10) 160 (upd (zN nm s k) (40 * s + k) 0) :: [ai ct (a 4) 8 c]) F hK hP hD hS 3 0 rfl rfl (40 * s + k) rfl (by omega) (by decide) dX6_sheet_105 (weq.rf _) (fun H locs hP hD hS => ?_)
                  refine lv_iinc (v := nI (k + 1)) (lv' := [(4, .int (nI (k + 1))), (0, .ref (a 0)), (1, .int (nI s)), (2, .int x2), (3, .int x3)]) F.1 F.2.1 dX6_sheet_106 hl (k := 0) rfl (by rw [show Int32.ofInt 1 = nI 1 from rfl, nI_add]) (by decide) rfl (fun ls hl => ?_)
                  refine lv_goto (tgt := 86) F.1 F.2.1 dX6_sheet_109 (by decide) ?_
                  have eb : upd (zN nm s k) (40 * s + k) 0 = zN nm s (k + 1) := zN_S nm s k
                  rw [eb] at hP hD
                  exact ih_86 _ _ _ ⟨hP, hD, hS, lv_sub hl [0, 1, 2, 3, 4] rfl⟩
            · exact absurd c_74 c_8
          · refine lv_aload_n F.1 F.2.1 dX6_sheet_54 rfl (lv_at hl 0 rfl) ?_
            refine lv_ldc (v := (-1000001)) F.1 F.2.1 F.2.2.2.1 (F.2.2.2.2 _ (List.mem_of_getElem? (i := 1) rfl)) dX6_sheet_55 ?_
            refine iV (rest := []) (wsp := fun _ => oM a v :: ai ct (a 8) 4 wd :: ai ct (a 9) 4 sz :: ai ct (a 10) 160 nm :: [ai ct (a 4) 8 (fnd c 1)]) F (kX6_finding l dC dI ct a v c (-1000001) 1 (by decide) (by decide) (by decide)) gX6_sheet_X6_finding rfl ⟨rfl, rfl⟩ nmX6_finding ⟨Nat.le_of_ble_eq_true rfl, Nat.le_of_ble_eq_true rfl⟩ eT_b (fun _ _ _ => trivial) hK hP hD hS hA 0 rfl rfl rfl [0, 4] (by decide) rfl rfl rfl hl.1 (Nat.le_of_ble_eq_true rfl) dX6_sheet_57 ⟨Nat.zero_le _, Nat.zero_le _⟩ (fun _ => rfl) (fun _ => rfl) [a 0, a 8, a 9, a 10, a 4] rfl (fun _ => rfl) (fun r_57 u_57 H locs e_57 hP hD hS => ?_)
            obtain rfl := e_57
            exact rtI (wd, sz, nm, (fnd c 1)) F hr hlk hP hS rfl (Eq.trans (by rw [if_neg (Int32.not_lt.mpr c_37), if_pos (Int32.not_le.mp c_51)]; rfl) (if_pos ⟨c_4, Or.inr (Or.inl c_14)⟩).symm) dX6_sheet_60
        · refine lv_aload_n F.1 F.2.1 dX6_sheet_40 rfl (lv_at hl 0 rfl) ?_
          refine lv_ldcw (v := (-1000007)) F.1 F.2.1 F.2.2.2.1 (F.2.2.2.2 _ (List.mem_of_getElem? (i := 2) rfl)) dX6_sheet_41 ?_
          refine iV (rest := []) (wsp := fun _ => oM a v :: ai ct (a 8) 4 wd :: ai ct (a 9) 4 sz :: ai ct (a 10) 160 nm :: [ai ct (a 4) 8 (fnd c 7)]) F (kX6_finding l dC dI ct a v c (-1000007) 7 (by decide) (by decide) (by decide)) gX6_sheet_X6_finding rfl ⟨rfl, rfl⟩ nmX6_finding ⟨Nat.le_of_ble_eq_true rfl, Nat.le_of_ble_eq_true rfl⟩ eT_b (fun _ _ _ => trivial) hK hP hD hS hA 0 rfl rfl rfl [0, 4] (by decide) rfl rfl rfl hl.1 (Nat.le_of_ble_eq_true rfl) dX6_sheet_44 ⟨Nat.zero_le _, Nat.zero_le _⟩ (fun _ => rfl) (fun _ => rfl) [a 0, a 8, a 9, a 10, a 4] rfl (fun _ => rfl) (fun r_44 u_44 H locs e_44 hP hD hS => ?_)
          obtain rfl := e_44
          exact rtI (wd, sz, nm, (fnd c 7)) F hr hlk hP hS rfl (Eq.trans (by rw [if_pos (Int32.not_le.mp c_37)]; rfl) (if_pos ⟨c_4, Or.inr (Or.inl c_14)⟩).symm) dX6_sheet_47
      · refine lv_iload_n F.1 F.2.1 dX6_sheet_17 rfl (lv_at hl 2 rfl) ?_
        refine lv_bipush (v := 16) F.1 F.2.1 dX6_sheet_18 (by decide) ?_
        refine lv_icmp_eq (tgt := 36) F.1 F.2.1 dX6_sheet_20 (by decide) (fun c_20 => ?_) (fun c_20 => ?_)
        · refine lv_iload_n F.1 F.2.1 dX6_sheet_36 rfl (lv_at hl 3 rfl) ?_
          refine lv_if_ge (tgt := 48) F.1 F.2.1 dX6_sheet_37 (by decide) (fun c_37 => ?_) (fun c_37 => ?_)
          · refine lv_iload_n F.1 F.2.1 dX6_sheet_48 rfl (lv_at hl 3 rfl) ?_
            refine lv_bipush (v := 40) F.1 F.2.1 dX6_sheet_49 (by decide) ?_
            refine lv_icmp_le (tgt := 61) F.1 F.2.1 dX6_sheet_51 (by decide) (fun c_51 => ?_) (fun c_51 => ?_)
            · refine lv_aload_n F.1 F.2.1 dX6_sheet_61 rfl (lv_at hl 0 rfl) ?_
              refine gf F hK hP 0 rfl rfl hiX6_sheet_6 18 (by decide) (List.mem_of_getElem? (i := 3) rfl) rfl dX6_sheet_62 ?_
              refine lv_iload_n F.1 F.2.1 dX6_sheet_65 rfl (lv_at hl 1 rfl) ?_
              refine lv_iload_n F.1 F.2.1 dX6_sheet_66 rfl (lv_at hl 2 rfl) ?_
              refine ast (ws' := oM a v :: ai ct (a 8) 4 (upd wd s x2) :: ai ct (a 9) 4 sz :: ai ct (a 10) 160 nm :: [ai ct (a 4) 8 c]) F hK hP hD hS 1 0 rfl rfl s rfl (by omega) (by decide) dX6_sheet_67 (weq.rf _) (fun H locs hP hD hS => ?_)
              refine lv_aload_n F.1 F.2.1 dX6_sheet_68 rfl (lv_at hl 0 rfl) ?_
              refine gf F hK hP 0 rfl rfl hiX6_sheet_6 19 (by decide) (List.mem_of_getElem? (i := 4) rfl) rfl dX6_sheet_69 ?_
              refine lv_iload_n F.1 F.2.1 dX6_sheet_72 rfl (lv_at hl 1 rfl) ?_
              refine lv_iload_n F.1 F.2.1 dX6_sheet_73 rfl (lv_at hl 2 rfl) ?_
              refine lv_if_ne (tgt := 81) F.1 F.2.1 dX6_sheet_74 (by decide) (fun c_74 => ?_) (fun c_74 => ?_)
              · refine lv_iload_n F.1 F.2.1 dX6_sheet_81 rfl (lv_at hl 3 rfl) ?_
                refine tp (y := if x2 = 0 then 0 else x3) ((if_neg c_74).symm) ?_
                refine ast (ws' := oM a v :: ai ct (a 8) 4 (upd wd s x2) :: ai ct (a 9) 4 (upd sz s (if x2 = 0 then 0 else x3)) :: ai ct (a 10) 160 nm :: [ai ct (a 4) 8 c]) F hK hP hD hS 2 0 rfl rfl s rfl (by omega) (by decide) dX6_sheet_82 (weq.rf _) (fun H locs hP hD hS => ?_)
                refine lv_iconst (v := 0) F.1 F.2.1 dX6_sheet_83 (by decide) ?_
                refine lv_istore (lv' := [(4, .int 0), (0, .ref (a 0)), (1, .int (nI s)), (2, .int x2), (3, .int x3)]) F.1 F.2.1 dX6_sheet_84 hl (by decide) rfl (fun ls hl => ?_)
                rw [← zN_0 nm s] at hP hD
                refine loopN (I := fun k H locs ls => va_P (dC, dI) vwCl (oM a v :: ai ct (a 8) 4 (upd wd s x2) :: ai ct (a 9) 4 (upd sz s (if x2 = 0 then 0 else x3)) :: ai ct (a 10) 160 (zN nm s k) :: [ai ct (a 4) 8 c]) H ∧ va_D A (oM a v :: ai ct (a 8) 4 (upd wd s x2) :: ai ct (a 9) 4 (upd sz s (if x2 = 0 then 0 else x3)) :: ai ct (a 10) 160 (zN nm s k) :: [ai ct (a 4) 8 c]) ∧ va_S A z.heap H locs ∧ lv_has ls 5 [(4, .int (nI k)), (0, .ref (a 0)), (1, .int (nI s)), (2, .int x2), (3, .int x3)]) 40 0 (by omega) ⟨hP, hD, hS, lv_sub hl [0, 1, 2, 3, 4] rfl⟩ (fun H locs ls hI => ?_) (fun k hk_k H locs ls hI ih_86 => ?_)
                · obtain ⟨hP, hD, hS, hl⟩ := hI
                  refine lv_iload F.1 F.2.1 dX6_sheet_86 (lv_at hl 0 rfl) ?_
                  refine lv_bipush (v := 40) F.1 F.2.1 dX6_sheet_88 (by decide) ?_
                  refine lv_icmp_ge (tgt := 112) F.1 F.2.1 dX6_sheet_90 (by decide) (fun c_90 => ?_) (fun c_90 => ?_)
                  · refine lv_aload_n F.1 F.2.1 dX6_sheet_112 rfl (lv_at hl 1 rfl) ?_
                    refine gf F hK hP 0 rfl rfl hiX6_sheet_6 19 (by decide) (List.mem_of_getElem? (i := 4) rfl) rfl dX6_sheet_113 ?_
                    refine lv_iload_n F.1 F.2.1 dX6_sheet_116 rfl (lv_at hl 2 rfl) ?_
                    refine al (v := (upd sz s (if x2 = 0 then 0 else x3)) s) F hK hP 2 0 rfl rfl s rfl (by omega) (by decide) rfl dX6_sheet_117 ?_
                    refine tp (y := if x2 = 0 then 0 else x3) pk_us ?_
                    exact rtI ((upd wd s x2), (upd sz s (if x2 = 0 then 0 else x3)), (zN nm s 40), c) F hr hlk hP hS rfl (Eq.trans (by rw [if_neg (Int32.not_lt.mpr c_37), if_neg (Int32.not_lt.mpr c_51), show tn (nI s) = s from nI_clamp (by omega)]; rfl) (if_pos ⟨c_4, Or.inr (Or.inr (Or.inl c_20))⟩).symm) dX6_sheet_118
                  · exact absurd (nI_le (Nat.le_refl _) (by decide)) c_90
                · obtain ⟨hP, hD, hS, hl⟩ := hI
                  refine lv_iload F.1 F.2.1 dX6_sheet_86 (lv_at hl 0 rfl) ?_
                  refine lv_bipush (v := 40) F.1 F.2.1 dX6_sheet_88 (by decide) ?_
                  refine lv_icmp_ge (tgt := 112) F.1 F.2.1 dX6_sheet_90 (by decide) (fun c_90 => ?_) (fun c_90 => ?_)
                  · exact absurd c_90 (nI_ge hk_k (by decide))
                  · refine lv_aload_n F.1 F.2.1 dX6_sheet_93 rfl (lv_at hl 1 rfl) ?_
                    refine gf F hK hP 0 rfl rfl hiX6_sheet_6 20 (by decide) (List.mem_of_getElem? (i := 5) rfl) rfl dX6_sheet_94 ?_
                    refine lv_bipush (v := 40) F.1 F.2.1 dX6_sheet_97 (by decide) ?_
                    refine lv_iload_n F.1 F.2.1 dX6_sheet_99 rfl (lv_at hl 2 rfl) ?_
                    refine lv_imul F.1 F.2.1 dX6_sheet_100 ?_
                    refine tp (y := nI (40 * s)) (ml2 (a := 40) (b := s) (c := 40 * s) rfl rfl rfl) ?_
                    refine lv_iload F.1 F.2.1 dX6_sheet_101 (lv_at hl 0 rfl) ?_
                    refine lv_iadd F.1 F.2.1 dX6_sheet_103 ?_
                    refine tp (y := nI (40 * s + k)) (ad2 (a := 40 * s) (b := k) (c := 40 * s + k) rfl rfl rfl) ?_
                    refine lv_iconst (v := 0) F.1 F.2.1 dX6_sheet_104 (by decide) ?_
                    refine ast (ws' := oM a v :: ai ct (a 8) 4 (upd wd s x2) :: ai ct (a 9) 4 (upd sz s (if x2 = 0 then 0 else x3)) :: ai ct (a 10) 160 (upd (zN nm s k) (40 * s + k) 0) :: [ai ct (a 4) 8 c]) F hK hP hD hS 3 0 rfl rfl (40 * s + k) rfl (by omega) (by decide) dX6_sheet_105 (weq.rf _) (fun H locs hP hD hS => ?_)
                    refine lv_iinc (v := nI (k + 1)) (lv' := [(4, .int (nI (k + 1))), (0, .ref (a 0)), (1, .int (nI s)), (2, .int x2), (3, .int x3)]) F.1 F.2.1 dX6_sheet_106 hl (k := 0) rfl (by rw [show Int32.ofInt 1 = nI 1 from rfl, nI_add]) (by decide) rfl (fun ls hl => ?_)
                    refine lv_goto (tgt := 86) F.1 F.2.1 dX6_sheet_109 (by decide) ?_
                    have eb : upd (zN nm s k) (40 * s + k) 0 = zN nm s (k + 1) := zN_S nm s k
                    rw [eb] at hP hD
                    exact ih_86 _ _ _ ⟨hP, hD, hS, lv_sub hl [0, 1, 2, 3, 4] rfl⟩
              · exact absurd c_74 c_8
            · refine lv_aload_n F.1 F.2.1 dX6_sheet_54 rfl (lv_at hl 0 rfl) ?_
              refine lv_ldc (v := (-1000001)) F.1 F.2.1 F.2.2.2.1 (F.2.2.2.2 _ (List.mem_of_getElem? (i := 1) rfl)) dX6_sheet_55 ?_
              refine iV (rest := []) (wsp := fun _ => oM a v :: ai ct (a 8) 4 wd :: ai ct (a 9) 4 sz :: ai ct (a 10) 160 nm :: [ai ct (a 4) 8 (fnd c 1)]) F (kX6_finding l dC dI ct a v c (-1000001) 1 (by decide) (by decide) (by decide)) gX6_sheet_X6_finding rfl ⟨rfl, rfl⟩ nmX6_finding ⟨Nat.le_of_ble_eq_true rfl, Nat.le_of_ble_eq_true rfl⟩ eT_b (fun _ _ _ => trivial) hK hP hD hS hA 0 rfl rfl rfl [0, 4] (by decide) rfl rfl rfl hl.1 (Nat.le_of_ble_eq_true rfl) dX6_sheet_57 ⟨Nat.zero_le _, Nat.zero_le _⟩ (fun _ => rfl) (fun _ => rfl) [a 0, a 8, a 9, a 10, a 4] rfl (fun _ => rfl) (fun r_57 u_57 H locs e_57 hP hD hS => ?_)
              obtain rfl := e_57
              exact rtI (wd, sz, nm, (fnd c 1)) F hr hlk hP hS rfl (Eq.trans (by rw [if_neg (Int32.not_lt.mpr c_37), if_pos (Int32.not_le.mp c_51)]; rfl) (if_pos ⟨c_4, Or.inr (Or.inr (Or.inl c_20))⟩).symm) dX6_sheet_60
          · refine lv_aload_n F.1 F.2.1 dX6_sheet_40 rfl (lv_at hl 0 rfl) ?_
            refine lv_ldcw (v := (-1000007)) F.1 F.2.1 F.2.2.2.1 (F.2.2.2.2 _ (List.mem_of_getElem? (i := 2) rfl)) dX6_sheet_41 ?_
            refine iV (rest := []) (wsp := fun _ => oM a v :: ai ct (a 8) 4 wd :: ai ct (a 9) 4 sz :: ai ct (a 10) 160 nm :: [ai ct (a 4) 8 (fnd c 7)]) F (kX6_finding l dC dI ct a v c (-1000007) 7 (by decide) (by decide) (by decide)) gX6_sheet_X6_finding rfl ⟨rfl, rfl⟩ nmX6_finding ⟨Nat.le_of_ble_eq_true rfl, Nat.le_of_ble_eq_true rfl⟩ eT_b (fun _ _ _ => trivial) hK hP hD hS hA 0 rfl rfl rfl [0, 4] (by decide) rfl rfl rfl hl.1 (Nat.le_of_ble_eq_true rfl) dX6_sheet_44 ⟨Nat.zero_le _, Nat.zero_le _⟩ (fun _ => rfl) (fun _ => rfl) [a 0, a 8, a 9, a 10, a 4] rfl (fun _ => rfl) (fun r_44 u_44 H locs e_44 hP hD hS => ?_)
            obtain rfl := e_44
            exact rtI (wd, sz, nm, (fnd c 7)) F hr hlk hP hS rfl (Eq.trans (by rw [if_pos (Int32.not_le.mp c_37)]; rfl) (if_pos ⟨c_4, Or.inr (Or.inr (Or.inl c_20))⟩).symm) dX6_sheet_47
        · refine lv_iload_n F.1 F.2.1 dX6_sheet_23 rfl (lv_at hl 2 rfl) ?_
          refine lv_bipush (v := 32) F.1 F.2.1 dX6_sheet_24 (by decide) ?_
          refine lv_icmp_eq (tgt := 36) F.1 F.2.1 dX6_sheet_26 (by decide) (fun c_26 => ?_) (fun c_26 => ?_)
          · refine lv_iload_n F.1 F.2.1 dX6_sheet_36 rfl (lv_at hl 3 rfl) ?_
            refine lv_if_ge (tgt := 48) F.1 F.2.1 dX6_sheet_37 (by decide) (fun c_37 => ?_) (fun c_37 => ?_)
            · refine lv_iload_n F.1 F.2.1 dX6_sheet_48 rfl (lv_at hl 3 rfl) ?_
              refine lv_bipush (v := 40) F.1 F.2.1 dX6_sheet_49 (by decide) ?_
              refine lv_icmp_le (tgt := 61) F.1 F.2.1 dX6_sheet_51 (by decide) (fun c_51 => ?_) (fun c_51 => ?_)
              · refine lv_aload_n F.1 F.2.1 dX6_sheet_61 rfl (lv_at hl 0 rfl) ?_
                refine gf F hK hP 0 rfl rfl hiX6_sheet_6 18 (by decide) (List.mem_of_getElem? (i := 3) rfl) rfl dX6_sheet_62 ?_
                refine lv_iload_n F.1 F.2.1 dX6_sheet_65 rfl (lv_at hl 1 rfl) ?_
                refine lv_iload_n F.1 F.2.1 dX6_sheet_66 rfl (lv_at hl 2 rfl) ?_
                refine ast (ws' := oM a v :: ai ct (a 8) 4 (upd wd s x2) :: ai ct (a 9) 4 sz :: ai ct (a 10) 160 nm :: [ai ct (a 4) 8 c]) F hK hP hD hS 1 0 rfl rfl s rfl (by omega) (by decide) dX6_sheet_67 (weq.rf _) (fun H locs hP hD hS => ?_)
                refine lv_aload_n F.1 F.2.1 dX6_sheet_68 rfl (lv_at hl 0 rfl) ?_
                refine gf F hK hP 0 rfl rfl hiX6_sheet_6 19 (by decide) (List.mem_of_getElem? (i := 4) rfl) rfl dX6_sheet_69 ?_
                refine lv_iload_n F.1 F.2.1 dX6_sheet_72 rfl (lv_at hl 1 rfl) ?_
                refine lv_iload_n F.1 F.2.1 dX6_sheet_73 rfl (lv_at hl 2 rfl) ?_
                refine lv_if_ne (tgt := 81) F.1 F.2.1 dX6_sheet_74 (by decide) (fun c_74 => ?_) (fun c_74 => ?_)
                · refine lv_iload_n F.1 F.2.1 dX6_sheet_81 rfl (lv_at hl 3 rfl) ?_
                  refine tp (y := if x2 = 0 then 0 else x3) ((if_neg c_74).symm) ?_
                  refine ast (ws' := oM a v :: ai ct (a 8) 4 (upd wd s x2) :: ai ct (a 9) 4 (upd sz s (if x2 = 0 then 0 else x3)) :: ai ct (a 10) 160 nm :: [ai ct (a 4) 8 c]) F hK hP hD hS 2 0 rfl rfl s rfl (by omega) (by decide) dX6_sheet_82 (weq.rf _) (fun H locs hP hD hS => ?_)
                  refine lv_iconst (v := 0) F.1 F.2.1 dX6_sheet_83 (by decide) ?_
                  refine lv_istore (lv' := [(4, .int 0), (0, .ref (a 0)), (1, .int (nI s)), (2, .int x2), (3, .int x3)]) F.1 F.2.1 dX6_sheet_84 hl (by decide) rfl (fun ls hl => ?_)
                  rw [← zN_0 nm s] at hP hD
                  refine loopN (I := fun k H locs ls => va_P (dC, dI) vwCl (oM a v :: ai ct (a 8) 4 (upd wd s x2) :: ai ct (a 9) 4 (upd sz s (if x2 = 0 then 0 else x3)) :: ai ct (a 10) 160 (zN nm s k) :: [ai ct (a 4) 8 c]) H ∧ va_D A (oM a v :: ai ct (a 8) 4 (upd wd s x2) :: ai ct (a 9) 4 (upd sz s (if x2 = 0 then 0 else x3)) :: ai ct (a 10) 160 (zN nm s k) :: [ai ct (a 4) 8 c]) ∧ va_S A z.heap H locs ∧ lv_has ls 5 [(4, .int (nI k)), (0, .ref (a 0)), (1, .int (nI s)), (2, .int x2), (3, .int x3)]) 40 0 (by omega) ⟨hP, hD, hS, lv_sub hl [0, 1, 2, 3, 4] rfl⟩ (fun H locs ls hI => ?_) (fun k hk_k H locs ls hI ih_86 => ?_)
                  · obtain ⟨hP, hD, hS, hl⟩ := hI
                    refine lv_iload F.1 F.2.1 dX6_sheet_86 (lv_at hl 0 rfl) ?_
                    refine lv_bipush (v := 40) F.1 F.2.1 dX6_sheet_88 (by decide) ?_
                    refine lv_icmp_ge (tgt := 112) F.1 F.2.1 dX6_sheet_90 (by decide) (fun c_90 => ?_) (fun c_90 => ?_)
                    · refine lv_aload_n F.1 F.2.1 dX6_sheet_112 rfl (lv_at hl 1 rfl) ?_
                      refine gf F hK hP 0 rfl rfl hiX6_sheet_6 19 (by decide) (List.mem_of_getElem? (i := 4) rfl) rfl dX6_sheet_113 ?_
                      refine lv_iload_n F.1 F.2.1 dX6_sheet_116 rfl (lv_at hl 2 rfl) ?_
                      refine al (v := (upd sz s (if x2 = 0 then 0 else x3)) s) F hK hP 2 0 rfl rfl s rfl (by omega) (by decide) rfl dX6_sheet_117 ?_
                      refine tp (y := if x2 = 0 then 0 else x3) pk_us ?_
                      exact rtI ((upd wd s x2), (upd sz s (if x2 = 0 then 0 else x3)), (zN nm s 40), c) F hr hlk hP hS rfl (Eq.trans (by rw [if_neg (Int32.not_lt.mpr c_37), if_neg (Int32.not_lt.mpr c_51), show tn (nI s) = s from nI_clamp (by omega)]; rfl) (if_pos ⟨c_4, Or.inr (Or.inr (Or.inr c_26))⟩).symm) dX6_sheet_118
                    · exact absurd (nI_le (Nat.le_refl _) (by decide)) c_90
                  · obtain ⟨hP, hD, hS, hl⟩ := hI
                    refine lv_iload F.1 F.2.1 dX6_sheet_86 (lv_at hl 0 rfl) ?_
                    refine lv_bipush (v := 40) F.1 F.2.1 dX6_sheet_88 (by decide) ?_
                    refine lv_icmp_ge (tgt := 112) F.1 F.2.1 dX6_sheet_90 (by decide) (fun c_90 => ?_) (fun c_90 => ?_)
                    · exact absurd c_90 (nI_ge hk_k (by decide))
                    · refine lv_aload_n F.1 F.2.1 dX6_sheet_93 rfl (lv_at hl 1 rfl) ?_
                      refine gf F hK hP 0 rfl rfl hiX6_sheet_6 20 (by decide) (List.mem_of_getElem? (i := 5) rfl) rfl dX6_sheet_94 ?_
                      refine lv_bipush (v := 40) F.1 F.2.1 dX6_sheet_97 (by decide) ?_
                      refine lv_iload_n F.1 F.2.1 dX6_sheet_99 rfl (lv_at hl 2 rfl) ?_
                      refine lv_imul F.1 F.2.1 dX6_sheet_100 ?_
                      refine tp (y := nI (40 * s)) (ml2 (a := 40) (b := s) (c := 40 * s) rfl rfl rfl) ?_
                      refine lv_iload F.1 F.2.1 dX6_sheet_101 (lv_at hl 0 rfl) ?_
                      refine lv_iadd F.1 F.2.1 dX6_sheet_103 ?_
                      refine tp (y := nI (40 * s + k)) (ad2 (a := 40 * s) (b := k) (c := 40 * s + k) rfl rfl rfl) ?_
                      refine lv_iconst (v := 0) F.1 F.2.1 dX6_sheet_104 (by decide) ?_
                      refine ast (ws' := oM a v :: ai ct (a 8) 4 (upd wd s x2) :: ai ct (a 9) 4 (upd sz s (if x2 = 0 then 0 else x3)) :: ai ct (a 10) 160 (upd (zN nm s k) (40 * s + k) 0) :: [ai ct (a 4) 8 c]) F hK hP hD hS 3 0 rfl rfl (40 * s + k) rfl (by omega) (by decide) dX6_sheet_105 (weq.rf _) (fun H locs hP hD hS => ?_)
                      refine lv_iinc (v := nI (k + 1)) (lv' := [(4, .int (nI (k + 1))), (0, .ref (a 0)), (1, .int (nI s)), (2, .int x2), (3, .int x3)]) F.1 F.2.1 dX6_sheet_106 hl (k := 0) rfl (by rw [show Int32.ofInt 1 = nI 1 from rfl, nI_add]) (by decide) rfl (fun ls hl => ?_)
                      refine lv_goto (tgt := 86) F.1 F.2.1 dX6_sheet_109 (by decide) ?_
                      have eb : upd (zN nm s k) (40 * s + k) 0 = zN nm s (k + 1) := zN_S nm s k
                      rw [eb] at hP hD
                      exact ih_86 _ _ _ ⟨hP, hD, hS, lv_sub hl [0, 1, 2, 3, 4] rfl⟩
                · exact absurd c_74 c_8
              · refine lv_aload_n F.1 F.2.1 dX6_sheet_54 rfl (lv_at hl 0 rfl) ?_
                refine lv_ldc (v := (-1000001)) F.1 F.2.1 F.2.2.2.1 (F.2.2.2.2 _ (List.mem_of_getElem? (i := 1) rfl)) dX6_sheet_55 ?_
                refine iV (rest := []) (wsp := fun _ => oM a v :: ai ct (a 8) 4 wd :: ai ct (a 9) 4 sz :: ai ct (a 10) 160 nm :: [ai ct (a 4) 8 (fnd c 1)]) F (kX6_finding l dC dI ct a v c (-1000001) 1 (by decide) (by decide) (by decide)) gX6_sheet_X6_finding rfl ⟨rfl, rfl⟩ nmX6_finding ⟨Nat.le_of_ble_eq_true rfl, Nat.le_of_ble_eq_true rfl⟩ eT_b (fun _ _ _ => trivial) hK hP hD hS hA 0 rfl rfl rfl [0, 4] (by decide) rfl rfl rfl hl.1 (Nat.le_of_ble_eq_true rfl) dX6_sheet_57 ⟨Nat.zero_le _, Nat.zero_le _⟩ (fun _ => rfl) (fun _ => rfl) [a 0, a 8, a 9, a 10, a 4] rfl (fun _ => rfl) (fun r_57 u_57 H locs e_57 hP hD hS => ?_)
                obtain rfl := e_57
                exact rtI (wd, sz, nm, (fnd c 1)) F hr hlk hP hS rfl (Eq.trans (by rw [if_neg (Int32.not_lt.mpr c_37), if_pos (Int32.not_le.mp c_51)]; rfl) (if_pos ⟨c_4, Or.inr (Or.inr (Or.inr c_26))⟩).symm) dX6_sheet_60
            · refine lv_aload_n F.1 F.2.1 dX6_sheet_40 rfl (lv_at hl 0 rfl) ?_
              refine lv_ldcw (v := (-1000007)) F.1 F.2.1 F.2.2.2.1 (F.2.2.2.2 _ (List.mem_of_getElem? (i := 2) rfl)) dX6_sheet_41 ?_
              refine iV (rest := []) (wsp := fun _ => oM a v :: ai ct (a 8) 4 wd :: ai ct (a 9) 4 sz :: ai ct (a 10) 160 nm :: [ai ct (a 4) 8 (fnd c 7)]) F (kX6_finding l dC dI ct a v c (-1000007) 7 (by decide) (by decide) (by decide)) gX6_sheet_X6_finding rfl ⟨rfl, rfl⟩ nmX6_finding ⟨Nat.le_of_ble_eq_true rfl, Nat.le_of_ble_eq_true rfl⟩ eT_b (fun _ _ _ => trivial) hK hP hD hS hA 0 rfl rfl rfl [0, 4] (by decide) rfl rfl rfl hl.1 (Nat.le_of_ble_eq_true rfl) dX6_sheet_44 ⟨Nat.zero_le _, Nat.zero_le _⟩ (fun _ => rfl) (fun _ => rfl) [a 0, a 8, a 9, a 10, a 4] rfl (fun _ => rfl) (fun r_44 u_44 H locs e_44 hP hD hS => ?_)
              obtain rfl := e_44
              exact rtI (wd, sz, nm, (fnd c 7)) F hr hlk hP hS rfl (Eq.trans (by rw [if_pos (Int32.not_le.mp c_37)]; rfl) (if_pos ⟨c_4, Or.inr (Or.inr (Or.inr c_26))⟩).symm) dX6_sheet_47
          · refine lv_aload_n F.1 F.2.1 dX6_sheet_29 rfl (lv_at hl 0 rfl) ?_
            refine lv_ldc (v := (-1000001)) F.1 F.2.1 F.2.2.2.1 (F.2.2.2.2 _ (List.mem_of_getElem? (i := 1) rfl)) dX6_sheet_30 ?_
            refine iV (rest := []) (wsp := fun _ => oM a v :: ai ct (a 8) 4 wd :: ai ct (a 9) 4 sz :: ai ct (a 10) 160 nm :: [ai ct (a 4) 8 (fnd c 1)]) F (kX6_finding l dC dI ct a v c (-1000001) 1 (by decide) (by decide) (by decide)) gX6_sheet_X6_finding rfl ⟨rfl, rfl⟩ nmX6_finding ⟨Nat.le_of_ble_eq_true rfl, Nat.le_of_ble_eq_true rfl⟩ eT_b (fun _ _ _ => trivial) hK hP hD hS hA 0 rfl rfl rfl [0, 4] (by decide) rfl rfl rfl hl.1 (Nat.le_of_ble_eq_true rfl) dX6_sheet_32 ⟨Nat.zero_le _, Nat.zero_le _⟩ (fun _ => rfl) (fun _ => rfl) [a 0, a 8, a 9, a 10, a 4] rfl (fun _ => rfl) (fun r_32 u_32 H locs e_32 hP hD hS => ?_)
            obtain rfl := e_32
            exact rtI (wd, sz, nm, (fnd c 1)) F hr hlk hP hS rfl ((if_neg (fun q => q.2.elim c_8 (fun q => q.elim c_14 (fun q => q.elim c_20 c_26)))).symm) dX6_sheet_35

def rmX6_cutTo : Room := { frames := 0, cells := 0, slots := 0, locals := 0 }
theorem nmX6_cutTo : NmV yX6_cutTo RX6 2 := by unfold NmV; decide +kernel
set_option maxHeartbeats 4000000 in
set_option maxRecDepth 100000 in
theorem kX6_cutTo (l : Launch) (dC : Nat → ClassId) (dI : Nat → Nat → Nat) (ct : Nat → ClassId) (w b : Int32) : MI (S := Unit) l yX6_cutTo wsX6_cutTo rmX6_cutTo dC dI ct eT [.int w, .int b] ([] : va_W) (fun _ => ([] : va_W)) (fun r _ => r = cutF w b) := by
  refine MI.of (cc := cX6_cutTo) (maxL := 2) (ret := (some .int)) (by decide) rfl (Nat.le_of_ble_eq_true rfl) ?_
  intro pg en z mi below meth cd A F hr hlk hin hK hP hD hA hS hE ls hl
  have F : CallFix pg mi cd cX6_cutTo 2 z _ wsX6_cutTo RX6 := F
  have hl : lv_has ls 2 [(0, .int w), (1, .int b)] := hl
  refine lv_iload_n F.1 F.2.1 dX6_cutTo_0 rfl (lv_at hl 1 rfl) ?_
  refine lv_bipush (v := 8) F.1 F.2.1 dX6_cutTo_1 (by decide) ?_
  refine lv_icmp_ne (tgt := 11) F.1 F.2.1 dX6_cutTo_3 (by decide) (fun c_3 => ?_) (fun c_3 => ?_)
  · refine lv_iload_n F.1 F.2.1 dX6_cutTo_11 rfl (lv_at hl 1 rfl) ?_
    refine lv_bipush (v := 16) F.1 F.2.1 dX6_cutTo_12 (by decide) ?_
    refine lv_icmp_ne (tgt := 22) F.1 F.2.1 dX6_cutTo_14 (by decide) (fun c_14 => ?_) (fun c_14 => ?_)
    · refine lv_iload_n F.1 F.2.1 dX6_cutTo_22 rfl (lv_at hl 0 rfl) ?_
      exact rtI () F hr hlk hP hS rfl (by simp [cutF, c_3, c_14]) dX6_cutTo_23
    · refine lv_iload_n F.1 F.2.1 dX6_cutTo_17 rfl (lv_at hl 0 rfl) ?_
      refine lv_i2s F.1 F.2.1 dX6_cutTo_18 rfl ?_
      refine lv_goto (tgt := 23) F.1 F.2.1 dX6_cutTo_19 (by decide) ?_
      exact rtI () F hr hlk hP hS rfl (by simp [cutF, c_3, c_14]) dX6_cutTo_23
  · refine lv_iload_n F.1 F.2.1 dX6_cutTo_6 rfl (lv_at hl 0 rfl) ?_
    refine lv_i2b F.1 F.2.1 dX6_cutTo_7 rfl ?_
    refine lv_goto (tgt := 23) F.1 F.2.1 dX6_cutTo_8 (by decide) ?_
    exact rtI () F hr hlk hP hS rfl (by simp [cutF, c_3]) dX6_cutTo_23

def rmX6_write : Room := { frames := 2, cells := 0, slots := 0, locals := 42 }
theorem nmX6_write : NmV yX6_write RX6 3 := by unfold NmV; decide +kernel
theorem hiX6_write_6 : ∀ w ∈ u_ws RX6 TX6 22, w ∈ wsX6_write := by decide +kernel
set_option maxHeartbeats 4000000 in
set_option maxRecDepth 100000 in
theorem kX6_write (l : Launch) (dC : Nat → ClassId) (dI : Nat → Nat → Nat) (ct : Nat → ClassId) (a : Nat → Nat) (v wd sz nm c : Nat → Int32) (x1 x2 x3 : Int32) (hZ : RZ sz) : MI (S := (Nat → Int32) × (Nat → Int32) × (Nat → Int32) × (Nat → Int32)) l yX6_write wsX6_write rmX6_write dC dI ct eT [.ref (a 0), .int x1, .int x2, .int x3] (oM a v :: ai ct (a 8) 4 wd :: ai ct (a 9) 4 sz :: ai ct (a 10) 160 nm :: [ai ct (a 4) 8 c]) (fun u => oM a v :: ai ct (a 8) 4 u.1 :: ai ct (a 9) 4 u.2.1 :: ai ct (a 10) 160 u.2.2.1 :: [ai ct (a 4) 8 u.2.2.2]) (fun r u => (r, u.1, u.2.1, u.2.2.1, u.2.2.2) = sWrite wd sz nm c x1 x2 x3) := by
  refine MI.of (cc := cX6_write) (maxL := 4) (ret := (some .int)) (by decide) rfl (Nat.le_of_ble_eq_true rfl) ?_
  intro pg en z mi below meth cd A F hr hlk hin hK hP hD hA hS hE ls hl
  have F : CallFix pg mi cd cX6_write 4 z _ wsX6_write RX6 := F
  have hl : lv_has ls 4 [(0, .ref (a 0)), (1, .int x1), (2, .int x2), (3, .int x3)] := hl
  refine lv_iload_n F.1 F.2.1 dX6_write_0 rfl (lv_at hl 1 rfl) ?_
  refine iS (rest := []) (wsp := fun _ => oM a v :: ai ct (a 8) 4 wd :: ai ct (a 9) 4 sz :: ai ct (a 10) 160 nm :: [ai ct (a 4) 8 c]) F (kX6_isSheet l dC dI ct x1) gX6_write_X6_isSheet rfl ⟨rfl, rfl⟩ nmX6_isSheet ⟨Nat.le_of_ble_eq_true rfl, Nat.le_of_ble_eq_true rfl⟩ eT_b (fun _ _ _ => trivial) hK hP hD hS hA [] (by decide) rfl rfl rfl hl.1 (Nat.le_of_ble_eq_true rfl) dX6_write_1 ⟨Nat.zero_le _, Nat.zero_le _⟩ (fun _ => rfl) (fun _ => rfl) [a 0, a 8, a 9, a 10, a 4] rfl (fun _ => rfl) (fun r_1 u_1 H locs e_1 hP hD hS => ?_)
  obtain rfl := e_1
  refine lv_if_ne (tgt := 14) F.1 F.2.1 dX6_write_4 (by decide) (fun c_4 => ?_) (fun c_4 => ?_)
  · have c_4 : 0 ≤ x1 ∧ x1 ≤ 3 := b01t rfl c_4
    obtain ⟨s, hs, rfl⟩ := gH_n c_4
    refine lv_aload_n F.1 F.2.1 dX6_write_14 rfl (lv_at hl 0 rfl) ?_
    refine gf F hK hP 0 rfl rfl hiX6_write_6 18 (by decide) (List.mem_of_getElem? (i := 2) rfl) rfl dX6_write_15 ?_
    refine lv_iload_n F.1 F.2.1 dX6_write_18 rfl (lv_at hl 1 rfl) ?_
    refine al (v := wd s) F hK hP 1 0 rfl rfl s rfl (by omega) (by decide) rfl dX6_write_19 ?_
    refine lv_if_ne (tgt := 31) F.1 F.2.1 dX6_write_20 (by decide) (fun c_20 => ?_) (fun c_20 => ?_)
    · refine lv_iload_n F.1 F.2.1 dX6_write_31 rfl (lv_at hl 2 rfl) ?_
      refine lv_iconst (v := 0) F.1 F.2.1 dX6_write_32 (by decide) ?_
      refine lv_aload_n F.1 F.2.1 dX6_write_33 rfl (lv_at hl 0 rfl) ?_
      refine gf F hK hP 0 rfl rfl hiX6_write_6 19 (by decide) (List.mem_of_getElem? (i := 4) rfl) rfl dX6_write_34 ?_
      refine lv_iload_n F.1 F.2.1 dX6_write_37 rfl (lv_at hl 1 rfl) ?_
      refine al (v := sz s) F hK hP 2 0 rfl rfl s rfl (by omega) (by decide) rfl dX6_write_38 ?_
      refine lv_iconst (v := 1) F.1 F.2.1 dX6_write_39 (by decide) ?_
      refine lv_isub F.1 F.2.1 dX6_write_40 ?_
      refine iS (rest := []) (wsp := fun _ => oM a v :: ai ct (a 8) 4 wd :: ai ct (a 9) 4 sz :: ai ct (a 10) 160 nm :: [ai ct (a 4) 8 c]) F (kX6_within l dC dI ct x2 0 ((sz s) - 1)) gX6_write_X6_within rfl ⟨rfl, rfl⟩ nmX6_within ⟨Nat.le_of_ble_eq_true rfl, Nat.le_of_ble_eq_true rfl⟩ eT_b (fun _ _ _ => trivial) hK hP hD hS hA [] (by decide) rfl rfl rfl hl.1 (Nat.le_of_ble_eq_true rfl) dX6_write_41 ⟨Nat.zero_le _, Nat.zero_le _⟩ (fun _ => rfl) (fun _ => rfl) [a 0, a 8, a 9, a 10, a 4] rfl (fun _ => rfl) (fun r_41 u_41 H locs e_41 hP hD hS => ?_)
      obtain rfl := e_41
      refine lv_if_ne (tgt := 54) F.1 F.2.1 dX6_write_44 (by decide) (fun c_44 => ?_) (fun c_44 => ?_)
      · have c_44 : 0 ≤ x2 ∧ x2 ≤ ((sz s) - 1) := b01t rfl c_44
        obtain ⟨m, hm, em⟩ := hZ s hs
        have q44 := c_44
        rw [em] at q44
        obtain ⟨j, hj, rfl⟩ := ix_n q44 hm
        refine lv_aload_n F.1 F.2.1 dX6_write_54 rfl (lv_at hl 0 rfl) ?_
        refine gf F hK hP 0 rfl rfl hiX6_write_6 20 (by decide) (List.mem_of_getElem? (i := 5) rfl) rfl dX6_write_55 ?_
        refine lv_bipush (v := 40) F.1 F.2.1 dX6_write_58 (by decide) ?_
        refine lv_iload_n F.1 F.2.1 dX6_write_60 rfl (lv_at hl 1 rfl) ?_
        refine lv_imul F.1 F.2.1 dX6_write_61 ?_
        refine tp (y := nI (40 * s)) (ml2 (a := 40) (b := s) (c := 40 * s) rfl rfl rfl) ?_
        refine lv_iload_n F.1 F.2.1 dX6_write_62 rfl (lv_at hl 2 rfl) ?_
        refine lv_iadd F.1 F.2.1 dX6_write_63 ?_
        refine tp (y := nI (40 * s + j)) (ad2 (a := 40 * s) (b := j) (c := 40 * s + j) rfl rfl rfl) ?_
        refine lv_iload_n F.1 F.2.1 dX6_write_64 rfl (lv_at hl 3 rfl) ?_
        refine lv_aload_n F.1 F.2.1 dX6_write_65 rfl (lv_at hl 0 rfl) ?_
        refine gf F hK hP 0 rfl rfl hiX6_write_6 18 (by decide) (List.mem_of_getElem? (i := 2) rfl) rfl dX6_write_66 ?_
        refine lv_iload_n F.1 F.2.1 dX6_write_69 rfl (lv_at hl 1 rfl) ?_
        refine al (v := wd s) F hK hP 1 0 rfl rfl s rfl (by omega) (by decide) rfl dX6_write_70 ?_
        refine iS (rest := [.int (nI (40 * s + j)), .ref (a 10)]) (wsp := fun _ => oM a v :: ai ct (a 8) 4 wd :: ai ct (a 9) 4 sz :: ai ct (a 10) 160 nm :: [ai ct (a 4) 8 c]) F (kX6_cutTo l dC dI ct x3 (wd s)) gX6_write_X6_cutTo rfl ⟨rfl, rfl⟩ nmX6_cutTo ⟨Nat.le_of_ble_eq_true rfl, Nat.le_of_ble_eq_true rfl⟩ eT_b (fun _ _ _ => trivial) hK hP hD hS hA [] (by decide) rfl rfl rfl hl.1 (Nat.le_of_ble_eq_true rfl) dX6_write_71 ⟨Nat.zero_le _, Nat.zero_le _⟩ (fun _ => rfl) (fun _ => rfl) [a 0, a 8, a 9, a 10, a 4] rfl (fun _ => rfl) (fun r_71 u_71 H locs e_71 hP hD hS => ?_)
        obtain rfl := e_71
        refine ast (ws' := oM a v :: ai ct (a 8) 4 wd :: ai ct (a 9) 4 sz :: ai ct (a 10) 160 (upd nm (40 * s + j) (cutF x3 (wd s))) :: [ai ct (a 4) 8 c]) F hK hP hD hS 3 0 rfl rfl (40 * s + j) rfl (by omega) (by decide) dX6_write_74 (weq.rf _) (fun H locs hP hD hS => ?_)
        refine lv_iconst (v := 1) F.1 F.2.1 dX6_write_75 (by decide) ?_
        exact rtI (wd, sz, (upd nm (40 * s + j) (cutF x3 (wd s))), c) F hr hlk hP hS rfl (Eq.trans (by rw [show tn (nI s) = s from nI_clamp (by omega)]; unfold kWrite; rw [if_neg c_20, if_pos c_44, show tn (nI j) = j from nI_clamp (by omega)]) (if_pos c_4).symm) dX6_write_76
      · have c_44 : ¬ (0 ≤ x2 ∧ x2 ≤ ((sz s) - 1)) := b01f rfl c_44
        refine lv_aload_n F.1 F.2.1 dX6_write_47 rfl (lv_at hl 0 rfl) ?_
        refine lv_ldc (v := (-1000001)) F.1 F.2.1 F.2.2.2.1 (F.2.2.2.2 _ (List.mem_of_getElem? (i := 1) rfl)) dX6_write_48 ?_
        refine iV (rest := []) (wsp := fun _ => oM a v :: ai ct (a 8) 4 wd :: ai ct (a 9) 4 sz :: ai ct (a 10) 160 nm :: [ai ct (a 4) 8 (fnd c 1)]) F (kX6_finding l dC dI ct a v c (-1000001) 1 (by decide) (by decide) (by decide)) gX6_write_X6_finding rfl ⟨rfl, rfl⟩ nmX6_finding ⟨Nat.le_of_ble_eq_true rfl, Nat.le_of_ble_eq_true rfl⟩ eT_b (fun _ _ _ => trivial) hK hP hD hS hA 0 rfl rfl rfl [0, 4] (by decide) rfl rfl rfl hl.1 (Nat.le_of_ble_eq_true rfl) dX6_write_50 ⟨Nat.zero_le _, Nat.zero_le _⟩ (fun _ => rfl) (fun _ => rfl) [a 0, a 8, a 9, a 10, a 4] rfl (fun _ => rfl) (fun r_50 u_50 H locs e_50 hP hD hS => ?_)
        obtain rfl := e_50
        exact rtI (wd, sz, nm, (fnd c 1)) F hr hlk hP hS rfl (Eq.trans (by rw [show tn (nI s) = s from nI_clamp (by omega)]; unfold kWrite; rw [if_neg c_20, if_neg c_44]; rfl) (if_pos c_4).symm) dX6_write_53
    · refine lv_aload_n F.1 F.2.1 dX6_write_23 rfl (lv_at hl 0 rfl) ?_
      refine lv_ldcw (v := (-1000006)) F.1 F.2.1 F.2.2.2.1 (F.2.2.2.2 _ (List.mem_of_getElem? (i := 3) rfl)) dX6_write_24 ?_
      refine iV (rest := []) (wsp := fun _ => oM a v :: ai ct (a 8) 4 wd :: ai ct (a 9) 4 sz :: ai ct (a 10) 160 nm :: [ai ct (a 4) 8 (fnd c 6)]) F (kX6_finding l dC dI ct a v c (-1000006) 6 (by decide) (by decide) (by decide)) gX6_write_X6_finding rfl ⟨rfl, rfl⟩ nmX6_finding ⟨Nat.le_of_ble_eq_true rfl, Nat.le_of_ble_eq_true rfl⟩ eT_b (fun _ _ _ => trivial) hK hP hD hS hA 0 rfl rfl rfl [0, 4] (by decide) rfl rfl rfl hl.1 (Nat.le_of_ble_eq_true rfl) dX6_write_27 ⟨Nat.zero_le _, Nat.zero_le _⟩ (fun _ => rfl) (fun _ => rfl) [a 0, a 8, a 9, a 10, a 4] rfl (fun _ => rfl) (fun r_27 u_27 H locs e_27 hP hD hS => ?_)
      obtain rfl := e_27
      exact rtI (wd, sz, nm, (fnd c 6)) F hr hlk hP hS rfl (Eq.trans (by rw [show tn (nI s) = s from nI_clamp (by omega)]; unfold kWrite; rw [if_pos c_20]; rfl) (if_pos c_4).symm) dX6_write_30
  · have c_4 : ¬ (0 ≤ x1 ∧ x1 ≤ 3) := b01f rfl c_4
    refine lv_aload_n F.1 F.2.1 dX6_write_7 rfl (lv_at hl 0 rfl) ?_
    refine lv_ldc (v := (-1000001)) F.1 F.2.1 F.2.2.2.1 (F.2.2.2.2 _ (List.mem_of_getElem? (i := 1) rfl)) dX6_write_8 ?_
    refine iV (rest := []) (wsp := fun _ => oM a v :: ai ct (a 8) 4 wd :: ai ct (a 9) 4 sz :: ai ct (a 10) 160 nm :: [ai ct (a 4) 8 (fnd c 1)]) F (kX6_finding l dC dI ct a v c (-1000001) 1 (by decide) (by decide) (by decide)) gX6_write_X6_finding rfl ⟨rfl, rfl⟩ nmX6_finding ⟨Nat.le_of_ble_eq_true rfl, Nat.le_of_ble_eq_true rfl⟩ eT_b (fun _ _ _ => trivial) hK hP hD hS hA 0 rfl rfl rfl [0, 4] (by decide) rfl rfl rfl hl.1 (Nat.le_of_ble_eq_true rfl) dX6_write_10 ⟨Nat.zero_le _, Nat.zero_le _⟩ (fun _ => rfl) (fun _ => rfl) [a 0, a 8, a 9, a 10, a 4] rfl (fun _ => rfl) (fun r_10 u_10 H locs e_10 hP hD hS => ?_)
    obtain rfl := e_10
    exact rtI (wd, sz, nm, (fnd c 1)) F hr hlk hP hS rfl ((if_neg c_4).symm) dX6_write_13

def rmX6_copy : Room := { frames := 2, cells := 0, slots := 0, locals := 42 }
theorem nmX6_copy : NmV yX6_copy RX6 5 := by unfold NmV; decide +kernel
theorem hiX6_copy_6 : ∀ w ∈ u_ws RX6 TX6 22, w ∈ wsX6_copy := by decide +kernel
set_option maxHeartbeats 4000000 in
set_option maxRecDepth 100000 in
theorem kX6_copy (l : Launch) (dC : Nat → ClassId) (dI : Nat → Nat → Nat) (ct : Nat → ClassId) (a : Nat → Nat) (v wd sz nm c mv : Nat → Int32) (x1 x2 x3 x4 x5 : Int32) (hZ : RZ sz) : MI (S := (Nat → Int32) × (Nat → Int32) × (Nat → Int32) × (Nat → Int32) × (Nat → Int32)) l yX6_copy wsX6_copy rmX6_copy dC dI ct eT [.ref (a 0), .int x1, .int x2, .int x3, .int x4, .int x5] (oM a v :: ai ct (a 8) 4 wd :: ai ct (a 9) 4 sz :: ai ct (a 10) 160 nm :: ai ct (a 4) 8 c :: [ai ct (a 11) 40 mv]) (fun u => oM a v :: ai ct (a 8) 4 u.1 :: ai ct (a 9) 4 u.2.1 :: ai ct (a 10) 160 u.2.2.1 :: ai ct (a 4) 8 u.2.2.2.1 :: [ai ct (a 11) 40 u.2.2.2.2]) (fun r u => (r, u.1, u.2.1, u.2.2.1, u.2.2.2.1) = sCopy wd sz nm c x1 x2 x3 x4 x5) := by
  refine MI.of (cc := cX6_copy) (maxL := 7) (ret := (some .int)) (by decide) rfl (Nat.le_of_ble_eq_true rfl) ?_
  intro pg en z mi below meth cd A F hr hlk hin hK hP hD hA hS hE ls hl
  have F : CallFix pg mi cd cX6_copy 7 z _ wsX6_copy RX6 := F
  have hl : lv_has ls 7 [(0, .ref (a 0)), (1, .int x1), (2, .int x2), (3, .int x3), (4, .int x4), (5, .int x5)] := hl
  refine lv_iload_n F.1 F.2.1 dX6_copy_0 rfl (lv_at hl 1 rfl) ?_
  refine iS (rest := []) (wsp := fun _ => oM a v :: ai ct (a 8) 4 wd :: ai ct (a 9) 4 sz :: ai ct (a 10) 160 nm :: ai ct (a 4) 8 c :: [ai ct (a 11) 40 mv]) F (kX6_isSheet l dC dI ct x1) gX6_copy_X6_isSheet rfl ⟨rfl, rfl⟩ nmX6_isSheet ⟨Nat.le_of_ble_eq_true rfl, Nat.le_of_ble_eq_true rfl⟩ eT_b (fun _ _ _ => trivial) hK hP hD hS hA [] (by decide) rfl rfl rfl hl.1 (Nat.le_of_ble_eq_true rfl) dX6_copy_1 ⟨Nat.zero_le _, Nat.zero_le _⟩ (fun _ => rfl) (fun _ => rfl) [a 0, a 8, a 9, a 10, a 4, a 11] rfl (fun _ => rfl) (fun r_1 u_1 H locs e_1 hP hD hS => ?_)
  obtain rfl := e_1
  refine lv_if_eq (tgt := 14) F.1 F.2.1 dX6_copy_4 (by decide) (fun c_4 => ?_) (fun c_4 => ?_)
  · have c_4 : ¬ (0 ≤ x1 ∧ x1 ≤ 3) := b01f rfl c_4
    refine lv_aload_n F.1 F.2.1 dX6_copy_14 rfl (lv_at hl 0 rfl) ?_
    refine lv_ldc (v := (-1000001)) F.1 F.2.1 F.2.2.2.1 (F.2.2.2.2 _ (List.mem_of_getElem? (i := 1) rfl)) dX6_copy_15 ?_
    refine iV (rest := []) (wsp := fun _ => oM a v :: ai ct (a 8) 4 wd :: ai ct (a 9) 4 sz :: ai ct (a 10) 160 nm :: ai ct (a 4) 8 (fnd c 1) :: [ai ct (a 11) 40 mv]) F (kX6_finding l dC dI ct a v c (-1000001) 1 (by decide) (by decide) (by decide)) gX6_copy_X6_finding rfl ⟨rfl, rfl⟩ nmX6_finding ⟨Nat.le_of_ble_eq_true rfl, Nat.le_of_ble_eq_true rfl⟩ eT_b (fun _ _ _ => trivial) hK hP hD hS hA 0 rfl rfl rfl [0, 4] (by decide) rfl rfl rfl hl.1 (Nat.le_of_ble_eq_true rfl) dX6_copy_17 ⟨Nat.zero_le _, Nat.zero_le _⟩ (fun _ => rfl) (fun _ => rfl) [a 0, a 8, a 9, a 10, a 4, a 11] rfl (fun _ => rfl) (fun r_17 u_17 H locs e_17 hP hD hS => ?_)
    obtain rfl := e_17
    exact rtI (wd, sz, nm, (fnd c 1), mv) F hr hlk hP hS rfl ((if_neg (fun q => c_4 q.1)).symm) dX6_copy_20
  · have c_4 : 0 ≤ x1 ∧ x1 ≤ 3 := b01t rfl c_4
    obtain ⟨s, hs, rfl⟩ := gH_n c_4
    refine lv_iload_n F.1 F.2.1 dX6_copy_7 rfl (lv_at hl 3 rfl) ?_
    refine iS (rest := []) (wsp := fun _ => oM a v :: ai ct (a 8) 4 wd :: ai ct (a 9) 4 sz :: ai ct (a 10) 160 nm :: ai ct (a 4) 8 c :: [ai ct (a 11) 40 mv]) F (kX6_isSheet l dC dI ct x3) gX6_copy_X6_isSheet rfl ⟨rfl, rfl⟩ nmX6_isSheet ⟨Nat.le_of_ble_eq_true rfl, Nat.le_of_ble_eq_true rfl⟩ eT_b (fun _ _ _ => trivial) hK hP hD hS hA [] (by decide) rfl rfl rfl hl.1 (Nat.le_of_ble_eq_true rfl) dX6_copy_8 ⟨Nat.zero_le _, Nat.zero_le _⟩ (fun _ => rfl) (fun _ => rfl) [a 0, a 8, a 9, a 10, a 4, a 11] rfl (fun _ => rfl) (fun r_8 u_8 H locs e_8 hP hD hS => ?_)
    obtain rfl := e_8
    refine lv_if_ne (tgt := 21) F.1 F.2.1 dX6_copy_11 (by decide) (fun c_11 => ?_) (fun c_11 => ?_)
    · have c_11 : 0 ≤ x3 ∧ x3 ≤ 3 := b01t rfl c_11
      obtain ⟨t, ht, rfl⟩ := gH_n c_11
      refine lv_aload_n F.1 F.2.1 dX6_copy_21 rfl (lv_at hl 0 rfl) ?_
      refine gf F hK hP 0 rfl rfl hiX6_copy_6 18 (by decide) (List.mem_of_getElem? (i := 2) rfl) rfl dX6_copy_22 ?_
      refine lv_iload_n F.1 F.2.1 dX6_copy_25 rfl (lv_at hl 1 rfl) ?_
      refine al (v := wd s) F hK hP 1 0 rfl rfl s rfl (by omega) (by decide) rfl dX6_copy_26 ?_
      refine lv_if_eq (tgt := 39) F.1 F.2.1 dX6_copy_27 (by decide) (fun c_27 => ?_) (fun c_27 => ?_)
      · refine lv_aload_n F.1 F.2.1 dX6_copy_39 rfl (lv_at hl 0 rfl) ?_
        refine lv_ldcw (v := (-1000006)) F.1 F.2.1 F.2.2.2.1 (F.2.2.2.2 _ (List.mem_of_getElem? (i := 3) rfl)) dX6_copy_40 ?_
        refine iV (rest := []) (wsp := fun _ => oM a v :: ai ct (a 8) 4 wd :: ai ct (a 9) 4 sz :: ai ct (a 10) 160 nm :: ai ct (a 4) 8 (fnd c 6) :: [ai ct (a 11) 40 mv]) F (kX6_finding l dC dI ct a v c (-1000006) 6 (by decide) (by decide) (by decide)) gX6_copy_X6_finding rfl ⟨rfl, rfl⟩ nmX6_finding ⟨Nat.le_of_ble_eq_true rfl, Nat.le_of_ble_eq_true rfl⟩ eT_b (fun _ _ _ => trivial) hK hP hD hS hA 0 rfl rfl rfl [0, 4] (by decide) rfl rfl rfl hl.1 (Nat.le_of_ble_eq_true rfl) dX6_copy_43 ⟨Nat.zero_le _, Nat.zero_le _⟩ (fun _ => rfl) (fun _ => rfl) [a 0, a 8, a 9, a 10, a 4, a 11] rfl (fun _ => rfl) (fun r_43 u_43 H locs e_43 hP hD hS => ?_)
        obtain rfl := e_43
        exact rtI (wd, sz, nm, (fnd c 6), mv) F hr hlk hP hS rfl (Eq.trans (by rw [show tn (nI s) = s from nI_clamp (by omega), show tn (nI t) = t from nI_clamp (by omega)]; unfold kCopy; rw [if_pos (Or.inl c_27)]; rfl) (if_pos ⟨c_4, c_11⟩).symm) dX6_copy_46
      · refine lv_aload_n F.1 F.2.1 dX6_copy_30 rfl (lv_at hl 0 rfl) ?_
        refine gf F hK hP 0 rfl rfl hiX6_copy_6 18 (by decide) (List.mem_of_getElem? (i := 2) rfl) rfl dX6_copy_31 ?_
        refine lv_iload_n F.1 F.2.1 dX6_copy_34 rfl (lv_at hl 3 rfl) ?_
        refine al (v := wd t) F hK hP 1 0 rfl rfl t rfl (by omega) (by decide) rfl dX6_copy_35 ?_
        refine lv_if_ne (tgt := 47) F.1 F.2.1 dX6_copy_36 (by decide) (fun c_36 => ?_) (fun c_36 => ?_)
        · refine lv_aload_n F.1 F.2.1 dX6_copy_47 rfl (lv_at hl 0 rfl) ?_
          refine gf F hK hP 0 rfl rfl hiX6_copy_6 18 (by decide) (List.mem_of_getElem? (i := 2) rfl) rfl dX6_copy_48 ?_
          refine lv_iload_n F.1 F.2.1 dX6_copy_51 rfl (lv_at hl 1 rfl) ?_
          refine al (v := wd s) F hK hP 1 0 rfl rfl s rfl (by omega) (by decide) rfl dX6_copy_52 ?_
          refine lv_aload_n F.1 F.2.1 dX6_copy_53 rfl (lv_at hl 0 rfl) ?_
          refine gf F hK hP 0 rfl rfl hiX6_copy_6 18 (by decide) (List.mem_of_getElem? (i := 2) rfl) rfl dX6_copy_54 ?_
          refine lv_iload_n F.1 F.2.1 dX6_copy_57 rfl (lv_at hl 3 rfl) ?_
          refine al (v := wd t) F hK hP 1 0 rfl rfl t rfl (by omega) (by decide) rfl dX6_copy_58 ?_
          refine lv_icmp_eq (tgt := 70) F.1 F.2.1 dX6_copy_59 (by decide) (fun c_59 => ?_) (fun c_59 => ?_)
          · refine lv_iload_n F.1 F.2.1 dX6_copy_70 rfl (lv_at hl 2 rfl) ?_
            refine lv_if_lt (tgt := 119) F.1 F.2.1 dX6_copy_71 (by decide) (fun c_71 => ?_) (fun c_71 => ?_)
            · refine lv_aload_n F.1 F.2.1 dX6_copy_119 rfl (lv_at hl 0 rfl) ?_
              refine lv_ldc (v := (-1000001)) F.1 F.2.1 F.2.2.2.1 (F.2.2.2.2 _ (List.mem_of_getElem? (i := 1) rfl)) dX6_copy_120 ?_
              refine iV (rest := []) (wsp := fun _ => oM a v :: ai ct (a 8) 4 wd :: ai ct (a 9) 4 sz :: ai ct (a 10) 160 nm :: ai ct (a 4) 8 (fnd c 1) :: [ai ct (a 11) 40 mv]) F (kX6_finding l dC dI ct a v c (-1000001) 1 (by decide) (by decide) (by decide)) gX6_copy_X6_finding rfl ⟨rfl, rfl⟩ nmX6_finding ⟨Nat.le_of_ble_eq_true rfl, Nat.le_of_ble_eq_true rfl⟩ eT_b (fun _ _ _ => trivial) hK hP hD hS hA 0 rfl rfl rfl [0, 4] (by decide) rfl rfl rfl hl.1 (Nat.le_of_ble_eq_true rfl) dX6_copy_122 ⟨Nat.zero_le _, Nat.zero_le _⟩ (fun _ => rfl) (fun _ => rfl) [a 0, a 8, a 9, a 10, a 4, a 11] rfl (fun _ => rfl) (fun r_122 u_122 H locs e_122 hP hD hS => ?_)
              obtain rfl := e_122
              exact rtI (wd, sz, nm, (fnd c 1), mv) F hr hlk hP hS rfl (Eq.trans (by rw [show tn (nI s) = s from nI_clamp (by omega), show tn (nI t) = t from nI_clamp (by omega)]; unfold kCopy; rw [if_neg (fun q => q.elim c_27 c_36), if_neg (fun q => q c_59), if_neg (fun q => absurd q.1.1 (Int32.not_le.mpr c_71))]; rfl) (if_pos ⟨c_4, c_11⟩).symm) dX6_copy_125
            · obtain ⟨ja, hja, rfl⟩ := nn_of c_71
              refine lv_iload F.1 F.2.1 dX6_copy_74 (lv_at hl 4 rfl) ?_
              refine lv_if_lt (tgt := 119) F.1 F.2.1 dX6_copy_76 (by decide) (fun c_76 => ?_) (fun c_76 => ?_)
              · refine lv_aload_n F.1 F.2.1 dX6_copy_119 rfl (lv_at hl 0 rfl) ?_
                refine lv_ldc (v := (-1000001)) F.1 F.2.1 F.2.2.2.1 (F.2.2.2.2 _ (List.mem_of_getElem? (i := 1) rfl)) dX6_copy_120 ?_
                refine iV (rest := []) (wsp := fun _ => oM a v :: ai ct (a 8) 4 wd :: ai ct (a 9) 4 sz :: ai ct (a 10) 160 nm :: ai ct (a 4) 8 (fnd c 1) :: [ai ct (a 11) 40 mv]) F (kX6_finding l dC dI ct a v c (-1000001) 1 (by decide) (by decide) (by decide)) gX6_copy_X6_finding rfl ⟨rfl, rfl⟩ nmX6_finding ⟨Nat.le_of_ble_eq_true rfl, Nat.le_of_ble_eq_true rfl⟩ eT_b (fun _ _ _ => trivial) hK hP hD hS hA 0 rfl rfl rfl [0, 4] (by decide) rfl rfl rfl hl.1 (Nat.le_of_ble_eq_true rfl) dX6_copy_122 ⟨Nat.zero_le _, Nat.zero_le _⟩ (fun _ => rfl) (fun _ => rfl) [a 0, a 8, a 9, a 10, a 4, a 11] rfl (fun _ => rfl) (fun r_122 u_122 H locs e_122 hP hD hS => ?_)
                obtain rfl := e_122
                exact rtI (wd, sz, nm, (fnd c 1), mv) F hr hlk hP hS rfl (Eq.trans (by rw [show tn (nI s) = s from nI_clamp (by omega), show tn (nI t) = t from nI_clamp (by omega)]; unfold kCopy; rw [if_neg (fun q => q.elim c_27 c_36), if_neg (fun q => q c_59), if_neg (fun q => absurd q.2.1 (Int32.not_le.mpr c_76))]; rfl) (if_pos ⟨c_4, c_11⟩).symm) dX6_copy_125
              · obtain ⟨jb, hjb, rfl⟩ := nn_of c_76
                refine lv_iload F.1 F.2.1 dX6_copy_79 (lv_at hl 5 rfl) ?_
                refine lv_if_lt (tgt := 119) F.1 F.2.1 dX6_copy_81 (by decide) (fun c_81 => ?_) (fun c_81 => ?_)
                · refine lv_aload_n F.1 F.2.1 dX6_copy_119 rfl (lv_at hl 0 rfl) ?_
                  refine lv_ldc (v := (-1000001)) F.1 F.2.1 F.2.2.2.1 (F.2.2.2.2 _ (List.mem_of_getElem? (i := 1) rfl)) dX6_copy_120 ?_
                  refine iV (rest := []) (wsp := fun _ => oM a v :: ai ct (a 8) 4 wd :: ai ct (a 9) 4 sz :: ai ct (a 10) 160 nm :: ai ct (a 4) 8 (fnd c 1) :: [ai ct (a 11) 40 mv]) F (kX6_finding l dC dI ct a v c (-1000001) 1 (by decide) (by decide) (by decide)) gX6_copy_X6_finding rfl ⟨rfl, rfl⟩ nmX6_finding ⟨Nat.le_of_ble_eq_true rfl, Nat.le_of_ble_eq_true rfl⟩ eT_b (fun _ _ _ => trivial) hK hP hD hS hA 0 rfl rfl rfl [0, 4] (by decide) rfl rfl rfl hl.1 (Nat.le_of_ble_eq_true rfl) dX6_copy_122 ⟨Nat.zero_le _, Nat.zero_le _⟩ (fun _ => rfl) (fun _ => rfl) [a 0, a 8, a 9, a 10, a 4, a 11] rfl (fun _ => rfl) (fun r_122 u_122 H locs e_122 hP hD hS => ?_)
                  obtain rfl := e_122
                  exact rtI (wd, sz, nm, (fnd c 1), mv) F hr hlk hP hS rfl (Eq.trans (by rw [show tn (nI s) = s from nI_clamp (by omega), show tn (nI t) = t from nI_clamp (by omega)]; unfold kCopy; rw [if_neg (fun q => q.elim c_27 c_36), if_neg (fun q => q c_59), if_neg (fun q => absurd q.1.2.1 (Int32.not_le.mpr c_81))]; rfl) (if_pos ⟨c_4, c_11⟩).symm) dX6_copy_125
                · obtain ⟨jn, hjn, rfl⟩ := nn_of c_81
                  obtain ⟨m, hm, em⟩ := hZ s hs
                  obtain ⟨m2, hm2, em2⟩ := hZ t ht
                  refine lv_iload_n F.1 F.2.1 dX6_copy_84 rfl (lv_at hl 2 rfl) ?_
                  refine lv_i2l F.1 F.2.1 dX6_copy_85 (nI_l (n := ja) (by omega)) ?_
                  refine lv_iload F.1 F.2.1 dX6_copy_86 (lv_at hl 5 rfl) ?_
                  refine lv_i2l F.1 F.2.1 dX6_copy_88 (nI_l (n := jn) (by omega)) ?_
                  refine lv_ladd F.1 F.2.1 dX6_copy_89 ?_
                  refine tpL (y := lN (ja + jn)) (lN_add _ _) ?_
                  refine lv_aload_n F.1 F.2.1 dX6_copy_90 rfl (lv_at hl 0 rfl) ?_
                  refine gf F hK hP 0 rfl rfl hiX6_copy_6 19 (by decide) (List.mem_of_getElem? (i := 5) rfl) rfl dX6_copy_91 ?_
                  refine lv_iload_n F.1 F.2.1 dX6_copy_94 rfl (lv_at hl 1 rfl) ?_
                  refine al (v := sz s) F hK hP 2 0 rfl rfl s rfl (by omega) (by decide) rfl dX6_copy_95 ?_
                  refine tp (y := nI m) em ?_
                  refine lv_i2l F.1 F.2.1 dX6_copy_96 (nI_l (n := m) (by omega)) ?_
                  refine W.lcmp F.1 F.2.1 dX6_copy_97 ?_
                  refine lv_if_gt (tgt := 119) F.1 F.2.1 dX6_copy_98 (by decide) (fun c_98 => ?_) (fun c_98 => ?_)
                  · refine lv_aload_n F.1 F.2.1 dX6_copy_119 rfl (lv_at hl 0 rfl) ?_
                    refine lv_ldc (v := (-1000001)) F.1 F.2.1 F.2.2.2.1 (F.2.2.2.2 _ (List.mem_of_getElem? (i := 1) rfl)) dX6_copy_120 ?_
                    refine iV (rest := []) (wsp := fun _ => oM a v :: ai ct (a 8) 4 wd :: ai ct (a 9) 4 sz :: ai ct (a 10) 160 nm :: ai ct (a 4) 8 (fnd c 1) :: [ai ct (a 11) 40 mv]) F (kX6_finding l dC dI ct a v c (-1000001) 1 (by decide) (by decide) (by decide)) gX6_copy_X6_finding rfl ⟨rfl, rfl⟩ nmX6_finding ⟨Nat.le_of_ble_eq_true rfl, Nat.le_of_ble_eq_true rfl⟩ eT_b (fun _ _ _ => trivial) hK hP hD hS hA 0 rfl rfl rfl [0, 4] (by decide) rfl rfl rfl hl.1 (Nat.le_of_ble_eq_true rfl) dX6_copy_122 ⟨Nat.zero_le _, Nat.zero_le _⟩ (fun _ => rfl) (fun _ => rfl) [a 0, a 8, a 9, a 10, a 4, a 11] rfl (fun _ => rfl) (fun r_122 u_122 H locs e_122 hP hD hS => ?_)
                    obtain rfl := e_122
                    exact rtI (wd, sz, nm, (fnd c 1), mv) F hr hlk hP hS rfl (Eq.trans (by rw [show tn (nI s) = s from nI_clamp (by omega), show tn (nI t) = t from nI_clamp (by omega)]; unfold kCopy; rw [if_neg (fun q => q.elim c_27 c_36), if_neg (fun q => q c_59), if_neg (fun q => cp_no hja hjn hm em (Int32.not_le.mpr c_98) q.1)]; rfl) (if_pos ⟨c_4, c_11⟩).symm) dX6_copy_125
                  · have k1 := cp_yes hja hjn hm em (Int32.not_lt.mp c_98)
                    refine lv_iload F.1 F.2.1 dX6_copy_101 (lv_at hl 4 rfl) ?_
                    refine lv_i2l F.1 F.2.1 dX6_copy_103 (nI_l (n := jb) (by omega)) ?_
                    refine lv_iload F.1 F.2.1 dX6_copy_104 (lv_at hl 5 rfl) ?_
                    refine lv_i2l F.1 F.2.1 dX6_copy_106 (nI_l (n := jn) (by omega)) ?_
                    refine lv_ladd F.1 F.2.1 dX6_copy_107 ?_
                    refine tpL (y := lN (jb + jn)) (lN_add _ _) ?_
                    refine lv_aload_n F.1 F.2.1 dX6_copy_108 rfl (lv_at hl 0 rfl) ?_
                    refine gf F hK hP 0 rfl rfl hiX6_copy_6 19 (by decide) (List.mem_of_getElem? (i := 5) rfl) rfl dX6_copy_109 ?_
                    refine lv_iload_n F.1 F.2.1 dX6_copy_112 rfl (lv_at hl 3 rfl) ?_
                    refine al (v := sz t) F hK hP 2 0 rfl rfl t rfl (by omega) (by decide) rfl dX6_copy_113 ?_
                    refine tp (y := nI m2) em2 ?_
                    refine lv_i2l F.1 F.2.1 dX6_copy_114 (nI_l (n := m2) (by omega)) ?_
                    refine W.lcmp F.1 F.2.1 dX6_copy_115 ?_
                    refine lv_if_le (tgt := 126) F.1 F.2.1 dX6_copy_116 (by decide) (fun c_116 => ?_) (fun c_116 => ?_)
                    · have k2 := cp_yes hjb hjn hm2 em2 c_116
                      refine lv_iconst (v := 0) F.1 F.2.1 dX6_copy_126 (by decide) ?_
                      refine lv_istore (lv' := [(6, .int 0), (0, .ref (a 0)), (1, .int (nI s)), (2, .int (nI ja)), (3, .int (nI t)), (4, .int (nI jb)), (5, .int (nI jn))]) F.1 F.2.1 dX6_copy_127 hl (by decide) rfl (fun ls hl => ?_)
                      rw [← mvU_0 mv nm (40 * s + ja)] at hP hD
                      refine loopN (I := fun k H locs ls => va_P (dC, dI) vwCl (oM a v :: ai ct (a 8) 4 wd :: ai ct (a 9) 4 sz :: ai ct (a 10) 160 nm :: ai ct (a 4) 8 c :: [ai ct (a 11) 40 (mvU mv nm (40 * s + ja) k)]) H ∧ va_D A (oM a v :: ai ct (a 8) 4 wd :: ai ct (a 9) 4 sz :: ai ct (a 10) 160 nm :: ai ct (a 4) 8 c :: [ai ct (a 11) 40 (mvU mv nm (40 * s + ja) k)]) ∧ va_S A z.heap H locs ∧ lv_has ls 7 [(6, .int (nI k)), (0, .ref (a 0)), (1, .int (nI s)), (2, .int (nI ja)), (3, .int (nI t)), (4, .int (nI jb)), (5, .int (nI jn))]) jn 0 (by omega) ⟨hP, hD, hS, lv_sub hl [0, 1, 2, 3, 4, 5, 6] rfl⟩ (fun H locs ls hI => ?_) (fun k hk_k H locs ls hI ih_129 => ?_)
                      · obtain ⟨hP, hD, hS, hl⟩ := hI
                        refine lv_iload F.1 F.2.1 dX6_copy_129 (lv_at hl 0 rfl) ?_
                        refine lv_iload F.1 F.2.1 dX6_copy_131 (lv_at hl 6 rfl) ?_
                        refine lv_icmp_ge (tgt := 163) F.1 F.2.1 dX6_copy_133 (by decide) (fun c_133 => ?_) (fun c_133 => ?_)
                        · refine lv_iconst (v := 0) F.1 F.2.1 dX6_copy_163 (by decide) ?_
                          refine lv_istore (lv' := [(6, .int 0), (0, .ref (a 0)), (1, .int (nI s)), (2, .int (nI ja)), (3, .int (nI t)), (4, .int (nI jb)), (5, .int (nI jn))]) F.1 F.2.1 dX6_copy_164 hl (by decide) rfl (fun ls hl => ?_)
                          generalize hwv : mvU mv nm (40 * s + ja) jn = wv at hP hD
                          rw [← mvN_0 nm (40 * s + ja) (40 * t + jb)] at hP hD
                          refine loopN (I := fun k H locs ls => va_P (dC, dI) vwCl (oM a v :: ai ct (a 8) 4 wd :: ai ct (a 9) 4 sz :: ai ct (a 10) 160 (mvN nm (40 * s + ja) (40 * t + jb) k) :: ai ct (a 4) 8 c :: [ai ct (a 11) 40 wv]) H ∧ va_D A (oM a v :: ai ct (a 8) 4 wd :: ai ct (a 9) 4 sz :: ai ct (a 10) 160 (mvN nm (40 * s + ja) (40 * t + jb) k) :: ai ct (a 4) 8 c :: [ai ct (a 11) 40 wv]) ∧ va_S A z.heap H locs ∧ lv_has ls 7 [(6, .int (nI k)), (0, .ref (a 0)), (1, .int (nI s)), (2, .int (nI ja)), (3, .int (nI t)), (4, .int (nI jb)), (5, .int (nI jn))]) jn 0 (by omega) ⟨hP, hD, hS, lv_sub hl [0, 1, 2, 3, 4, 5, 6] rfl⟩ (fun H locs ls hI => ?_) (fun k hk_k H locs ls hI ih_166 => ?_)
                          · obtain ⟨hP, hD, hS, hl⟩ := hI
                            refine lv_iload F.1 F.2.1 dX6_copy_166 (lv_at hl 0 rfl) ?_
                            refine lv_iload F.1 F.2.1 dX6_copy_168 (lv_at hl 6 rfl) ?_
                            refine lv_icmp_ge (tgt := 201) F.1 F.2.1 dX6_copy_170 (by decide) (fun c_170 => ?_) (fun c_170 => ?_)
                            · refine lv_iload F.1 F.2.1 dX6_copy_201 (lv_at hl 6 rfl) ?_
                              exact rtI (wd, sz, (mvN nm (40 * s + ja) (40 * t + jb) jn), c, wv) F hr hlk hP hS rfl (Eq.trans (by rw [show tn (nI s) = s from nI_clamp (by omega), show tn (nI t) = t from nI_clamp (by omega)]; unfold kCopy; rw [if_neg (fun q => q.elim c_27 c_36), if_neg (fun q => q c_59), if_pos ⟨k1.2, k2.2⟩, show tn (nI ja) = ja from nI_clamp hja, show tn (nI jb) = jb from nI_clamp hjb, show tn (nI jn) = jn from nI_clamp hjn]) (if_pos ⟨c_4, c_11⟩).symm) dX6_copy_203
                            · exact absurd (nI_le (Nat.le_refl _) (by omega)) c_170
                          · obtain ⟨hP, hD, hS, hl⟩ := hI
                            refine lv_iload F.1 F.2.1 dX6_copy_166 (lv_at hl 0 rfl) ?_
                            refine lv_iload F.1 F.2.1 dX6_copy_168 (lv_at hl 6 rfl) ?_
                            refine lv_icmp_ge (tgt := 201) F.1 F.2.1 dX6_copy_170 (by decide) (fun c_170 => ?_) (fun c_170 => ?_)
                            · exact absurd c_170 (nI_ge hk_k (by omega))
                            · refine lv_aload_n F.1 F.2.1 dX6_copy_173 rfl (lv_at hl 1 rfl) ?_
                              refine gf F hK hP 0 rfl rfl hiX6_copy_6 20 (by decide) (List.mem_of_getElem? (i := 7) rfl) rfl dX6_copy_174 ?_
                              refine lv_bipush (v := 40) F.1 F.2.1 dX6_copy_177 (by decide) ?_
                              refine lv_iload_n F.1 F.2.1 dX6_copy_179 rfl (lv_at hl 4 rfl) ?_
                              refine lv_imul F.1 F.2.1 dX6_copy_180 ?_
                              refine tp (y := nI (40 * t)) (ml2 (a := 40) (b := t) (c := 40 * t) rfl rfl rfl) ?_
                              refine lv_iload F.1 F.2.1 dX6_copy_181 (lv_at hl 5 rfl) ?_
                              refine lv_iadd F.1 F.2.1 dX6_copy_183 ?_
                              refine tp (y := nI (40 * t + jb)) (ad2 (a := 40 * t) (b := jb) (c := 40 * t + jb) rfl rfl rfl) ?_
                              refine lv_iload F.1 F.2.1 dX6_copy_184 (lv_at hl 0 rfl) ?_
                              refine lv_iadd F.1 F.2.1 dX6_copy_186 ?_
                              refine tp (y := nI (40 * t + jb + k)) (ad2 (a := 40 * t + jb) (b := k) (c := 40 * t + jb + k) rfl rfl rfl) ?_
                              refine lv_aload_n F.1 F.2.1 dX6_copy_187 rfl (lv_at hl 1 rfl) ?_
                              refine gf F hK hP 0 rfl rfl hiX6_copy_6 21 (by decide) (List.mem_of_getElem? (i := 6) rfl) rfl dX6_copy_188 ?_
                              refine lv_iload F.1 F.2.1 dX6_copy_191 (lv_at hl 0 rfl) ?_
                              refine al (v := wv k) F hK hP 5 0 rfl rfl k rfl (by omega) (by decide) rfl dX6_copy_193 ?_
                              refine tp (y := nm (40 * s + ja + k)) (by rw [← hwv]; exact mvU_lt mv nm _ hk_k) ?_
                              refine ast (ws' := oM a v :: ai ct (a 8) 4 wd :: ai ct (a 9) 4 sz :: ai ct (a 10) 160 (upd (mvN nm (40 * s + ja) (40 * t + jb) k) (40 * t + jb + k) (nm (40 * s + ja + k))) :: ai ct (a 4) 8 c :: [ai ct (a 11) 40 wv]) F hK hP hD hS 3 0 rfl rfl (40 * t + jb + k) rfl (by omega) (by decide) dX6_copy_194 (weq.rf _) (fun H locs hP hD hS => ?_)
                              refine lv_iinc (v := nI (k + 1)) (lv' := [(6, .int (nI (k + 1))), (0, .ref (a 0)), (1, .int (nI s)), (2, .int (nI ja)), (3, .int (nI t)), (4, .int (nI jb)), (5, .int (nI jn))]) F.1 F.2.1 dX6_copy_195 hl (k := 0) rfl (by rw [show Int32.ofInt 1 = nI 1 from rfl, nI_add]) (by decide) rfl (fun ls hl => ?_)
                              refine lv_goto (tgt := 166) F.1 F.2.1 dX6_copy_198 (by decide) ?_
                              have eb : upd (mvN nm (40 * s + ja) (40 * t + jb) k) (40 * t + jb + k) (nm (40 * s + ja + k)) = mvN nm (40 * s + ja) (40 * t + jb) (k + 1) := mvN_S nm _ _ k
                              rw [eb] at hP hD
                              exact ih_166 _ _ _ ⟨hP, hD, hS, lv_sub hl [0, 1, 2, 3, 4, 5, 6] rfl⟩
                        · exact absurd (nI_le (Nat.le_refl _) (by omega)) c_133
                      · obtain ⟨hP, hD, hS, hl⟩ := hI
                        refine lv_iload F.1 F.2.1 dX6_copy_129 (lv_at hl 0 rfl) ?_
                        refine lv_iload F.1 F.2.1 dX6_copy_131 (lv_at hl 6 rfl) ?_
                        refine lv_icmp_ge (tgt := 163) F.1 F.2.1 dX6_copy_133 (by decide) (fun c_133 => ?_) (fun c_133 => ?_)
                        · exact absurd c_133 (nI_ge hk_k (by omega))
                        · refine lv_aload_n F.1 F.2.1 dX6_copy_136 rfl (lv_at hl 1 rfl) ?_
                          refine gf F hK hP 0 rfl rfl hiX6_copy_6 21 (by decide) (List.mem_of_getElem? (i := 6) rfl) rfl dX6_copy_137 ?_
                          refine lv_iload F.1 F.2.1 dX6_copy_140 (lv_at hl 0 rfl) ?_
                          refine lv_aload_n F.1 F.2.1 dX6_copy_142 rfl (lv_at hl 1 rfl) ?_
                          refine gf F hK hP 0 rfl rfl hiX6_copy_6 20 (by decide) (List.mem_of_getElem? (i := 7) rfl) rfl dX6_copy_143 ?_
                          refine lv_bipush (v := 40) F.1 F.2.1 dX6_copy_146 (by decide) ?_
                          refine lv_iload_n F.1 F.2.1 dX6_copy_148 rfl (lv_at hl 2 rfl) ?_
                          refine lv_imul F.1 F.2.1 dX6_copy_149 ?_
                          refine tp (y := nI (40 * s)) (ml2 (a := 40) (b := s) (c := 40 * s) rfl rfl rfl) ?_
                          refine lv_iload_n F.1 F.2.1 dX6_copy_150 rfl (lv_at hl 3 rfl) ?_
                          refine lv_iadd F.1 F.2.1 dX6_copy_151 ?_
                          refine tp (y := nI (40 * s + ja)) (ad2 (a := 40 * s) (b := ja) (c := 40 * s + ja) rfl rfl rfl) ?_
                          refine lv_iload F.1 F.2.1 dX6_copy_152 (lv_at hl 0 rfl) ?_
                          refine lv_iadd F.1 F.2.1 dX6_copy_154 ?_
                          refine tp (y := nI (40 * s + ja + k)) (ad2 (a := 40 * s + ja) (b := k) (c := 40 * s + ja + k) rfl rfl rfl) ?_
                          refine al (v := nm (40 * s + ja + k)) F hK hP 3 0 rfl rfl (40 * s + ja + k) rfl (by omega) (by decide) rfl dX6_copy_155 ?_
                          refine ast (ws' := oM a v :: ai ct (a 8) 4 wd :: ai ct (a 9) 4 sz :: ai ct (a 10) 160 nm :: ai ct (a 4) 8 c :: [ai ct (a 11) 40 (upd (mvU mv nm (40 * s + ja) k) k (nm (40 * s + ja + k)))]) F hK hP hD hS 5 0 rfl rfl k rfl (by omega) (by decide) dX6_copy_156 (weq.rf _) (fun H locs hP hD hS => ?_)
                          refine lv_iinc (v := nI (k + 1)) (lv' := [(6, .int (nI (k + 1))), (0, .ref (a 0)), (1, .int (nI s)), (2, .int (nI ja)), (3, .int (nI t)), (4, .int (nI jb)), (5, .int (nI jn))]) F.1 F.2.1 dX6_copy_157 hl (k := 0) rfl (by rw [show Int32.ofInt 1 = nI 1 from rfl, nI_add]) (by decide) rfl (fun ls hl => ?_)
                          refine lv_goto (tgt := 129) F.1 F.2.1 dX6_copy_160 (by decide) ?_
                          have eb : upd (mvU mv nm (40 * s + ja) k) k (nm (40 * s + ja + k)) = mvU mv nm (40 * s + ja) (k + 1) := mvU_S mv nm _ k
                          rw [eb] at hP hD
                          exact ih_129 _ _ _ ⟨hP, hD, hS, lv_sub hl [0, 1, 2, 3, 4, 5, 6] rfl⟩
                    · refine lv_aload_n F.1 F.2.1 dX6_copy_119 rfl (lv_at hl 0 rfl) ?_
                      refine lv_ldc (v := (-1000001)) F.1 F.2.1 F.2.2.2.1 (F.2.2.2.2 _ (List.mem_of_getElem? (i := 1) rfl)) dX6_copy_120 ?_
                      refine iV (rest := []) (wsp := fun _ => oM a v :: ai ct (a 8) 4 wd :: ai ct (a 9) 4 sz :: ai ct (a 10) 160 nm :: ai ct (a 4) 8 (fnd c 1) :: [ai ct (a 11) 40 mv]) F (kX6_finding l dC dI ct a v c (-1000001) 1 (by decide) (by decide) (by decide)) gX6_copy_X6_finding rfl ⟨rfl, rfl⟩ nmX6_finding ⟨Nat.le_of_ble_eq_true rfl, Nat.le_of_ble_eq_true rfl⟩ eT_b (fun _ _ _ => trivial) hK hP hD hS hA 0 rfl rfl rfl [0, 4] (by decide) rfl rfl rfl hl.1 (Nat.le_of_ble_eq_true rfl) dX6_copy_122 ⟨Nat.zero_le _, Nat.zero_le _⟩ (fun _ => rfl) (fun _ => rfl) [a 0, a 8, a 9, a 10, a 4, a 11] rfl (fun _ => rfl) (fun r_122 u_122 H locs e_122 hP hD hS => ?_)
                      obtain rfl := e_122
                      exact rtI (wd, sz, nm, (fnd c 1), mv) F hr hlk hP hS rfl (Eq.trans (by rw [show tn (nI s) = s from nI_clamp (by omega), show tn (nI t) = t from nI_clamp (by omega)]; unfold kCopy; rw [if_neg (fun q => q.elim c_27 c_36), if_neg (fun q => q c_59), if_neg (fun q => cp_no hjb hjn hm2 em2 c_116 q.2)]; rfl) (if_pos ⟨c_4, c_11⟩).symm) dX6_copy_125
          · refine lv_aload_n F.1 F.2.1 dX6_copy_62 rfl (lv_at hl 0 rfl) ?_
            refine lv_ldcw (v := (-1000003)) F.1 F.2.1 F.2.2.2.1 (F.2.2.2.2 _ (List.mem_of_getElem? (i := 4) rfl)) dX6_copy_63 ?_
            refine iV (rest := []) (wsp := fun _ => oM a v :: ai ct (a 8) 4 wd :: ai ct (a 9) 4 sz :: ai ct (a 10) 160 nm :: ai ct (a 4) 8 (fnd c 3) :: [ai ct (a 11) 40 mv]) F (kX6_finding l dC dI ct a v c (-1000003) 3 (by decide) (by decide) (by decide)) gX6_copy_X6_finding rfl ⟨rfl, rfl⟩ nmX6_finding ⟨Nat.le_of_ble_eq_true rfl, Nat.le_of_ble_eq_true rfl⟩ eT_b (fun _ _ _ => trivial) hK hP hD hS hA 0 rfl rfl rfl [0, 4] (by decide) rfl rfl rfl hl.1 (Nat.le_of_ble_eq_true rfl) dX6_copy_66 ⟨Nat.zero_le _, Nat.zero_le _⟩ (fun _ => rfl) (fun _ => rfl) [a 0, a 8, a 9, a 10, a 4, a 11] rfl (fun _ => rfl) (fun r_66 u_66 H locs e_66 hP hD hS => ?_)
            obtain rfl := e_66
            exact rtI (wd, sz, nm, (fnd c 3), mv) F hr hlk hP hS rfl (Eq.trans (by rw [show tn (nI s) = s from nI_clamp (by omega), show tn (nI t) = t from nI_clamp (by omega)]; unfold kCopy; rw [if_neg (fun q => q.elim c_27 c_36), if_pos c_59]; rfl) (if_pos ⟨c_4, c_11⟩).symm) dX6_copy_69
        · refine lv_aload_n F.1 F.2.1 dX6_copy_39 rfl (lv_at hl 0 rfl) ?_
          refine lv_ldcw (v := (-1000006)) F.1 F.2.1 F.2.2.2.1 (F.2.2.2.2 _ (List.mem_of_getElem? (i := 3) rfl)) dX6_copy_40 ?_
          refine iV (rest := []) (wsp := fun _ => oM a v :: ai ct (a 8) 4 wd :: ai ct (a 9) 4 sz :: ai ct (a 10) 160 nm :: ai ct (a 4) 8 (fnd c 6) :: [ai ct (a 11) 40 mv]) F (kX6_finding l dC dI ct a v c (-1000006) 6 (by decide) (by decide) (by decide)) gX6_copy_X6_finding rfl ⟨rfl, rfl⟩ nmX6_finding ⟨Nat.le_of_ble_eq_true rfl, Nat.le_of_ble_eq_true rfl⟩ eT_b (fun _ _ _ => trivial) hK hP hD hS hA 0 rfl rfl rfl [0, 4] (by decide) rfl rfl rfl hl.1 (Nat.le_of_ble_eq_true rfl) dX6_copy_43 ⟨Nat.zero_le _, Nat.zero_le _⟩ (fun _ => rfl) (fun _ => rfl) [a 0, a 8, a 9, a 10, a 4, a 11] rfl (fun _ => rfl) (fun r_43 u_43 H locs e_43 hP hD hS => ?_)
          obtain rfl := e_43
          exact rtI (wd, sz, nm, (fnd c 6), mv) F hr hlk hP hS rfl (Eq.trans (by rw [show tn (nI s) = s from nI_clamp (by omega), show tn (nI t) = t from nI_clamp (by omega)]; unfold kCopy; rw [if_pos (Or.inr c_36)]; rfl) (if_pos ⟨c_4, c_11⟩).symm) dX6_copy_46
    · have c_11 : ¬ (0 ≤ x3 ∧ x3 ≤ 3) := b01f rfl c_11
      refine lv_aload_n F.1 F.2.1 dX6_copy_14 rfl (lv_at hl 0 rfl) ?_
      refine lv_ldc (v := (-1000001)) F.1 F.2.1 F.2.2.2.1 (F.2.2.2.2 _ (List.mem_of_getElem? (i := 1) rfl)) dX6_copy_15 ?_
      refine iV (rest := []) (wsp := fun _ => oM a v :: ai ct (a 8) 4 wd :: ai ct (a 9) 4 sz :: ai ct (a 10) 160 nm :: ai ct (a 4) 8 (fnd c 1) :: [ai ct (a 11) 40 mv]) F (kX6_finding l dC dI ct a v c (-1000001) 1 (by decide) (by decide) (by decide)) gX6_copy_X6_finding rfl ⟨rfl, rfl⟩ nmX6_finding ⟨Nat.le_of_ble_eq_true rfl, Nat.le_of_ble_eq_true rfl⟩ eT_b (fun _ _ _ => trivial) hK hP hD hS hA 0 rfl rfl rfl [0, 4] (by decide) rfl rfl rfl hl.1 (Nat.le_of_ble_eq_true rfl) dX6_copy_17 ⟨Nat.zero_le _, Nat.zero_le _⟩ (fun _ => rfl) (fun _ => rfl) [a 0, a 8, a 9, a 10, a 4, a 11] rfl (fun _ => rfl) (fun r_17 u_17 H locs e_17 hP hD hS => ?_)
      obtain rfl := e_17
      exact rtI (wd, sz, nm, (fnd c 1), mv) F hr hlk hP hS rfl ((if_neg (fun q => c_11 q.2)).symm) dX6_copy_20
