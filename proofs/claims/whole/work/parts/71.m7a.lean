def rmX6_load : Room := { frames := 2, cells := 0, slots := 0, locals := 42 }
theorem nmX6_load : NmV yX6_load RX6 1 := by unfold NmV; decide +kernel
theorem hiX6_load_6 : ∀ w ∈ u_ws RX6 TX6 22, w ∈ wsX6_load := by decide +kernel
set_option maxHeartbeats 4000000 in
set_option maxRecDepth 100000 in
theorem kX6_load (l : Launch) (dC : Nat → ClassId) (dI : Nat → Nat → Nat) (ct : Nat → ClassId) (a : Nat → Nat) (v f c wd sz nm : Nat → Int32) (x1 : Int32) (hZ : RZ sz) : MI (S := (Nat → Int32) × (Nat → Int32)) l yX6_load wsX6_load rmX6_load dC dI ct eT [.ref (a 0), .int x1] (oM a v :: ai ct (a 1) 210 f :: ai ct (a 4) 8 c :: ai ct (a 8) 4 wd :: ai ct (a 9) 4 sz :: [ai ct (a 10) 160 nm]) (fun u => oM a v :: ai ct (a 1) 210 u.1 :: ai ct (a 4) 8 u.2 :: ai ct (a 8) 4 wd :: ai ct (a 9) 4 sz :: [ai ct (a 10) 160 nm]) (fun r u => (r, u.1, u.2) = sLoad f c wd sz nm x1) := by
  refine MI.of (cc := cX6_load) (maxL := 3) (ret := (some .int)) (by decide) rfl (Nat.le_of_ble_eq_true rfl) ?_
  intro pg en z mi below meth cd A F hr hlk hin hK hP hD hA hS hE ls hl
  have F : CallFix pg mi cd cX6_load 3 z _ wsX6_load RX6 := F
  have hl : lv_has ls 3 [(0, .ref (a 0)), (1, .int x1)] := hl
  refine lv_iload_n F.1 F.2.1 dX6_load_0 rfl (lv_at hl 1 rfl) ?_
  refine iS (rest := []) (wsp := fun _ => oM a v :: ai ct (a 1) 210 f :: ai ct (a 4) 8 c :: ai ct (a 8) 4 wd :: ai ct (a 9) 4 sz :: [ai ct (a 10) 160 nm]) F (kX6_isSheet l dC dI ct x1) gX6_load_X6_isSheet rfl ⟨rfl, rfl⟩ nmX6_isSheet ⟨Nat.le_of_ble_eq_true rfl, Nat.le_of_ble_eq_true rfl⟩ eT_b (fun _ _ _ => trivial) hK hP hD hS hA [] (by decide) rfl rfl rfl hl.1 (Nat.le_of_ble_eq_true rfl) dX6_load_1 ⟨Nat.zero_le _, Nat.zero_le _⟩ (fun _ => rfl) (fun _ => rfl) [a 0, a 1, a 4, a 8, a 9, a 10] rfl (fun _ => rfl) (fun r_1 u_1 H locs e_1 hP hD hS => ?_)
  obtain rfl := e_1
  refine lv_if_ne (tgt := 14) F.1 F.2.1 dX6_load_4 (by decide) (fun c_4 => ?_) (fun c_4 => ?_)
  · have c_4 : 0 ≤ x1 ∧ x1 ≤ 3 := b01t rfl c_4
    obtain ⟨s, hs, rfl⟩ := gH_n c_4
    obtain ⟨m, hm, em⟩ := hZ s hs
    refine lv_aload_n F.1 F.2.1 dX6_load_14 rfl (lv_at hl 0 rfl) ?_
    refine gf F hK hP 0 rfl rfl hiX6_load_6 18 (by decide) (List.mem_of_getElem? (i := 2) rfl) rfl dX6_load_15 ?_
    refine lv_iload_n F.1 F.2.1 dX6_load_18 rfl (lv_at hl 1 rfl) ?_
    refine al (v := wd s) F hK hP 3 0 rfl rfl s rfl (by omega) (by decide) rfl dX6_load_19 ?_
    refine lv_if_ne (tgt := 31) F.1 F.2.1 dX6_load_20 (by decide) (fun c_20 => ?_) (fun c_20 => ?_)
    · refine lv_iconst (v := 0) F.1 F.2.1 dX6_load_31 (by decide) ?_
      refine lv_istore_n (lv' := [(2, .int 0), (0, .ref (a 0)), (1, .int (nI s))]) F.1 F.2.1 dX6_load_32 rfl hl (by decide) rfl (fun ls hl => ?_)
      refine loopN (I := fun k H locs ls => va_P (dC, dI) vwCl (oM a v :: ai ct (a 1) 210 ((ldU f nm s m k).2) :: ai ct (a 4) 8 c :: ai ct (a 8) 4 wd :: ai ct (a 9) 4 sz :: [ai ct (a 10) 160 nm]) H ∧ va_D A (oM a v :: ai ct (a 1) 210 ((ldU f nm s m k).2) :: ai ct (a 4) 8 c :: ai ct (a 8) 4 wd :: ai ct (a 9) 4 sz :: [ai ct (a 10) 160 nm]) ∧ va_S A z.heap H locs ∧ lv_has ls 3 [(2, .int (nI k)), (0, .ref (a 0)), (1, .int (nI s))] ∧ (ldU f nm s m k).1 = k) 5 0 (by omega) ⟨hP, hD, hS, lv_sub hl [0, 1, 2] rfl, rfl⟩ (fun H locs ls hI => ?_) (fun k hk_k H locs ls hI ih_33 => ?_)
      · obtain ⟨hP, hD, hS, hl, hx⟩ := hI
        refine lv_iload_n F.1 F.2.1 dX6_load_33 rfl (lv_at hl 0 rfl) ?_
        refine lv_aload_n F.1 F.2.1 dX6_load_34 rfl (lv_at hl 1 rfl) ?_
        refine gf F hK hP 0 rfl rfl hiX6_load_6 19 (by decide) (List.mem_of_getElem? (i := 4) rfl) rfl dX6_load_35 ?_
        refine lv_iload_n F.1 F.2.1 dX6_load_38 rfl (lv_at hl 2 rfl) ?_
        refine al (v := sz s) F hK hP 4 0 rfl rfl s rfl (by omega) (by decide) rfl dX6_load_39 ?_
        refine tp (y := nI m) em ?_
        refine lv_icmp_ge (tgt := 100) F.1 F.2.1 dX6_load_40 (by decide) (fun c_40 => ?_) (fun c_40 => ?_)
        · refine lv_iload_n F.1 F.2.1 dX6_load_100 rfl (lv_at hl 0 rfl) ?_
          exact rtI (((ldU f nm s m 5).2), c) F hr hlk hP hS rfl (Eq.trans (by rw [show tn (nI s) = s from nI_clamp (by omega)]; unfold kLoad; rw [if_neg c_20, em, show tn (nI m) = m from nI_clamp (by omega), hx]) (if_pos c_4).symm) dX6_load_101
        · refine lv_iload_n F.1 F.2.1 dX6_load_43 rfl (lv_at hl 0 rfl) ?_
          refine iS (rest := []) (wsp := fun _ => oM a v :: ai ct (a 1) 210 ((ldU f nm s m 5).2) :: ai ct (a 4) 8 c :: ai ct (a 8) 4 wd :: ai ct (a 9) 4 sz :: [ai ct (a 10) 160 nm]) F (kX6_isThing l dC dI ct 5) gX6_load_X6_isThing rfl ⟨rfl, rfl⟩ nmX6_isThing ⟨Nat.le_of_ble_eq_true rfl, Nat.le_of_ble_eq_true rfl⟩ eT_b (fun _ _ _ => trivial) hK hP hD hS hA [] (by decide) rfl rfl rfl hl.1 (Nat.le_of_ble_eq_true rfl) dX6_load_44 ⟨Nat.zero_le _, Nat.zero_le _⟩ (fun _ => rfl) (fun _ => rfl) [a 0, a 1, a 4, a 8, a 9, a 10] rfl (fun _ => rfl) (fun r_44 u_44 H locs e_44 hP hD hS => ?_)
          obtain rfl := e_44
          refine lv_if_eq (tgt := 100) F.1 F.2.1 dX6_load_47 (by decide) (fun c_47 => ?_) (fun c_47 => ?_)
          · have c_47 : ¬ (0 ≤ 5 ∧ 5 ≤ 4) := b01f rfl c_47
            refine lv_iload_n F.1 F.2.1 dX6_load_100 rfl (lv_at hl 0 rfl) ?_
            exact rtI (((ldU f nm s m 5).2), c) F hr hlk hP hS rfl (Eq.trans (by rw [show tn (nI s) = s from nI_clamp (by omega)]; unfold kLoad; rw [if_neg c_20, em, show tn (nI m) = m from nI_clamp (by omega), hx]) (if_pos c_4).symm) dX6_load_101
          · exact absurd (by decide) c_47
      · obtain ⟨hP, hD, hS, hl, hx⟩ := hI
        refine lv_iload_n F.1 F.2.1 dX6_load_33 rfl (lv_at hl 0 rfl) ?_
        refine lv_aload_n F.1 F.2.1 dX6_load_34 rfl (lv_at hl 1 rfl) ?_
        refine gf F hK hP 0 rfl rfl hiX6_load_6 19 (by decide) (List.mem_of_getElem? (i := 4) rfl) rfl dX6_load_35 ?_
        refine lv_iload_n F.1 F.2.1 dX6_load_38 rfl (lv_at hl 2 rfl) ?_
        refine al (v := sz s) F hK hP 4 0 rfl rfl s rfl (by omega) (by decide) rfl dX6_load_39 ?_
        refine tp (y := nI m) em ?_
        refine lv_icmp_ge (tgt := 100) F.1 F.2.1 dX6_load_40 (by decide) (fun c_40 => ?_) (fun c_40 => ?_)
        · refine lv_iload_n F.1 F.2.1 dX6_load_100 rfl (lv_at hl 0 rfl) ?_
          exact rtI (((ldU f nm s m k).2), c) F hr hlk hP hS rfl (Eq.trans (by rw [show tn (nI s) = s from nI_clamp (by omega)]; unfold kLoad; rw [if_neg c_20, em, show tn (nI m) = m from nI_clamp (by omega), ld_end (by omega) hx (fun q => absurd (nI_ge q.1 (by omega)) (fun z => z c_40)), hx]) (if_pos c_4).symm) dX6_load_101
        · refine lv_iload_n F.1 F.2.1 dX6_load_43 rfl (lv_at hl 0 rfl) ?_
          refine iS (rest := []) (wsp := fun _ => oM a v :: ai ct (a 1) 210 ((ldU f nm s m k).2) :: ai ct (a 4) 8 c :: ai ct (a 8) 4 wd :: ai ct (a 9) 4 sz :: [ai ct (a 10) 160 nm]) F (kX6_isThing l dC dI ct (nI k)) gX6_load_X6_isThing rfl ⟨rfl, rfl⟩ nmX6_isThing ⟨Nat.le_of_ble_eq_true rfl, Nat.le_of_ble_eq_true rfl⟩ eT_b (fun _ _ _ => trivial) hK hP hD hS hA [] (by decide) rfl rfl rfl hl.1 (Nat.le_of_ble_eq_true rfl) dX6_load_44 ⟨Nat.zero_le _, Nat.zero_le _⟩ (fun _ => rfl) (fun _ => rfl) [a 0, a 1, a 4, a 8, a 9, a 10] rfl (fun _ => rfl) (fun r_44 u_44 H locs e_44 hP hD hS => ?_)
          obtain rfl := e_44
          refine lv_if_eq (tgt := 100) F.1 F.2.1 dX6_load_47 (by decide) (fun c_47 => ?_) (fun c_47 => ?_)
          · exact absurd c_47 (by rw [if_pos ⟨nI_pos' (by omega), nI_le (b := 4) (by omega) (by decide)⟩]; decide)
          · have c_47 : 0 ≤ (nI k) ∧ (nI k) ≤ 4 := b01t rfl c_47
            refine lv_aload_n F.1 F.2.1 dX6_load_50 rfl (lv_at hl 1 rfl) ?_
            refine gf F hK hP 0 rfl rfl hiX6_load_6 20 (by decide) (List.mem_of_getElem? (i := 5) rfl) rfl dX6_load_51 ?_
            refine lv_bipush (v := 40) F.1 F.2.1 dX6_load_54 (by decide) ?_
            refine lv_iload_n F.1 F.2.1 dX6_load_56 rfl (lv_at hl 2 rfl) ?_
            refine lv_imul F.1 F.2.1 dX6_load_57 ?_
            refine tp (y := nI (40 * s)) (ml2 (a := 40) (b := s) (c := 40 * s) rfl rfl rfl) ?_
            refine lv_iload_n F.1 F.2.1 dX6_load_58 rfl (lv_at hl 0 rfl) ?_
            refine lv_iadd F.1 F.2.1 dX6_load_59 ?_
            refine tp (y := nI (40 * s + k)) (ad2 (a := 40 * s) (b := k) (c := 40 * s + k) rfl rfl rfl) ?_
            refine al (v := nm (40 * s + k)) F hK hP 5 0 rfl rfl (40 * s + k) rfl (by omega) (by decide) rfl dX6_load_60 ?_
            refine lv_iconst (v := 0) F.1 F.2.1 dX6_load_61 (by decide) ?_
            refine lv_bipush (v := 20) F.1 F.2.1 dX6_load_62 (by decide) ?_
            refine iS (rest := []) (wsp := fun _ => oM a v :: ai ct (a 1) 210 ((ldU f nm s m k).2) :: ai ct (a 4) 8 c :: ai ct (a 8) 4 wd :: ai ct (a 9) 4 sz :: [ai ct (a 10) 160 nm]) F (kX6_within l dC dI ct (nm (40 * s + k)) 0 20) gX6_load_X6_within rfl ⟨rfl, rfl⟩ nmX6_within ⟨Nat.le_of_ble_eq_true rfl, Nat.le_of_ble_eq_true rfl⟩ eT_b (fun _ _ _ => trivial) hK hP hD hS hA [] (by decide) rfl rfl rfl hl.1 (Nat.le_of_ble_eq_true rfl) dX6_load_64 ⟨Nat.zero_le _, Nat.zero_le _⟩ (fun _ => rfl) (fun _ => rfl) [a 0, a 1, a 4, a 8, a 9, a 10] rfl (fun _ => rfl) (fun r_64 u_64 H locs e_64 hP hD hS => ?_)
            obtain rfl := e_64
            refine lv_if_eq (tgt := 100) F.1 F.2.1 dX6_load_67 (by decide) (fun c_67 => ?_) (fun c_67 => ?_)
            · have c_67 : ¬ (0 ≤ (nm (40 * s + k)) ∧ (nm (40 * s + k)) ≤ 20) := b01f rfl c_67
              refine lv_iload_n F.1 F.2.1 dX6_load_100 rfl (lv_at hl 0 rfl) ?_
              exact rtI (((ldU f nm s m k).2), c) F hr hlk hP hS rfl (Eq.trans (by rw [show tn (nI s) = s from nI_clamp (by omega)]; unfold kLoad; rw [if_neg c_20, em, show tn (nI m) = m from nI_clamp (by omega), ld_end (by omega) hx (fun q => c_67 q.2), hx]) (if_pos c_4).symm) dX6_load_101
            · have c_67 : 0 ≤ (nm (40 * s + k)) ∧ (nm (40 * s + k)) ≤ 20 := b01t rfl c_67
              refine lv_aload_n F.1 F.2.1 dX6_load_70 rfl (lv_at hl 1 rfl) ?_
              refine gf F hK hP 0 rfl rfl hiX6_load_6 0 (by decide) (List.mem_of_getElem? (i := 6) rfl) rfl dX6_load_71 ?_
              refine lv_iconst (v := 1) F.1 F.2.1 dX6_load_74 (by decide) ?_
              refine lv_bipush (v := 12) F.1 F.2.1 dX6_load_75 (by decide) ?_
              refine lv_iload_n F.1 F.2.1 dX6_load_77 rfl (lv_at hl 0 rfl) ?_
              refine lv_iadd F.1 F.2.1 dX6_load_78 ?_
              refine tp (y := nI (12 + k)) (ad2 (a := 12) (b := k) (c := 12 + k) rfl rfl rfl) ?_
              refine iS (rest := [.ref (a 1)]) (wsp := fun _ => oM a v :: ai ct (a 1) 210 ((ldU f nm s m k).2) :: ai ct (a 4) 8 c :: ai ct (a 8) 4 wd :: ai ct (a 9) 4 sz :: [ai ct (a 10) 160 nm]) F (kX6_at l dC dI ct 1 (12 + k) (49 + k) (by omega)) gX6_load_X6_at rfl ⟨rfl, rfl⟩ nmX6_at ⟨Nat.le_of_ble_eq_true rfl, Nat.le_of_ble_eq_true rfl⟩ eT_b (fun _ _ _ => trivial) hK hP hD hS hA [] (by decide) rfl rfl rfl hl.1 (Nat.le_of_ble_eq_true rfl) dX6_load_79 ⟨Nat.zero_le _, Nat.zero_le _⟩ (fun _ => rfl) (fun _ => rfl) [a 0, a 1, a 4, a 8, a 9, a 10] rfl (fun _ => rfl) (fun r_79 u_79 H locs e_79 hP hD hS => ?_)
              obtain rfl := e_79
              refine lv_aload_n F.1 F.2.1 dX6_load_82 rfl (lv_at hl 1 rfl) ?_
              refine gf F hK hP 0 rfl rfl hiX6_load_6 20 (by decide) (List.mem_of_getElem? (i := 5) rfl) rfl dX6_load_83 ?_
              refine lv_bipush (v := 40) F.1 F.2.1 dX6_load_86 (by decide) ?_
              refine lv_iload_n F.1 F.2.1 dX6_load_88 rfl (lv_at hl 2 rfl) ?_
              refine lv_imul F.1 F.2.1 dX6_load_89 ?_
              refine tp (y := nI (40 * s)) (ml2 (a := 40) (b := s) (c := 40 * s) rfl rfl rfl) ?_
              refine lv_iload_n F.1 F.2.1 dX6_load_90 rfl (lv_at hl 0 rfl) ?_
              refine lv_iadd F.1 F.2.1 dX6_load_91 ?_
              refine tp (y := nI (40 * s + k)) (ad2 (a := 40 * s) (b := k) (c := 40 * s + k) rfl rfl rfl) ?_
              refine al (v := nm (40 * s + k)) F hK hP 5 0 rfl rfl (40 * s + k) rfl (by omega) (by decide) rfl dX6_load_92 ?_
              refine ast (ws' := oM a v :: ai ct (a 1) 210 (upd ((ldU f nm s m k).2) (49 + k) (nm (40 * s + k))) :: ai ct (a 4) 8 c :: ai ct (a 8) 4 wd :: ai ct (a 9) 4 sz :: [ai ct (a 10) 160 nm]) F hK hP hD hS 1 0 rfl rfl (49 + k) rfl (by omega) (by decide) dX6_load_93 (weq.rf _) (fun H locs hP hD hS => ?_)
              refine lv_iinc (v := nI (k + 1)) (lv' := [(2, .int (nI (k + 1))), (0, .ref (a 0)), (1, .int (nI s))]) F.1 F.2.1 dX6_load_94 hl (k := 0) rfl (by rw [show Int32.ofInt 1 = nI 1 from rfl, nI_add]) (by decide) rfl (fun ls hl => ?_)
              refine lv_goto (tgt := 33) F.1 F.2.1 dX6_load_97 (by decide) ?_
              have hkm : k < m := Classical.byContradiction (fun q => c_40 (nI_le (by omega) (by omega)))
              have eb := ld_go (f := f) (m := m) hx hkm c_67
              have e2 : upd (ldU f nm s m k).2 (49 + k) (nm (40 * s + k)) = (ldU f nm s m (k + 1)).2 := by rw [eb]
              rw [e2] at hP hD
              exact ih_33 _ _ _ ⟨hP, hD, hS, lv_sub hl [0, 1, 2] rfl, by rw [eb]⟩
    · refine lv_aload_n F.1 F.2.1 dX6_load_23 rfl (lv_at hl 0 rfl) ?_
      refine lv_ldcw (v := (-1000006)) F.1 F.2.1 F.2.2.2.1 (F.2.2.2.2 _ (List.mem_of_getElem? (i := 3) rfl)) dX6_load_24 ?_
      refine iV (rest := []) (wsp := fun _ => oM a v :: ai ct (a 1) 210 f :: ai ct (a 4) 8 (fnd c 6) :: ai ct (a 8) 4 wd :: ai ct (a 9) 4 sz :: [ai ct (a 10) 160 nm]) F (kX6_finding l dC dI ct a v c (-1000006) 6 (by decide) (by decide) (by decide)) gX6_load_X6_finding rfl ⟨rfl, rfl⟩ nmX6_finding ⟨Nat.le_of_ble_eq_true rfl, Nat.le_of_ble_eq_true rfl⟩ eT_b (fun _ _ _ => trivial) hK hP hD hS hA 0 rfl rfl rfl [0, 2] (by decide) rfl rfl rfl hl.1 (Nat.le_of_ble_eq_true rfl) dX6_load_27 ⟨Nat.zero_le _, Nat.zero_le _⟩ (fun _ => rfl) (fun _ => rfl) [a 0, a 1, a 4, a 8, a 9, a 10] rfl (fun _ => rfl) (fun r_27 u_27 H locs e_27 hP hD hS => ?_)
      obtain rfl := e_27
      exact rtI (f, (fnd c 6)) F hr hlk hP hS rfl (Eq.trans (by rw [show tn (nI s) = s from nI_clamp (by omega)]; unfold kLoad; rw [if_pos c_20]; rfl) (if_pos c_4).symm) dX6_load_30
  · have c_4 : ¬ (0 ≤ x1 ∧ x1 ≤ 3) := b01f rfl c_4
    refine lv_aload_n F.1 F.2.1 dX6_load_7 rfl (lv_at hl 0 rfl) ?_
    refine lv_ldc (v := (-1000001)) F.1 F.2.1 F.2.2.2.1 (F.2.2.2.2 _ (List.mem_of_getElem? (i := 1) rfl)) dX6_load_8 ?_
    refine iV (rest := []) (wsp := fun _ => oM a v :: ai ct (a 1) 210 f :: ai ct (a 4) 8 (fnd c 1) :: ai ct (a 8) 4 wd :: ai ct (a 9) 4 sz :: [ai ct (a 10) 160 nm]) F (kX6_finding l dC dI ct a v c (-1000001) 1 (by decide) (by decide) (by decide)) gX6_load_X6_finding rfl ⟨rfl, rfl⟩ nmX6_finding ⟨Nat.le_of_ble_eq_true rfl, Nat.le_of_ble_eq_true rfl⟩ eT_b (fun _ _ _ => trivial) hK hP hD hS hA 0 rfl rfl rfl [0, 2] (by decide) rfl rfl rfl hl.1 (Nat.le_of_ble_eq_true rfl) dX6_load_10 ⟨Nat.zero_le _, Nat.zero_le _⟩ (fun _ => rfl) (fun _ => rfl) [a 0, a 1, a 4, a 8, a 9, a 10] rfl (fun _ => rfl) (fun r_10 u_10 H locs e_10 hP hD hS => ?_)
    obtain rfl := e_10
    exact rtI (f, (fnd c 1)) F hr hlk hP hS rfl ((if_neg c_4).symm) dX6_load_13

def rmX6_judge : Room := { frames := 8, cells := 0, slots := 0, locals := 179 }
theorem nmX6_judge : NmV yX6_judge RX6 1 := by unfold NmV; decide +kernel
theorem hiX6_judge_6 : ∀ w ∈ u_ws RX6 TX6 22, w ∈ wsX6_judge := by decide +kernel
set_option maxHeartbeats 4000000 in
set_option maxRecDepth 100000 in
theorem kX6_judge (l : Launch) (dC : Nat → ClassId) (dI : Nat → Nat → Nat) (ct : Nat → ClassId) (a : Nat → Nat) (v f c h wd sz nm : Nat → Int32) (x1 : Int32) (hRg : Rg f) (hZ : RZ sz) : MI (S := (Nat → Int32) × (Nat → Int32) × (Nat → Int32)) l yX6_judge wsX6_judge rmX6_judge dC dI ct eT [.ref (a 0), .int x1] (oM a v :: ai ct (a 1) 210 f :: ai ct (a 4) 8 c :: ai ct (a 3) 210 h :: ai ct (a 8) 4 wd :: ai ct (a 9) 4 sz :: [ai ct (a 10) 160 nm]) (fun u => oM a v :: ai ct (a 1) 210 u.1 :: ai ct (a 4) 8 u.2.1 :: ai ct (a 3) 210 u.2.2 :: ai ct (a 8) 4 wd :: ai ct (a 9) 4 sz :: [ai ct (a 10) 160 nm]) (fun r u => (r, u.1, u.2.1) = sJudge f c wd sz nm x1) := by
  refine MI.of (cc := cX6_judge) (maxL := 3) (ret := (some .int)) (by decide) rfl (Nat.le_of_ble_eq_true rfl) ?_
  intro pg en z mi below meth cd A F hr hlk hin hK hP hD hA hS hE ls hl
  have F : CallFix pg mi cd cX6_judge 3 z _ wsX6_judge RX6 := F
  have hl : lv_has ls 3 [(0, .ref (a 0)), (1, .int x1)] := hl
  refine lv_iload_n F.1 F.2.1 dX6_judge_0 rfl (lv_at hl 1 rfl) ?_
  refine iS (rest := []) (wsp := fun _ => oM a v :: ai ct (a 1) 210 f :: ai ct (a 4) 8 c :: ai ct (a 3) 210 h :: ai ct (a 8) 4 wd :: ai ct (a 9) 4 sz :: [ai ct (a 10) 160 nm]) F (kX6_isSheet l dC dI ct x1) gX6_judge_X6_isSheet rfl ⟨rfl, rfl⟩ nmX6_isSheet ⟨Nat.le_of_ble_eq_true rfl, Nat.le_of_ble_eq_true rfl⟩ eT_b (fun _ _ _ => trivial) hK hP hD hS hA [] (by decide) rfl rfl rfl hl.1 (Nat.le_of_ble_eq_true rfl) dX6_judge_1 ⟨Nat.zero_le _, Nat.zero_le _⟩ (fun _ => rfl) (fun _ => rfl) [a 0, a 1, a 4, a 3, a 8, a 9, a 10] rfl (fun _ => rfl) (fun r_1 u_1 H locs e_1 hP hD hS => ?_)
  obtain rfl := e_1
  refine lv_if_ne (tgt := 14) F.1 F.2.1 dX6_judge_4 (by decide) (fun c_4 => ?_) (fun c_4 => ?_)
  · have c_4 : 0 ≤ x1 ∧ x1 ≤ 3 := b01t rfl c_4
    obtain ⟨s, hs, rfl⟩ := gH_n c_4
    obtain ⟨m, hm, em⟩ := hZ s hs
    refine lv_aload_n F.1 F.2.1 dX6_judge_14 rfl (lv_at hl 0 rfl) ?_
    refine gf F hK hP 0 rfl rfl hiX6_judge_6 18 (by decide) (List.mem_of_getElem? (i := 2) rfl) rfl dX6_judge_15 ?_
    refine lv_iload_n F.1 F.2.1 dX6_judge_18 rfl (lv_at hl 1 rfl) ?_
    refine al (v := wd s) F hK hP 4 0 rfl rfl s rfl (by omega) (by decide) rfl dX6_judge_19 ?_
    refine lv_if_ne (tgt := 31) F.1 F.2.1 dX6_judge_20 (by decide) (fun c_20 => ?_) (fun c_20 => ?_)
    · refine lv_aload_n F.1 F.2.1 dX6_judge_31 rfl (lv_at hl 0 rfl) ?_
      refine lv_aload_n F.1 F.2.1 dX6_judge_32 rfl (lv_at hl 0 rfl) ?_
      refine gf F hK hP 0 rfl rfl hiX6_judge_6 19 (by decide) (List.mem_of_getElem? (i := 4) rfl) rfl dX6_judge_33 ?_
      refine lv_iload_n F.1 F.2.1 dX6_judge_36 rfl (lv_at hl 1 rfl) ?_
      refine al (v := sz s) F hK hP 5 0 rfl rfl s rfl (by omega) (by decide) rfl dX6_judge_37 ?_
      refine tp (y := nI m) em ?_
      refine iV (rest := []) (wsp := fun _ => oM a v :: ai ct (a 1) 210 f :: ai ct (a 4) 8 c :: ai ct (a 3) 210 h :: ai ct (a 8) 4 wd :: ai ct (a 9) 4 sz :: [ai ct (a 10) 160 nm]) F (kX6_isTooLate l dC dI ct a v f (nI m)) gX6_judge_X6_isTooLate rfl ⟨rfl, rfl⟩ nmX6_isTooLate ⟨Nat.le_of_ble_eq_true rfl, Nat.le_of_ble_eq_true rfl⟩ eT_b (fun _ _ _ => trivial) hK hP hD hS hA 0 rfl rfl rfl [0, 1] (by decide) rfl rfl rfl hl.1 (Nat.le_of_ble_eq_true rfl) dX6_judge_38 ⟨Nat.zero_le _, Nat.zero_le _⟩ (fun _ => rfl) (fun _ => rfl) [a 0, a 1, a 4, a 3, a 8, a 9, a 10] rfl (fun _ => rfl) (fun r_38 u_38 H locs e_38 hP hD hS => ?_)
      obtain rfl := e_38
      refine lv_if_eq (tgt := 51) F.1 F.2.1 dX6_judge_41 (by decide) (fun c_41 => ?_) (fun c_41 => ?_)
      · have c_41 : ¬ (9999 < f 0 + (nI m)) := b01f rfl c_41
        have hN := late_no hRg (n := m) (by omega) c_41
        refine lv_aload_n F.1 F.2.1 dX6_judge_51 rfl (lv_at hl 0 rfl) ?_
        refine gf F hK hP 0 rfl rfl hiX6_judge_6 0 (by decide) (List.mem_of_getElem? (i := 6) rfl) rfl dX6_judge_52 ?_
        refine lv_aload_n F.1 F.2.1 dX6_judge_55 rfl (lv_at hl 0 rfl) ?_
        refine gf F hK hP 0 rfl rfl hiX6_judge_6 2 (by decide) (List.mem_of_getElem? (i := 7) rfl) rfl dX6_judge_56 ?_
        refine vS (rest := []) (wsp := fun _ => oM a v :: ai ct (a 1) 210 f :: ai ct (a 4) 8 c :: ai ct (a 3) 210 f :: ai ct (a 8) 4 wd :: ai ct (a 9) 4 sz :: [ai ct (a 10) 160 nm]) F (kX6_copyRow l dC dI ct (a 1) (a 3) f h) gX6_judge_X6_copyRow rfl ⟨rfl, rfl⟩ nmX6_copyRow ⟨Nat.le_of_ble_eq_true rfl, Nat.le_of_ble_eq_true rfl⟩ eT_b (fun _ _ _ => trivial) hK hP hD hS hA [1, 3] (by decide) rfl rfl rfl hl.1 (Nat.le_of_ble_eq_true rfl) dX6_judge_59 ⟨Nat.zero_le _, Nat.zero_le _⟩ (fun _ => rfl) (fun _ => rfl) [a 0, a 1, a 4, a 3, a 8, a 9, a 10] rfl (fun _ => rfl) (fun u_59 H locs e_59 hP hD hS => ?_)
        refine lv_iconst (v := 0) F.1 F.2.1 dX6_judge_62 (by decide) ?_
        refine lv_istore_n (lv' := [(2, .int 0), (0, .ref (a 0)), (1, .int (nI s))]) F.1 F.2.1 dX6_judge_63 rfl hl (by decide) rfl (fun ls hl => ?_)
        refine loopN (I := fun k H locs ls => va_P (dC, dI) vwCl (oM a v :: ai ct (a 1) 210 (ngU f k) :: ai ct (a 4) 8 c :: ai ct (a 3) 210 f :: ai ct (a 8) 4 wd :: ai ct (a 9) 4 sz :: [ai ct (a 10) 160 nm]) H ∧ va_D A (oM a v :: ai ct (a 1) 210 (ngU f k) :: ai ct (a 4) 8 c :: ai ct (a 3) 210 f :: ai ct (a 8) 4 wd :: ai ct (a 9) 4 sz :: [ai ct (a 10) 160 nm]) ∧ va_S A z.heap H locs ∧ lv_has ls 3 [(2, .int (nI k)), (0, .ref (a 0)), (1, .int (nI s))] ∧ jdU f nm s k = k) m 0 (by omega) ⟨hP, hD, hS, lv_sub hl [0, 1, 2] rfl, rfl⟩ (fun H locs ls hI => ?_) (fun k hk_k H locs ls hI ih_64 => ?_)
        · obtain ⟨hP, hD, hS, hl, hx⟩ := hI
          refine lv_iload_n F.1 F.2.1 dX6_judge_64 rfl (lv_at hl 0 rfl) ?_
          refine lv_aload_n F.1 F.2.1 dX6_judge_65 rfl (lv_at hl 1 rfl) ?_
          refine gf F hK hP 0 rfl rfl hiX6_judge_6 19 (by decide) (List.mem_of_getElem? (i := 4) rfl) rfl dX6_judge_66 ?_
          refine lv_iload_n F.1 F.2.1 dX6_judge_69 rfl (lv_at hl 2 rfl) ?_
          refine al (v := sz s) F hK hP 5 0 rfl rfl s rfl (by omega) (by decide) rfl dX6_judge_70 ?_
          refine tp (y := nI m) em ?_
          refine lv_icmp_ge (tgt := 98) F.1 F.2.1 dX6_judge_71 (by decide) (fun c_71 => ?_) (fun c_71 => ?_)
          · refine lv_aload_n F.1 F.2.1 dX6_judge_98 rfl (lv_at hl 1 rfl) ?_
            refine lv_iload_n F.1 F.2.1 dX6_judge_99 rfl (lv_at hl 0 rfl) ?_
            refine lv_aload_n F.1 F.2.1 dX6_judge_100 rfl (lv_at hl 1 rfl) ?_
            refine gf F hK hP 0 rfl rfl hiX6_judge_6 19 (by decide) (List.mem_of_getElem? (i := 4) rfl) rfl dX6_judge_101 ?_
            refine lv_iload_n F.1 F.2.1 dX6_judge_104 rfl (lv_at hl 2 rfl) ?_
            refine al (v := sz s) F hK hP 5 0 rfl rfl s rfl (by omega) (by decide) rfl dX6_judge_105 ?_
            refine tp (y := nI m) em ?_
            refine lv_icmp_ne (tgt := 113) F.1 F.2.1 dX6_judge_106 (by decide) (fun c_106 => ?_) (fun c_106 => ?_)
            · exact absurd rfl c_106
            · refine lv_iconst (v := 0) F.1 F.2.1 dX6_judge_109 (by decide) ?_
              refine lv_goto (tgt := 116) F.1 F.2.1 dX6_judge_110 (by decide) ?_
              refine iV (rest := []) (wsp := fun _ => oM a v :: ai ct (a 1) 210 f :: ai ct (a 4) 8 c :: ai ct (a 3) 210 f :: ai ct (a 8) 4 wd :: ai ct (a 9) 4 sz :: [ai ct (a 10) 160 nm]) F (kX6_putBack l dC dI ct a v (ngU f m) f 0) gX6_judge_X6_putBack rfl ⟨rfl, rfl⟩ nmX6_putBack ⟨Nat.le_of_ble_eq_true rfl, Nat.le_of_ble_eq_true rfl⟩ eT_b (fun _ _ _ => trivial) hK hP hD hS hA 0 rfl rfl rfl [0, 1, 3] (by decide) rfl rfl rfl hl.1 (Nat.le_of_ble_eq_true rfl) dX6_judge_116 ⟨Nat.zero_le _, Nat.zero_le _⟩ (fun _ => rfl) (fun _ => rfl) [a 0, a 1, a 4, a 3, a 8, a 9, a 10] rfl (fun _ => rfl) (fun r_116 u_116 H locs e_116 hP hD hS => ?_)
              obtain rfl := e_116
              exact rtI (f, c, f) F hr hlk hP hS rfl (Eq.trans (by rw [show tn (nI s) = s from nI_clamp (by omega)]; unfold kJudge; rw [if_neg c_20, em, if_neg c_41, show tn (nI m) = m from nI_clamp (by omega), if_pos hx]) (if_pos c_4).symm) dX6_judge_119
          · exact absurd (nI_le (Nat.le_refl _) (by omega)) c_71
        · obtain ⟨hP, hD, hS, hl, hx⟩ := hI
          refine lv_iload_n F.1 F.2.1 dX6_judge_64 rfl (lv_at hl 0 rfl) ?_
          refine lv_aload_n F.1 F.2.1 dX6_judge_65 rfl (lv_at hl 1 rfl) ?_
          refine gf F hK hP 0 rfl rfl hiX6_judge_6 19 (by decide) (List.mem_of_getElem? (i := 4) rfl) rfl dX6_judge_66 ?_
          refine lv_iload_n F.1 F.2.1 dX6_judge_69 rfl (lv_at hl 2 rfl) ?_
          refine al (v := sz s) F hK hP 5 0 rfl rfl s rfl (by omega) (by decide) rfl dX6_judge_70 ?_
          refine tp (y := nI m) em ?_
          refine lv_icmp_ge (tgt := 98) F.1 F.2.1 dX6_judge_71 (by decide) (fun c_71 => ?_) (fun c_71 => ?_)
          · exact absurd c_71 (nI_ge hk_k (by omega))
          · refine lv_aload_n F.1 F.2.1 dX6_judge_74 rfl (lv_at hl 1 rfl) ?_
            refine iV (rest := []) (wsp := fun _ => oM a v :: ai ct (a 1) 210 (nite (ngU f k)) :: ai ct (a 4) 8 c :: ai ct (a 3) 210 f :: ai ct (a 8) 4 wd :: ai ct (a 9) 4 sz :: [ai ct (a 10) 160 nm]) F (kX6_night l dC dI ct a v (ngU f k) (Gd_of (Rg_ngU hRg k (by omega)).1)) gX6_judge_X6_night rfl ⟨rfl, rfl⟩ nmX6_night ⟨Nat.le_of_ble_eq_true rfl, Nat.le_of_ble_eq_true rfl⟩ eT_b (fun _ _ _ => trivial) hK hP hD hS hA 0 rfl rfl rfl [0, 1] (by decide) rfl rfl rfl hl.1 (Nat.le_of_ble_eq_true rfl) dX6_judge_75 ⟨Nat.zero_le _, Nat.zero_le _⟩ (fun _ => rfl) (fun _ => rfl) [a 0, a 1, a 4, a 3, a 8, a 9, a 10] rfl (fun _ => rfl) (fun r_75 u_75 H locs e_75 hP hD hS => ?_)
            obtain rfl := e_75
            refine lv_aload_n F.1 F.2.1 dX6_judge_78 rfl (lv_at hl 1 rfl) ?_
            refine gf F hK hP 0 rfl rfl hiX6_judge_6 20 (by decide) (List.mem_of_getElem? (i := 8) rfl) rfl dX6_judge_79 ?_
            refine lv_bipush (v := 40) F.1 F.2.1 dX6_judge_82 (by decide) ?_
            refine lv_iload_n F.1 F.2.1 dX6_judge_84 rfl (lv_at hl 2 rfl) ?_
            refine lv_imul F.1 F.2.1 dX6_judge_85 ?_
            refine tp (y := nI (40 * s)) (ml2 (a := 40) (b := s) (c := 40 * s) rfl rfl rfl) ?_
            refine lv_iload_n F.1 F.2.1 dX6_judge_86 rfl (lv_at hl 0 rfl) ?_
            refine lv_iadd F.1 F.2.1 dX6_judge_87 ?_
            refine tp (y := nI (40 * s + k)) (ad2 (a := 40 * s) (b := k) (c := 40 * s + k) rfl rfl rfl) ?_
            refine al (v := nm (40 * s + k)) F hK hP 6 0 rfl rfl (40 * s + k) rfl (by omega) (by decide) rfl dX6_judge_88 ?_
            refine lv_icmp_ne (tgt := 98) F.1 F.2.1 dX6_judge_89 (by decide) (fun c_89 => ?_) (fun c_89 => ?_)
            · refine lv_aload_n F.1 F.2.1 dX6_judge_98 rfl (lv_at hl 1 rfl) ?_
              refine lv_iload_n F.1 F.2.1 dX6_judge_99 rfl (lv_at hl 0 rfl) ?_
              refine lv_aload_n F.1 F.2.1 dX6_judge_100 rfl (lv_at hl 1 rfl) ?_
              refine gf F hK hP 0 rfl rfl hiX6_judge_6 19 (by decide) (List.mem_of_getElem? (i := 4) rfl) rfl dX6_judge_101 ?_
              refine lv_iload_n F.1 F.2.1 dX6_judge_104 rfl (lv_at hl 2 rfl) ?_
              refine al (v := sz s) F hK hP 5 0 rfl rfl s rfl (by omega) (by decide) rfl dX6_judge_105 ?_
              refine tp (y := nI m) em ?_
              refine lv_icmp_ne (tgt := 113) F.1 F.2.1 dX6_judge_106 (by decide) (fun c_106 => ?_) (fun c_106 => ?_)
              · refine lv_iconst (v := 1) F.1 F.2.1 dX6_judge_113 (by decide) ?_
                refine lv_iload_n F.1 F.2.1 dX6_judge_114 rfl (lv_at hl 0 rfl) ?_
                refine lv_iadd F.1 F.2.1 dX6_judge_115 ?_
                refine tp (y := nI (1 + k)) (ad2 (a := 1) (b := k) (c := 1 + k) rfl rfl rfl) ?_
                refine iV (rest := []) (wsp := fun _ => oM a v :: ai ct (a 1) 210 f :: ai ct (a 4) 8 c :: ai ct (a 3) 210 f :: ai ct (a 8) 4 wd :: ai ct (a 9) 4 sz :: [ai ct (a 10) 160 nm]) F (kX6_putBack l dC dI ct a v (nite (ngU f k)) f (nI (1 + k))) gX6_judge_X6_putBack rfl ⟨rfl, rfl⟩ nmX6_putBack ⟨Nat.le_of_ble_eq_true rfl, Nat.le_of_ble_eq_true rfl⟩ eT_b (fun _ _ _ => trivial) hK hP hD hS hA 0 rfl rfl rfl [0, 1, 3] (by decide) rfl rfl rfl hl.1 (Nat.le_of_ble_eq_true rfl) dX6_judge_116 ⟨Nat.zero_le _, Nat.zero_le _⟩ (fun _ => rfl) (fun _ => rfl) [a 0, a 1, a 4, a 3, a 8, a 9, a 10] rfl (fun _ => rfl) (fun r_116 u_116 H locs e_116 hP hD hS => ?_)
                obtain rfl := e_116
                exact rtI (f, c, f) F hr hlk hP hS rfl (Eq.trans (by rw [show tn (nI s) = s from nI_clamp (by omega)]; unfold kJudge; rw [if_neg c_20, em, if_neg c_41, show tn (nI m) = m from nI_clamp (by omega), jd_end hk_k hx c_89, if_neg (by omega)]) (if_pos c_4).symm) dX6_judge_119
              · exact absurd c_106 (fun z => by have := nI_of_eq z (by omega) (by omega); omega)
            · refine lv_iinc (v := nI (k + 1)) (lv' := [(2, .int (nI (k + 1))), (0, .ref (a 0)), (1, .int (nI s))]) F.1 F.2.1 dX6_judge_92 hl (k := 0) rfl (by rw [show Int32.ofInt 1 = nI 1 from rfl, nI_add]) (by decide) rfl (fun ls hl => ?_)
              refine lv_goto (tgt := 64) F.1 F.2.1 dX6_judge_95 (by decide) ?_
              exact ih_64 _ _ _ ⟨hP, hD, hS, lv_sub hl [0, 1, 2] rfl, jd_go hx c_89⟩
      · have c_41 : 9999 < f 0 + (nI m) := b01t rfl c_41
        refine lv_aload_n F.1 F.2.1 dX6_judge_44 rfl (lv_at hl 0 rfl) ?_
        refine lv_ldc (v := (-1000005)) F.1 F.2.1 F.2.2.2.1 (F.2.2.2.2 _ (List.mem_of_getElem? (i := 5) rfl)) dX6_judge_45 ?_
        refine iV (rest := []) (wsp := fun _ => oM a v :: ai ct (a 1) 210 f :: ai ct (a 4) 8 (fnd c 5) :: ai ct (a 3) 210 h :: ai ct (a 8) 4 wd :: ai ct (a 9) 4 sz :: [ai ct (a 10) 160 nm]) F (kX6_finding l dC dI ct a v c (-1000005) 5 (by decide) (by decide) (by decide)) gX6_judge_X6_finding rfl ⟨rfl, rfl⟩ nmX6_finding ⟨Nat.le_of_ble_eq_true rfl, Nat.le_of_ble_eq_true rfl⟩ eT_b (fun _ _ _ => trivial) hK hP hD hS hA 0 rfl rfl rfl [0, 2] (by decide) rfl rfl rfl hl.1 (Nat.le_of_ble_eq_true rfl) dX6_judge_47 ⟨Nat.zero_le _, Nat.zero_le _⟩ (fun _ => rfl) (fun _ => rfl) [a 0, a 1, a 4, a 3, a 8, a 9, a 10] rfl (fun _ => rfl) (fun r_47 u_47 H locs e_47 hP hD hS => ?_)
        obtain rfl := e_47
        exact rtI (f, (fnd c 5), h) F hr hlk hP hS rfl (Eq.trans (by rw [show tn (nI s) = s from nI_clamp (by omega)]; unfold kJudge; rw [if_neg c_20, em, if_pos c_41]; rfl) (if_pos c_4).symm) dX6_judge_50
    · refine lv_aload_n F.1 F.2.1 dX6_judge_23 rfl (lv_at hl 0 rfl) ?_
      refine lv_ldcw (v := (-1000006)) F.1 F.2.1 F.2.2.2.1 (F.2.2.2.2 _ (List.mem_of_getElem? (i := 3) rfl)) dX6_judge_24 ?_
      refine iV (rest := []) (wsp := fun _ => oM a v :: ai ct (a 1) 210 f :: ai ct (a 4) 8 (fnd c 6) :: ai ct (a 3) 210 h :: ai ct (a 8) 4 wd :: ai ct (a 9) 4 sz :: [ai ct (a 10) 160 nm]) F (kX6_finding l dC dI ct a v c (-1000006) 6 (by decide) (by decide) (by decide)) gX6_judge_X6_finding rfl ⟨rfl, rfl⟩ nmX6_finding ⟨Nat.le_of_ble_eq_true rfl, Nat.le_of_ble_eq_true rfl⟩ eT_b (fun _ _ _ => trivial) hK hP hD hS hA 0 rfl rfl rfl [0, 2] (by decide) rfl rfl rfl hl.1 (Nat.le_of_ble_eq_true rfl) dX6_judge_27 ⟨Nat.zero_le _, Nat.zero_le _⟩ (fun _ => rfl) (fun _ => rfl) [a 0, a 1, a 4, a 3, a 8, a 9, a 10] rfl (fun _ => rfl) (fun r_27 u_27 H locs e_27 hP hD hS => ?_)
      obtain rfl := e_27
      exact rtI (f, (fnd c 6), h) F hr hlk hP hS rfl (Eq.trans (by rw [show tn (nI s) = s from nI_clamp (by omega)]; unfold kJudge; rw [if_pos c_20]; rfl) (if_pos c_4).symm) dX6_judge_30
  · have c_4 : ¬ (0 ≤ x1 ∧ x1 ≤ 3) := b01f rfl c_4
    refine lv_aload_n F.1 F.2.1 dX6_judge_7 rfl (lv_at hl 0 rfl) ?_
    refine lv_ldc (v := (-1000001)) F.1 F.2.1 F.2.2.2.1 (F.2.2.2.2 _ (List.mem_of_getElem? (i := 1) rfl)) dX6_judge_8 ?_
    refine iV (rest := []) (wsp := fun _ => oM a v :: ai ct (a 1) 210 f :: ai ct (a 4) 8 (fnd c 1) :: ai ct (a 3) 210 h :: ai ct (a 8) 4 wd :: ai ct (a 9) 4 sz :: [ai ct (a 10) 160 nm]) F (kX6_finding l dC dI ct a v c (-1000001) 1 (by decide) (by decide) (by decide)) gX6_judge_X6_finding rfl ⟨rfl, rfl⟩ nmX6_finding ⟨Nat.le_of_ble_eq_true rfl, Nat.le_of_ble_eq_true rfl⟩ eT_b (fun _ _ _ => trivial) hK hP hD hS hA 0 rfl rfl rfl [0, 2] (by decide) rfl rfl rfl hl.1 (Nat.le_of_ble_eq_true rfl) dX6_judge_10 ⟨Nat.zero_le _, Nat.zero_le _⟩ (fun _ => rfl) (fun _ => rfl) [a 0, a 1, a 4, a 3, a 8, a 9, a 10] rfl (fun _ => rfl) (fun r_10 u_10 H locs e_10 hP hD hS => ?_)
    obtain rfl := e_10
    exact rtI (f, (fnd c 1), h) F hr hlk hP hS rfl ((if_neg c_4).symm) dX6_judge_13
