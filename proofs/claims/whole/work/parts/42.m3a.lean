def rmX6_ahead : Room := { frames := 9, cells := 0, slots := 0, locals := 202 }
theorem nmX6_ahead : NmV yX6_ahead RX6 2 := by unfold NmV; decide +kernel
theorem hiX6_ahead_6 : ∀ w ∈ u_ws RX6 TX6 22, w ∈ wsX6_ahead := by decide +kernel
set_option maxHeartbeats 4000000 in
set_option maxRecDepth 100000 in
theorem kX6_ahead (l : Launch) (dC : Nat → ClassId) (dI : Nat → Nat → Nat) (ct : Nat → ClassId) (a : Nat → Nat) (v f c h : Nat → Int32) (x1 x2 : Int32) (hRg : Rg f) : MI (S := (Nat → Int32) × (Nat → Int32) × (Nat → Int32)) l yX6_ahead wsX6_ahead rmX6_ahead dC dI ct eT [.ref (a 0), .int x1, .int x2] (oM a v :: ai ct (a 1) 210 f :: ai ct (a 4) 8 c :: [ai ct (a 3) 210 h]) (fun u => oM a v :: ai ct (a 1) 210 u.1 :: ai ct (a 4) 8 u.2.1 :: [ai ct (a 3) 210 u.2.2]) (fun r u => (r, u.1, u.2.1) = sAhead f c x1 x2) := by
  refine MI.of (cc := cX6_ahead) (maxL := 6) (ret := (some .int)) (by decide) rfl (Nat.le_of_ble_eq_true rfl) ?_
  intro pg en z mi below meth cd A F hr hlk hin hK hP hD hA hS hE ls hl
  have F : CallFix pg mi cd cX6_ahead 6 z _ wsX6_ahead RX6 := F
  have hl : lv_has ls 6 [(0, .ref (a 0)), (1, .int x1), (2, .int x2)] := hl
  refine lv_iload_n F.1 F.2.1 dX6_ahead_0 rfl (lv_at hl 1 rfl) ?_
  refine lv_iconst (v := 0) F.1 F.2.1 dX6_ahead_1 (by decide) ?_
  refine lv_bipush (v := 60) F.1 F.2.1 dX6_ahead_2 (by decide) ?_
  refine iS (rest := []) (wsp := fun _ => oM a v :: ai ct (a 1) 210 f :: ai ct (a 4) 8 c :: [ai ct (a 3) 210 h]) F (kX6_within l dC dI ct x1 0 60) gX6_ahead_X6_within rfl ⟨rfl, rfl⟩ nmX6_within ⟨Nat.le_of_ble_eq_true rfl, Nat.le_of_ble_eq_true rfl⟩ eT_b (fun _ _ _ => trivial) hK hP hD hS hA [] (by decide) rfl rfl rfl hl.1 (Nat.le_of_ble_eq_true rfl) dX6_ahead_4 ⟨Nat.zero_le _, Nat.zero_le _⟩ (fun _ => rfl) (fun _ => rfl) [a 0, a 1, a 4, a 3] rfl (fun _ => rfl) (fun r_4 u_4 H locs e_4 hP hD hS => ?_)
  obtain rfl := e_4
  refine lv_if_eq (tgt := 19) F.1 F.2.1 dX6_ahead_7 (by decide) (fun c_7 => ?_) (fun c_7 => ?_)
  · have c_7 : ¬ (0 ≤ x1 ∧ x1 ≤ 60) := b01f rfl c_7
    refine lv_aload_n F.1 F.2.1 dX6_ahead_19 rfl (lv_at hl 0 rfl) ?_
    refine lv_ldc (v := (-1000001)) F.1 F.2.1 F.2.2.2.1 (F.2.2.2.2 _ (List.mem_of_getElem? (i := 1) rfl)) dX6_ahead_20 ?_
    refine iV (rest := []) (wsp := fun _ => oM a v :: ai ct (a 1) 210 f :: ai ct (a 4) 8 (fnd c 1) :: [ai ct (a 3) 210 h]) F (kX6_finding l dC dI ct a v c (-1000001) 1 (by decide) (by decide) (by decide)) gX6_ahead_X6_finding rfl ⟨rfl, rfl⟩ nmX6_finding ⟨Nat.le_of_ble_eq_true rfl, Nat.le_of_ble_eq_true rfl⟩ eT_b (fun _ _ _ => trivial) hK hP hD hS hA 0 rfl rfl rfl [0, 2] (by decide) rfl rfl rfl hl.1 (Nat.le_of_ble_eq_true rfl) dX6_ahead_22 ⟨Nat.zero_le _, Nat.zero_le _⟩ (fun _ => rfl) (fun _ => rfl) [a 0, a 1, a 4, a 3] rfl (fun _ => rfl) (fun r_22 u_22 H locs e_22 hP hD hS => ?_)
    obtain rfl := e_22
    exact rtI (f, (fnd c 1), h) F hr hlk hP hS rfl ((if_neg (fun q => c_7 q.1)).symm) dX6_ahead_25
  · have c_7 : 0 ≤ x1 ∧ x1 ≤ 60 := b01t rfl c_7
    obtain ⟨n, hn, rfl⟩ := g060_n c_7
    refine lv_iload_n F.1 F.2.1 dX6_ahead_10 rfl (lv_at hl 2 rfl) ?_
    refine lv_iconst (v := 0) F.1 F.2.1 dX6_ahead_11 (by decide) ?_
    refine lv_iconst (v := 4) F.1 F.2.1 dX6_ahead_12 (by decide) ?_
    refine iS (rest := []) (wsp := fun _ => oM a v :: ai ct (a 1) 210 f :: ai ct (a 4) 8 c :: [ai ct (a 3) 210 h]) F (kX6_within l dC dI ct x2 0 4) gX6_ahead_X6_within rfl ⟨rfl, rfl⟩ nmX6_within ⟨Nat.le_of_ble_eq_true rfl, Nat.le_of_ble_eq_true rfl⟩ eT_b (fun _ _ _ => trivial) hK hP hD hS hA [] (by decide) rfl rfl rfl hl.1 (Nat.le_of_ble_eq_true rfl) dX6_ahead_13 ⟨Nat.zero_le _, Nat.zero_le _⟩ (fun _ => rfl) (fun _ => rfl) [a 0, a 1, a 4, a 3] rfl (fun _ => rfl) (fun r_13 u_13 H locs e_13 hP hD hS => ?_)
    obtain rfl := e_13
    refine lv_if_ne (tgt := 26) F.1 F.2.1 dX6_ahead_16 (by decide) (fun c_16 => ?_) (fun c_16 => ?_)
    · have c_16 : 0 ≤ x2 ∧ x2 ≤ 4 := b01t rfl c_16
      obtain ⟨q, hq, rfl⟩ := gT_n c_16
      refine lv_aload_n F.1 F.2.1 dX6_ahead_26 rfl (lv_at hl 0 rfl) ?_
      refine lv_iload_n F.1 F.2.1 dX6_ahead_27 rfl (lv_at hl 1 rfl) ?_
      refine iV (rest := []) (wsp := fun _ => oM a v :: ai ct (a 1) 210 f :: ai ct (a 4) 8 c :: [ai ct (a 3) 210 h]) F (kX6_isTooLate l dC dI ct a v f (nI n)) gX6_ahead_X6_isTooLate rfl ⟨rfl, rfl⟩ nmX6_isTooLate ⟨Nat.le_of_ble_eq_true rfl, Nat.le_of_ble_eq_true rfl⟩ eT_b (fun _ _ _ => trivial) hK hP hD hS hA 0 rfl rfl rfl [0, 1] (by decide) rfl rfl rfl hl.1 (Nat.le_of_ble_eq_true rfl) dX6_ahead_28 ⟨Nat.zero_le _, Nat.zero_le _⟩ (fun _ => rfl) (fun _ => rfl) [a 0, a 1, a 4, a 3] rfl (fun _ => rfl) (fun r_28 u_28 H locs e_28 hP hD hS => ?_)
      obtain rfl := e_28
      refine lv_if_eq (tgt := 41) F.1 F.2.1 dX6_ahead_31 (by decide) (fun c_31 => ?_) (fun c_31 => ?_)
      · have c_31 : ¬ (9999 < f 0 + (nI n)) := b01f rfl c_31
        refine lv_aload_n F.1 F.2.1 dX6_ahead_41 rfl (lv_at hl 0 rfl) ?_
        refine gf F hK hP 0 rfl rfl hiX6_ahead_6 0 (by decide) (List.mem_of_getElem? (i := 3) rfl) rfl dX6_ahead_42 ?_
        refine lv_aload_n F.1 F.2.1 dX6_ahead_45 rfl (lv_at hl 0 rfl) ?_
        refine gf F hK hP 0 rfl rfl hiX6_ahead_6 2 (by decide) (List.mem_of_getElem? (i := 4) rfl) rfl dX6_ahead_46 ?_
        refine vS (rest := []) (wsp := fun _ => oM a v :: ai ct (a 1) 210 f :: ai ct (a 4) 8 c :: [ai ct (a 3) 210 f]) F (kX6_copyRow l dC dI ct (a 1) (a 3) f h) gX6_ahead_X6_copyRow rfl ⟨rfl, rfl⟩ nmX6_copyRow ⟨Nat.le_of_ble_eq_true rfl, Nat.le_of_ble_eq_true rfl⟩ eT_b (fun _ _ _ => trivial) hK hP hD hS hA [1, 3] (by decide) rfl rfl rfl hl.1 (Nat.le_of_ble_eq_true rfl) dX6_ahead_49 ⟨Nat.zero_le _, Nat.zero_le _⟩ (fun _ => rfl) (fun _ => rfl) [a 0, a 1, a 4, a 3] rfl (fun _ => rfl) (fun u_49 H locs e_49 hP hD hS => ?_)
        refine lv_iload_n F.1 F.2.1 dX6_ahead_52 rfl (lv_at hl 2 rfl) ?_
        refine lv_iconst (v := 2) F.1 F.2.1 dX6_ahead_53 (by decide) ?_
        refine lv_icmp_le (tgt := 67) F.1 F.2.1 dX6_ahead_54 (by decide) (fun c_54 => ?_) (fun c_54 => ?_)
        · refine lv_iconst (v := 0) F.1 F.2.1 dX6_ahead_67 (by decide) ?_
          refine lv_istore_n (lv' := [(3, .int 0), (0, .ref (a 0)), (1, .int (nI n)), (2, .int (nI q))]) F.1 F.2.1 dX6_ahead_68 rfl hl (by decide) rfl (fun ls hl => ?_)
          refine lv_aload_n F.1 F.2.1 dX6_ahead_69 rfl (lv_at hl 1 rfl) ?_
          refine gf F hK hP 0 rfl rfl hiX6_ahead_6 0 (by decide) (List.mem_of_getElem? (i := 3) rfl) rfl dX6_ahead_70 ?_
          refine lv_iconst (v := 3) F.1 F.2.1 dX6_ahead_73 (by decide) ?_
          refine al (v := f 3) F hK hP 1 0 rfl rfl 3 rfl (by omega) (by decide) rfl dX6_ahead_74 ?_
          refine lv_istore (lv' := [(4, .int (f 3)), (3, .int 0), (0, .ref (a 0)), (1, .int (nI n)), (2, .int (nI q))]) F.1 F.2.1 dX6_ahead_75 hl (by decide) rfl (fun ls hl => ?_)
          refine lv_aload_n F.1 F.2.1 dX6_ahead_77 rfl (lv_at hl 2 rfl) ?_
          refine lv_iload_n F.1 F.2.1 dX6_ahead_78 rfl (lv_at hl 3 rfl) ?_
          refine iV (rest := []) (wsp := fun _ => oM a v :: ai ct (a 1) 210 (ngU f n) :: ai ct (a 4) 8 c :: [ai ct (a 3) 210 f]) F (kX6_nightsGo l dC dI ct a v f n (by omega) (fun k hk => Gd_of (Rg_all hRg (late_no hRg (by omega) c_31) k hk))) gX6_ahead_X6_nightsGo rfl ⟨rfl, rfl⟩ nmX6_nightsGo ⟨Nat.le_of_ble_eq_true rfl, Nat.le_of_ble_eq_true rfl⟩ eT_b (fun _ _ _ => trivial) hK hP hD hS hA 0 rfl rfl rfl [0, 1] (by decide) rfl rfl rfl hl.1 (Nat.le_of_ble_eq_true rfl) dX6_ahead_79 ⟨Nat.zero_le _, Nat.zero_le _⟩ (fun _ => rfl) (fun _ => rfl) [a 0, a 1, a 4, a 3] rfl (fun _ => rfl) (fun r_79 u_79 H locs e_79 hP hD hS => ?_)
          obtain rfl := e_79
          refine lv_istore (lv' := [(5, .int (tkU f n)), (4, .int (f 3)), (3, .int 0), (0, .ref (a 0)), (1, .int (nI n)), (2, .int (nI q))]) F.1 F.2.1 dX6_ahead_82 hl (by decide) rfl (fun ls hl => ?_)
          refine lv_aload_n F.1 F.2.1 dX6_ahead_84 rfl (lv_at hl 3 rfl) ?_
          refine lv_iload_n F.1 F.2.1 dX6_ahead_85 rfl (lv_at hl 5 rfl) ?_
          refine lv_if_ne (tgt := 94) F.1 F.2.1 dX6_ahead_86 (by decide) (fun c_86 => ?_) (fun c_86 => ?_)
          · refine lv_iload_n F.1 F.2.1 dX6_ahead_94 rfl (lv_at hl 5 rfl) ?_
            refine lv_iconst (v := 1) F.1 F.2.1 dX6_ahead_95 (by decide) ?_
            refine lv_icmp_ne (tgt := 106) F.1 F.2.1 dX6_ahead_96 (by decide) (fun c_96 => ?_) (fun c_96 => ?_)
            · refine lv_iload_n F.1 F.2.1 dX6_ahead_106 rfl (lv_at hl 5 rfl) ?_
              refine lv_iconst (v := 2) F.1 F.2.1 dX6_ahead_107 (by decide) ?_
              refine lv_icmp_ne (tgt := 123) F.1 F.2.1 dX6_ahead_108 (by decide) (fun c_108 => ?_) (fun c_108 => ?_)
              · exact (q3n c_54 hq c_86 c_96 c_108).elim
              · refine lv_aload_n F.1 F.2.1 dX6_ahead_111 rfl (lv_at hl 3 rfl) ?_
                refine gf F hK hP 0 rfl rfl hiX6_ahead_6 0 (by decide) (List.mem_of_getElem? (i := 3) rfl) rfl dX6_ahead_112 ?_
                refine lv_iconst (v := 3) F.1 F.2.1 dX6_ahead_115 (by decide) ?_
                refine al (v := (ngU f n) 3) F hK hP 1 0 rfl rfl 3 rfl (by omega) (by decide) rfl dX6_ahead_116 ?_
                refine lv_iload F.1 F.2.1 dX6_ahead_117 (lv_at hl 1 rfl) ?_
                refine lv_isub F.1 F.2.1 dX6_ahead_119 ?_
                refine lv_goto (tgt := 132) F.1 F.2.1 dX6_ahead_120 (by decide) ?_
                refine iV (rest := []) (wsp := fun _ => oM a v :: ai ct (a 1) 210 f :: ai ct (a 4) 8 c :: [ai ct (a 3) 210 f]) F (kX6_putBack l dC dI ct a v (ngU f n) f (((ngU f n) 3) - (f 3))) gX6_ahead_X6_putBack rfl ⟨rfl, rfl⟩ nmX6_putBack ⟨Nat.le_of_ble_eq_true rfl, Nat.le_of_ble_eq_true rfl⟩ eT_b (fun _ _ _ => trivial) hK hP hD hS hA 0 rfl rfl rfl [0, 1, 3] (by decide) rfl rfl rfl hl.1 (Nat.le_of_ble_eq_true rfl) dX6_ahead_132 ⟨Nat.zero_le _, Nat.zero_le _⟩ (fun _ => rfl) (fun _ => rfl) [a 0, a 1, a 4, a 3] rfl (fun _ => rfl) (fun r_132 u_132 H locs e_132 hP hD hS => ?_)
                obtain rfl := e_132
                exact rtI (f, c, f) F hr hlk hP hS rfl (Eq.trans (by rw [show tn (nI n) = n from nI_clamp (by omega)]; unfold kAhead; rw [if_neg c_31, aheA, if_neg c_86, if_neg c_96, if_pos c_108]) (if_pos ⟨c_7, c_16⟩).symm) dX6_ahead_135
            · refine lv_aload_n F.1 F.2.1 dX6_ahead_99 rfl (lv_at hl 3 rfl) ?_
              refine iV (rest := [.ref (a 0)]) (wsp := fun _ => oM a v :: ai ct (a 1) 210 (ngU f n) :: ai ct (a 4) 8 c :: [ai ct (a 3) 210 f]) F (kX6_inHeaps l dC dI ct a v (ngU f n)) gX6_ahead_X6_inHeaps rfl ⟨rfl, rfl⟩ nmX6_inHeaps ⟨Nat.le_of_ble_eq_true rfl, Nat.le_of_ble_eq_true rfl⟩ eT_b (fun _ _ _ => trivial) hK hP hD hS hA 0 rfl rfl rfl [0, 1] (by decide) rfl rfl rfl hl.1 (Nat.le_of_ble_eq_true rfl) dX6_ahead_100 ⟨Nat.zero_le _, Nat.zero_le _⟩ (fun _ => rfl) (fun _ => rfl) [a 0, a 1, a 4, a 3] rfl (fun _ => rfl) (fun r_100 u_100 H locs e_100 hP hD hS => ?_)
              obtain rfl := e_100
              refine lv_goto (tgt := 132) F.1 F.2.1 dX6_ahead_103 (by decide) ?_
              refine iV (rest := []) (wsp := fun _ => oM a v :: ai ct (a 1) 210 f :: ai ct (a 4) 8 c :: [ai ct (a 3) 210 f]) F (kX6_putBack l dC dI ct a v (ngU f n) f (sumU (ngU f n) 27 5 + sumU (ngU f n) 44 5)) gX6_ahead_X6_putBack rfl ⟨rfl, rfl⟩ nmX6_putBack ⟨Nat.le_of_ble_eq_true rfl, Nat.le_of_ble_eq_true rfl⟩ eT_b (fun _ _ _ => trivial) hK hP hD hS hA 0 rfl rfl rfl [0, 1, 3] (by decide) rfl rfl rfl hl.1 (Nat.le_of_ble_eq_true rfl) dX6_ahead_132 ⟨Nat.zero_le _, Nat.zero_le _⟩ (fun _ => rfl) (fun _ => rfl) [a 0, a 1, a 4, a 3] rfl (fun _ => rfl) (fun r_132 u_132 H locs e_132 hP hD hS => ?_)
              obtain rfl := e_132
              exact rtI (f, c, f) F hr hlk hP hS rfl (Eq.trans (by rw [show tn (nI n) = n from nI_clamp (by omega)]; unfold kAhead; rw [if_neg c_31, aheA, if_neg c_86, if_pos c_96]) (if_pos ⟨c_7, c_16⟩).symm) dX6_ahead_135
          · refine lv_iload F.1 F.2.1 dX6_ahead_89 (lv_at hl 0 rfl) ?_
            refine lv_goto (tgt := 132) F.1 F.2.1 dX6_ahead_91 (by decide) ?_
            refine iV (rest := []) (wsp := fun _ => oM a v :: ai ct (a 1) 210 f :: ai ct (a 4) 8 c :: [ai ct (a 3) 210 f]) F (kX6_putBack l dC dI ct a v (ngU f n) f (tkU f n)) gX6_ahead_X6_putBack rfl ⟨rfl, rfl⟩ nmX6_putBack ⟨Nat.le_of_ble_eq_true rfl, Nat.le_of_ble_eq_true rfl⟩ eT_b (fun _ _ _ => trivial) hK hP hD hS hA 0 rfl rfl rfl [0, 1, 3] (by decide) rfl rfl rfl hl.1 (Nat.le_of_ble_eq_true rfl) dX6_ahead_132 ⟨Nat.zero_le _, Nat.zero_le _⟩ (fun _ => rfl) (fun _ => rfl) [a 0, a 1, a 4, a 3] rfl (fun _ => rfl) (fun r_132 u_132 H locs e_132 hP hD hS => ?_)
            obtain rfl := e_132
            exact rtI (f, c, f) F hr hlk hP hS rfl (Eq.trans (by rw [show tn (nI n) = n from nI_clamp (by omega)]; unfold kAhead; rw [if_neg c_31, aheA, if_pos c_86]) (if_pos ⟨c_7, c_16⟩).symm) dX6_ahead_135
        · have h3 := q3 hq c_54
          refine lv_aload_n F.1 F.2.1 dX6_ahead_57 rfl (lv_at hl 0 rfl) ?_
          refine lv_iload_n F.1 F.2.1 dX6_ahead_58 rfl (lv_at hl 2 rfl) ?_
          refine lv_iconst (v := 3) F.1 F.2.1 dX6_ahead_59 (by decide) ?_
          refine lv_isub F.1 F.2.1 dX6_ahead_60 ?_
          refine tp (y := nI (q - 3)) (sb2 (a := q) (b := 3) (c := q - 3) rfl rfl (by omega)) ?_
          refine iV (rest := []) (wsp := fun _ => oM a v :: ai ct (a 1) 210 f :: ai ct (a 4) 8 c :: [ai ct (a 3) 210 f]) F (kX6_allOf l dC dI ct a v f (q - 3) (by omega)) gX6_ahead_X6_allOf rfl ⟨rfl, rfl⟩ nmX6_allOf ⟨Nat.le_of_ble_eq_true rfl, Nat.le_of_ble_eq_true rfl⟩ eT_b (fun _ _ _ => trivial) hK hP hD hS hA 0 rfl rfl rfl [0, 1] (by decide) rfl rfl rfl hl.1 (Nat.le_of_ble_eq_true rfl) dX6_ahead_61 ⟨Nat.zero_le _, Nat.zero_le _⟩ (fun _ => rfl) (fun _ => rfl) [a 0, a 1, a 4, a 3] rfl (fun _ => rfl) (fun r_61 u_61 H locs e_61 hP hD hS => ?_)
          obtain rfl := e_61
          refine lv_goto (tgt := 68) F.1 F.2.1 dX6_ahead_64 (by decide) ?_
          refine lv_istore_n (lv' := [(3, .int (allU f (q - 3) 5)), (0, .ref (a 0)), (1, .int (nI n)), (2, .int (nI q))]) F.1 F.2.1 dX6_ahead_68 rfl hl (by decide) rfl (fun ls hl => ?_)
          refine lv_aload_n F.1 F.2.1 dX6_ahead_69 rfl (lv_at hl 1 rfl) ?_
          refine gf F hK hP 0 rfl rfl hiX6_ahead_6 0 (by decide) (List.mem_of_getElem? (i := 3) rfl) rfl dX6_ahead_70 ?_
          refine lv_iconst (v := 3) F.1 F.2.1 dX6_ahead_73 (by decide) ?_
          refine al (v := f 3) F hK hP 1 0 rfl rfl 3 rfl (by omega) (by decide) rfl dX6_ahead_74 ?_
          refine lv_istore (lv' := [(4, .int (f 3)), (3, .int (allU f (q - 3) 5)), (0, .ref (a 0)), (1, .int (nI n)), (2, .int (nI q))]) F.1 F.2.1 dX6_ahead_75 hl (by decide) rfl (fun ls hl => ?_)
          refine lv_aload_n F.1 F.2.1 dX6_ahead_77 rfl (lv_at hl 2 rfl) ?_
          refine lv_iload_n F.1 F.2.1 dX6_ahead_78 rfl (lv_at hl 3 rfl) ?_
          refine iV (rest := []) (wsp := fun _ => oM a v :: ai ct (a 1) 210 (ngU f n) :: ai ct (a 4) 8 c :: [ai ct (a 3) 210 f]) F (kX6_nightsGo l dC dI ct a v f n (by omega) (fun k hk => Gd_of (Rg_all hRg (late_no hRg (by omega) c_31) k hk))) gX6_ahead_X6_nightsGo rfl ⟨rfl, rfl⟩ nmX6_nightsGo ⟨Nat.le_of_ble_eq_true rfl, Nat.le_of_ble_eq_true rfl⟩ eT_b (fun _ _ _ => trivial) hK hP hD hS hA 0 rfl rfl rfl [0, 1] (by decide) rfl rfl rfl hl.1 (Nat.le_of_ble_eq_true rfl) dX6_ahead_79 ⟨Nat.zero_le _, Nat.zero_le _⟩ (fun _ => rfl) (fun _ => rfl) [a 0, a 1, a 4, a 3] rfl (fun _ => rfl) (fun r_79 u_79 H locs e_79 hP hD hS => ?_)
          obtain rfl := e_79
          refine lv_istore (lv' := [(5, .int (tkU f n)), (4, .int (f 3)), (3, .int (allU f (q - 3) 5)), (0, .ref (a 0)), (1, .int (nI n)), (2, .int (nI q))]) F.1 F.2.1 dX6_ahead_82 hl (by decide) rfl (fun ls hl => ?_)
          refine lv_aload_n F.1 F.2.1 dX6_ahead_84 rfl (lv_at hl 3 rfl) ?_
          refine lv_iload_n F.1 F.2.1 dX6_ahead_85 rfl (lv_at hl 5 rfl) ?_
          refine lv_if_ne (tgt := 94) F.1 F.2.1 dX6_ahead_86 (by decide) (fun c_86 => ?_) (fun c_86 => ?_)
          · refine lv_iload_n F.1 F.2.1 dX6_ahead_94 rfl (lv_at hl 5 rfl) ?_
            refine lv_iconst (v := 1) F.1 F.2.1 dX6_ahead_95 (by decide) ?_
            refine lv_icmp_ne (tgt := 106) F.1 F.2.1 dX6_ahead_96 (by decide) (fun c_96 => ?_) (fun c_96 => ?_)
            · refine lv_iload_n F.1 F.2.1 dX6_ahead_106 rfl (lv_at hl 5 rfl) ?_
              refine lv_iconst (v := 2) F.1 F.2.1 dX6_ahead_107 (by decide) ?_
              refine lv_icmp_ne (tgt := 123) F.1 F.2.1 dX6_ahead_108 (by decide) (fun c_108 => ?_) (fun c_108 => ?_)
              · refine lv_aload_n F.1 F.2.1 dX6_ahead_123 rfl (lv_at hl 3 rfl) ?_
                refine lv_iload_n F.1 F.2.1 dX6_ahead_124 rfl (lv_at hl 5 rfl) ?_
                refine lv_iconst (v := 3) F.1 F.2.1 dX6_ahead_125 (by decide) ?_
                refine lv_isub F.1 F.2.1 dX6_ahead_126 ?_
                refine tp (y := nI (q - 3)) (sb2 (a := q) (b := 3) (c := q - 3) rfl rfl (by omega)) ?_
                refine iV (rest := [.ref (a 0)]) (wsp := fun _ => oM a v :: ai ct (a 1) 210 (ngU f n) :: ai ct (a 4) 8 c :: [ai ct (a 3) 210 f]) F (kX6_allOf l dC dI ct a v (ngU f n) (q - 3) (by omega)) gX6_ahead_X6_allOf rfl ⟨rfl, rfl⟩ nmX6_allOf ⟨Nat.le_of_ble_eq_true rfl, Nat.le_of_ble_eq_true rfl⟩ eT_b (fun _ _ _ => trivial) hK hP hD hS hA 0 rfl rfl rfl [0, 1] (by decide) rfl rfl rfl hl.1 (Nat.le_of_ble_eq_true rfl) dX6_ahead_127 ⟨Nat.zero_le _, Nat.zero_le _⟩ (fun _ => rfl) (fun _ => rfl) [a 0, a 1, a 4, a 3] rfl (fun _ => rfl) (fun r_127 u_127 H locs e_127 hP hD hS => ?_)
                obtain rfl := e_127
                refine lv_iload_n F.1 F.2.1 dX6_ahead_130 rfl (lv_at hl 2 rfl) ?_
                refine lv_isub F.1 F.2.1 dX6_ahead_131 ?_
                refine iV (rest := []) (wsp := fun _ => oM a v :: ai ct (a 1) 210 f :: ai ct (a 4) 8 c :: [ai ct (a 3) 210 f]) F (kX6_putBack l dC dI ct a v (ngU f n) f ((allU (ngU f n) (q - 3) 5) - (allU f (q - 3) 5))) gX6_ahead_X6_putBack rfl ⟨rfl, rfl⟩ nmX6_putBack ⟨Nat.le_of_ble_eq_true rfl, Nat.le_of_ble_eq_true rfl⟩ eT_b (fun _ _ _ => trivial) hK hP hD hS hA 0 rfl rfl rfl [0, 1, 3] (by decide) rfl rfl rfl hl.1 (Nat.le_of_ble_eq_true rfl) dX6_ahead_132 ⟨Nat.zero_le _, Nat.zero_le _⟩ (fun _ => rfl) (fun _ => rfl) [a 0, a 1, a 4, a 3] rfl (fun _ => rfl) (fun r_132 u_132 H locs e_132 hP hD hS => ?_)
                obtain rfl := e_132
                exact rtI (f, c, f) F hr hlk hP hS rfl (Eq.trans (by rw [show tn (nI n) = n from nI_clamp (by omega)]; unfold kAhead; rw [if_neg c_31, aheA, if_neg c_86, if_neg c_96, if_neg c_108, show tn (nI q) = q from nI_clamp (by omega)]) (if_pos ⟨c_7, c_16⟩).symm) dX6_ahead_135
              · refine lv_aload_n F.1 F.2.1 dX6_ahead_111 rfl (lv_at hl 3 rfl) ?_
                refine gf F hK hP 0 rfl rfl hiX6_ahead_6 0 (by decide) (List.mem_of_getElem? (i := 3) rfl) rfl dX6_ahead_112 ?_
                refine lv_iconst (v := 3) F.1 F.2.1 dX6_ahead_115 (by decide) ?_
                refine al (v := (ngU f n) 3) F hK hP 1 0 rfl rfl 3 rfl (by omega) (by decide) rfl dX6_ahead_116 ?_
                refine lv_iload F.1 F.2.1 dX6_ahead_117 (lv_at hl 1 rfl) ?_
                refine lv_isub F.1 F.2.1 dX6_ahead_119 ?_
                refine lv_goto (tgt := 132) F.1 F.2.1 dX6_ahead_120 (by decide) ?_
                refine iV (rest := []) (wsp := fun _ => oM a v :: ai ct (a 1) 210 f :: ai ct (a 4) 8 c :: [ai ct (a 3) 210 f]) F (kX6_putBack l dC dI ct a v (ngU f n) f (((ngU f n) 3) - (f 3))) gX6_ahead_X6_putBack rfl ⟨rfl, rfl⟩ nmX6_putBack ⟨Nat.le_of_ble_eq_true rfl, Nat.le_of_ble_eq_true rfl⟩ eT_b (fun _ _ _ => trivial) hK hP hD hS hA 0 rfl rfl rfl [0, 1, 3] (by decide) rfl rfl rfl hl.1 (Nat.le_of_ble_eq_true rfl) dX6_ahead_132 ⟨Nat.zero_le _, Nat.zero_le _⟩ (fun _ => rfl) (fun _ => rfl) [a 0, a 1, a 4, a 3] rfl (fun _ => rfl) (fun r_132 u_132 H locs e_132 hP hD hS => ?_)
                obtain rfl := e_132
                exact rtI (f, c, f) F hr hlk hP hS rfl (Eq.trans (by rw [show tn (nI n) = n from nI_clamp (by omega)]; unfold kAhead; rw [if_neg c_31, aheA, if_neg c_86, if_neg c_96, if_pos c_108]) (if_pos ⟨c_7, c_16⟩).symm) dX6_ahead_135
            · refine lv_aload_n F.1 F.2.1 dX6_ahead_99 rfl (lv_at hl 3 rfl) ?_
              refine iV (rest := [.ref (a 0)]) (wsp := fun _ => oM a v :: ai ct (a 1) 210 (ngU f n) :: ai ct (a 4) 8 c :: [ai ct (a 3) 210 f]) F (kX6_inHeaps l dC dI ct a v (ngU f n)) gX6_ahead_X6_inHeaps rfl ⟨rfl, rfl⟩ nmX6_inHeaps ⟨Nat.le_of_ble_eq_true rfl, Nat.le_of_ble_eq_true rfl⟩ eT_b (fun _ _ _ => trivial) hK hP hD hS hA 0 rfl rfl rfl [0, 1] (by decide) rfl rfl rfl hl.1 (Nat.le_of_ble_eq_true rfl) dX6_ahead_100 ⟨Nat.zero_le _, Nat.zero_le _⟩ (fun _ => rfl) (fun _ => rfl) [a 0, a 1, a 4, a 3] rfl (fun _ => rfl) (fun r_100 u_100 H locs e_100 hP hD hS => ?_)
              obtain rfl := e_100
              refine lv_goto (tgt := 132) F.1 F.2.1 dX6_ahead_103 (by decide) ?_
              refine iV (rest := []) (wsp := fun _ => oM a v :: ai ct (a 1) 210 f :: ai ct (a 4) 8 c :: [ai ct (a 3) 210 f]) F (kX6_putBack l dC dI ct a v (ngU f n) f (sumU (ngU f n) 27 5 + sumU (ngU f n) 44 5)) gX6_ahead_X6_putBack rfl ⟨rfl, rfl⟩ nmX6_putBack ⟨Nat.le_of_ble_eq_true rfl, Nat.le_of_ble_eq_true rfl⟩ eT_b (fun _ _ _ => trivial) hK hP hD hS hA 0 rfl rfl rfl [0, 1, 3] (by decide) rfl rfl rfl hl.1 (Nat.le_of_ble_eq_true rfl) dX6_ahead_132 ⟨Nat.zero_le _, Nat.zero_le _⟩ (fun _ => rfl) (fun _ => rfl) [a 0, a 1, a 4, a 3] rfl (fun _ => rfl) (fun r_132 u_132 H locs e_132 hP hD hS => ?_)
              obtain rfl := e_132
              exact rtI (f, c, f) F hr hlk hP hS rfl (Eq.trans (by rw [show tn (nI n) = n from nI_clamp (by omega)]; unfold kAhead; rw [if_neg c_31, aheA, if_neg c_86, if_pos c_96]) (if_pos ⟨c_7, c_16⟩).symm) dX6_ahead_135
          · refine lv_iload F.1 F.2.1 dX6_ahead_89 (lv_at hl 0 rfl) ?_
            refine lv_goto (tgt := 132) F.1 F.2.1 dX6_ahead_91 (by decide) ?_
            refine iV (rest := []) (wsp := fun _ => oM a v :: ai ct (a 1) 210 f :: ai ct (a 4) 8 c :: [ai ct (a 3) 210 f]) F (kX6_putBack l dC dI ct a v (ngU f n) f (tkU f n)) gX6_ahead_X6_putBack rfl ⟨rfl, rfl⟩ nmX6_putBack ⟨Nat.le_of_ble_eq_true rfl, Nat.le_of_ble_eq_true rfl⟩ eT_b (fun _ _ _ => trivial) hK hP hD hS hA 0 rfl rfl rfl [0, 1, 3] (by decide) rfl rfl rfl hl.1 (Nat.le_of_ble_eq_true rfl) dX6_ahead_132 ⟨Nat.zero_le _, Nat.zero_le _⟩ (fun _ => rfl) (fun _ => rfl) [a 0, a 1, a 4, a 3] rfl (fun _ => rfl) (fun r_132 u_132 H locs e_132 hP hD hS => ?_)
            obtain rfl := e_132
            exact rtI (f, c, f) F hr hlk hP hS rfl (Eq.trans (by rw [show tn (nI n) = n from nI_clamp (by omega)]; unfold kAhead; rw [if_neg c_31, aheA, if_pos c_86]) (if_pos ⟨c_7, c_16⟩).symm) dX6_ahead_135
      · have c_31 : 9999 < f 0 + (nI n) := b01t rfl c_31
        refine lv_aload_n F.1 F.2.1 dX6_ahead_34 rfl (lv_at hl 0 rfl) ?_
        refine lv_ldc (v := (-1000005)) F.1 F.2.1 F.2.2.2.1 (F.2.2.2.2 _ (List.mem_of_getElem? (i := 2) rfl)) dX6_ahead_35 ?_
        refine iV (rest := []) (wsp := fun _ => oM a v :: ai ct (a 1) 210 f :: ai ct (a 4) 8 (fnd c 5) :: [ai ct (a 3) 210 h]) F (kX6_finding l dC dI ct a v c (-1000005) 5 (by decide) (by decide) (by decide)) gX6_ahead_X6_finding rfl ⟨rfl, rfl⟩ nmX6_finding ⟨Nat.le_of_ble_eq_true rfl, Nat.le_of_ble_eq_true rfl⟩ eT_b (fun _ _ _ => trivial) hK hP hD hS hA 0 rfl rfl rfl [0, 2] (by decide) rfl rfl rfl hl.1 (Nat.le_of_ble_eq_true rfl) dX6_ahead_37 ⟨Nat.zero_le _, Nat.zero_le _⟩ (fun _ => rfl) (fun _ => rfl) [a 0, a 1, a 4, a 3] rfl (fun _ => rfl) (fun r_37 u_37 H locs e_37 hP hD hS => ?_)
        obtain rfl := e_37
        exact rtI (f, (fnd c 5), h) F hr hlk hP hS rfl (Eq.trans (by rw [show tn (nI n) = n from nI_clamp (by omega)]; unfold kAhead; rw [if_pos c_31]; rfl) (if_pos ⟨c_7, c_16⟩).symm) dX6_ahead_40
    · have c_16 : ¬ (0 ≤ x2 ∧ x2 ≤ 4) := b01f rfl c_16
      refine lv_aload_n F.1 F.2.1 dX6_ahead_19 rfl (lv_at hl 0 rfl) ?_
      refine lv_ldc (v := (-1000001)) F.1 F.2.1 F.2.2.2.1 (F.2.2.2.2 _ (List.mem_of_getElem? (i := 1) rfl)) dX6_ahead_20 ?_
      refine iV (rest := []) (wsp := fun _ => oM a v :: ai ct (a 1) 210 f :: ai ct (a 4) 8 (fnd c 1) :: [ai ct (a 3) 210 h]) F (kX6_finding l dC dI ct a v c (-1000001) 1 (by decide) (by decide) (by decide)) gX6_ahead_X6_finding rfl ⟨rfl, rfl⟩ nmX6_finding ⟨Nat.le_of_ble_eq_true rfl, Nat.le_of_ble_eq_true rfl⟩ eT_b (fun _ _ _ => trivial) hK hP hD hS hA 0 rfl rfl rfl [0, 2] (by decide) rfl rfl rfl hl.1 (Nat.le_of_ble_eq_true rfl) dX6_ahead_22 ⟨Nat.zero_le _, Nat.zero_le _⟩ (fun _ => rfl) (fun _ => rfl) [a 0, a 1, a 4, a 3] rfl (fun _ => rfl) (fun r_22 u_22 H locs e_22 hP hD hS => ?_)
      obtain rfl := e_22
      exact rtI (f, (fnd c 1), h) F hr hlk hP hS rfl ((if_neg (fun q => c_16 q.2)).symm) dX6_ahead_25

def rmX6_struck : Room := { frames := 8, cells := 0, slots := 0, locals := 179 }
theorem nmX6_struck : NmV yX6_struck RX6 0 := by unfold NmV; decide +kernel
theorem hiX6_struck_6 : ∀ w ∈ u_ws RX6 TX6 22, w ∈ wsX6_struck := by decide +kernel
set_option maxHeartbeats 4000000 in
set_option maxRecDepth 100000 in
theorem kX6_struck (l : Launch) (dC : Nat → ClassId) (dI : Nat → Nat → Nat) (ct : Nat → ClassId) (a : Nat → Nat) (v f c h : Nat → Int32) (hRg : Rg f) : MI (S := (Nat → Int32) × (Nat → Int32) × (Nat → Int32)) l yX6_struck wsX6_struck rmX6_struck dC dI ct eT [.ref (a 0)] (oM a v :: ai ct (a 1) 210 f :: ai ct (a 4) 8 c :: [ai ct (a 3) 210 h]) (fun u => oM a v :: ai ct (a 1) 210 u.1 :: ai ct (a 4) 8 u.2.1 :: [ai ct (a 3) 210 u.2.2]) (fun r u => (r, u.1, u.2.1) = sStruck f c) := by
  refine MI.of (cc := cX6_struck) (maxL := 3) (ret := (some .int)) (by decide) rfl (Nat.le_of_ble_eq_true rfl) ?_
  intro pg en z mi below meth cd A F hr hlk hin hK hP hD hA hS hE ls hl
  have F : CallFix pg mi cd cX6_struck 3 z _ wsX6_struck RX6 := F
  have hl : lv_has ls 3 [(0, .ref (a 0))] := hl
  refine lv_aload_n F.1 F.2.1 dX6_struck_0 rfl (lv_at hl 0 rfl) ?_
  refine iV (rest := []) (wsp := fun _ => oM a v :: ai ct (a 1) 210 f :: ai ct (a 4) 8 c :: [ai ct (a 3) 210 h]) F (kX6_isLate l dC dI ct a v f) gX6_struck_X6_isLate rfl ⟨rfl, rfl⟩ nmX6_isLate ⟨Nat.le_of_ble_eq_true rfl, Nat.le_of_ble_eq_true rfl⟩ eT_b (fun _ _ _ => trivial) hK hP hD hS hA 0 rfl rfl rfl [0, 1] (by decide) rfl rfl rfl hl.1 (Nat.le_of_ble_eq_true rfl) dX6_struck_1 ⟨Nat.zero_le _, Nat.zero_le _⟩ (fun _ => rfl) (fun _ => rfl) [a 0, a 1, a 4, a 3] rfl (fun _ => rfl) (fun r_1 u_1 H locs e_1 hP hD hS => ?_)
  obtain rfl := e_1
  refine lv_if_eq (tgt := 14) F.1 F.2.1 dX6_struck_4 (by decide) (fun c_4 => ?_) (fun c_4 => ?_)
  · have c_4 : ¬ (9999 < f 0 + 60) := b01f rfl c_4
    refine lv_aload_n F.1 F.2.1 dX6_struck_14 rfl (lv_at hl 0 rfl) ?_
    refine gf F hK hP 0 rfl rfl hiX6_struck_6 0 (by decide) (List.mem_of_getElem? (i := 2) rfl) rfl dX6_struck_15 ?_
    refine lv_aload_n F.1 F.2.1 dX6_struck_18 rfl (lv_at hl 0 rfl) ?_
    refine gf F hK hP 0 rfl rfl hiX6_struck_6 2 (by decide) (List.mem_of_getElem? (i := 3) rfl) rfl dX6_struck_19 ?_
    refine vS (rest := []) (wsp := fun _ => oM a v :: ai ct (a 1) 210 f :: ai ct (a 4) 8 c :: [ai ct (a 3) 210 f]) F (kX6_copyRow l dC dI ct (a 1) (a 3) f h) gX6_struck_X6_copyRow rfl ⟨rfl, rfl⟩ nmX6_copyRow ⟨Nat.le_of_ble_eq_true rfl, Nat.le_of_ble_eq_true rfl⟩ eT_b (fun _ _ _ => trivial) hK hP hD hS hA [1, 3] (by decide) rfl rfl rfl hl.1 (Nat.le_of_ble_eq_true rfl) dX6_struck_22 ⟨Nat.zero_le _, Nat.zero_le _⟩ (fun _ => rfl) (fun _ => rfl) [a 0, a 1, a 4, a 3] rfl (fun _ => rfl) (fun u_22 H locs e_22 hP hD hS => ?_)
    refine lv_iconst (v := 0) F.1 F.2.1 dX6_struck_25 (by decide) ?_
    refine lv_istore_n (lv' := [(1, .int 0), (0, .ref (a 0))]) F.1 F.2.1 dX6_struck_26 rfl hl (by decide) rfl (fun ls hl => ?_)
    refine lv_iconst (v := 0) F.1 F.2.1 dX6_struck_27 (by decide) ?_
    refine lv_istore_n (lv' := [(2, .int 0), (1, .int 0), (0, .ref (a 0))]) F.1 F.2.1 dX6_struck_28 rfl hl (by decide) rfl (fun ls hl => ?_)
    refine loopM (σ := Nat × Int32) (I := fun x H locs ls => va_P (dC, dI) vwCl (oM a v :: ai ct (a 1) 210 (ngU f x.1) :: ai ct (a 4) 8 c :: [ai ct (a 3) 210 f]) H ∧ va_D A (oM a v :: ai ct (a 1) 210 (ngU f x.1) :: ai ct (a 4) 8 c :: [ai ct (a 3) 210 f]) ∧ va_S A z.heap H locs ∧ lv_has ls 3 [(1, .int (nI x.1)), (2, .int x.2), (0, .ref (a 0))] ∧ x.1 ≤ 60 ∧ (x.2 = 0 ∧ strU f (60 - x.1) x.1 = strU f 60 0 ∨ x.2 = 1 ∧ strU f 60 0 = some x.1)) (fun x => 60 - x.1) ((0 : Nat), (0 : Int32)) ⟨hP, hD, hS, lv_sub hl [1, 0, 2] rfl, ⟨Nat.zero_le _, Or.inl ⟨rfl, rfl⟩⟩⟩ (fun x H locs ls hI ih_29 => ?_)
    obtain ⟨hP, hD, hS, hl, hx1, hx2⟩ := hI
    refine lv_iload_n F.1 F.2.1 dX6_struck_29 rfl (lv_at hl 0 rfl) ?_
    refine lv_bipush (v := 60) F.1 F.2.1 dX6_struck_30 (by decide) ?_
    refine lv_icmp_ge (tgt := 59) F.1 F.2.1 dX6_struck_32 (by decide) (fun c_32 => ?_) (fun c_32 => ?_)
    · refine lv_aload_n F.1 F.2.1 dX6_struck_59 rfl (lv_at hl 2 rfl) ?_
      refine lv_iload_n F.1 F.2.1 dX6_struck_60 rfl (lv_at hl 1 rfl) ?_
      refine lv_if_eq (tgt := 68) F.1 F.2.1 dX6_struck_61 (by decide) (fun c_61 => ?_) (fun c_61 => ?_)
      · refine lv_iconst (v := 0) F.1 F.2.1 dX6_struck_68 (by decide) ?_
        refine iV (rest := []) (wsp := fun _ => oM a v :: ai ct (a 1) 210 f :: ai ct (a 4) 8 c :: [ai ct (a 3) 210 f]) F (kX6_putBack l dC dI ct a v (ngU f x.1) f 0) gX6_struck_X6_putBack rfl ⟨rfl, rfl⟩ nmX6_putBack ⟨Nat.le_of_ble_eq_true rfl, Nat.le_of_ble_eq_true rfl⟩ eT_b (fun _ _ _ => trivial) hK hP hD hS hA 0 rfl rfl rfl [0, 1, 3] (by decide) rfl rfl rfl hl.1 (Nat.le_of_ble_eq_true rfl) dX6_struck_69 ⟨Nat.zero_le _, Nat.zero_le _⟩ (fun _ => rfl) (fun _ => rfl) [a 0, a 1, a 4, a 3] rfl (fun _ => rfl) (fun r_69 u_69 H locs e_69 hP hD hS => ?_)
        obtain rfl := e_69
        refine lv_if_ne (tgt := 84) F.1 F.2.1 dX6_struck_72 (by decide) (fun c_72 => ?_) (fun c_72 => ?_)
        · exact absurd rfl c_72
        · refine lv_aload_n F.1 F.2.1 dX6_struck_75 rfl (lv_at hl 2 rfl) ?_
          refine lv_ldc (v := (-1000004)) F.1 F.2.1 F.2.2.2.1 (F.2.2.2.2 _ (List.mem_of_getElem? (i := 4) rfl)) dX6_struck_76 ?_
          refine iV (rest := []) (wsp := fun _ => oM a v :: ai ct (a 1) 210 f :: ai ct (a 4) 8 (fnd c 4) :: [ai ct (a 3) 210 f]) F (kX6_finding l dC dI ct a v c (-1000004) 4 (by decide) (by decide) (by decide)) gX6_struck_X6_finding rfl ⟨rfl, rfl⟩ nmX6_finding ⟨Nat.le_of_ble_eq_true rfl, Nat.le_of_ble_eq_true rfl⟩ eT_b (fun _ _ _ => trivial) hK hP hD hS hA 0 rfl rfl rfl [0, 2] (by decide) rfl rfl rfl hl.1 (Nat.le_of_ble_eq_true rfl) dX6_struck_78 ⟨Nat.zero_le _, Nat.zero_le _⟩ (fun _ => rfl) (fun _ => rfl) [a 0, a 1, a 4, a 3] rfl (fun _ => rfl) (fun r_78 u_78 H locs e_78 hP hD hS => ?_)
          obtain rfl := e_78
          refine lv_goto (tgt := 85) F.1 F.2.1 dX6_struck_81 (by decide) ?_
          exact rtI (f, (fnd c 4), f) F hr hlk hP hS rfl (Eq.trans (by rw [str_none hx1 c_32 c_61 hx2]; rfl) (if_neg c_4).symm) dX6_struck_85
      · refine lv_iconst (v := 1) F.1 F.2.1 dX6_struck_64 (by decide) ?_
        refine lv_goto (tgt := 69) F.1 F.2.1 dX6_struck_65 (by decide) ?_
        refine iV (rest := []) (wsp := fun _ => oM a v :: ai ct (a 1) 210 f :: ai ct (a 4) 8 c :: [ai ct (a 3) 210 f]) F (kX6_putBack l dC dI ct a v (ngU f x.1) f 1) gX6_struck_X6_putBack rfl ⟨rfl, rfl⟩ nmX6_putBack ⟨Nat.le_of_ble_eq_true rfl, Nat.le_of_ble_eq_true rfl⟩ eT_b (fun _ _ _ => trivial) hK hP hD hS hA 0 rfl rfl rfl [0, 1, 3] (by decide) rfl rfl rfl hl.1 (Nat.le_of_ble_eq_true rfl) dX6_struck_69 ⟨Nat.zero_le _, Nat.zero_le _⟩ (fun _ => rfl) (fun _ => rfl) [a 0, a 1, a 4, a 3] rfl (fun _ => rfl) (fun r_69 u_69 H locs e_69 hP hD hS => ?_)
        obtain rfl := e_69
        refine lv_if_ne (tgt := 84) F.1 F.2.1 dX6_struck_72 (by decide) (fun c_72 => ?_) (fun c_72 => ?_)
        · refine lv_iload_n F.1 F.2.1 dX6_struck_84 rfl (lv_at hl 0 rfl) ?_
          exact rtI (f, c, f) F hr hlk hP hS rfl (Eq.trans (by rw [str_some hx2 c_61]; rfl) (if_neg c_4).symm) dX6_struck_85
        · exact absurd c_72 (by decide)
    · refine lv_iload_n F.1 F.2.1 dX6_struck_35 rfl (lv_at hl 1 rfl) ?_
      refine lv_if_ne (tgt := 59) F.1 F.2.1 dX6_struck_36 (by decide) (fun c_36 => ?_) (fun c_36 => ?_)
      · refine lv_aload_n F.1 F.2.1 dX6_struck_59 rfl (lv_at hl 2 rfl) ?_
        refine lv_iload_n F.1 F.2.1 dX6_struck_60 rfl (lv_at hl 1 rfl) ?_
        refine lv_if_eq (tgt := 68) F.1 F.2.1 dX6_struck_61 (by decide) (fun c_61 => ?_) (fun c_61 => ?_)
        · exact absurd c_61 c_36
        · refine lv_iconst (v := 1) F.1 F.2.1 dX6_struck_64 (by decide) ?_
          refine lv_goto (tgt := 69) F.1 F.2.1 dX6_struck_65 (by decide) ?_
          refine iV (rest := []) (wsp := fun _ => oM a v :: ai ct (a 1) 210 f :: ai ct (a 4) 8 c :: [ai ct (a 3) 210 f]) F (kX6_putBack l dC dI ct a v (ngU f x.1) f 1) gX6_struck_X6_putBack rfl ⟨rfl, rfl⟩ nmX6_putBack ⟨Nat.le_of_ble_eq_true rfl, Nat.le_of_ble_eq_true rfl⟩ eT_b (fun _ _ _ => trivial) hK hP hD hS hA 0 rfl rfl rfl [0, 1, 3] (by decide) rfl rfl rfl hl.1 (Nat.le_of_ble_eq_true rfl) dX6_struck_69 ⟨Nat.zero_le _, Nat.zero_le _⟩ (fun _ => rfl) (fun _ => rfl) [a 0, a 1, a 4, a 3] rfl (fun _ => rfl) (fun r_69 u_69 H locs e_69 hP hD hS => ?_)
          obtain rfl := e_69
          refine lv_if_ne (tgt := 84) F.1 F.2.1 dX6_struck_72 (by decide) (fun c_72 => ?_) (fun c_72 => ?_)
          · refine lv_iload_n F.1 F.2.1 dX6_struck_84 rfl (lv_at hl 0 rfl) ?_
            exact rtI (f, c, f) F hr hlk hP hS rfl (Eq.trans (by rw [str_some hx2 c_61]; rfl) (if_neg c_4).symm) dX6_struck_85
          · exact absurd c_72 (by decide)
      · refine lv_aload_n F.1 F.2.1 dX6_struck_39 rfl (lv_at hl 2 rfl) ?_
        refine iV (rest := []) (wsp := fun _ => oM a v :: ai ct (a 1) 210 (nite (ngU f x.1)) :: ai ct (a 4) 8 c :: [ai ct (a 3) 210 f]) F (kX6_night l dC dI ct a v (ngU f x.1) (Gd_of (Rg_ngU hRg x.1 (by have := late60 hRg c_4; omega)).1)) gX6_struck_X6_night rfl ⟨rfl, rfl⟩ nmX6_night ⟨Nat.le_of_ble_eq_true rfl, Nat.le_of_ble_eq_true rfl⟩ eT_b (fun _ _ _ => trivial) hK hP hD hS hA 0 rfl rfl rfl [0, 1] (by decide) rfl rfl rfl hl.1 (Nat.le_of_ble_eq_true rfl) dX6_struck_40 ⟨Nat.zero_le _, Nat.zero_le _⟩ (fun _ => rfl) (fun _ => rfl) [a 0, a 1, a 4, a 3] rfl (fun _ => rfl) (fun r_40 u_40 H locs e_40 hP hD hS => ?_)
        obtain rfl := e_40
        refine lv_iconst (v := 1) F.1 F.2.1 dX6_struck_43 (by decide) ?_
        refine lv_icmp_ne (tgt := 51) F.1 F.2.1 dX6_struck_44 (by decide) (fun c_44 => ?_) (fun c_44 => ?_)
        · refine lv_iconst (v := 0) F.1 F.2.1 dX6_struck_51 (by decide) ?_
          refine lv_istore_n (lv' := [(2, .int 0), (1, .int (nI x.1)), (0, .ref (a 0))]) F.1 F.2.1 dX6_struck_52 rfl hl (by decide) rfl (fun ls hl => ?_)
          refine lv_iinc (v := nI (x.1 + 1)) (lv' := [(1, .int (nI (x.1 + 1))), (2, .int 0), (0, .ref (a 0))]) F.1 F.2.1 dX6_struck_53 hl (k := 1) rfl (by rw [show Int32.ofInt 1 = nI 1 from rfl, nI_add]) (by decide) rfl (fun ls hl => ?_)
          refine lv_goto (tgt := 29) F.1 F.2.1 dX6_struck_56 (by decide) ?_
          have h60 := str_lt hx1 c_32
          exact ih_29 (x.1 + 1, 0) _ _ _ (show 60 - (x.1 + 1) < 60 - x.1 by omega) ⟨hP, hD, hS, lv_sub hl [0, 1, 2] rfl, ⟨(show x.1 + 1 ≤ 60 by omega), Or.inl ⟨rfl, str_go hx1 c_32 c_36 hx2 c_44⟩⟩⟩
        · refine lv_iconst (v := 1) F.1 F.2.1 dX6_struck_47 (by decide) ?_
          refine lv_goto (tgt := 52) F.1 F.2.1 dX6_struck_48 (by decide) ?_
          refine lv_istore_n (lv' := [(2, .int 1), (1, .int (nI x.1)), (0, .ref (a 0))]) F.1 F.2.1 dX6_struck_52 rfl hl (by decide) rfl (fun ls hl => ?_)
          refine lv_iinc (v := nI (x.1 + 1)) (lv' := [(1, .int (nI (x.1 + 1))), (2, .int 1), (0, .ref (a 0))]) F.1 F.2.1 dX6_struck_53 hl (k := 1) rfl (by rw [show Int32.ofInt 1 = nI 1 from rfl, nI_add]) (by decide) rfl (fun ls hl => ?_)
          refine lv_goto (tgt := 29) F.1 F.2.1 dX6_struck_56 (by decide) ?_
          have h60 := str_lt hx1 c_32
          exact ih_29 (x.1 + 1, 1) _ _ _ (show 60 - (x.1 + 1) < 60 - x.1 by omega) ⟨hP, hD, hS, lv_sub hl [0, 1, 2] rfl, ⟨(show x.1 + 1 ≤ 60 by omega), Or.inr ⟨rfl, str_hit hx1 c_32 c_36 hx2 c_44⟩⟩⟩
  · have c_4 : 9999 < f 0 + 60 := b01t rfl c_4
    refine lv_aload_n F.1 F.2.1 dX6_struck_7 rfl (lv_at hl 0 rfl) ?_
    refine lv_ldc (v := (-1000005)) F.1 F.2.1 F.2.2.2.1 (F.2.2.2.2 _ (List.mem_of_getElem? (i := 1) rfl)) dX6_struck_8 ?_
    refine iV (rest := []) (wsp := fun _ => oM a v :: ai ct (a 1) 210 f :: ai ct (a 4) 8 (fnd c 5) :: [ai ct (a 3) 210 h]) F (kX6_finding l dC dI ct a v c (-1000005) 5 (by decide) (by decide) (by decide)) gX6_struck_X6_finding rfl ⟨rfl, rfl⟩ nmX6_finding ⟨Nat.le_of_ble_eq_true rfl, Nat.le_of_ble_eq_true rfl⟩ eT_b (fun _ _ _ => trivial) hK hP hD hS hA 0 rfl rfl rfl [0, 2] (by decide) rfl rfl rfl hl.1 (Nat.le_of_ble_eq_true rfl) dX6_struck_10 ⟨Nat.zero_le _, Nat.zero_le _⟩ (fun _ => rfl) (fun _ => rfl) [a 0, a 1, a 4, a 3] rfl (fun _ => rfl) (fun r_10 u_10 H locs e_10 hP hD hS => ?_)
    obtain rfl := e_10
    exact rtI (f, (fnd c 5), h) F hr hlk hP hS rfl ((if_pos c_4).symm) dX6_struck_13

def rmX6_empty : Room := { frames := 8, cells := 0, slots := 0, locals := 179 }
theorem nmX6_empty : NmV yX6_empty RX6 0 := by unfold NmV; decide +kernel
theorem hiX6_empty_6 : ∀ w ∈ u_ws RX6 TX6 22, w ∈ wsX6_empty := by decide +kernel
set_option maxHeartbeats 4000000 in
set_option maxRecDepth 100000 in
theorem kX6_empty (l : Launch) (dC : Nat → ClassId) (dI : Nat → Nat → Nat) (ct : Nat → ClassId) (a : Nat → Nat) (v f c h : Nat → Int32) (hRg : Rg f) : MI (S := (Nat → Int32) × (Nat → Int32) × (Nat → Int32)) l yX6_empty wsX6_empty rmX6_empty dC dI ct eT [.ref (a 0)] (oM a v :: ai ct (a 1) 210 f :: ai ct (a 4) 8 c :: [ai ct (a 3) 210 h]) (fun u => oM a v :: ai ct (a 1) 210 u.1 :: ai ct (a 4) 8 u.2.1 :: [ai ct (a 3) 210 u.2.2]) (fun r u => (r, u.1, u.2.1) = sEmpty f c) := by
  refine MI.of (cc := cX6_empty) (maxL := 2) (ret := (some .int)) (by decide) rfl (Nat.le_of_ble_eq_true rfl) ?_
  intro pg en z mi below meth cd A F hr hlk hin hK hP hD hA hS hE ls hl
  have F : CallFix pg mi cd cX6_empty 2 z _ wsX6_empty RX6 := F
  have hl : lv_has ls 2 [(0, .ref (a 0))] := hl
  refine lv_aload_n F.1 F.2.1 dX6_empty_0 rfl (lv_at hl 0 rfl) ?_
  refine iV (rest := []) (wsp := fun _ => oM a v :: ai ct (a 1) 210 f :: ai ct (a 4) 8 c :: [ai ct (a 3) 210 h]) F (kX6_isLate l dC dI ct a v f) gX6_empty_X6_isLate rfl ⟨rfl, rfl⟩ nmX6_isLate ⟨Nat.le_of_ble_eq_true rfl, Nat.le_of_ble_eq_true rfl⟩ eT_b (fun _ _ _ => trivial) hK hP hD hS hA 0 rfl rfl rfl [0, 1] (by decide) rfl rfl rfl hl.1 (Nat.le_of_ble_eq_true rfl) dX6_empty_1 ⟨Nat.zero_le _, Nat.zero_le _⟩ (fun _ => rfl) (fun _ => rfl) [a 0, a 1, a 4, a 3] rfl (fun _ => rfl) (fun r_1 u_1 H locs e_1 hP hD hS => ?_)
  obtain rfl := e_1
  refine lv_if_eq (tgt := 14) F.1 F.2.1 dX6_empty_4 (by decide) (fun c_4 => ?_) (fun c_4 => ?_)
  · have c_4 : ¬ (9999 < f 0 + 60) := b01f rfl c_4
    refine lv_aload_n F.1 F.2.1 dX6_empty_14 rfl (lv_at hl 0 rfl) ?_
    refine gf F hK hP 0 rfl rfl hiX6_empty_6 0 (by decide) (List.mem_of_getElem? (i := 2) rfl) rfl dX6_empty_15 ?_
    refine lv_aload_n F.1 F.2.1 dX6_empty_18 rfl (lv_at hl 0 rfl) ?_
    refine gf F hK hP 0 rfl rfl hiX6_empty_6 2 (by decide) (List.mem_of_getElem? (i := 3) rfl) rfl dX6_empty_19 ?_
    refine vS (rest := []) (wsp := fun _ => oM a v :: ai ct (a 1) 210 f :: ai ct (a 4) 8 c :: [ai ct (a 3) 210 f]) F (kX6_copyRow l dC dI ct (a 1) (a 3) f h) gX6_empty_X6_copyRow rfl ⟨rfl, rfl⟩ nmX6_copyRow ⟨Nat.le_of_ble_eq_true rfl, Nat.le_of_ble_eq_true rfl⟩ eT_b (fun _ _ _ => trivial) hK hP hD hS hA [1, 3] (by decide) rfl rfl rfl hl.1 (Nat.le_of_ble_eq_true rfl) dX6_empty_22 ⟨Nat.zero_le _, Nat.zero_le _⟩ (fun _ => rfl) (fun _ => rfl) [a 0, a 1, a 4, a 3] rfl (fun _ => rfl) (fun u_22 H locs e_22 hP hD hS => ?_)
    refine lv_iconst (v := 0) F.1 F.2.1 dX6_empty_25 (by decide) ?_
    refine lv_istore_n (lv' := [(1, .int 0), (0, .ref (a 0))]) F.1 F.2.1 dX6_empty_26 rfl hl (by decide) rfl (fun ls hl => ?_)
    refine loopM (σ := Nat) (I := fun x H locs ls => va_P (dC, dI) vwCl (oM a v :: ai ct (a 1) 210 (ngU f x) :: ai ct (a 4) 8 c :: [ai ct (a 3) 210 f]) H ∧ va_D A (oM a v :: ai ct (a 1) 210 (ngU f x) :: ai ct (a 4) 8 c :: [ai ct (a 3) 210 f]) ∧ va_S A z.heap H locs ∧ lv_has ls 2 [(1, .int (nI x)), (0, .ref (a 0))] ∧ x ≤ 61 ∧ empU f (61 - x) x = empU f 61 0) (fun x => 61 - x) (0 : Nat) ⟨hP, hD, hS, lv_sub hl [0, 1] rfl, ⟨Nat.zero_le _, rfl⟩⟩ (fun x H locs ls hI ih_27 => ?_)
    obtain ⟨hP, hD, hS, hl, hx1, hx2⟩ := hI
    refine lv_iload_n F.1 F.2.1 dX6_empty_27 rfl (lv_at hl 0 rfl) ?_
    refine lv_bipush (v := 60) F.1 F.2.1 dX6_empty_28 (by decide) ?_
    refine lv_icmp_gt (tgt := 58) F.1 F.2.1 dX6_empty_30 (by decide) (fun c_30 => ?_) (fun c_30 => ?_)
    · refine lv_aload_n F.1 F.2.1 dX6_empty_58 rfl (lv_at hl 1 rfl) ?_
      refine lv_iload_n F.1 F.2.1 dX6_empty_59 rfl (lv_at hl 0 rfl) ?_
      refine iV (rest := []) (wsp := fun _ => oM a v :: ai ct (a 1) 210 f :: ai ct (a 4) 8 c :: [ai ct (a 3) 210 f]) F (kX6_putBack l dC dI ct a v (ngU f x) f (nI x)) gX6_empty_X6_putBack rfl ⟨rfl, rfl⟩ nmX6_putBack ⟨Nat.le_of_ble_eq_true rfl, Nat.le_of_ble_eq_true rfl⟩ eT_b (fun _ _ _ => trivial) hK hP hD hS hA 0 rfl rfl rfl [0, 1, 3] (by decide) rfl rfl rfl hl.1 (Nat.le_of_ble_eq_true rfl) dX6_empty_60 ⟨Nat.zero_le _, Nat.zero_le _⟩ (fun _ => rfl) (fun _ => rfl) [a 0, a 1, a 4, a 3] rfl (fun _ => rfl) (fun r_60 u_60 H locs e_60 hP hD hS => ?_)
      obtain rfl := e_60
      refine lv_bipush (v := 60) F.1 F.2.1 dX6_empty_63 (by decide) ?_
      refine lv_icmp_le (tgt := 77) F.1 F.2.1 dX6_empty_65 (by decide) (fun c_65 => ?_) (fun c_65 => ?_)
      · exact absurd c_65 (Int32.not_le.mpr c_30)
      · refine lv_aload_n F.1 F.2.1 dX6_empty_68 rfl (lv_at hl 1 rfl) ?_
        refine lv_ldc (v := (-1000004)) F.1 F.2.1 F.2.2.2.1 (F.2.2.2.2 _ (List.mem_of_getElem? (i := 4) rfl)) dX6_empty_69 ?_
        refine iV (rest := []) (wsp := fun _ => oM a v :: ai ct (a 1) 210 f :: ai ct (a 4) 8 (fnd c 4) :: [ai ct (a 3) 210 f]) F (kX6_finding l dC dI ct a v c (-1000004) 4 (by decide) (by decide) (by decide)) gX6_empty_X6_finding rfl ⟨rfl, rfl⟩ nmX6_finding ⟨Nat.le_of_ble_eq_true rfl, Nat.le_of_ble_eq_true rfl⟩ eT_b (fun _ _ _ => trivial) hK hP hD hS hA 0 rfl rfl rfl [0, 2] (by decide) rfl rfl rfl hl.1 (Nat.le_of_ble_eq_true rfl) dX6_empty_71 ⟨Nat.zero_le _, Nat.zero_le _⟩ (fun _ => rfl) (fun _ => rfl) [a 0, a 1, a 4, a 3] rfl (fun _ => rfl) (fun r_71 u_71 H locs e_71 hP hD hS => ?_)
        obtain rfl := e_71
        refine lv_goto (tgt := 78) F.1 F.2.1 dX6_empty_74 (by decide) ?_
        exact rtI (f, (fnd c 4), f) F hr hlk hP hS rfl (Eq.trans (by rw [emp_none hx1 hx2 c_65]; rfl) (if_neg c_4).symm) dX6_empty_78
    · refine lv_aload_n F.1 F.2.1 dX6_empty_33 rfl (lv_at hl 1 rfl) ?_
      refine iV (rest := []) (wsp := fun _ => oM a v :: ai ct (a 1) 210 (ngU f x) :: ai ct (a 4) 8 c :: [ai ct (a 3) 210 f]) F (kX6_inHeaps l dC dI ct a v (ngU f x)) gX6_empty_X6_inHeaps rfl ⟨rfl, rfl⟩ nmX6_inHeaps ⟨Nat.le_of_ble_eq_true rfl, Nat.le_of_ble_eq_true rfl⟩ eT_b (fun _ _ _ => trivial) hK hP hD hS hA 0 rfl rfl rfl [0, 1] (by decide) rfl rfl rfl hl.1 (Nat.le_of_ble_eq_true rfl) dX6_empty_34 ⟨Nat.zero_le _, Nat.zero_le _⟩ (fun _ => rfl) (fun _ => rfl) [a 0, a 1, a 4, a 3] rfl (fun _ => rfl) (fun r_34 u_34 H locs e_34 hP hD hS => ?_)
      obtain rfl := e_34
      refine lv_if_le (tgt := 58) F.1 F.2.1 dX6_empty_37 (by decide) (fun c_37 => ?_) (fun c_37 => ?_)
      · refine lv_aload_n F.1 F.2.1 dX6_empty_58 rfl (lv_at hl 1 rfl) ?_
        refine lv_iload_n F.1 F.2.1 dX6_empty_59 rfl (lv_at hl 0 rfl) ?_
        refine iV (rest := []) (wsp := fun _ => oM a v :: ai ct (a 1) 210 f :: ai ct (a 4) 8 c :: [ai ct (a 3) 210 f]) F (kX6_putBack l dC dI ct a v (ngU f x) f (nI x)) gX6_empty_X6_putBack rfl ⟨rfl, rfl⟩ nmX6_putBack ⟨Nat.le_of_ble_eq_true rfl, Nat.le_of_ble_eq_true rfl⟩ eT_b (fun _ _ _ => trivial) hK hP hD hS hA 0 rfl rfl rfl [0, 1, 3] (by decide) rfl rfl rfl hl.1 (Nat.le_of_ble_eq_true rfl) dX6_empty_60 ⟨Nat.zero_le _, Nat.zero_le _⟩ (fun _ => rfl) (fun _ => rfl) [a 0, a 1, a 4, a 3] rfl (fun _ => rfl) (fun r_60 u_60 H locs e_60 hP hD hS => ?_)
        obtain rfl := e_60
        refine lv_bipush (v := 60) F.1 F.2.1 dX6_empty_63 (by decide) ?_
        refine lv_icmp_le (tgt := 77) F.1 F.2.1 dX6_empty_65 (by decide) (fun c_65 => ?_) (fun c_65 => ?_)
        · refine lv_iload_n F.1 F.2.1 dX6_empty_77 rfl (lv_at hl 0 rfl) ?_
          exact rtI (f, c, f) F hr hlk hP hS rfl (Eq.trans (by rw [emp_some hx1 hx2 c_65 c_37]; rfl) (if_neg c_4).symm) dX6_empty_78
        · exact absurd (Int32.not_lt.mp c_30) c_65
      · refine lv_iload_n F.1 F.2.1 dX6_empty_40 rfl (lv_at hl 0 rfl) ?_
        refine lv_aload_n F.1 F.2.1 dX6_empty_41 rfl (lv_at hl 1 rfl) ?_
        refine iV (rest := [.int (nI x)]) (wsp := fun _ => oM a v :: ai ct (a 1) 210 (nite (ngU f x)) :: ai ct (a 4) 8 c :: [ai ct (a 3) 210 f]) F (kX6_night l dC dI ct a v (ngU f x) (Gd_of (Rg_ngU hRg x (by have := late60 hRg c_4; have := emp_lt c_30 hx1; omega)).1)) gX6_empty_X6_night rfl ⟨rfl, rfl⟩ nmX6_night ⟨Nat.le_of_ble_eq_true rfl, Nat.le_of_ble_eq_true rfl⟩ eT_b (fun _ _ _ => trivial) hK hP hD hS hA 0 rfl rfl rfl [0, 1] (by decide) rfl rfl rfl hl.1 (Nat.le_of_ble_eq_true rfl) dX6_empty_42 ⟨Nat.zero_le _, Nat.zero_le _⟩ (fun _ => rfl) (fun _ => rfl) [a 0, a 1, a 4, a 3] rfl (fun _ => rfl) (fun r_42 u_42 H locs e_42 hP hD hS => ?_)
        obtain rfl := e_42
        refine lv_if_ge (tgt := 52) F.1 F.2.1 dX6_empty_45 (by decide) (fun c_45 => ?_) (fun c_45 => ?_)
        · refine lv_iconst (v := 1) F.1 F.2.1 dX6_empty_52 (by decide) ?_
          refine lv_iadd F.1 F.2.1 dX6_empty_53 ?_
          refine tp (y := nI (x + 1)) (ad2 (a := x) (b := 1) (c := x + 1) rfl rfl rfl) ?_
          refine lv_istore_n (lv' := [(1, .int (nI (x + 1))), (0, .ref (a 0))]) F.1 F.2.1 dX6_empty_54 rfl hl (by decide) rfl (fun ls hl => ?_)
          refine lv_goto (tgt := 27) F.1 F.2.1 dX6_empty_55 (by decide) ?_
          have h61 := emp_lt c_30 hx1
          exact ih_27 (x + 1) _ _ _ (show 61 - (x + 1) < 61 - x by omega) ⟨hP, hD, hS, lv_sub hl [0, 1] rfl, ⟨(show x + 1 ≤ 61 by omega), emp_go h61 hx2 c_37⟩⟩
        · exact absurd (deed_nn _ _) c_45
  · have c_4 : 9999 < f 0 + 60 := b01t rfl c_4
    refine lv_aload_n F.1 F.2.1 dX6_empty_7 rfl (lv_at hl 0 rfl) ?_
    refine lv_ldc (v := (-1000005)) F.1 F.2.1 F.2.2.2.1 (F.2.2.2.2 _ (List.mem_of_getElem? (i := 1) rfl)) dX6_empty_8 ?_
    refine iV (rest := []) (wsp := fun _ => oM a v :: ai ct (a 1) 210 f :: ai ct (a 4) 8 (fnd c 5) :: [ai ct (a 3) 210 h]) F (kX6_finding l dC dI ct a v c (-1000005) 5 (by decide) (by decide) (by decide)) gX6_empty_X6_finding rfl ⟨rfl, rfl⟩ nmX6_finding ⟨Nat.le_of_ble_eq_true rfl, Nat.le_of_ble_eq_true rfl⟩ eT_b (fun _ _ _ => trivial) hK hP hD hS hA 0 rfl rfl rfl [0, 2] (by decide) rfl rfl rfl hl.1 (Nat.le_of_ble_eq_true rfl) dX6_empty_10 ⟨Nat.zero_le _, Nat.zero_le _⟩ (fun _ => rfl) (fun _ => rfl) [a 0, a 1, a 4, a 3] rfl (fun _ => rfl) (fun r_10 u_10 H locs e_10 hP hD hS => ?_)
    obtain rfl := e_10
    exact rtI (f, (fnd c 5), h) F hr hlk hP hS rfl ((if_pos c_4).symm) dX6_empty_13

def rmX6_refuses : Room := { frames := 1, cells := 0, slots := 0, locals := 22 }
theorem nmX6_refuses : NmV yX6_refuses RX6 3 := by unfold NmV; decide +kernel
set_option maxHeartbeats 4000000 in
set_option maxRecDepth 100000 in
theorem kX6_refuses (l : Launch) (dC : Nat → ClassId) (dI : Nat → Nat → Nat) (ct : Nat → ClassId) (a : Nat → Nat) (v f : Nat → Int32) (g n mo : Int32) : MI (S := Unit) l yX6_refuses wsX6_refuses rmX6_refuses dC dI ct eT [.ref (a 0), .int g, .int n, .int mo] (oM a v :: [ai ct (a 1) 210 f]) (fun _ => oM a v :: [ai ct (a 1) 210 f]) (fun r _ => r = if g = 0 ∨ ¬ (1 ≤ n ∧ n ≤ mo) then -1000001 else if 9999 < f 0 + n then -1000005 else 0) := by
  refine MI.of (cc := cX6_refuses) (maxL := 4) (ret := (some .int)) (by decide) rfl (Nat.le_of_ble_eq_true rfl) ?_
  intro pg en z mi below meth cd A F hr hlk hin hK hP hD hA hS hE ls hl
  have F : CallFix pg mi cd cX6_refuses 4 z _ wsX6_refuses RX6 := F
  have hl : lv_has ls 4 [(0, .ref (a 0)), (1, .int g), (2, .int n), (3, .int mo)] := hl
  refine lv_iload_n F.1 F.2.1 dX6_refuses_0 rfl (lv_at hl 1 rfl) ?_
  refine lv_if_eq (tgt := 13) F.1 F.2.1 dX6_refuses_1 (by decide) (fun c_1 => ?_) (fun c_1 => ?_)
  · refine lv_ldc (v := (-1000001)) F.1 F.2.1 F.2.2.2.1 (F.2.2.2.2 _ (List.mem_of_getElem? (i := 1) rfl)) dX6_refuses_13 ?_
    refine lv_goto (tgt := 32) F.1 F.2.1 dX6_refuses_15 (by decide) ?_
    exact rtI () F hr hlk hP hS rfl ((if_pos (Or.inl c_1)).symm) dX6_refuses_32
  · refine lv_iload_n F.1 F.2.1 dX6_refuses_4 rfl (lv_at hl 2 rfl) ?_
    refine lv_iconst (v := 1) F.1 F.2.1 dX6_refuses_5 (by decide) ?_
    refine lv_iload_n F.1 F.2.1 dX6_refuses_6 rfl (lv_at hl 3 rfl) ?_
    refine iS (rest := []) (wsp := fun _ => oM a v :: [ai ct (a 1) 210 f]) F (kX6_within l dC dI ct n 1 mo) gX6_refuses_X6_within rfl ⟨rfl, rfl⟩ nmX6_within ⟨Nat.le_of_ble_eq_true rfl, Nat.le_of_ble_eq_true rfl⟩ eT_b (fun _ _ _ => trivial) hK hP hD hS hA [] (by decide) rfl rfl rfl hl.1 (Nat.le_of_ble_eq_true rfl) dX6_refuses_7 ⟨Nat.zero_le _, Nat.zero_le _⟩ (fun _ => rfl) (fun _ => rfl) [a 0, a 1] rfl (fun _ => rfl) (fun r_7 u_7 H locs e_7 hP hD hS => ?_)
    obtain rfl := e_7
    refine lv_if_ne (tgt := 18) F.1 F.2.1 dX6_refuses_10 (by decide) (fun c_10 => ?_) (fun c_10 => ?_)
    · have c_10 : 1 ≤ n ∧ n ≤ mo := b01t rfl c_10
      refine lv_aload_n F.1 F.2.1 dX6_refuses_18 rfl (lv_at hl 0 rfl) ?_
      refine lv_iload_n F.1 F.2.1 dX6_refuses_19 rfl (lv_at hl 2 rfl) ?_
      refine iV (rest := []) (wsp := fun _ => oM a v :: [ai ct (a 1) 210 f]) F (kX6_isTooLate l dC dI ct a v f n) gX6_refuses_X6_isTooLate rfl ⟨rfl, rfl⟩ nmX6_isTooLate ⟨Nat.le_of_ble_eq_true rfl, Nat.le_of_ble_eq_true rfl⟩ eT_b (fun _ _ _ => trivial) hK hP hD hS hA 0 rfl rfl rfl [0, 1] (by decide) rfl rfl rfl hl.1 (Nat.le_of_ble_eq_true rfl) dX6_refuses_20 ⟨Nat.zero_le _, Nat.zero_le _⟩ (fun _ => rfl) (fun _ => rfl) [a 0, a 1] rfl (fun _ => rfl) (fun r_20 u_20 H locs e_20 hP hD hS => ?_)
      obtain rfl := e_20
      refine lv_if_eq (tgt := 31) F.1 F.2.1 dX6_refuses_23 (by decide) (fun c_23 => ?_) (fun c_23 => ?_)
      · have c_23 : ¬ (9999 < f 0 + n) := b01f rfl c_23
        refine lv_iconst (v := 0) F.1 F.2.1 dX6_refuses_31 (by decide) ?_
        exact rtI () F hr hlk hP hS rfl (((if_neg (fun q => q.elim c_1 (fun z => z c_10))).trans (if_neg c_23)).symm) dX6_refuses_32
      · have c_23 : 9999 < f 0 + n := b01t rfl c_23
        refine lv_ldc (v := (-1000005)) F.1 F.2.1 F.2.2.2.1 (F.2.2.2.2 _ (List.mem_of_getElem? (i := 2) rfl)) dX6_refuses_26 ?_
        refine lv_goto (tgt := 32) F.1 F.2.1 dX6_refuses_28 (by decide) ?_
        exact rtI () F hr hlk hP hS rfl (((if_neg (fun q => q.elim c_1 (fun z => z c_10))).trans (if_pos c_23)).symm) dX6_refuses_32
    · have c_10 : ¬ (1 ≤ n ∧ n ≤ mo) := b01f rfl c_10
      refine lv_ldc (v := (-1000001)) F.1 F.2.1 F.2.2.2.1 (F.2.2.2.2 _ (List.mem_of_getElem? (i := 1) rfl)) dX6_refuses_13 ?_
      refine lv_goto (tgt := 32) F.1 F.2.1 dX6_refuses_15 (by decide) ?_
      exact rtI () F hr hlk hP hS rfl ((if_pos (Or.inr c_10)).symm) dX6_refuses_32

def rmX6_then : Room := { frames := 9, cells := 0, slots := 0, locals := 202 }
theorem nmX6_then : NmV yX6_then RX6 2 := by unfold NmV; decide +kernel
theorem hiX6_then_6 : ∀ w ∈ u_ws RX6 TX6 22, w ∈ wsX6_then := by decide +kernel
set_option maxHeartbeats 4000000 in
set_option maxRecDepth 100000 in
theorem kX6_then (l : Launch) (dC : Nat → ClassId) (dI : Nat → Nat → Nat) (ct : Nat → ClassId) (a : Nat → Nat) (v f g : Nat → Int32) (s n : Nat) (hs : s < 2) (hn : n < 2147483648) (hG : ∀ k, k < n → Gd (ngU f k)) : MI (S := Unit) l yX6_then wsX6_then rmX6_then dC dI ct eT [.ref (a 0), .int (nI s), .int (nI n)] (oM a v :: ai ct (a 1) 210 f :: [ai ct (a 3) 210 g]) (fun _ => oM a v :: ai ct (a 1) 210 g :: [ai ct (a 3) 210 g]) (fun r _ => r = allU (ngU f n) s 5) := by
  refine MI.of (cc := cX6_then) (maxL := 5) (ret := (some .int)) (by decide) rfl (Nat.le_of_ble_eq_true rfl) ?_
  intro pg en z mi below meth cd A F hr hlk hin hK hP hD hA hS hE ls hl
  have F : CallFix pg mi cd cX6_then 5 z _ wsX6_then RX6 := F
  have hl : lv_has ls 5 [(0, .ref (a 0)), (1, .int (nI s)), (2, .int (nI n))] := hl
  refine lv_aload_n F.1 F.2.1 dX6_then_0 rfl (lv_at hl 0 rfl) ?_
  refine lv_iload_n F.1 F.2.1 dX6_then_1 rfl (lv_at hl 2 rfl) ?_
  refine iV (rest := []) (wsp := fun _ => oM a v :: ai ct (a 1) 210 (ngU f n) :: [ai ct (a 3) 210 g]) F (kX6_nightsGo l dC dI ct a v f n (by omega) hG) gX6_then_X6_nightsGo rfl ⟨rfl, rfl⟩ nmX6_nightsGo ⟨Nat.le_of_ble_eq_true rfl, Nat.le_of_ble_eq_true rfl⟩ eT_b (fun _ _ _ => trivial) hK hP hD hS hA 0 rfl rfl rfl [0, 1] (by decide) rfl rfl rfl hl.1 (Nat.le_of_ble_eq_true rfl) dX6_then_2 ⟨Nat.zero_le _, Nat.zero_le _⟩ (fun _ => rfl) (fun _ => rfl) [a 0, a 1, a 3] rfl (fun _ => rfl) (fun r_2 u_2 H locs e_2 hP hD hS => ?_)
  obtain rfl := e_2
  refine lv_istore_n (lv' := [(3, .int (tkU f n)), (0, .ref (a 0)), (1, .int (nI s)), (2, .int (nI n))]) F.1 F.2.1 dX6_then_5 rfl hl (by decide) rfl (fun ls hl => ?_)
  refine lv_iload_n F.1 F.2.1 dX6_then_6 rfl (lv_at hl 0 rfl) ?_
  refine lv_if_ge (tgt := 14) F.1 F.2.1 dX6_then_7 (by decide) (fun c_7 => ?_) (fun c_7 => ?_)
  · refine lv_aload_n F.1 F.2.1 dX6_then_14 rfl (lv_at hl 1 rfl) ?_
    refine lv_iload_n F.1 F.2.1 dX6_then_15 rfl (lv_at hl 2 rfl) ?_
    refine iV (rest := []) (wsp := fun _ => oM a v :: ai ct (a 1) 210 (ngU f n) :: [ai ct (a 3) 210 g]) F (kX6_allOf l dC dI ct a v (ngU f n) s (by omega)) gX6_then_X6_allOf rfl ⟨rfl, rfl⟩ nmX6_allOf ⟨Nat.le_of_ble_eq_true rfl, Nat.le_of_ble_eq_true rfl⟩ eT_b (fun _ _ _ => trivial) hK hP hD hS hA 0 rfl rfl rfl [0, 1] (by decide) rfl rfl rfl hl.1 (Nat.le_of_ble_eq_true rfl) dX6_then_16 ⟨Nat.zero_le _, Nat.zero_le _⟩ (fun _ => rfl) (fun _ => rfl) [a 0, a 1, a 3] rfl (fun _ => rfl) (fun r_16 u_16 H locs e_16 hP hD hS => ?_)
    obtain rfl := e_16
    refine lv_istore (lv' := [(4, .int (allU (ngU f n) s 5)), (3, .int (tkU f n)), (0, .ref (a 0)), (1, .int (nI s)), (2, .int (nI n))]) F.1 F.2.1 dX6_then_19 hl (by decide) rfl (fun ls hl => ?_)
    refine lv_aload_n F.1 F.2.1 dX6_then_21 rfl (lv_at hl 2 rfl) ?_
    refine gf F hK hP 0 rfl rfl hiX6_then_6 2 (by decide) (List.mem_of_getElem? (i := 1) rfl) rfl dX6_then_22 ?_
    refine lv_aload_n F.1 F.2.1 dX6_then_25 rfl (lv_at hl 2 rfl) ?_
    refine gf F hK hP 0 rfl rfl hiX6_then_6 0 (by decide) (List.mem_of_getElem? (i := 2) rfl) rfl dX6_then_26 ?_
    refine vS (rest := []) (wsp := fun _ => oM a v :: ai ct (a 1) 210 g :: [ai ct (a 3) 210 g]) F (kX6_copyRow l dC dI ct (a 3) (a 1) g (ngU f n)) gX6_then_X6_copyRow rfl ⟨rfl, rfl⟩ nmX6_copyRow ⟨Nat.le_of_ble_eq_true rfl, Nat.le_of_ble_eq_true rfl⟩ eT_b (fun _ _ _ => trivial) hK hP hD hS hA [2, 1] (by decide) rfl rfl rfl hl.1 (Nat.le_of_ble_eq_true rfl) dX6_then_29 ⟨Nat.zero_le _, Nat.zero_le _⟩ (fun _ => rfl) (fun _ => rfl) [a 0, a 1, a 3] rfl (fun _ => rfl) (fun u_29 H locs e_29 hP hD hS => ?_)
    refine lv_iload F.1 F.2.1 dX6_then_32 (lv_at hl 0 rfl) ?_
    exact rtI () F hr hlk hP hS rfl (by simp [c_7, Int32.not_lt.mpr c_7]) dX6_then_34
  · exact absurd (tk_nn f hn) c_7
