def rmX5_greed : Room := { frames := 6, cells := 0, slots := 0, locals := 135 }
theorem nmX5_greed : NmV yX5_greed RX5 2 := by unfold NmV; decide +kernel
theorem hiX5_greed_1 : ∀ w ∈ u_ws RX1 TX1 10, w ∈ wsX5_greed := by decide +kernel
theorem hiX5_greed_4 : ∀ w ∈ u_ws RX4 TX4 4, w ∈ wsX5_greed := by decide +kernel
theorem hiX5_greed_5 : ∀ w ∈ u_ws RX5 TX5 7, w ∈ wsX5_greed := by decide +kernel
set_option maxHeartbeats 4000000 in
set_option maxRecDepth 100000 in
theorem kX5_greed (l : Launch) (dC : Nat → ClassId) (dI : Nat → Nat → Nat) (ct : Nat → ClassId) (x st kt sc sh fo bk sp : Nat) (tr b : Nat → Nat) (ik zz : Int32) (f c w : Nat → Int32) (x1 x2 : Int32) (hRg : Rg f) : MI (S := (Nat → Int32) × (Nat → Int32) × (Nat → Int32)) l yX5_greed wsX5_greed rmX5_greed dC dI ct eT [.ref x, .int x1, .int x2] ((x, .inr (5, [.ref st, .ref kt, .int ik, .ref (tr 0), .ref sc, .ref sh, .ref fo])) :: (st, .inr (4, [.ref (b 0), .ref bk, .ref sp, .int zz])) :: (wB ct b f ++ (wB ct tr w ++ [ai ct fo 7 (fun j => c (j + 1))]))) (fun u => (x, .inr (5, [.ref st, .ref kt, .int ik, .ref (tr 0), .ref sc, .ref sh, .ref fo])) :: (st, .inr (4, [.ref (b 0), .ref bk, .ref sp, .int zz])) :: (wB ct b u.1 ++ (wB ct tr u.2.2 ++ [ai ct fo 7 (fun j => u.2.1 (j + 1))]))) (fun r u => (r, u.1, u.2.1) = sGreed f c x1 x2) := by
  refine MI.of (cc := cX5_greed) (maxL := 7) (ret := (some .int)) (by decide) rfl (Nat.le_of_ble_eq_true rfl) ?_
  intro pg en z mi below meth cd A F hr hlk hin hK hP hD hA hS hE ls hl
  have F : CallFix pg mi cd cX5_greed 7 z _ wsX5_greed RX5 := F
  have hl : lv_has ls 7 [(0, .ref x), (1, .int x1), (2, .int x2)] := hl
  refine lv_iload_n F.1 F.2.1 dX5_greed_0 rfl (lv_at hl 1 rfl) ?_
  refine iS (rest := []) (wsp := fun _ => (x, .inr (5, [.ref st, .ref kt, .int ik, .ref (tr 0), .ref sc, .ref sh, .ref fo])) :: (st, .inr (4, [.ref (b 0), .ref bk, .ref sp, .int zz])) :: (wB ct b f ++ (wB ct tr w ++ [ai ct fo 7 (fun j => c (j + 1))]))) F (kX5_isSide l dC dI ct x1) gX5_greed_X5_isSide rfl ⟨rfl, rfl⟩ nmX5_isSide ⟨Nat.le_of_ble_eq_true rfl, Nat.le_of_ble_eq_true rfl⟩ eT_b (fun _ _ _ => trivial) hK hP hD hS hA [] (by decide) rfl rfl rfl hl.1 (Nat.le_of_ble_eq_true rfl) dX5_greed_1 ⟨Nat.zero_le _, Nat.zero_le _⟩ (fun _ => rfl) (fun _ => rfl) [x, st, b 0, b 1, b 2, b 3, b 4, b 5, b 6, tr 0, tr 1, tr 2, tr 3, tr 4, tr 5, tr 6, fo] rfl (fun _ => rfl) (fun r_1 u_1 H locs e_1 hP hD hS => ?_)
  obtain rfl := e_1
  refine lv_if_eq (tgt := 17) F.1 F.2.1 dX5_greed_4 (by decide) (fun c_4 => ?_) (fun c_4 => ?_)
  · have c_4 : ¬ (0 ≤ x1 ∧ x1 ≤ 1) := b01f rfl c_4
    refine lv_aload_n F.1 F.2.1 dX5_greed_17 rfl (lv_at hl 0 rfl) ?_
    refine lv_iconst (v := 0) F.1 F.2.1 dX5_greed_18 (by decide) ?_
    refine iV (rest := []) (wsp := fun _ => (x, .inr (5, [.ref st, .ref kt, .int ik, .ref (tr 0), .ref sc, .ref sh, .ref fo])) :: (st, .inr (4, [.ref (b 0), .ref bk, .ref sp, .int zz])) :: (wB ct b f ++ (wB ct tr w ++ [ai ct fo 7 (fun j => (fnd c 1) (j + 1))]))) F (kX5_finding l dC dI ct x st kt sc sh fo tr ik c 0 1 (-1000001) (by decide) (by decide) (by decide)) gX5_greed_X5_finding rfl ⟨rfl, rfl⟩ nmX5_finding ⟨Nat.le_of_ble_eq_true rfl, Nat.le_of_ble_eq_true rfl⟩ eT_b (fun _ _ _ => trivial) hK hP hD hS hA 0 rfl rfl rfl [0, 16] (by decide) rfl rfl rfl hl.1 (Nat.le_of_ble_eq_true rfl) dX5_greed_19 ⟨Nat.zero_le _, Nat.zero_le _⟩ (fun _ => rfl) (fun _ => rfl) [x, st, b 0, b 1, b 2, b 3, b 4, b 5, b 6, tr 0, tr 1, tr 2, tr 3, tr 4, tr 5, tr 6, fo] rfl (fun _ => rfl) (fun r_19 u_19 H locs e_19 hP hD hS => ?_)
    obtain rfl := e_19
    exact rtI (f, (fnd c 1), w) F hr hlk hP hS rfl ((if_neg (fun q => c_4 q.1)).symm) dX5_greed_22
  · have c_4 : 0 ≤ x1 ∧ x1 ≤ 1 := b01t rfl c_4
    obtain ⟨s, hs, rfl⟩ := gS_n c_4
    refine lv_iload_n F.1 F.2.1 dX5_greed_7 rfl (lv_at hl 2 rfl) ?_
    refine lv_iconst (v := 1) F.1 F.2.1 dX5_greed_8 (by decide) ?_
    refine lv_bipush (v := 30) F.1 F.2.1 dX5_greed_9 (by decide) ?_
    refine iS (rest := []) (wsp := fun _ => (x, .inr (5, [.ref st, .ref kt, .int ik, .ref (tr 0), .ref sc, .ref sh, .ref fo])) :: (st, .inr (4, [.ref (b 0), .ref bk, .ref sp, .int zz])) :: (wB ct b f ++ (wB ct tr w ++ [ai ct fo 7 (fun j => c (j + 1))]))) F (kX5_isIn l dC dI ct x2 1 30) gX5_greed_X5_isIn rfl ⟨rfl, rfl⟩ nmX5_isIn ⟨Nat.le_of_ble_eq_true rfl, Nat.le_of_ble_eq_true rfl⟩ eT_b (fun _ _ _ => trivial) hK hP hD hS hA [] (by decide) rfl rfl rfl hl.1 (Nat.le_of_ble_eq_true rfl) dX5_greed_11 ⟨Nat.zero_le _, Nat.zero_le _⟩ (fun _ => rfl) (fun _ => rfl) [x, st, b 0, b 1, b 2, b 3, b 4, b 5, b 6, tr 0, tr 1, tr 2, tr 3, tr 4, tr 5, tr 6, fo] rfl (fun _ => rfl) (fun r_11 u_11 H locs e_11 hP hD hS => ?_)
    obtain rfl := e_11
    refine lv_if_ne (tgt := 23) F.1 F.2.1 dX5_greed_14 (by decide) (fun c_14 => ?_) (fun c_14 => ?_)
    · have c_14 : 1 ≤ x2 ∧ x2 ≤ 30 := b01t rfl c_14
      obtain ⟨n, hn1, hn, rfl⟩ := g30_n c_14
      refine lv_aload_n F.1 F.2.1 dX5_greed_23 rfl (lv_at hl 0 rfl) ?_
      refine lv_iload_n F.1 F.2.1 dX5_greed_24 rfl (lv_at hl 2 rfl) ?_
      refine iV (rest := []) (wsp := fun _ => (x, .inr (5, [.ref st, .ref kt, .int ik, .ref (tr 0), .ref sc, .ref sh, .ref fo])) :: (st, .inr (4, [.ref (b 0), .ref bk, .ref sp, .int zz])) :: (wB ct b f ++ (wB ct tr w ++ [ai ct fo 7 (fun j => c (j + 1))]))) F (kX5_isTooLate l dC dI ct x st kt sc sh fo bk sp tr b ik zz f (nI n)) gX5_greed_X5_isTooLate rfl ⟨rfl, rfl⟩ nmX5_isTooLate ⟨Nat.le_of_ble_eq_true rfl, Nat.le_of_ble_eq_true rfl⟩ eT_b (fun _ _ _ => trivial) hK hP hD hS hA 0 rfl rfl rfl [0, 1, 2, 3, 4, 5, 6, 7, 8] (by decide) rfl rfl rfl hl.1 (Nat.le_of_ble_eq_true rfl) dX5_greed_25 ⟨Nat.zero_le _, Nat.zero_le _⟩ (fun _ => rfl) (fun _ => rfl) [x, st, b 0, b 1, b 2, b 3, b 4, b 5, b 6, tr 0, tr 1, tr 2, tr 3, tr 4, tr 5, tr 6, fo] rfl (fun _ => rfl) (fun r_25 u_25 H locs e_25 hP hD hS => ?_)
      obtain rfl := e_25
      refine lv_if_eq (tgt := 37) F.1 F.2.1 dX5_greed_28 (by decide) (fun c_28 => ?_) (fun c_28 => ?_)
      · have c_28 : ¬ (9999 < f 0 + (nI n)) := b01f rfl c_28
        have hN := late_no hRg (by omega) c_28
        refine lv_iconst (v := 0) F.1 F.2.1 dX5_greed_37 (by decide) ?_
        refine lv_istore_n (lv' := [(3, .int 0), (0, .ref x), (1, .int (nI s)), (2, .int (nI n))]) F.1 F.2.1 dX5_greed_38 rfl hl (by decide) rfl (fun ls hl => ?_)
        refine lv_iconst (v := 0) F.1 F.2.1 dX5_greed_39 (by decide) ?_
        refine lv_istore (lv' := [(4, .int 0), (3, .int 0), (0, .ref x), (1, .int (nI s)), (2, .int (nI n))]) F.1 F.2.1 dX5_greed_40 hl (by decide) rfl (fun ls hl => ?_)
        refine lv_iconst (v := 0) F.1 F.2.1 dX5_greed_42 (by decide) ?_
        refine lv_istore (lv' := [(5, .int 0), (4, .int 0), (3, .int 0), (0, .ref x), (1, .int (nI s)), (2, .int (nI n))]) F.1 F.2.1 dX5_greed_43 hl (by decide) rfl (fun ls hl => ?_)
        refine loopN (I := fun k H locs ls => ∃ w : Nat → Int32, va_P (dC, dI) vwCl ((x, .inr (5, [.ref st, .ref kt, .int ik, .ref (tr 0), .ref sc, .ref sh, .ref fo])) :: (st, .inr (4, [.ref (b 0), .ref bk, .ref sp, .int zz])) :: (wB ct b f ++ (wB ct tr w ++ [ai ct fo 7 (fun j => c (j + 1))]))) H ∧ va_D A ((x, .inr (5, [.ref st, .ref kt, .int ik, .ref (tr 0), .ref sc, .ref sh, .ref fo])) :: (st, .inr (4, [.ref (b 0), .ref bk, .ref sp, .int zz])) :: (wB ct b f ++ (wB ct tr w ++ [ai ct fo 7 (fun j => c (j + 1))]))) ∧ va_S A z.heap H locs ∧ lv_has ls 7 [(5, .int (nI k)), (4, .int ((grX f s n k).2)), (3, .int ((grX f s n k).1)), (0, .ref x), (1, .int (nI s)), (2, .int (nI n))]) 51 0 (by omega) ⟨w, hP, hD, hS, lv_sub hl [0, 1, 2, 3, 4, 5] rfl⟩ (fun H locs ls hI => ?_) (fun k hk_k H locs ls hI ih_45 => ?_)
        · obtain ⟨w, hP, hD, hS, hl⟩ := hI
          refine lv_iload F.1 F.2.1 dX5_greed_45 (lv_at hl 0 rfl) ?_
          refine lv_bipush (v := 50) F.1 F.2.1 dX5_greed_47 (by decide) ?_
          refine lv_icmp_gt (tgt := 121) F.1 F.2.1 dX5_greed_49 (by decide) (fun c_49 => ?_) (fun c_49 => ?_)
          · refine lv_iload_n F.1 F.2.1 dX5_greed_121 rfl (lv_at hl 2 rfl) ?_
            exact rtI (f, c, w) F hr hlk hP hS rfl (Eq.trans (by rw [show tn (nI s) = s from nI_clamp (by omega), show tn (nI n) = n from nI_clamp (by omega)]; try exact (by unfold kGreed; rw [if_neg c_28, ← gr_x hRg hs hN])) (if_pos ⟨c_4, c_14⟩).symm) dX5_greed_122
          · exact absurd (by decide) c_49
        · obtain ⟨w, hP, hD, hS, hl⟩ := hI
          refine lv_iload F.1 F.2.1 dX5_greed_45 (lv_at hl 0 rfl) ?_
          refine lv_bipush (v := 50) F.1 F.2.1 dX5_greed_47 (by decide) ?_
          refine lv_icmp_gt (tgt := 121) F.1 F.2.1 dX5_greed_49 (by decide) (fun c_49 => ?_) (fun c_49 => ?_)
          · exact absurd c_49 (nI_nlt (b := k) (a := 50) (by omega) (by decide))
          · refine lv_aload_n F.1 F.2.1 dX5_greed_52 rfl (lv_at hl 3 rfl) ?_
            refine gf F hK hP 0 rfl rfl hiX5_greed_5 3 (by decide) (List.mem_of_getElem? (i := 1) rfl) rfl dX5_greed_53 ?_
            refine lv_aload_n F.1 F.2.1 dX5_greed_56 rfl (lv_at hl 3 rfl) ?_
            refine gf F hK hP 0 rfl rfl hiX5_greed_5 0 (by decide) (List.mem_of_getElem? (i := 2) rfl) rfl dX5_greed_57 ?_
            refine gf F hK hP 1 rfl rfl hiX5_greed_4 0 (by decide) (List.mem_of_getElem? (i := 3) rfl) rfl dX5_greed_60 ?_
            refine vV (rest := []) (wsp := fun _ => (x, .inr (5, [.ref st, .ref kt, .int ik, .ref (tr 0), .ref sc, .ref sh, .ref fo])) :: (st, .inr (4, [.ref (b 0), .ref bk, .ref sp, .int zz])) :: (wB ct b f ++ (wB ct tr f ++ [ai ct fo 7 (fun j => c (j + 1))]))) F (kX1_copyFrom l dC dI ct tr b f w) gX5_greed_X1_copyFrom rfl ⟨rfl, rfl⟩ nmX1_copyFrom ⟨Nat.le_of_ble_eq_true rfl, Nat.le_of_ble_eq_true rfl⟩ eT_b (fun _ _ _ => trivial) hK hP hD hS hA 9 rfl rfl rfl [9, 10, 11, 12, 13, 14, 15, 2, 3, 4, 5, 6, 7, 8] (by decide) rfl rfl rfl hl.1 (Nat.le_of_ble_eq_true rfl) dX5_greed_63 ⟨Nat.zero_le _, Nat.zero_le _⟩ (fun _ => rfl) (fun _ => rfl) [x, st, b 0, b 1, b 2, b 3, b 4, b 5, b 6, tr 0, tr 1, tr 2, tr 3, tr 4, tr 5, tr 6, fo] rfl (fun _ => rfl) (fun u_63 H locs e_63 hP hD hS => ?_)
            refine lv_aload_n F.1 F.2.1 dX5_greed_66 rfl (lv_at hl 3 rfl) ?_
            refine gf F hK hP 0 rfl rfl hiX5_greed_5 3 (by decide) (List.mem_of_getElem? (i := 1) rfl) rfl dX5_greed_67 ?_
            refine gf F hK hP 9 rfl rfl hiX5_greed_1 4 (by decide) (List.mem_of_getElem? (i := 4) rfl) rfl dX5_greed_70 ?_
            refine lv_iload_n F.1 F.2.1 dX5_greed_73 rfl (lv_at hl 4 rfl) ?_
            refine lv_iload F.1 F.2.1 dX5_greed_74 (lv_at hl 0 rfl) ?_
            refine ast (ws' := (x, .inr (5, [.ref st, .ref kt, .int ik, .ref (tr 0), .ref sc, .ref sh, .ref fo])) :: (st, .inr (4, [.ref (b 0), .ref bk, .ref sp, .int zz])) :: (wB ct b f ++ (wB ct tr (upd f (20 + 17 * s) (nI k)) ++ [ai ct fo 7 (fun j => c (j + 1))]))) F hK hP hD hS 14 0 rfl rfl s rfl (by omega) (by decide) dX5_greed_76 (weq.c (weq.c (weq_ar (x := wB ct b f) (j := 5) rfl (weq_al (x := wB ct tr f) (j := 5) (Nat.le_of_ble_eq_true rfl) (wq_greed ct tr f (by omega)))))) (fun H locs hP hD hS => ?_)
            refine lv_aload_n F.1 F.2.1 dX5_greed_77 rfl (lv_at hl 3 rfl) ?_
            refine gf F hK hP 0 rfl rfl hiX5_greed_5 3 (by decide) (List.mem_of_getElem? (i := 1) rfl) rfl dX5_greed_78 ?_
            refine lv_iload_n F.1 F.2.1 dX5_greed_81 rfl (lv_at hl 5 rfl) ?_
            refine iV (rest := []) (wsp := fun _ => (x, .inr (5, [.ref st, .ref kt, .int ik, .ref (tr 0), .ref sc, .ref sh, .ref fo])) :: (st, .inr (4, [.ref (b 0), .ref bk, .ref sp, .int zz])) :: (wB ct b f ++ (wB ct tr (ngU (upd f (20 + 17 * s) (nI k)) n) ++ [ai ct fo 7 (fun j => c (j + 1))]))) F (kX1_passNights l dC dI ct tr (upd f (20 + 17 * s) (nI k)) n (by omega) (Rg_gr hRg hs (by omega) hN)) gX5_greed_X1_passNights rfl ⟨rfl, rfl⟩ nmX1_passNights ⟨Nat.le_of_ble_eq_true rfl, Nat.le_of_ble_eq_true rfl⟩ eT_b (fun _ _ _ => trivial) hK hP hD hS hA 9 rfl rfl rfl [9, 10, 11, 12, 13, 14, 15] (by decide) rfl rfl rfl hl.1 (Nat.le_of_ble_eq_true rfl) dX5_greed_82 ⟨Nat.zero_le _, Nat.zero_le _⟩ (fun _ => rfl) (fun _ => rfl) [x, st, b 0, b 1, b 2, b 3, b 4, b 5, b 6, tr 0, tr 1, tr 2, tr 3, tr 4, tr 5, tr 6, fo] rfl (fun _ => rfl) (fun r_82 u_82 H locs e_82 hP hD hS => ?_)
            obtain rfl := e_82
            refine lv_pop F.1 F.2.1 dX5_greed_85 rfl ?_
            refine lv_aload_n F.1 F.2.1 dX5_greed_86 rfl (lv_at hl 3 rfl) ?_
            refine gf F hK hP 0 rfl rfl hiX5_greed_5 3 (by decide) (List.mem_of_getElem? (i := 1) rfl) rfl dX5_greed_87 ?_
            refine lv_iload_n F.1 F.2.1 dX5_greed_90 rfl (lv_at hl 4 rfl) ?_
            refine iV (rest := []) (wsp := fun _ => (x, .inr (5, [.ref st, .ref kt, .int ik, .ref (tr 0), .ref sc, .ref sh, .ref fo])) :: (st, .inr (4, [.ref (b 0), .ref bk, .ref sp, .int zz])) :: (wB ct b f ++ (wB ct tr (ngU (upd f (20 + 17 * s) (nI k)) n) ++ [ai ct fo 7 (fun j => c (j + 1))]))) F (kX1_wealth l dC dI ct tr (ngU (upd f (20 + 17 * s) (nI k)) n) s (by omega) ((Rg_ngU (hRg.greed hs ⟨k, by omega, rfl⟩) n (by rw [nN_e (f := f) (pk_un (by omega))]; exact hN)).1)) gX5_greed_X1_wealth rfl ⟨rfl, rfl⟩ nmX1_wealth ⟨Nat.le_of_ble_eq_true rfl, Nat.le_of_ble_eq_true rfl⟩ eT_b (fun _ _ _ => trivial) hK hP hD hS hA 9 rfl rfl rfl [9, 10, 11, 12, 13, 14, 15] (by decide) rfl rfl rfl hl.1 (Nat.le_of_ble_eq_true rfl) dX5_greed_91 ⟨Nat.zero_le _, Nat.zero_le _⟩ (fun _ => rfl) (fun _ => rfl) [x, st, b 0, b 1, b 2, b 3, b 4, b 5, b 6, tr 0, tr 1, tr 2, tr 3, tr 4, tr 5, tr 6, fo] rfl (fun _ => rfl) (fun r_91 u_91 H locs e_91 hP hD hS => ?_)
            obtain rfl := e_91
            refine lv_istore (lv' := [(6, .int (allU (ngU (upd f (20 + 17 * s) (nI k)) n) s 5)), (5, .int (nI k)), (4, .int ((grX f s n k).2)), (3, .int ((grX f s n k).1)), (0, .ref x), (1, .int (nI s)), (2, .int (nI n))]) F.1 F.2.1 dX5_greed_94 hl (by decide) rfl (fun ls hl => ?_)
            refine lv_iload F.1 F.2.1 dX5_greed_96 (lv_at hl 1 rfl) ?_
            refine lv_if_eq (tgt := 108) F.1 F.2.1 dX5_greed_98 (by decide) (fun c_98 => ?_) (fun c_98 => ?_)
            · refine lv_iload F.1 F.2.1 dX5_greed_108 (lv_at hl 1 rfl) ?_
              refine lv_istore_n (lv' := [(3, .int (nI k)), (6, .int (allU (ngU (upd f (20 + 17 * s) (nI k)) n) s 5)), (5, .int (nI k)), (4, .int ((grX f s n k).2)), (0, .ref x), (1, .int (nI s)), (2, .int (nI n))]) F.1 F.2.1 dX5_greed_110 rfl hl (by decide) rfl (fun ls hl => ?_)
              refine lv_iload F.1 F.2.1 dX5_greed_111 (lv_at hl 1 rfl) ?_
              refine lv_istore (lv' := [(4, .int (allU (ngU (upd f (20 + 17 * s) (nI k)) n) s 5)), (3, .int (nI k)), (6, .int (allU (ngU (upd f (20 + 17 * s) (nI k)) n) s 5)), (5, .int (nI k)), (0, .ref x), (1, .int (nI s)), (2, .int (nI n))]) F.1 F.2.1 dX5_greed_113 hl (by decide) rfl (fun ls hl => ?_)
              refine lv_iinc (v := nI (k + 1)) (lv' := [(5, .int (nI (k + 1))), (4, .int (allU (ngU (upd f (20 + 17 * s) (nI k)) n) s 5)), (3, .int (nI k)), (6, .int (allU (ngU (upd f (20 + 17 * s) (nI k)) n) s 5)), (0, .ref x), (1, .int (nI s)), (2, .int (nI n))]) F.1 F.2.1 dX5_greed_115 hl (k := 3) rfl (by rw [show Int32.ofInt 1 = nI 1 from rfl, nI_add]) (by decide) rfl (fun ls hl => ?_)
              refine lv_goto (tgt := 45) F.1 F.2.1 dX5_greed_118 (by decide) ?_
              have eb : grX f s n (k + 1) = (nI k, grVal f s n k) := if_pos (Or.inl (nI_of_eq (b := 0) c_98 (by omega) (by omega)))
              exact ih_45 _ _ _ ⟨(ngU (upd f (20 + 17 * s) (nI k)) n), hP, hD, hS, lv_sub hl [0, 1, 2, 4, 5, 6] (by rw [eb]; rfl)⟩
            · refine lv_iload F.1 F.2.1 dX5_greed_101 (lv_at hl 0 rfl) ?_
              refine lv_iload F.1 F.2.1 dX5_greed_103 (lv_at hl 2 rfl) ?_
              refine lv_icmp_le (tgt := 115) F.1 F.2.1 dX5_greed_105 (by decide) (fun c_105 => ?_) (fun c_105 => ?_)
              · refine lv_iinc (v := nI (k + 1)) (lv' := [(5, .int (nI (k + 1))), (6, .int (allU (ngU (upd f (20 + 17 * s) (nI k)) n) s 5)), (4, .int ((grX f s n k).2)), (3, .int ((grX f s n k).1)), (0, .ref x), (1, .int (nI s)), (2, .int (nI n))]) F.1 F.2.1 dX5_greed_115 hl (k := 1) rfl (by rw [show Int32.ofInt 1 = nI 1 from rfl, nI_add]) (by decide) rfl (fun ls hl => ?_)
                refine lv_goto (tgt := 45) F.1 F.2.1 dX5_greed_118 (by decide) ?_
                have eb : grX f s n (k + 1) = grX f s n k := if_neg (fun q => q.elim (fun z => c_98 (by rw [z]; rfl)) (fun z => Int32.not_lt.mpr c_105 z))
                exact ih_45 _ _ _ ⟨(ngU (upd f (20 + 17 * s) (nI k)) n), hP, hD, hS, lv_sub hl [0, 2, 3, 4, 5, 6] (by rw [eb]; rfl)⟩
              · refine lv_iload F.1 F.2.1 dX5_greed_108 (lv_at hl 1 rfl) ?_
                refine lv_istore_n (lv' := [(3, .int (nI k)), (6, .int (allU (ngU (upd f (20 + 17 * s) (nI k)) n) s 5)), (5, .int (nI k)), (4, .int ((grX f s n k).2)), (0, .ref x), (1, .int (nI s)), (2, .int (nI n))]) F.1 F.2.1 dX5_greed_110 rfl hl (by decide) rfl (fun ls hl => ?_)
                refine lv_iload F.1 F.2.1 dX5_greed_111 (lv_at hl 1 rfl) ?_
                refine lv_istore (lv' := [(4, .int (allU (ngU (upd f (20 + 17 * s) (nI k)) n) s 5)), (3, .int (nI k)), (6, .int (allU (ngU (upd f (20 + 17 * s) (nI k)) n) s 5)), (5, .int (nI k)), (0, .ref x), (1, .int (nI s)), (2, .int (nI n))]) F.1 F.2.1 dX5_greed_113 hl (by decide) rfl (fun ls hl => ?_)
                refine lv_iinc (v := nI (k + 1)) (lv' := [(5, .int (nI (k + 1))), (4, .int (allU (ngU (upd f (20 + 17 * s) (nI k)) n) s 5)), (3, .int (nI k)), (6, .int (allU (ngU (upd f (20 + 17 * s) (nI k)) n) s 5)), (0, .ref x), (1, .int (nI s)), (2, .int (nI n))]) F.1 F.2.1 dX5_greed_115 hl (k := 3) rfl (by rw [show Int32.ofInt 1 = nI 1 from rfl, nI_add]) (by decide) rfl (fun ls hl => ?_)
                refine lv_goto (tgt := 45) F.1 F.2.1 dX5_greed_118 (by decide) ?_
                have eb : grX f s n (k + 1) = (nI k, grVal f s n k) := if_pos (Or.inr (Int32.not_le.mp c_105))
                exact ih_45 _ _ _ ⟨(ngU (upd f (20 + 17 * s) (nI k)) n), hP, hD, hS, lv_sub hl [0, 1, 2, 4, 5, 6] (by rw [eb]; rfl)⟩
      · have c_28 : 9999 < f 0 + (nI n) := b01t rfl c_28
        refine lv_aload_n F.1 F.2.1 dX5_greed_31 rfl (lv_at hl 0 rfl) ?_
        refine lv_iconst (v := 4) F.1 F.2.1 dX5_greed_32 (by decide) ?_
        refine iV (rest := []) (wsp := fun _ => (x, .inr (5, [.ref st, .ref kt, .int ik, .ref (tr 0), .ref sc, .ref sh, .ref fo])) :: (st, .inr (4, [.ref (b 0), .ref bk, .ref sp, .int zz])) :: (wB ct b f ++ (wB ct tr w ++ [ai ct fo 7 (fun j => (fnd c 5) (j + 1))]))) F (kX5_finding l dC dI ct x st kt sc sh fo tr ik c 4 5 (-1000005) (by decide) (by decide) (by decide)) gX5_greed_X5_finding rfl ⟨rfl, rfl⟩ nmX5_finding ⟨Nat.le_of_ble_eq_true rfl, Nat.le_of_ble_eq_true rfl⟩ eT_b (fun _ _ _ => trivial) hK hP hD hS hA 0 rfl rfl rfl [0, 16] (by decide) rfl rfl rfl hl.1 (Nat.le_of_ble_eq_true rfl) dX5_greed_33 ⟨Nat.zero_le _, Nat.zero_le _⟩ (fun _ => rfl) (fun _ => rfl) [x, st, b 0, b 1, b 2, b 3, b 4, b 5, b 6, tr 0, tr 1, tr 2, tr 3, tr 4, tr 5, tr 6, fo] rfl (fun _ => rfl) (fun r_33 u_33 H locs e_33 hP hD hS => ?_)
        obtain rfl := e_33
        exact rtI (f, (fnd c 5), w) F hr hlk hP hS rfl (Eq.trans (by rw [show tn (nI s) = s from nI_clamp (by omega), show tn (nI n) = n from nI_clamp (by omega)]; try exact (if_pos c_28).symm) (if_pos ⟨c_4, c_14⟩).symm) dX5_greed_36
    · have c_14 : ¬ (1 ≤ x2 ∧ x2 ≤ 30) := b01f rfl c_14
      refine lv_aload_n F.1 F.2.1 dX5_greed_17 rfl (lv_at hl 0 rfl) ?_
      refine lv_iconst (v := 0) F.1 F.2.1 dX5_greed_18 (by decide) ?_
      refine iV (rest := []) (wsp := fun _ => (x, .inr (5, [.ref st, .ref kt, .int ik, .ref (tr 0), .ref sc, .ref sh, .ref fo])) :: (st, .inr (4, [.ref (b 0), .ref bk, .ref sp, .int zz])) :: (wB ct b f ++ (wB ct tr w ++ [ai ct fo 7 (fun j => (fnd c 1) (j + 1))]))) F (kX5_finding l dC dI ct x st kt sc sh fo tr ik c 0 1 (-1000001) (by decide) (by decide) (by decide)) gX5_greed_X5_finding rfl ⟨rfl, rfl⟩ nmX5_finding ⟨Nat.le_of_ble_eq_true rfl, Nat.le_of_ble_eq_true rfl⟩ eT_b (fun _ _ _ => trivial) hK hP hD hS hA 0 rfl rfl rfl [0, 16] (by decide) rfl rfl rfl hl.1 (Nat.le_of_ble_eq_true rfl) dX5_greed_19 ⟨Nat.zero_le _, Nat.zero_le _⟩ (fun _ => rfl) (fun _ => rfl) [x, st, b 0, b 1, b 2, b 3, b 4, b 5, b 6, tr 0, tr 1, tr 2, tr 3, tr 4, tr 5, tr 6, fo] rfl (fun _ => rfl) (fun r_19 u_19 H locs e_19 hP hD hS => ?_)
      obtain rfl := e_19
      exact rtI (f, (fnd c 1), w) F hr hlk hP hS rfl ((if_neg (fun q => c_14 q.2)).symm) dX5_greed_22

def rmX5_kindFor : Room := { frames := 6, cells := 0, slots := 0, locals := 135 }
theorem nmX5_kindFor : NmV yX5_kindFor RX5 2 := by unfold NmV; decide +kernel
theorem hiX5_kindFor_1 : ∀ w ∈ u_ws RX1 TX1 10, w ∈ wsX5_kindFor := by decide +kernel
theorem hiX5_kindFor_4 : ∀ w ∈ u_ws RX4 TX4 4, w ∈ wsX5_kindFor := by decide +kernel
theorem hiX5_kindFor_5 : ∀ w ∈ u_ws RX5 TX5 7, w ∈ wsX5_kindFor := by decide +kernel
set_option maxHeartbeats 4000000 in
set_option maxRecDepth 100000 in
theorem kX5_kindFor (l : Launch) (dC : Nat → ClassId) (dI : Nat → Nat → Nat) (ct : Nat → ClassId) (x st kt sc sh fo bk sp : Nat) (tr b : Nat → Nat) (ik zz : Int32) (f c w : Nat → Int32) (x1 x2 : Int32) (hRg : Rg f) : MI (S := (Nat → Int32) × (Nat → Int32) × (Nat → Int32)) l yX5_kindFor wsX5_kindFor rmX5_kindFor dC dI ct eT [.ref x, .int x1, .int x2] ((x, .inr (5, [.ref st, .ref kt, .int ik, .ref (tr 0), .ref sc, .ref sh, .ref fo])) :: (st, .inr (4, [.ref (b 0), .ref bk, .ref sp, .int zz])) :: (wB ct b f ++ (wB ct tr w ++ [ai ct fo 7 (fun j => c (j + 1))]))) (fun u => (x, .inr (5, [.ref st, .ref kt, .int ik, .ref (tr 0), .ref sc, .ref sh, .ref fo])) :: (st, .inr (4, [.ref (b 0), .ref bk, .ref sp, .int zz])) :: (wB ct b u.1 ++ (wB ct tr u.2.2 ++ [ai ct fo 7 (fun j => u.2.1 (j + 1))]))) (fun r u => (r, u.1, u.2.1) = sKindFor f c x1 x2) := by
  refine MI.of (cc := cX5_kindFor) (maxL := 8) (ret := (some .int)) (by decide) rfl (Nat.le_of_ble_eq_true rfl) ?_
  intro pg en z mi below meth cd A F hr hlk hin hK hP hD hA hS hE ls hl
  have F : CallFix pg mi cd cX5_kindFor 8 z _ wsX5_kindFor RX5 := F
  have hl : lv_has ls 8 [(0, .ref x), (1, .int x1), (2, .int x2)] := hl
  refine lv_iload_n F.1 F.2.1 dX5_kindFor_0 rfl (lv_at hl 1 rfl) ?_
  refine iS (rest := []) (wsp := fun _ => (x, .inr (5, [.ref st, .ref kt, .int ik, .ref (tr 0), .ref sc, .ref sh, .ref fo])) :: (st, .inr (4, [.ref (b 0), .ref bk, .ref sp, .int zz])) :: (wB ct b f ++ (wB ct tr w ++ [ai ct fo 7 (fun j => c (j + 1))]))) F (kX5_isThing l dC dI ct x1) gX5_kindFor_X5_isThing rfl ⟨rfl, rfl⟩ nmX5_isThing ⟨Nat.le_of_ble_eq_true rfl, Nat.le_of_ble_eq_true rfl⟩ eT_b (fun _ _ _ => trivial) hK hP hD hS hA [] (by decide) rfl rfl rfl hl.1 (Nat.le_of_ble_eq_true rfl) dX5_kindFor_1 ⟨Nat.zero_le _, Nat.zero_le _⟩ (fun _ => rfl) (fun _ => rfl) [x, st, b 0, b 1, b 2, b 3, b 4, b 5, b 6, tr 0, tr 1, tr 2, tr 3, tr 4, tr 5, tr 6, fo] rfl (fun _ => rfl) (fun r_1 u_1 H locs e_1 hP hD hS => ?_)
  obtain rfl := e_1
  refine lv_if_eq (tgt := 17) F.1 F.2.1 dX5_kindFor_4 (by decide) (fun c_4 => ?_) (fun c_4 => ?_)
  · have c_4 : ¬ (0 ≤ x1 ∧ x1 ≤ 4) := b01f rfl c_4
    refine lv_aload_n F.1 F.2.1 dX5_kindFor_17 rfl (lv_at hl 0 rfl) ?_
    refine lv_iconst (v := 0) F.1 F.2.1 dX5_kindFor_18 (by decide) ?_
    refine iV (rest := []) (wsp := fun _ => (x, .inr (5, [.ref st, .ref kt, .int ik, .ref (tr 0), .ref sc, .ref sh, .ref fo])) :: (st, .inr (4, [.ref (b 0), .ref bk, .ref sp, .int zz])) :: (wB ct b f ++ (wB ct tr w ++ [ai ct fo 7 (fun j => (fnd c 1) (j + 1))]))) F (kX5_finding l dC dI ct x st kt sc sh fo tr ik c 0 1 (-1000001) (by decide) (by decide) (by decide)) gX5_kindFor_X5_finding rfl ⟨rfl, rfl⟩ nmX5_finding ⟨Nat.le_of_ble_eq_true rfl, Nat.le_of_ble_eq_true rfl⟩ eT_b (fun _ _ _ => trivial) hK hP hD hS hA 0 rfl rfl rfl [0, 16] (by decide) rfl rfl rfl hl.1 (Nat.le_of_ble_eq_true rfl) dX5_kindFor_19 ⟨Nat.zero_le _, Nat.zero_le _⟩ (fun _ => rfl) (fun _ => rfl) [x, st, b 0, b 1, b 2, b 3, b 4, b 5, b 6, tr 0, tr 1, tr 2, tr 3, tr 4, tr 5, tr 6, fo] rfl (fun _ => rfl) (fun r_19 u_19 H locs e_19 hP hD hS => ?_)
    obtain rfl := e_19
    exact rtI (f, (fnd c 1), w) F hr hlk hP hS rfl ((if_neg (fun q => c_4 q.1)).symm) dX5_kindFor_22
  · have c_4 : 0 ≤ x1 ∧ x1 ≤ 4 := b01t rfl c_4
    obtain ⟨t, ht, rfl⟩ := gT_n c_4
    refine lv_iload_n F.1 F.2.1 dX5_kindFor_7 rfl (lv_at hl 2 rfl) ?_
    refine lv_iconst (v := 1) F.1 F.2.1 dX5_kindFor_8 (by decide) ?_
    refine lv_bipush (v := 30) F.1 F.2.1 dX5_kindFor_9 (by decide) ?_
    refine iS (rest := []) (wsp := fun _ => (x, .inr (5, [.ref st, .ref kt, .int ik, .ref (tr 0), .ref sc, .ref sh, .ref fo])) :: (st, .inr (4, [.ref (b 0), .ref bk, .ref sp, .int zz])) :: (wB ct b f ++ (wB ct tr w ++ [ai ct fo 7 (fun j => c (j + 1))]))) F (kX5_isIn l dC dI ct x2 1 30) gX5_kindFor_X5_isIn rfl ⟨rfl, rfl⟩ nmX5_isIn ⟨Nat.le_of_ble_eq_true rfl, Nat.le_of_ble_eq_true rfl⟩ eT_b (fun _ _ _ => trivial) hK hP hD hS hA [] (by decide) rfl rfl rfl hl.1 (Nat.le_of_ble_eq_true rfl) dX5_kindFor_11 ⟨Nat.zero_le _, Nat.zero_le _⟩ (fun _ => rfl) (fun _ => rfl) [x, st, b 0, b 1, b 2, b 3, b 4, b 5, b 6, tr 0, tr 1, tr 2, tr 3, tr 4, tr 5, tr 6, fo] rfl (fun _ => rfl) (fun r_11 u_11 H locs e_11 hP hD hS => ?_)
    obtain rfl := e_11
    refine lv_if_ne (tgt := 23) F.1 F.2.1 dX5_kindFor_14 (by decide) (fun c_14 => ?_) (fun c_14 => ?_)
    · have c_14 : 1 ≤ x2 ∧ x2 ≤ 30 := b01t rfl c_14
      obtain ⟨n, hn1, hn, rfl⟩ := g30_n c_14
      refine lv_aload_n F.1 F.2.1 dX5_kindFor_23 rfl (lv_at hl 0 rfl) ?_
      refine lv_iload_n F.1 F.2.1 dX5_kindFor_24 rfl (lv_at hl 2 rfl) ?_
      refine iV (rest := []) (wsp := fun _ => (x, .inr (5, [.ref st, .ref kt, .int ik, .ref (tr 0), .ref sc, .ref sh, .ref fo])) :: (st, .inr (4, [.ref (b 0), .ref bk, .ref sp, .int zz])) :: (wB ct b f ++ (wB ct tr w ++ [ai ct fo 7 (fun j => c (j + 1))]))) F (kX5_isTooLate l dC dI ct x st kt sc sh fo bk sp tr b ik zz f (nI n)) gX5_kindFor_X5_isTooLate rfl ⟨rfl, rfl⟩ nmX5_isTooLate ⟨Nat.le_of_ble_eq_true rfl, Nat.le_of_ble_eq_true rfl⟩ eT_b (fun _ _ _ => trivial) hK hP hD hS hA 0 rfl rfl rfl [0, 1, 2, 3, 4, 5, 6, 7, 8] (by decide) rfl rfl rfl hl.1 (Nat.le_of_ble_eq_true rfl) dX5_kindFor_25 ⟨Nat.zero_le _, Nat.zero_le _⟩ (fun _ => rfl) (fun _ => rfl) [x, st, b 0, b 1, b 2, b 3, b 4, b 5, b 6, tr 0, tr 1, tr 2, tr 3, tr 4, tr 5, tr 6, fo] rfl (fun _ => rfl) (fun r_25 u_25 H locs e_25 hP hD hS => ?_)
      obtain rfl := e_25
      refine lv_if_eq (tgt := 37) F.1 F.2.1 dX5_kindFor_28 (by decide) (fun c_28 => ?_) (fun c_28 => ?_)
      · have c_28 : ¬ (9999 < f 0 + (nI n)) := b01f rfl c_28
        have hN := late_no hRg (by omega) c_28
        refine lv_iconst (v := 0) F.1 F.2.1 dX5_kindFor_37 (by decide) ?_
        refine lv_istore_n (lv' := [(3, .int 0), (0, .ref x), (1, .int (nI t)), (2, .int (nI n))]) F.1 F.2.1 dX5_kindFor_38 rfl hl (by decide) rfl (fun ls hl => ?_)
        refine lv_iconst (v := 0) F.1 F.2.1 dX5_kindFor_39 (by decide) ?_
        refine lv_istore (lv' := [(4, .int 0), (3, .int 0), (0, .ref x), (1, .int (nI t)), (2, .int (nI n))]) F.1 F.2.1 dX5_kindFor_40 hl (by decide) rfl (fun ls hl => ?_)
        refine lv_iconst (v := 0) F.1 F.2.1 dX5_kindFor_42 (by decide) ?_
        refine lv_istore (lv' := [(5, .int 0), (4, .int 0), (3, .int 0), (0, .ref x), (1, .int (nI t)), (2, .int (nI n))]) F.1 F.2.1 dX5_kindFor_43 hl (by decide) rfl (fun ls hl => ?_)
        refine loopN (I := fun k H locs ls => ∃ w : Nat → Int32, va_P (dC, dI) vwCl ((x, .inr (5, [.ref st, .ref kt, .int ik, .ref (tr 0), .ref sc, .ref sh, .ref fo])) :: (st, .inr (4, [.ref (b 0), .ref bk, .ref sp, .int zz])) :: (wB ct b f ++ (wB ct tr w ++ [ai ct fo 7 (fun j => c (j + 1))]))) H ∧ va_D A ((x, .inr (5, [.ref st, .ref kt, .int ik, .ref (tr 0), .ref sc, .ref sh, .ref fo])) :: (st, .inr (4, [.ref (b 0), .ref bk, .ref sp, .int zz])) :: (wB ct b f ++ (wB ct tr w ++ [ai ct fo 7 (fun j => c (j + 1))]))) ∧ va_S A z.heap H locs ∧ lv_has ls 8 [(5, .int (nI k)), (4, .int ((kfX f t n k).2)), (3, .int ((kfX f t n k).1)), (0, .ref x), (1, .int (nI t)), (2, .int (nI n))]) 7 0 (by omega) ⟨w, hP, hD, hS, lv_sub hl [0, 1, 2, 3, 4, 5] rfl⟩ (fun H locs ls hI => ?_) (fun k hk_k H locs ls hI ih_45 => ?_)
        · obtain ⟨w, hP, hD, hS, hl⟩ := hI
          refine lv_iload F.1 F.2.1 dX5_kindFor_45 (lv_at hl 0 rfl) ?_
          refine lv_bipush (v := 7) F.1 F.2.1 dX5_kindFor_47 (by decide) ?_
          refine lv_icmp_ge (tgt := 152) F.1 F.2.1 dX5_kindFor_49 (by decide) (fun c_49 => ?_) (fun c_49 => ?_)
          · refine lv_iload_n F.1 F.2.1 dX5_kindFor_152 rfl (lv_at hl 2 rfl) ?_
            exact rtI (f, c, w) F hr hlk hP hS rfl (Eq.trans (by rw [show tn (nI t) = t from nI_clamp (by omega), show tn (nI n) = n from nI_clamp (by omega)]; try exact (by unfold kKindFor; rw [if_neg c_28, ← kf_x])) (if_pos ⟨c_4, c_14⟩).symm) dX5_kindFor_153
          · exact absurd (nI_le (Nat.le_refl _) (by decide)) c_49
        · obtain ⟨w, hP, hD, hS, hl⟩ := hI
          refine lv_iload F.1 F.2.1 dX5_kindFor_45 (lv_at hl 0 rfl) ?_
          refine lv_bipush (v := 7) F.1 F.2.1 dX5_kindFor_47 (by decide) ?_
          refine lv_icmp_ge (tgt := 152) F.1 F.2.1 dX5_kindFor_49 (by decide) (fun c_49 => ?_) (fun c_49 => ?_)
          · exact absurd c_49 (nI_ge hk_k (by decide))
          · refine lv_aload_n F.1 F.2.1 dX5_kindFor_52 rfl (lv_at hl 3 rfl) ?_
            refine gf F hK hP 0 rfl rfl hiX5_kindFor_5 3 (by decide) (List.mem_of_getElem? (i := 1) rfl) rfl dX5_kindFor_53 ?_
            refine lv_aload_n F.1 F.2.1 dX5_kindFor_56 rfl (lv_at hl 3 rfl) ?_
            refine gf F hK hP 0 rfl rfl hiX5_kindFor_5 0 (by decide) (List.mem_of_getElem? (i := 2) rfl) rfl dX5_kindFor_57 ?_
            refine gf F hK hP 1 rfl rfl hiX5_kindFor_4 0 (by decide) (List.mem_of_getElem? (i := 3) rfl) rfl dX5_kindFor_60 ?_
            refine vV (rest := []) (wsp := fun _ => (x, .inr (5, [.ref st, .ref kt, .int ik, .ref (tr 0), .ref sc, .ref sh, .ref fo])) :: (st, .inr (4, [.ref (b 0), .ref bk, .ref sp, .int zz])) :: (wB ct b f ++ (wB ct tr f ++ [ai ct fo 7 (fun j => c (j + 1))]))) F (kX1_copyFrom l dC dI ct tr b f w) gX5_kindFor_X1_copyFrom rfl ⟨rfl, rfl⟩ nmX1_copyFrom ⟨Nat.le_of_ble_eq_true rfl, Nat.le_of_ble_eq_true rfl⟩ eT_b (fun _ _ _ => trivial) hK hP hD hS hA 9 rfl rfl rfl [9, 10, 11, 12, 13, 14, 15, 2, 3, 4, 5, 6, 7, 8] (by decide) rfl rfl rfl hl.1 (Nat.le_of_ble_eq_true rfl) dX5_kindFor_63 ⟨Nat.zero_le _, Nat.zero_le _⟩ (fun _ => rfl) (fun _ => rfl) [x, st, b 0, b 1, b 2, b 3, b 4, b 5, b 6, tr 0, tr 1, tr 2, tr 3, tr 4, tr 5, tr 6, fo] rfl (fun _ => rfl) (fun u_63 H locs e_63 hP hD hS => ?_)
            refine lv_aload_n F.1 F.2.1 dX5_kindFor_66 rfl (lv_at hl 3 rfl) ?_
            refine gf F hK hP 0 rfl rfl hiX5_kindFor_5 3 (by decide) (List.mem_of_getElem? (i := 1) rfl) rfl dX5_kindFor_67 ?_
            refine gf F hK hP 9 rfl rfl hiX5_kindFor_1 0 (by decide) (List.mem_of_getElem? (i := 4) rfl) rfl dX5_kindFor_70 ?_
            refine lv_iload_n F.1 F.2.1 dX5_kindFor_73 rfl (lv_at hl 4 rfl) ?_
            refine lv_iload F.1 F.2.1 dX5_kindFor_74 (lv_at hl 0 rfl) ?_
            refine ast (ws' := (x, .inr (5, [.ref st, .ref kt, .int ik, .ref (tr 0), .ref sc, .ref sh, .ref fo])) :: (st, .inr (4, [.ref (b 0), .ref bk, .ref sp, .int zz])) :: (wB ct b f ++ (wB ct tr (upd f (15 + t) (nI k)) ++ [ai ct fo 7 (fun j => c (j + 1))]))) F hK hP hD hS 10 0 rfl rfl t rfl (by omega) (by decide) dX5_kindFor_76 (weq.c (weq.c (weq_ar (x := wB ct b f) (j := 1) rfl (weq_al (x := wB ct tr f) (j := 1) (Nat.le_of_ble_eq_true rfl) (wq_kind ct tr f (by omega)))))) (fun H locs hP hD hS => ?_)
            refine lv_aload_n F.1 F.2.1 dX5_kindFor_77 rfl (lv_at hl 3 rfl) ?_
            refine gf F hK hP 0 rfl rfl hiX5_kindFor_5 3 (by decide) (List.mem_of_getElem? (i := 1) rfl) rfl dX5_kindFor_78 ?_
            refine lv_iconst (v := 0) F.1 F.2.1 dX5_kindFor_81 (by decide) ?_
            refine iV (rest := []) (wsp := fun _ => (x, .inr (5, [.ref st, .ref kt, .int ik, .ref (tr 0), .ref sc, .ref sh, .ref fo])) :: (st, .inr (4, [.ref (b 0), .ref bk, .ref sp, .int zz])) :: (wB ct b f ++ (wB ct tr (upd f (15 + t) (nI k)) ++ [ai ct fo 7 (fun j => c (j + 1))]))) F (kX1_wealth l dC dI ct tr (upd f (15 + t) (nI k)) 0 (by omega) (hRg.kind ht ⟨k, by omega, rfl⟩)) gX5_kindFor_X1_wealth rfl ⟨rfl, rfl⟩ nmX1_wealth ⟨Nat.le_of_ble_eq_true rfl, Nat.le_of_ble_eq_true rfl⟩ eT_b (fun _ _ _ => trivial) hK hP hD hS hA 9 rfl rfl rfl [9, 10, 11, 12, 13, 14, 15] (by decide) rfl rfl rfl hl.1 (Nat.le_of_ble_eq_true rfl) dX5_kindFor_82 ⟨Nat.zero_le _, Nat.zero_le _⟩ (fun _ => rfl) (fun _ => rfl) [x, st, b 0, b 1, b 2, b 3, b 4, b 5, b 6, tr 0, tr 1, tr 2, tr 3, tr 4, tr 5, tr 6, fo] rfl (fun _ => rfl) (fun r_82 u_82 H locs e_82 hP hD hS => ?_)
            obtain rfl := e_82
            refine lv_aload_n F.1 F.2.1 dX5_kindFor_85 rfl (lv_at hl 3 rfl) ?_
            refine gf F hK hP 0 rfl rfl hiX5_kindFor_5 3 (by decide) (List.mem_of_getElem? (i := 1) rfl) rfl dX5_kindFor_86 ?_
            refine lv_iconst (v := 1) F.1 F.2.1 dX5_kindFor_89 (by decide) ?_
            refine iV (rest := [.int (allU (upd f (15 + t) (nI k)) 0 5)]) (wsp := fun _ => (x, .inr (5, [.ref st, .ref kt, .int ik, .ref (tr 0), .ref sc, .ref sh, .ref fo])) :: (st, .inr (4, [.ref (b 0), .ref bk, .ref sp, .int zz])) :: (wB ct b f ++ (wB ct tr (upd f (15 + t) (nI k)) ++ [ai ct fo 7 (fun j => c (j + 1))]))) F (kX1_wealth l dC dI ct tr (upd f (15 + t) (nI k)) 1 (by omega) (hRg.kind ht ⟨k, by omega, rfl⟩)) gX5_kindFor_X1_wealth rfl ⟨rfl, rfl⟩ nmX1_wealth ⟨Nat.le_of_ble_eq_true rfl, Nat.le_of_ble_eq_true rfl⟩ eT_b (fun _ _ _ => trivial) hK hP hD hS hA 9 rfl rfl rfl [9, 10, 11, 12, 13, 14, 15] (by decide) rfl rfl rfl hl.1 (Nat.le_of_ble_eq_true rfl) dX5_kindFor_90 ⟨Nat.zero_le _, Nat.zero_le _⟩ (fun _ => rfl) (fun _ => rfl) [x, st, b 0, b 1, b 2, b 3, b 4, b 5, b 6, tr 0, tr 1, tr 2, tr 3, tr 4, tr 5, tr 6, fo] rfl (fun _ => rfl) (fun r_90 u_90 H locs e_90 hP hD hS => ?_)
            obtain rfl := e_90
            refine lv_iadd F.1 F.2.1 dX5_kindFor_93 ?_
            refine lv_istore (lv' := [(6, .int ((allU (upd f (15 + t) (nI k)) 0 5) + (allU (upd f (15 + t) (nI k)) 1 5))), (5, .int (nI k)), (4, .int ((kfX f t n k).2)), (3, .int ((kfX f t n k).1)), (0, .ref x), (1, .int (nI t)), (2, .int (nI n))]) F.1 F.2.1 dX5_kindFor_94 hl (by decide) rfl (fun ls hl => ?_)
            refine lv_aload_n F.1 F.2.1 dX5_kindFor_96 rfl (lv_at hl 4 rfl) ?_
            refine gf F hK hP 0 rfl rfl hiX5_kindFor_5 3 (by decide) (List.mem_of_getElem? (i := 1) rfl) rfl dX5_kindFor_97 ?_
            refine lv_iload_n F.1 F.2.1 dX5_kindFor_100 rfl (lv_at hl 6 rfl) ?_
            refine iV (rest := []) (wsp := fun _ => (x, .inr (5, [.ref st, .ref kt, .int ik, .ref (tr 0), .ref sc, .ref sh, .ref fo])) :: (st, .inr (4, [.ref (b 0), .ref bk, .ref sp, .int zz])) :: (wB ct b f ++ (wB ct tr (ngU (upd f (15 + t) (nI k)) n) ++ [ai ct fo 7 (fun j => c (j + 1))]))) F (kX1_passNights l dC dI ct tr (upd f (15 + t) (nI k)) n (by omega) (Rg_kf hRg ht (by omega) hN)) gX5_kindFor_X1_passNights rfl ⟨rfl, rfl⟩ nmX1_passNights ⟨Nat.le_of_ble_eq_true rfl, Nat.le_of_ble_eq_true rfl⟩ eT_b (fun _ _ _ => trivial) hK hP hD hS hA 9 rfl rfl rfl [9, 10, 11, 12, 13, 14, 15] (by decide) rfl rfl rfl hl.1 (Nat.le_of_ble_eq_true rfl) dX5_kindFor_101 ⟨Nat.zero_le _, Nat.zero_le _⟩ (fun _ => rfl) (fun _ => rfl) [x, st, b 0, b 1, b 2, b 3, b 4, b 5, b 6, tr 0, tr 1, tr 2, tr 3, tr 4, tr 5, tr 6, fo] rfl (fun _ => rfl) (fun r_101 u_101 H locs e_101 hP hD hS => ?_)
            obtain rfl := e_101
            refine lv_pop F.1 F.2.1 dX5_kindFor_104 rfl ?_
            refine lv_aload_n F.1 F.2.1 dX5_kindFor_105 rfl (lv_at hl 4 rfl) ?_
            refine gf F hK hP 0 rfl rfl hiX5_kindFor_5 3 (by decide) (List.mem_of_getElem? (i := 1) rfl) rfl dX5_kindFor_106 ?_
            refine lv_iconst (v := 0) F.1 F.2.1 dX5_kindFor_109 (by decide) ?_
            refine iV (rest := []) (wsp := fun _ => (x, .inr (5, [.ref st, .ref kt, .int ik, .ref (tr 0), .ref sc, .ref sh, .ref fo])) :: (st, .inr (4, [.ref (b 0), .ref bk, .ref sp, .int zz])) :: (wB ct b f ++ (wB ct tr (ngU (upd f (15 + t) (nI k)) n) ++ [ai ct fo 7 (fun j => c (j + 1))]))) F (kX1_wealth l dC dI ct tr (ngU (upd f (15 + t) (nI k)) n) 0 (by omega) ((Rg_ngU (hRg.kind ht ⟨k, by omega, rfl⟩) n (by rw [nN_e (f := f) (pk_un (by omega))]; exact hN)).1)) gX5_kindFor_X1_wealth rfl ⟨rfl, rfl⟩ nmX1_wealth ⟨Nat.le_of_ble_eq_true rfl, Nat.le_of_ble_eq_true rfl⟩ eT_b (fun _ _ _ => trivial) hK hP hD hS hA 9 rfl rfl rfl [9, 10, 11, 12, 13, 14, 15] (by decide) rfl rfl rfl hl.1 (Nat.le_of_ble_eq_true rfl) dX5_kindFor_110 ⟨Nat.zero_le _, Nat.zero_le _⟩ (fun _ => rfl) (fun _ => rfl) [x, st, b 0, b 1, b 2, b 3, b 4, b 5, b 6, tr 0, tr 1, tr 2, tr 3, tr 4, tr 5, tr 6, fo] rfl (fun _ => rfl) (fun r_110 u_110 H locs e_110 hP hD hS => ?_)
            obtain rfl := e_110
            refine lv_aload_n F.1 F.2.1 dX5_kindFor_113 rfl (lv_at hl 4 rfl) ?_
            refine gf F hK hP 0 rfl rfl hiX5_kindFor_5 3 (by decide) (List.mem_of_getElem? (i := 1) rfl) rfl dX5_kindFor_114 ?_
            refine lv_iconst (v := 1) F.1 F.2.1 dX5_kindFor_117 (by decide) ?_
            refine iV (rest := [.int (allU (ngU (upd f (15 + t) (nI k)) n) 0 5)]) (wsp := fun _ => (x, .inr (5, [.ref st, .ref kt, .int ik, .ref (tr 0), .ref sc, .ref sh, .ref fo])) :: (st, .inr (4, [.ref (b 0), .ref bk, .ref sp, .int zz])) :: (wB ct b f ++ (wB ct tr (ngU (upd f (15 + t) (nI k)) n) ++ [ai ct fo 7 (fun j => c (j + 1))]))) F (kX1_wealth l dC dI ct tr (ngU (upd f (15 + t) (nI k)) n) 1 (by omega) ((Rg_ngU (hRg.kind ht ⟨k, by omega, rfl⟩) n (by rw [nN_e (f := f) (pk_un (by omega))]; exact hN)).1)) gX5_kindFor_X1_wealth rfl ⟨rfl, rfl⟩ nmX1_wealth ⟨Nat.le_of_ble_eq_true rfl, Nat.le_of_ble_eq_true rfl⟩ eT_b (fun _ _ _ => trivial) hK hP hD hS hA 9 rfl rfl rfl [9, 10, 11, 12, 13, 14, 15] (by decide) rfl rfl rfl hl.1 (Nat.le_of_ble_eq_true rfl) dX5_kindFor_118 ⟨Nat.zero_le _, Nat.zero_le _⟩ (fun _ => rfl) (fun _ => rfl) [x, st, b 0, b 1, b 2, b 3, b 4, b 5, b 6, tr 0, tr 1, tr 2, tr 3, tr 4, tr 5, tr 6, fo] rfl (fun _ => rfl) (fun r_118 u_118 H locs e_118 hP hD hS => ?_)
            obtain rfl := e_118
            refine lv_iadd F.1 F.2.1 dX5_kindFor_121 ?_
            refine lv_iload F.1 F.2.1 dX5_kindFor_122 (lv_at hl 0 rfl) ?_
            refine lv_isub F.1 F.2.1 dX5_kindFor_124 ?_
            refine lv_istore (lv' := [(7, .int (((allU (ngU (upd f (15 + t) (nI k)) n) 0 5) + (allU (ngU (upd f (15 + t) (nI k)) n) 1 5)) - ((allU (upd f (15 + t) (nI k)) 0 5) + (allU (upd f (15 + t) (nI k)) 1 5)))), (6, .int ((allU (upd f (15 + t) (nI k)) 0 5) + (allU (upd f (15 + t) (nI k)) 1 5))), (5, .int (nI k)), (4, .int ((kfX f t n k).2)), (3, .int ((kfX f t n k).1)), (0, .ref x), (1, .int (nI t)), (2, .int (nI n))]) F.1 F.2.1 dX5_kindFor_125 hl (by decide) rfl (fun ls hl => ?_)
            refine lv_iload F.1 F.2.1 dX5_kindFor_127 (lv_at hl 2 rfl) ?_
            refine lv_if_eq (tgt := 139) F.1 F.2.1 dX5_kindFor_129 (by decide) (fun c_129 => ?_) (fun c_129 => ?_)
            · refine lv_iload F.1 F.2.1 dX5_kindFor_139 (lv_at hl 2 rfl) ?_
              refine lv_istore_n (lv' := [(3, .int (nI k)), (7, .int (((allU (ngU (upd f (15 + t) (nI k)) n) 0 5) + (allU (ngU (upd f (15 + t) (nI k)) n) 1 5)) - ((allU (upd f (15 + t) (nI k)) 0 5) + (allU (upd f (15 + t) (nI k)) 1 5)))), (6, .int ((allU (upd f (15 + t) (nI k)) 0 5) + (allU (upd f (15 + t) (nI k)) 1 5))), (5, .int (nI k)), (4, .int ((kfX f t n k).2)), (0, .ref x), (1, .int (nI t)), (2, .int (nI n))]) F.1 F.2.1 dX5_kindFor_141 rfl hl (by decide) rfl (fun ls hl => ?_)
              refine lv_iload F.1 F.2.1 dX5_kindFor_142 (lv_at hl 1 rfl) ?_
              refine lv_istore (lv' := [(4, .int (((allU (ngU (upd f (15 + t) (nI k)) n) 0 5) + (allU (ngU (upd f (15 + t) (nI k)) n) 1 5)) - ((allU (upd f (15 + t) (nI k)) 0 5) + (allU (upd f (15 + t) (nI k)) 1 5)))), (3, .int (nI k)), (7, .int (((allU (ngU (upd f (15 + t) (nI k)) n) 0 5) + (allU (ngU (upd f (15 + t) (nI k)) n) 1 5)) - ((allU (upd f (15 + t) (nI k)) 0 5) + (allU (upd f (15 + t) (nI k)) 1 5)))), (6, .int ((allU (upd f (15 + t) (nI k)) 0 5) + (allU (upd f (15 + t) (nI k)) 1 5))), (5, .int (nI k)), (0, .ref x), (1, .int (nI t)), (2, .int (nI n))]) F.1 F.2.1 dX5_kindFor_144 hl (by decide) rfl (fun ls hl => ?_)
              refine lv_iinc (v := nI (k + 1)) (lv' := [(5, .int (nI (k + 1))), (4, .int (((allU (ngU (upd f (15 + t) (nI k)) n) 0 5) + (allU (ngU (upd f (15 + t) (nI k)) n) 1 5)) - ((allU (upd f (15 + t) (nI k)) 0 5) + (allU (upd f (15 + t) (nI k)) 1 5)))), (3, .int (nI k)), (7, .int (((allU (ngU (upd f (15 + t) (nI k)) n) 0 5) + (allU (ngU (upd f (15 + t) (nI k)) n) 1 5)) - ((allU (upd f (15 + t) (nI k)) 0 5) + (allU (upd f (15 + t) (nI k)) 1 5)))), (6, .int ((allU (upd f (15 + t) (nI k)) 0 5) + (allU (upd f (15 + t) (nI k)) 1 5))), (0, .ref x), (1, .int (nI t)), (2, .int (nI n))]) F.1 F.2.1 dX5_kindFor_146 hl (k := 4) rfl (by rw [show Int32.ofInt 1 = nI 1 from rfl, nI_add]) (by decide) rfl (fun ls hl => ?_)
              refine lv_goto (tgt := 45) F.1 F.2.1 dX5_kindFor_149 (by decide) ?_
              have eb : kfX f t n (k + 1) = (nI k, kfVal f t n k) := if_pos (Or.inl (nI_of_eq (b := 0) c_129 (by omega) (by omega)))
              exact ih_45 _ _ _ ⟨(ngU (upd f (15 + t) (nI k)) n), hP, hD, hS, lv_sub hl [0, 1, 2, 5, 6, 7] (by rw [eb]; rfl)⟩
            · refine lv_iload F.1 F.2.1 dX5_kindFor_132 (lv_at hl 0 rfl) ?_
              refine lv_iload F.1 F.2.1 dX5_kindFor_134 (lv_at hl 3 rfl) ?_
              refine lv_icmp_le (tgt := 146) F.1 F.2.1 dX5_kindFor_136 (by decide) (fun c_136 => ?_) (fun c_136 => ?_)
              · refine lv_iinc (v := nI (k + 1)) (lv' := [(5, .int (nI (k + 1))), (7, .int (((allU (ngU (upd f (15 + t) (nI k)) n) 0 5) + (allU (ngU (upd f (15 + t) (nI k)) n) 1 5)) - ((allU (upd f (15 + t) (nI k)) 0 5) + (allU (upd f (15 + t) (nI k)) 1 5)))), (6, .int ((allU (upd f (15 + t) (nI k)) 0 5) + (allU (upd f (15 + t) (nI k)) 1 5))), (4, .int ((kfX f t n k).2)), (3, .int ((kfX f t n k).1)), (0, .ref x), (1, .int (nI t)), (2, .int (nI n))]) F.1 F.2.1 dX5_kindFor_146 hl (k := 2) rfl (by rw [show Int32.ofInt 1 = nI 1 from rfl, nI_add]) (by decide) rfl (fun ls hl => ?_)
                refine lv_goto (tgt := 45) F.1 F.2.1 dX5_kindFor_149 (by decide) ?_
                have eb : kfX f t n (k + 1) = kfX f t n k := if_neg (fun q => q.elim (fun z => c_129 (by rw [z]; rfl)) (fun z => Int32.not_lt.mpr c_136 z))
                exact ih_45 _ _ _ ⟨(ngU (upd f (15 + t) (nI k)) n), hP, hD, hS, lv_sub hl [0, 3, 4, 5, 6, 7] (by rw [eb]; rfl)⟩
              · refine lv_iload F.1 F.2.1 dX5_kindFor_139 (lv_at hl 2 rfl) ?_
                refine lv_istore_n (lv' := [(3, .int (nI k)), (7, .int (((allU (ngU (upd f (15 + t) (nI k)) n) 0 5) + (allU (ngU (upd f (15 + t) (nI k)) n) 1 5)) - ((allU (upd f (15 + t) (nI k)) 0 5) + (allU (upd f (15 + t) (nI k)) 1 5)))), (6, .int ((allU (upd f (15 + t) (nI k)) 0 5) + (allU (upd f (15 + t) (nI k)) 1 5))), (5, .int (nI k)), (4, .int ((kfX f t n k).2)), (0, .ref x), (1, .int (nI t)), (2, .int (nI n))]) F.1 F.2.1 dX5_kindFor_141 rfl hl (by decide) rfl (fun ls hl => ?_)
                refine lv_iload F.1 F.2.1 dX5_kindFor_142 (lv_at hl 1 rfl) ?_
                refine lv_istore (lv' := [(4, .int (((allU (ngU (upd f (15 + t) (nI k)) n) 0 5) + (allU (ngU (upd f (15 + t) (nI k)) n) 1 5)) - ((allU (upd f (15 + t) (nI k)) 0 5) + (allU (upd f (15 + t) (nI k)) 1 5)))), (3, .int (nI k)), (7, .int (((allU (ngU (upd f (15 + t) (nI k)) n) 0 5) + (allU (ngU (upd f (15 + t) (nI k)) n) 1 5)) - ((allU (upd f (15 + t) (nI k)) 0 5) + (allU (upd f (15 + t) (nI k)) 1 5)))), (6, .int ((allU (upd f (15 + t) (nI k)) 0 5) + (allU (upd f (15 + t) (nI k)) 1 5))), (5, .int (nI k)), (0, .ref x), (1, .int (nI t)), (2, .int (nI n))]) F.1 F.2.1 dX5_kindFor_144 hl (by decide) rfl (fun ls hl => ?_)
                refine lv_iinc (v := nI (k + 1)) (lv' := [(5, .int (nI (k + 1))), (4, .int (((allU (ngU (upd f (15 + t) (nI k)) n) 0 5) + (allU (ngU (upd f (15 + t) (nI k)) n) 1 5)) - ((allU (upd f (15 + t) (nI k)) 0 5) + (allU (upd f (15 + t) (nI k)) 1 5)))), (3, .int (nI k)), (7, .int (((allU (ngU (upd f (15 + t) (nI k)) n) 0 5) + (allU (ngU (upd f (15 + t) (nI k)) n) 1 5)) - ((allU (upd f (15 + t) (nI k)) 0 5) + (allU (upd f (15 + t) (nI k)) 1 5)))), (6, .int ((allU (upd f (15 + t) (nI k)) 0 5) + (allU (upd f (15 + t) (nI k)) 1 5))), (0, .ref x), (1, .int (nI t)), (2, .int (nI n))]) F.1 F.2.1 dX5_kindFor_146 hl (k := 4) rfl (by rw [show Int32.ofInt 1 = nI 1 from rfl, nI_add]) (by decide) rfl (fun ls hl => ?_)
                refine lv_goto (tgt := 45) F.1 F.2.1 dX5_kindFor_149 (by decide) ?_
                have eb : kfX f t n (k + 1) = (nI k, kfVal f t n k) := if_pos (Or.inr (Int32.not_le.mp c_136))
                exact ih_45 _ _ _ ⟨(ngU (upd f (15 + t) (nI k)) n), hP, hD, hS, lv_sub hl [0, 1, 2, 5, 6, 7] (by rw [eb]; rfl)⟩
      · have c_28 : 9999 < f 0 + (nI n) := b01t rfl c_28
        refine lv_aload_n F.1 F.2.1 dX5_kindFor_31 rfl (lv_at hl 0 rfl) ?_
        refine lv_iconst (v := 4) F.1 F.2.1 dX5_kindFor_32 (by decide) ?_
        refine iV (rest := []) (wsp := fun _ => (x, .inr (5, [.ref st, .ref kt, .int ik, .ref (tr 0), .ref sc, .ref sh, .ref fo])) :: (st, .inr (4, [.ref (b 0), .ref bk, .ref sp, .int zz])) :: (wB ct b f ++ (wB ct tr w ++ [ai ct fo 7 (fun j => (fnd c 5) (j + 1))]))) F (kX5_finding l dC dI ct x st kt sc sh fo tr ik c 4 5 (-1000005) (by decide) (by decide) (by decide)) gX5_kindFor_X5_finding rfl ⟨rfl, rfl⟩ nmX5_finding ⟨Nat.le_of_ble_eq_true rfl, Nat.le_of_ble_eq_true rfl⟩ eT_b (fun _ _ _ => trivial) hK hP hD hS hA 0 rfl rfl rfl [0, 16] (by decide) rfl rfl rfl hl.1 (Nat.le_of_ble_eq_true rfl) dX5_kindFor_33 ⟨Nat.zero_le _, Nat.zero_le _⟩ (fun _ => rfl) (fun _ => rfl) [x, st, b 0, b 1, b 2, b 3, b 4, b 5, b 6, tr 0, tr 1, tr 2, tr 3, tr 4, tr 5, tr 6, fo] rfl (fun _ => rfl) (fun r_33 u_33 H locs e_33 hP hD hS => ?_)
        obtain rfl := e_33
        exact rtI (f, (fnd c 5), w) F hr hlk hP hS rfl (Eq.trans (by rw [show tn (nI t) = t from nI_clamp (by omega), show tn (nI n) = n from nI_clamp (by omega)]; try exact (if_pos c_28).symm) (if_pos ⟨c_4, c_14⟩).symm) dX5_kindFor_36
    · have c_14 : ¬ (1 ≤ x2 ∧ x2 ≤ 30) := b01f rfl c_14
      refine lv_aload_n F.1 F.2.1 dX5_kindFor_17 rfl (lv_at hl 0 rfl) ?_
      refine lv_iconst (v := 0) F.1 F.2.1 dX5_kindFor_18 (by decide) ?_
      refine iV (rest := []) (wsp := fun _ => (x, .inr (5, [.ref st, .ref kt, .int ik, .ref (tr 0), .ref sc, .ref sh, .ref fo])) :: (st, .inr (4, [.ref (b 0), .ref bk, .ref sp, .int zz])) :: (wB ct b f ++ (wB ct tr w ++ [ai ct fo 7 (fun j => (fnd c 1) (j + 1))]))) F (kX5_finding l dC dI ct x st kt sc sh fo tr ik c 0 1 (-1000001) (by decide) (by decide) (by decide)) gX5_kindFor_X5_finding rfl ⟨rfl, rfl⟩ nmX5_finding ⟨Nat.le_of_ble_eq_true rfl, Nat.le_of_ble_eq_true rfl⟩ eT_b (fun _ _ _ => trivial) hK hP hD hS hA 0 rfl rfl rfl [0, 16] (by decide) rfl rfl rfl hl.1 (Nat.le_of_ble_eq_true rfl) dX5_kindFor_19 ⟨Nat.zero_le _, Nat.zero_le _⟩ (fun _ => rfl) (fun _ => rfl) [x, st, b 0, b 1, b 2, b 3, b 4, b 5, b 6, tr 0, tr 1, tr 2, tr 3, tr 4, tr 5, tr 6, fo] rfl (fun _ => rfl) (fun r_19 u_19 H locs e_19 hP hD hS => ?_)
      obtain rfl := e_19
      exact rtI (f, (fnd c 1), w) F hr hlk hP hS rfl ((if_neg (fun q => c_14 q.2)).symm) dX5_kindFor_22

def rmX5_temptation : Room := { frames := 6, cells := 0, slots := 0, locals := 135 }
theorem nmX5_temptation : NmV yX5_temptation RX5 2 := by unfold NmV; decide +kernel
theorem hiX5_temptation_4 : ∀ w ∈ u_ws RX4 TX4 4, w ∈ wsX5_temptation := by decide +kernel
theorem hiX5_temptation_5 : ∀ w ∈ u_ws RX5 TX5 7, w ∈ wsX5_temptation := by decide +kernel
set_option maxHeartbeats 4000000 in
set_option maxRecDepth 100000 in
theorem kX5_temptation (l : Launch) (dC : Nat → ClassId) (dI : Nat → Nat → Nat) (ct : Nat → ClassId) (x st kt sc sh fo bk sp : Nat) (tr b : Nat → Nat) (ik zz : Int32) (f c w : Nat → Int32) (x1 x2 : Int32) (hRg : Rg f) : MI (S := (Nat → Int32) × (Nat → Int32) × (Nat → Int32)) l yX5_temptation wsX5_temptation rmX5_temptation dC dI ct eT [.ref x, .int x1, .int x2] ((x, .inr (5, [.ref st, .ref kt, .int ik, .ref (tr 0), .ref sc, .ref sh, .ref fo])) :: (st, .inr (4, [.ref (b 0), .ref bk, .ref sp, .int zz])) :: (wB ct b f ++ (wB ct tr w ++ [ai ct fo 7 (fun j => c (j + 1))]))) (fun u => (x, .inr (5, [.ref st, .ref kt, .int ik, .ref (tr 0), .ref sc, .ref sh, .ref fo])) :: (st, .inr (4, [.ref (b 0), .ref bk, .ref sp, .int zz])) :: (wB ct b u.1 ++ (wB ct tr u.2.2 ++ [ai ct fo 7 (fun j => u.2.1 (j + 1))]))) (fun r u => (r, u.1, u.2.1) = sTempt f c x1 x2) := by
  refine MI.of (cc := cX5_temptation) (maxL := 4) (ret := (some .int)) (by decide) rfl (Nat.le_of_ble_eq_true rfl) ?_
  intro pg en z mi below meth cd A F hr hlk hin hK hP hD hA hS hE ls hl
  have F : CallFix pg mi cd cX5_temptation 4 z _ wsX5_temptation RX5 := F
  have hl : lv_has ls 4 [(0, .ref x), (1, .int x1), (2, .int x2)] := hl
  refine lv_iload_n F.1 F.2.1 dX5_temptation_0 rfl (lv_at hl 1 rfl) ?_
  refine iS (rest := []) (wsp := fun _ => (x, .inr (5, [.ref st, .ref kt, .int ik, .ref (tr 0), .ref sc, .ref sh, .ref fo])) :: (st, .inr (4, [.ref (b 0), .ref bk, .ref sp, .int zz])) :: (wB ct b f ++ (wB ct tr w ++ [ai ct fo 7 (fun j => c (j + 1))]))) F (kX5_isSide l dC dI ct x1) gX5_temptation_X5_isSide rfl ⟨rfl, rfl⟩ nmX5_isSide ⟨Nat.le_of_ble_eq_true rfl, Nat.le_of_ble_eq_true rfl⟩ eT_b (fun _ _ _ => trivial) hK hP hD hS hA [] (by decide) rfl rfl rfl hl.1 (Nat.le_of_ble_eq_true rfl) dX5_temptation_1 ⟨Nat.zero_le _, Nat.zero_le _⟩ (fun _ => rfl) (fun _ => rfl) [x, st, b 0, b 1, b 2, b 3, b 4, b 5, b 6, tr 0, tr 1, tr 2, tr 3, tr 4, tr 5, tr 6, fo] rfl (fun _ => rfl) (fun r_1 u_1 H locs e_1 hP hD hS => ?_)
  obtain rfl := e_1
  refine lv_if_eq (tgt := 17) F.1 F.2.1 dX5_temptation_4 (by decide) (fun c_4 => ?_) (fun c_4 => ?_)
  · have c_4 : ¬ (0 ≤ x1 ∧ x1 ≤ 1) := b01f rfl c_4
    refine lv_aload_n F.1 F.2.1 dX5_temptation_17 rfl (lv_at hl 0 rfl) ?_
    refine lv_iconst (v := 0) F.1 F.2.1 dX5_temptation_18 (by decide) ?_
    refine iV (rest := []) (wsp := fun _ => (x, .inr (5, [.ref st, .ref kt, .int ik, .ref (tr 0), .ref sc, .ref sh, .ref fo])) :: (st, .inr (4, [.ref (b 0), .ref bk, .ref sp, .int zz])) :: (wB ct b f ++ (wB ct tr w ++ [ai ct fo 7 (fun j => (fnd c 1) (j + 1))]))) F (kX5_finding l dC dI ct x st kt sc sh fo tr ik c 0 1 (-1000001) (by decide) (by decide) (by decide)) gX5_temptation_X5_finding rfl ⟨rfl, rfl⟩ nmX5_finding ⟨Nat.le_of_ble_eq_true rfl, Nat.le_of_ble_eq_true rfl⟩ eT_b (fun _ _ _ => trivial) hK hP hD hS hA 0 rfl rfl rfl [0, 16] (by decide) rfl rfl rfl hl.1 (Nat.le_of_ble_eq_true rfl) dX5_temptation_19 ⟨Nat.zero_le _, Nat.zero_le _⟩ (fun _ => rfl) (fun _ => rfl) [x, st, b 0, b 1, b 2, b 3, b 4, b 5, b 6, tr 0, tr 1, tr 2, tr 3, tr 4, tr 5, tr 6, fo] rfl (fun _ => rfl) (fun r_19 u_19 H locs e_19 hP hD hS => ?_)
    obtain rfl := e_19
    exact rtI (f, (fnd c 1), w) F hr hlk hP hS rfl ((if_neg (fun q => c_4 q.1)).symm) dX5_temptation_22
  · have c_4 : 0 ≤ x1 ∧ x1 ≤ 1 := b01t rfl c_4
    obtain ⟨s, hs, rfl⟩ := gS_n c_4
    refine lv_iload_n F.1 F.2.1 dX5_temptation_7 rfl (lv_at hl 2 rfl) ?_
    refine lv_iconst (v := 1) F.1 F.2.1 dX5_temptation_8 (by decide) ?_
    refine lv_bipush (v := 60) F.1 F.2.1 dX5_temptation_9 (by decide) ?_
    refine iS (rest := []) (wsp := fun _ => (x, .inr (5, [.ref st, .ref kt, .int ik, .ref (tr 0), .ref sc, .ref sh, .ref fo])) :: (st, .inr (4, [.ref (b 0), .ref bk, .ref sp, .int zz])) :: (wB ct b f ++ (wB ct tr w ++ [ai ct fo 7 (fun j => c (j + 1))]))) F (kX5_isIn l dC dI ct x2 1 60) gX5_temptation_X5_isIn rfl ⟨rfl, rfl⟩ nmX5_isIn ⟨Nat.le_of_ble_eq_true rfl, Nat.le_of_ble_eq_true rfl⟩ eT_b (fun _ _ _ => trivial) hK hP hD hS hA [] (by decide) rfl rfl rfl hl.1 (Nat.le_of_ble_eq_true rfl) dX5_temptation_11 ⟨Nat.zero_le _, Nat.zero_le _⟩ (fun _ => rfl) (fun _ => rfl) [x, st, b 0, b 1, b 2, b 3, b 4, b 5, b 6, tr 0, tr 1, tr 2, tr 3, tr 4, tr 5, tr 6, fo] rfl (fun _ => rfl) (fun r_11 u_11 H locs e_11 hP hD hS => ?_)
    obtain rfl := e_11
    refine lv_if_ne (tgt := 23) F.1 F.2.1 dX5_temptation_14 (by decide) (fun c_14 => ?_) (fun c_14 => ?_)
    · have c_14 : 1 ≤ x2 ∧ x2 ≤ 60 := b01t rfl c_14
      obtain ⟨n, hn1, hn, rfl⟩ := g60_n c_14
      refine lv_aload_n F.1 F.2.1 dX5_temptation_23 rfl (lv_at hl 0 rfl) ?_
      refine lv_iload_n F.1 F.2.1 dX5_temptation_24 rfl (lv_at hl 2 rfl) ?_
      refine iV (rest := []) (wsp := fun _ => (x, .inr (5, [.ref st, .ref kt, .int ik, .ref (tr 0), .ref sc, .ref sh, .ref fo])) :: (st, .inr (4, [.ref (b 0), .ref bk, .ref sp, .int zz])) :: (wB ct b f ++ (wB ct tr w ++ [ai ct fo 7 (fun j => c (j + 1))]))) F (kX5_isTooLate l dC dI ct x st kt sc sh fo bk sp tr b ik zz f (nI n)) gX5_temptation_X5_isTooLate rfl ⟨rfl, rfl⟩ nmX5_isTooLate ⟨Nat.le_of_ble_eq_true rfl, Nat.le_of_ble_eq_true rfl⟩ eT_b (fun _ _ _ => trivial) hK hP hD hS hA 0 rfl rfl rfl [0, 1, 2, 3, 4, 5, 6, 7, 8] (by decide) rfl rfl rfl hl.1 (Nat.le_of_ble_eq_true rfl) dX5_temptation_25 ⟨Nat.zero_le _, Nat.zero_le _⟩ (fun _ => rfl) (fun _ => rfl) [x, st, b 0, b 1, b 2, b 3, b 4, b 5, b 6, tr 0, tr 1, tr 2, tr 3, tr 4, tr 5, tr 6, fo] rfl (fun _ => rfl) (fun r_25 u_25 H locs e_25 hP hD hS => ?_)
      obtain rfl := e_25
      refine lv_if_eq (tgt := 37) F.1 F.2.1 dX5_temptation_28 (by decide) (fun c_28 => ?_) (fun c_28 => ?_)
      · have c_28 : ¬ (9999 < f 0 + (nI n)) := b01f rfl c_28
        have hN := late_no hRg (by omega) c_28
        refine lv_aload_n F.1 F.2.1 dX5_temptation_37 rfl (lv_at hl 0 rfl) ?_
        refine gf F hK hP 0 rfl rfl hiX5_temptation_5 3 (by decide) (List.mem_of_getElem? (i := 1) rfl) rfl dX5_temptation_38 ?_
        refine lv_aload_n F.1 F.2.1 dX5_temptation_41 rfl (lv_at hl 0 rfl) ?_
        refine gf F hK hP 0 rfl rfl hiX5_temptation_5 0 (by decide) (List.mem_of_getElem? (i := 2) rfl) rfl dX5_temptation_42 ?_
        refine gf F hK hP 1 rfl rfl hiX5_temptation_4 0 (by decide) (List.mem_of_getElem? (i := 3) rfl) rfl dX5_temptation_45 ?_
        refine vV (rest := []) (wsp := fun _ => (x, .inr (5, [.ref st, .ref kt, .int ik, .ref (tr 0), .ref sc, .ref sh, .ref fo])) :: (st, .inr (4, [.ref (b 0), .ref bk, .ref sp, .int zz])) :: (wB ct b f ++ (wB ct tr f ++ [ai ct fo 7 (fun j => c (j + 1))]))) F (kX1_copyFrom l dC dI ct tr b f w) gX5_temptation_X1_copyFrom rfl ⟨rfl, rfl⟩ nmX1_copyFrom ⟨Nat.le_of_ble_eq_true rfl, Nat.le_of_ble_eq_true rfl⟩ eT_b (fun _ _ _ => trivial) hK hP hD hS hA 9 rfl rfl rfl [9, 10, 11, 12, 13, 14, 15, 2, 3, 4, 5, 6, 7, 8] (by decide) rfl rfl rfl hl.1 (Nat.le_of_ble_eq_true rfl) dX5_temptation_48 ⟨Nat.zero_le _, Nat.zero_le _⟩ (fun _ => rfl) (fun _ => rfl) [x, st, b 0, b 1, b 2, b 3, b 4, b 5, b 6, tr 0, tr 1, tr 2, tr 3, tr 4, tr 5, tr 6, fo] rfl (fun _ => rfl) (fun u_48 H locs e_48 hP hD hS => ?_)
        refine lv_aload_n F.1 F.2.1 dX5_temptation_51 rfl (lv_at hl 0 rfl) ?_
        refine gf F hK hP 0 rfl rfl hiX5_temptation_5 3 (by decide) (List.mem_of_getElem? (i := 1) rfl) rfl dX5_temptation_52 ?_
        refine lv_iconst (v := 1) F.1 F.2.1 dX5_temptation_55 (by decide) ?_
        refine lv_iload_n F.1 F.2.1 dX5_temptation_56 rfl (lv_at hl 1 rfl) ?_
        refine lv_isub F.1 F.2.1 dX5_temptation_57 ?_
        refine tp (y := nI (1 - s)) (sb2 (a := 1) (b := s) (c := 1 - s) rfl rfl (by omega)) ?_
        refine lv_iload_n F.1 F.2.1 dX5_temptation_58 rfl (lv_at hl 1 rfl) ?_
        refine vV (rest := []) (wsp := fun _ => (x, .inr (5, [.ref st, .ref kt, .int ik, .ref (tr 0), .ref sc, .ref sh, .ref fo])) :: (st, .inr (4, [.ref (b 0), .ref bk, .ref sp, .int zz])) :: (wB ct b f ++ (wB ct tr (goU f (1 - s) s 5) ++ [ai ct fo 7 (fun j => c (j + 1))]))) F (kX1_bringHome l dC dI ct tr f (1 - s) s (by omega) (by omega)) gX5_temptation_X1_bringHome rfl ⟨rfl, rfl⟩ nmX1_bringHome ⟨Nat.le_of_ble_eq_true rfl, Nat.le_of_ble_eq_true rfl⟩ eT_b (fun _ _ _ => trivial) hK hP hD hS hA 9 rfl rfl rfl [9, 10, 11, 12, 13, 14, 15] (by decide) rfl rfl rfl hl.1 (Nat.le_of_ble_eq_true rfl) dX5_temptation_59 ⟨Nat.zero_le _, Nat.zero_le _⟩ (fun _ => rfl) (fun _ => rfl) [x, st, b 0, b 1, b 2, b 3, b 4, b 5, b 6, tr 0, tr 1, tr 2, tr 3, tr 4, tr 5, tr 6, fo] rfl (fun _ => rfl) (fun u_59 H locs e_59 hP hD hS => ?_)
        refine lv_aload_n F.1 F.2.1 dX5_temptation_62 rfl (lv_at hl 0 rfl) ?_
        refine gf F hK hP 0 rfl rfl hiX5_temptation_5 3 (by decide) (List.mem_of_getElem? (i := 1) rfl) rfl dX5_temptation_63 ?_
        refine lv_iload_n F.1 F.2.1 dX5_temptation_66 rfl (lv_at hl 1 rfl) ?_
        refine iV (rest := []) (wsp := fun _ => (x, .inr (5, [.ref st, .ref kt, .int ik, .ref (tr 0), .ref sc, .ref sh, .ref fo])) :: (st, .inr (4, [.ref (b 0), .ref bk, .ref sp, .int zz])) :: (wB ct b f ++ (wB ct tr (goU f (1 - s) s 5) ++ [ai ct fo 7 (fun j => c (j + 1))]))) F (kX1_wealth l dC dI ct tr (goU f (1 - s) s 5) s (by omega) (Rg_goU hRg (by omega) hs 5 (by omega))) gX5_temptation_X1_wealth rfl ⟨rfl, rfl⟩ nmX1_wealth ⟨Nat.le_of_ble_eq_true rfl, Nat.le_of_ble_eq_true rfl⟩ eT_b (fun _ _ _ => trivial) hK hP hD hS hA 9 rfl rfl rfl [9, 10, 11, 12, 13, 14, 15] (by decide) rfl rfl rfl hl.1 (Nat.le_of_ble_eq_true rfl) dX5_temptation_67 ⟨Nat.zero_le _, Nat.zero_le _⟩ (fun _ => rfl) (fun _ => rfl) [x, st, b 0, b 1, b 2, b 3, b 4, b 5, b 6, tr 0, tr 1, tr 2, tr 3, tr 4, tr 5, tr 6, fo] rfl (fun _ => rfl) (fun r_67 u_67 H locs e_67 hP hD hS => ?_)
        obtain rfl := e_67
        refine lv_istore_n (lv' := [(3, .int (allU (goU f (1 - s) s 5) s 5)), (0, .ref x), (1, .int (nI s)), (2, .int (nI n))]) F.1 F.2.1 dX5_temptation_70 rfl hl (by decide) rfl (fun ls hl => ?_)
        refine lv_aload_n F.1 F.2.1 dX5_temptation_71 rfl (lv_at hl 1 rfl) ?_
        refine gf F hK hP 0 rfl rfl hiX5_temptation_5 3 (by decide) (List.mem_of_getElem? (i := 1) rfl) rfl dX5_temptation_72 ?_
        refine lv_aload_n F.1 F.2.1 dX5_temptation_75 rfl (lv_at hl 1 rfl) ?_
        refine gf F hK hP 0 rfl rfl hiX5_temptation_5 0 (by decide) (List.mem_of_getElem? (i := 2) rfl) rfl dX5_temptation_76 ?_
        refine gf F hK hP 1 rfl rfl hiX5_temptation_4 0 (by decide) (List.mem_of_getElem? (i := 3) rfl) rfl dX5_temptation_79 ?_
        refine vV (rest := []) (wsp := fun _ => (x, .inr (5, [.ref st, .ref kt, .int ik, .ref (tr 0), .ref sc, .ref sh, .ref fo])) :: (st, .inr (4, [.ref (b 0), .ref bk, .ref sp, .int zz])) :: (wB ct b f ++ (wB ct tr f ++ [ai ct fo 7 (fun j => c (j + 1))]))) F (kX1_copyFrom l dC dI ct tr b f (goU f (1 - s) s 5)) gX5_temptation_X1_copyFrom rfl ⟨rfl, rfl⟩ nmX1_copyFrom ⟨Nat.le_of_ble_eq_true rfl, Nat.le_of_ble_eq_true rfl⟩ eT_b (fun _ _ _ => trivial) hK hP hD hS hA 9 rfl rfl rfl [9, 10, 11, 12, 13, 14, 15, 2, 3, 4, 5, 6, 7, 8] (by decide) rfl rfl rfl hl.1 (Nat.le_of_ble_eq_true rfl) dX5_temptation_82 ⟨Nat.zero_le _, Nat.zero_le _⟩ (fun _ => rfl) (fun _ => rfl) [x, st, b 0, b 1, b 2, b 3, b 4, b 5, b 6, tr 0, tr 1, tr 2, tr 3, tr 4, tr 5, tr 6, fo] rfl (fun _ => rfl) (fun u_82 H locs e_82 hP hD hS => ?_)
        refine lv_aload_n F.1 F.2.1 dX5_temptation_85 rfl (lv_at hl 1 rfl) ?_
        refine gf F hK hP 0 rfl rfl hiX5_temptation_5 3 (by decide) (List.mem_of_getElem? (i := 1) rfl) rfl dX5_temptation_86 ?_
        refine lv_iload_n F.1 F.2.1 dX5_temptation_89 rfl (lv_at hl 3 rfl) ?_
        refine iV (rest := []) (wsp := fun _ => (x, .inr (5, [.ref st, .ref kt, .int ik, .ref (tr 0), .ref sc, .ref sh, .ref fo])) :: (st, .inr (4, [.ref (b 0), .ref bk, .ref sp, .int zz])) :: (wB ct b f ++ (wB ct tr (ngU f n) ++ [ai ct fo 7 (fun j => c (j + 1))]))) F (kX1_passNights l dC dI ct tr f n (by omega) (fun k hk => Rg_all hRg hN k hk)) gX5_temptation_X1_passNights rfl ⟨rfl, rfl⟩ nmX1_passNights ⟨Nat.le_of_ble_eq_true rfl, Nat.le_of_ble_eq_true rfl⟩ eT_b (fun _ _ _ => trivial) hK hP hD hS hA 9 rfl rfl rfl [9, 10, 11, 12, 13, 14, 15] (by decide) rfl rfl rfl hl.1 (Nat.le_of_ble_eq_true rfl) dX5_temptation_90 ⟨Nat.zero_le _, Nat.zero_le _⟩ (fun _ => rfl) (fun _ => rfl) [x, st, b 0, b 1, b 2, b 3, b 4, b 5, b 6, tr 0, tr 1, tr 2, tr 3, tr 4, tr 5, tr 6, fo] rfl (fun _ => rfl) (fun r_90 u_90 H locs e_90 hP hD hS => ?_)
        obtain rfl := e_90
        refine lv_pop F.1 F.2.1 dX5_temptation_93 rfl ?_
        refine lv_iload_n F.1 F.2.1 dX5_temptation_94 rfl (lv_at hl 0 rfl) ?_
        refine lv_aload_n F.1 F.2.1 dX5_temptation_95 rfl (lv_at hl 1 rfl) ?_
        refine gf F hK hP 0 rfl rfl hiX5_temptation_5 3 (by decide) (List.mem_of_getElem? (i := 1) rfl) rfl dX5_temptation_96 ?_
        refine lv_iload_n F.1 F.2.1 dX5_temptation_99 rfl (lv_at hl 2 rfl) ?_
        refine iV (rest := [.int (allU (goU f (1 - s) s 5) s 5)]) (wsp := fun _ => (x, .inr (5, [.ref st, .ref kt, .int ik, .ref (tr 0), .ref sc, .ref sh, .ref fo])) :: (st, .inr (4, [.ref (b 0), .ref bk, .ref sp, .int zz])) :: (wB ct b f ++ (wB ct tr (ngU f n) ++ [ai ct fo 7 (fun j => c (j + 1))]))) F (kX1_wealth l dC dI ct tr (ngU f n) s (by omega) ((Rg_ngU hRg n hN).1)) gX5_temptation_X1_wealth rfl ⟨rfl, rfl⟩ nmX1_wealth ⟨Nat.le_of_ble_eq_true rfl, Nat.le_of_ble_eq_true rfl⟩ eT_b (fun _ _ _ => trivial) hK hP hD hS hA 9 rfl rfl rfl [9, 10, 11, 12, 13, 14, 15] (by decide) rfl rfl rfl hl.1 (Nat.le_of_ble_eq_true rfl) dX5_temptation_100 ⟨Nat.zero_le _, Nat.zero_le _⟩ (fun _ => rfl) (fun _ => rfl) [x, st, b 0, b 1, b 2, b 3, b 4, b 5, b 6, tr 0, tr 1, tr 2, tr 3, tr 4, tr 5, tr 6, fo] rfl (fun _ => rfl) (fun r_100 u_100 H locs e_100 hP hD hS => ?_)
        obtain rfl := e_100
        refine lv_isub F.1 F.2.1 dX5_temptation_103 ?_
        exact rtI (f, c, (ngU f n)) F hr hlk hP hS rfl (Eq.trans (by rw [show tn (nI s) = s from nI_clamp (by omega), show tn (nI n) = n from nI_clamp (by omega)]; try exact (by unfold kTempt; rw [if_neg c_28, all_stl hs])) (if_pos ⟨c_4, c_14⟩).symm) dX5_temptation_104
      · have c_28 : 9999 < f 0 + (nI n) := b01t rfl c_28
        refine lv_aload_n F.1 F.2.1 dX5_temptation_31 rfl (lv_at hl 0 rfl) ?_
        refine lv_iconst (v := 4) F.1 F.2.1 dX5_temptation_32 (by decide) ?_
        refine iV (rest := []) (wsp := fun _ => (x, .inr (5, [.ref st, .ref kt, .int ik, .ref (tr 0), .ref sc, .ref sh, .ref fo])) :: (st, .inr (4, [.ref (b 0), .ref bk, .ref sp, .int zz])) :: (wB ct b f ++ (wB ct tr w ++ [ai ct fo 7 (fun j => (fnd c 5) (j + 1))]))) F (kX5_finding l dC dI ct x st kt sc sh fo tr ik c 4 5 (-1000005) (by decide) (by decide) (by decide)) gX5_temptation_X5_finding rfl ⟨rfl, rfl⟩ nmX5_finding ⟨Nat.le_of_ble_eq_true rfl, Nat.le_of_ble_eq_true rfl⟩ eT_b (fun _ _ _ => trivial) hK hP hD hS hA 0 rfl rfl rfl [0, 16] (by decide) rfl rfl rfl hl.1 (Nat.le_of_ble_eq_true rfl) dX5_temptation_33 ⟨Nat.zero_le _, Nat.zero_le _⟩ (fun _ => rfl) (fun _ => rfl) [x, st, b 0, b 1, b 2, b 3, b 4, b 5, b 6, tr 0, tr 1, tr 2, tr 3, tr 4, tr 5, tr 6, fo] rfl (fun _ => rfl) (fun r_33 u_33 H locs e_33 hP hD hS => ?_)
        obtain rfl := e_33
        exact rtI (f, (fnd c 5), w) F hr hlk hP hS rfl (Eq.trans (by rw [show tn (nI s) = s from nI_clamp (by omega), show tn (nI n) = n from nI_clamp (by omega)]; try exact (if_pos c_28).symm) (if_pos ⟨c_4, c_14⟩).symm) dX5_temptation_36
    · have c_14 : ¬ (1 ≤ x2 ∧ x2 ≤ 60) := b01f rfl c_14
      refine lv_aload_n F.1 F.2.1 dX5_temptation_17 rfl (lv_at hl 0 rfl) ?_
      refine lv_iconst (v := 0) F.1 F.2.1 dX5_temptation_18 (by decide) ?_
      refine iV (rest := []) (wsp := fun _ => (x, .inr (5, [.ref st, .ref kt, .int ik, .ref (tr 0), .ref sc, .ref sh, .ref fo])) :: (st, .inr (4, [.ref (b 0), .ref bk, .ref sp, .int zz])) :: (wB ct b f ++ (wB ct tr w ++ [ai ct fo 7 (fun j => (fnd c 1) (j + 1))]))) F (kX5_finding l dC dI ct x st kt sc sh fo tr ik c 0 1 (-1000001) (by decide) (by decide) (by decide)) gX5_temptation_X5_finding rfl ⟨rfl, rfl⟩ nmX5_finding ⟨Nat.le_of_ble_eq_true rfl, Nat.le_of_ble_eq_true rfl⟩ eT_b (fun _ _ _ => trivial) hK hP hD hS hA 0 rfl rfl rfl [0, 16] (by decide) rfl rfl rfl hl.1 (Nat.le_of_ble_eq_true rfl) dX5_temptation_19 ⟨Nat.zero_le _, Nat.zero_le _⟩ (fun _ => rfl) (fun _ => rfl) [x, st, b 0, b 1, b 2, b 3, b 4, b 5, b 6, tr 0, tr 1, tr 2, tr 3, tr 4, tr 5, tr 6, fo] rfl (fun _ => rfl) (fun r_19 u_19 H locs e_19 hP hD hS => ?_)
      obtain rfl := e_19
      exact rtI (f, (fnd c 1), w) F hr hlk hP hS rfl ((if_neg (fun q => c_14 q.2)).symm) dX5_temptation_22

def rmX5_bundleGains : Room := { frames := 1, cells := 0, slots := 0, locals := 24 }
theorem nmX5_bundleGains : NmV yX5_bundleGains RX5 2 := by unfold NmV; decide +kernel
theorem hiX5_bundleGains_1 : ∀ w ∈ u_ws RX1 TX1 10, w ∈ wsX5_bundleGains := by decide +kernel
theorem hiX5_bundleGains_4 : ∀ w ∈ u_ws RX4 TX4 4, w ∈ wsX5_bundleGains := by decide +kernel
theorem hiX5_bundleGains_5 : ∀ w ∈ u_ws RX5 TX5 7, w ∈ wsX5_bundleGains := by decide +kernel
set_option maxHeartbeats 4000000 in
set_option maxRecDepth 100000 in
theorem kX5_bundleGains (l : Launch) (dC : Nat → ClassId) (dI : Nat → Nat → Nat) (ct : Nat → ClassId) (x st kt sc sh fo bk sp : Nat) (tr b : Nat → Nat) (ik zz : Int32) (f : Nat → Int32) (i j : Nat) (hi : i < 5) (hj : j < 5) : MI (S := Unit) l yX5_bundleGains wsX5_bundleGains rmX5_bundleGains dC dI ct eT [.ref x, .int (nI i), .int (nI j)] ((x, .inr (5, [.ref st, .ref kt, .int ik, .ref (tr 0), .ref sc, .ref sh, .ref fo])) :: (st, .inr (4, [.ref (b 0), .ref bk, .ref sp, .int zz])) :: wB ct b f) (fun _ => (x, .inr (5, [.ref st, .ref kt, .int ik, .ref (tr 0), .ref sc, .ref sh, .ref fo])) :: (st, .inr (4, [.ref (b 0), .ref bk, .ref sp, .int zz])) :: wB ct b f) (fun r _ => r = if ¬ f (22 + i) = 0 ∧ ¬ f (39 + j) = 0 ∧ 0 < bdA f i j ∧ 0 < bdB f i j then bdA f i j + bdB f i j else 0) := by
  refine MI.of (cc := cX5_bundleGains) (maxL := 6) (ret := (some .int)) (by decide) rfl (Nat.le_of_ble_eq_true rfl) ?_
  intro pg en z mi below meth cd A F hr hlk hin hK hP hD hA hS hE ls hl
  have F : CallFix pg mi cd cX5_bundleGains 6 z _ wsX5_bundleGains RX5 := F
  have hl : lv_has ls 6 [(0, .ref x), (1, .int (nI i)), (2, .int (nI j))] := hl
  refine lv_aload_n F.1 F.2.1 dX5_bundleGains_0 rfl (lv_at hl 0 rfl) ?_
  refine gf F hK hP 0 rfl rfl hiX5_bundleGains_5 0 (by decide) (List.mem_of_getElem? (i := 1) rfl) rfl dX5_bundleGains_1 ?_
  refine gf F hK hP 1 rfl rfl hiX5_bundleGains_4 0 (by decide) (List.mem_of_getElem? (i := 2) rfl) rfl dX5_bundleGains_4 ?_
  refine lv_astore_n (lv' := [(3, .ref (b 0)), (0, .ref x), (1, .int (nI i)), (2, .int (nI j))]) F.1 F.2.1 dX5_bundleGains_7 rfl hl (by decide) rfl (fun ls hl => ?_)
  refine lv_aload_n F.1 F.2.1 dX5_bundleGains_8 rfl (lv_at hl 0 rfl) ?_
  refine gf F hK hP 2 rfl rfl hiX5_bundleGains_1 1 (by decide) (List.mem_of_getElem? (i := 3) rfl) rfl dX5_bundleGains_9 ?_
  refine lv_iload_n F.1 F.2.1 dX5_bundleGains_12 rfl (lv_at hl 2 rfl) ?_
  refine al (v := f (22 + i)) F hK hP 4 0 rfl rfl i rfl (by omega) (by decide) (congrArg f (by omega)) dX5_bundleGains_13 ?_
  refine lv_if_eq (tgt := 28) F.1 F.2.1 dX5_bundleGains_14 (by decide) (fun c_14 => ?_) (fun c_14 => ?_)
  · refine lv_iconst (v := 0) F.1 F.2.1 dX5_bundleGains_28 (by decide) ?_
    exact rtI () F hr hlk hP hS rfl ((if_neg (fun q => q.1 c_14)).symm) dX5_bundleGains_29
  · refine lv_aload_n F.1 F.2.1 dX5_bundleGains_17 rfl (lv_at hl 0 rfl) ?_
    refine gf F hK hP 2 rfl rfl hiX5_bundleGains_1 1 (by decide) (List.mem_of_getElem? (i := 3) rfl) rfl dX5_bundleGains_18 ?_
    refine lv_iconst (v := 5) F.1 F.2.1 dX5_bundleGains_21 (by decide) ?_
    refine lv_iload_n F.1 F.2.1 dX5_bundleGains_22 rfl (lv_at hl 3 rfl) ?_
    refine lv_iadd F.1 F.2.1 dX5_bundleGains_23 ?_
    refine tp (y := nI (5 + j)) (ad2 (a := 5) (b := j) (c := 5 + j) rfl rfl rfl) ?_
    refine al (v := f (39 + j)) F hK hP 4 0 rfl rfl (5 + j) rfl (by omega) (by decide) (congrArg f (by omega)) dX5_bundleGains_24 ?_
    refine lv_if_ne (tgt := 30) F.1 F.2.1 dX5_bundleGains_25 (by decide) (fun c_25 => ?_) (fun c_25 => ?_)
    · refine lv_aload_n F.1 F.2.1 dX5_bundleGains_30 rfl (lv_at hl 0 rfl) ?_
      refine lv_iconst (v := 0) F.1 F.2.1 dX5_bundleGains_31 (by decide) ?_
      refine lv_iload_n F.1 F.2.1 dX5_bundleGains_32 rfl (lv_at hl 3 rfl) ?_
      refine lv_iconst (v := 1) F.1 F.2.1 dX5_bundleGains_33 (by decide) ?_
      refine iV (rest := []) (wsp := fun _ => (x, .inr (5, [.ref st, .ref kt, .int ik, .ref (tr 0), .ref sc, .ref sh, .ref fo])) :: (st, .inr (4, [.ref (b 0), .ref bk, .ref sp, .int zz])) :: wB ct b f) F (kX1_priceOf l dC dI ct b f 0 j 1 (by omega) (by omega) (by decide)) gX5_bundleGains_X1_priceOf rfl ⟨rfl, rfl⟩ nmX1_priceOf ⟨Nat.le_of_ble_eq_true rfl, Nat.le_of_ble_eq_true rfl⟩ eT_b (fun _ _ _ => trivial) hK hP hD hS hA 2 rfl rfl rfl [2, 3, 4, 5, 6, 7, 8] (by decide) rfl rfl rfl hl.1 (Nat.le_of_ble_eq_true rfl) dX5_bundleGains_34 ⟨Nat.zero_le _, Nat.zero_le _⟩ (fun _ => rfl) (fun _ => rfl) [x, st, b 0, b 1, b 2, b 3, b 4, b 5, b 6] rfl (fun _ => rfl) (fun r_34 u_34 H locs e_34 hP hD hS => ?_)
      obtain rfl := e_34
      refine lv_aload_n F.1 F.2.1 dX5_bundleGains_37 rfl (lv_at hl 0 rfl) ?_
      refine lv_iconst (v := 0) F.1 F.2.1 dX5_bundleGains_38 (by decide) ?_
      refine lv_iload_n F.1 F.2.1 dX5_bundleGains_39 rfl (lv_at hl 2 rfl) ?_
      refine lv_iconst (v := 1) F.1 F.2.1 dX5_bundleGains_40 (by decide) ?_
      refine iV (rest := [.int (pF f 0 j 1)]) (wsp := fun _ => (x, .inr (5, [.ref st, .ref kt, .int ik, .ref (tr 0), .ref sc, .ref sh, .ref fo])) :: (st, .inr (4, [.ref (b 0), .ref bk, .ref sp, .int zz])) :: wB ct b f) F (kX1_priceOf l dC dI ct b f 0 i 1 (by omega) (by omega) (by decide)) gX5_bundleGains_X1_priceOf rfl ⟨rfl, rfl⟩ nmX1_priceOf ⟨Nat.le_of_ble_eq_true rfl, Nat.le_of_ble_eq_true rfl⟩ eT_b (fun _ _ _ => trivial) hK hP hD hS hA 2 rfl rfl rfl [2, 3, 4, 5, 6, 7, 8] (by decide) rfl rfl rfl hl.1 (Nat.le_of_ble_eq_true rfl) dX5_bundleGains_41 ⟨Nat.zero_le _, Nat.zero_le _⟩ (fun _ => rfl) (fun _ => rfl) [x, st, b 0, b 1, b 2, b 3, b 4, b 5, b 6] rfl (fun _ => rfl) (fun r_41 u_41 H locs e_41 hP hD hS => ?_)
      obtain rfl := e_41
      refine lv_isub F.1 F.2.1 dX5_bundleGains_44 ?_
      refine lv_istore (lv' := [(4, .int ((pF f 0 j 1) - (pF f 0 i 1))), (3, .ref (b 0)), (0, .ref x), (1, .int (nI i)), (2, .int (nI j))]) F.1 F.2.1 dX5_bundleGains_45 hl (by decide) rfl (fun ls hl => ?_)
      refine lv_aload_n F.1 F.2.1 dX5_bundleGains_47 rfl (lv_at hl 1 rfl) ?_
      refine lv_iconst (v := 1) F.1 F.2.1 dX5_bundleGains_48 (by decide) ?_
      refine lv_iload_n F.1 F.2.1 dX5_bundleGains_49 rfl (lv_at hl 3 rfl) ?_
      refine lv_iconst (v := 1) F.1 F.2.1 dX5_bundleGains_50 (by decide) ?_
      refine iV (rest := []) (wsp := fun _ => (x, .inr (5, [.ref st, .ref kt, .int ik, .ref (tr 0), .ref sc, .ref sh, .ref fo])) :: (st, .inr (4, [.ref (b 0), .ref bk, .ref sp, .int zz])) :: wB ct b f) F (kX1_priceOf l dC dI ct b f 1 i 1 (by omega) (by omega) (by decide)) gX5_bundleGains_X1_priceOf rfl ⟨rfl, rfl⟩ nmX1_priceOf ⟨Nat.le_of_ble_eq_true rfl, Nat.le_of_ble_eq_true rfl⟩ eT_b (fun _ _ _ => trivial) hK hP hD hS hA 2 rfl rfl rfl [2, 3, 4, 5, 6, 7, 8] (by decide) rfl rfl rfl hl.1 (Nat.le_of_ble_eq_true rfl) dX5_bundleGains_51 ⟨Nat.zero_le _, Nat.zero_le _⟩ (fun _ => rfl) (fun _ => rfl) [x, st, b 0, b 1, b 2, b 3, b 4, b 5, b 6] rfl (fun _ => rfl) (fun r_51 u_51 H locs e_51 hP hD hS => ?_)
      obtain rfl := e_51
      refine lv_aload_n F.1 F.2.1 dX5_bundleGains_54 rfl (lv_at hl 1 rfl) ?_
      refine lv_iconst (v := 1) F.1 F.2.1 dX5_bundleGains_55 (by decide) ?_
      refine lv_iload_n F.1 F.2.1 dX5_bundleGains_56 rfl (lv_at hl 4 rfl) ?_
      refine lv_iconst (v := 1) F.1 F.2.1 dX5_bundleGains_57 (by decide) ?_
      refine iV (rest := [.int (pF f 1 i 1)]) (wsp := fun _ => (x, .inr (5, [.ref st, .ref kt, .int ik, .ref (tr 0), .ref sc, .ref sh, .ref fo])) :: (st, .inr (4, [.ref (b 0), .ref bk, .ref sp, .int zz])) :: wB ct b f) F (kX1_priceOf l dC dI ct b f 1 j 1 (by omega) (by omega) (by decide)) gX5_bundleGains_X1_priceOf rfl ⟨rfl, rfl⟩ nmX1_priceOf ⟨Nat.le_of_ble_eq_true rfl, Nat.le_of_ble_eq_true rfl⟩ eT_b (fun _ _ _ => trivial) hK hP hD hS hA 2 rfl rfl rfl [2, 3, 4, 5, 6, 7, 8] (by decide) rfl rfl rfl hl.1 (Nat.le_of_ble_eq_true rfl) dX5_bundleGains_58 ⟨Nat.zero_le _, Nat.zero_le _⟩ (fun _ => rfl) (fun _ => rfl) [x, st, b 0, b 1, b 2, b 3, b 4, b 5, b 6] rfl (fun _ => rfl) (fun r_58 u_58 H locs e_58 hP hD hS => ?_)
      obtain rfl := e_58
      refine lv_isub F.1 F.2.1 dX5_bundleGains_61 ?_
      refine lv_istore (lv' := [(5, .int ((pF f 1 i 1) - (pF f 1 j 1))), (4, .int ((pF f 0 j 1) - (pF f 0 i 1))), (3, .ref (b 0)), (0, .ref x), (1, .int (nI i)), (2, .int (nI j))]) F.1 F.2.1 dX5_bundleGains_62 hl (by decide) rfl (fun ls hl => ?_)
      refine lv_iload F.1 F.2.1 dX5_bundleGains_64 (lv_at hl 1 rfl) ?_
      refine lv_if_le (tgt := 82) F.1 F.2.1 dX5_bundleGains_66 (by decide) (fun c_66 => ?_) (fun c_66 => ?_)
      · refine lv_iconst (v := 0) F.1 F.2.1 dX5_bundleGains_82 (by decide) ?_
        exact rtI () F hr hlk hP hS rfl ((if_neg (fun q => Int32.not_lt.mpr c_66 q.2.2.1)).symm) dX5_bundleGains_83
      · refine lv_iload F.1 F.2.1 dX5_bundleGains_69 (lv_at hl 0 rfl) ?_
        refine lv_if_le (tgt := 82) F.1 F.2.1 dX5_bundleGains_71 (by decide) (fun c_71 => ?_) (fun c_71 => ?_)
        · refine lv_iconst (v := 0) F.1 F.2.1 dX5_bundleGains_82 (by decide) ?_
          exact rtI () F hr hlk hP hS rfl ((if_neg (fun q => Int32.not_lt.mpr c_71 q.2.2.2)).symm) dX5_bundleGains_83
        · refine lv_iload F.1 F.2.1 dX5_bundleGains_74 (lv_at hl 1 rfl) ?_
          refine lv_iload F.1 F.2.1 dX5_bundleGains_76 (lv_at hl 0 rfl) ?_
          refine lv_iadd F.1 F.2.1 dX5_bundleGains_78 ?_
          refine lv_goto (tgt := 83) F.1 F.2.1 dX5_bundleGains_79 (by decide) ?_
          exact rtI () F hr hlk hP hS rfl ((if_pos ⟨c_14, c_25, Int32.not_le.mp c_66, Int32.not_le.mp c_71⟩).symm) dX5_bundleGains_83
    · refine lv_iconst (v := 0) F.1 F.2.1 dX5_bundleGains_28 (by decide) ?_
      exact rtI () F hr hlk hP hS rfl ((if_neg (fun q => q.2.1 c_25)).symm) dX5_bundleGains_29

def rmX5_bundle : Room := { frames := 2, cells := 0, slots := 0, locals := 49 }
theorem nmX5_bundle : NmV yX5_bundle RX5 0 := by unfold NmV; decide +kernel
set_option maxHeartbeats 4000000 in
set_option maxRecDepth 100000 in
theorem kX5_bundle (l : Launch) (dC : Nat → ClassId) (dI : Nat → Nat → Nat) (ct : Nat → ClassId) (x st kt sc sh fo bk sp : Nat) (tr b : Nat → Nat) (ik zz : Int32) (f c : Nat → Int32) : MI (S := (Nat → Int32) × (Nat → Int32)) l yX5_bundle wsX5_bundle rmX5_bundle dC dI ct eT [.ref x] ((x, .inr (5, [.ref st, .ref kt, .int ik, .ref (tr 0), .ref sc, .ref sh, .ref fo])) :: (st, .inr (4, [.ref (b 0), .ref bk, .ref sp, .int zz])) :: (wB ct b f ++ [ai ct fo 7 (fun j => c (j + 1))])) (fun u => (x, .inr (5, [.ref st, .ref kt, .int ik, .ref (tr 0), .ref sc, .ref sh, .ref fo])) :: (st, .inr (4, [.ref (b 0), .ref bk, .ref sp, .int zz])) :: (wB ct b u.1 ++ [ai ct fo 7 (fun j => u.2 (j + 1))])) (fun r u => (r, u.1, u.2) = sBundle f c) := by
  refine MI.of (cc := cX5_bundle) (maxL := 6) (ret := (some .int)) (by decide) rfl (Nat.le_of_ble_eq_true rfl) ?_
  intro pg en z mi below meth cd A F hr hlk hin hK hP hD hA hS hE ls hl
  have F : CallFix pg mi cd cX5_bundle 6 z _ wsX5_bundle RX5 := F
  have hl : lv_has ls 6 [(0, .ref x)] := hl
  refine lv_iconst (v := (-1)) F.1 F.2.1 dX5_bundle_0 (by decide) ?_
  refine lv_istore_n (lv' := [(1, .int (-1)), (0, .ref x)]) F.1 F.2.1 dX5_bundle_1 rfl hl (by decide) rfl (fun ls hl => ?_)
  refine lv_iconst (v := 0) F.1 F.2.1 dX5_bundle_2 (by decide) ?_
  refine lv_istore_n (lv' := [(2, .int 0), (1, .int (-1)), (0, .ref x)]) F.1 F.2.1 dX5_bundle_3 rfl hl (by decide) rfl (fun ls hl => ?_)
  refine lv_iconst (v := 0) F.1 F.2.1 dX5_bundle_4 (by decide) ?_
  refine lv_istore_n (lv' := [(3, .int 0), (2, .int 0), (1, .int (-1)), (0, .ref x)]) F.1 F.2.1 dX5_bundle_5 rfl hl (by decide) rfl (fun ls hl => ?_)
  refine loopN (I := fun i H locs ls => va_P (dC, dI) vwCl ((x, .inr (5, [.ref st, .ref kt, .int ik, .ref (tr 0), .ref sc, .ref sh, .ref fo])) :: (st, .inr (4, [.ref (b 0), .ref bk, .ref sp, .int zz])) :: (wB ct b f ++ [ai ct fo 7 (fun j => c (j + 1))])) H ∧ va_D A ((x, .inr (5, [.ref st, .ref kt, .int ik, .ref (tr 0), .ref sc, .ref sh, .ref fo])) :: (st, .inr (4, [.ref (b 0), .ref bk, .ref sp, .int zz])) :: (wB ct b f ++ [ai ct fo 7 (fun j => c (j + 1))])) ∧ va_S A z.heap H locs ∧ lv_has ls 6 [(3, .int (nI i)), (2, .int ((bdI f i).2)), (1, .int ((bdI f i).1)), (0, .ref x)]) 5 0 (by omega) ⟨hP, hD, hS, lv_sub hl [0, 1, 2, 3] rfl⟩ (fun H locs ls hI => ?_) (fun i hk_i H locs ls hI ih_6 => ?_)
  · obtain ⟨hP, hD, hS, hl⟩ := hI
    refine lv_iload_n F.1 F.2.1 dX5_bundle_6 rfl (lv_at hl 0 rfl) ?_
    refine lv_iconst (v := 5) F.1 F.2.1 dX5_bundle_7 (by decide) ?_
    refine lv_icmp_ge (tgt := 58) F.1 F.2.1 dX5_bundle_8 (by decide) (fun c_8 => ?_) (fun c_8 => ?_)
    · refine lv_iload_n F.1 F.2.1 dX5_bundle_58 rfl (lv_at hl 2 rfl) ?_
      refine lv_if_ge (tgt := 70) F.1 F.2.1 dX5_bundle_59 (by decide) (fun c_59 => ?_) (fun c_59 => ?_)
      · refine lv_iload_n F.1 F.2.1 dX5_bundle_70 rfl (lv_at hl 2 rfl) ?_
        exact rtI (f, c) F hr hlk hP hS rfl ((if_neg (Int32.not_lt.mpr c_59)).symm) dX5_bundle_71
      · refine lv_aload_n F.1 F.2.1 dX5_bundle_62 rfl (lv_at hl 3 rfl) ?_
        refine lv_iconst (v := 3) F.1 F.2.1 dX5_bundle_63 (by decide) ?_
        refine iV (rest := []) (wsp := fun _ => (x, .inr (5, [.ref st, .ref kt, .int ik, .ref (tr 0), .ref sc, .ref sh, .ref fo])) :: (st, .inr (4, [.ref (b 0), .ref bk, .ref sp, .int zz])) :: (wB ct b f ++ [ai ct fo 7 (fun j => (fnd c 4) (j + 1))])) F (kX5_finding l dC dI ct x st kt sc sh fo tr ik c 3 4 (-1000004) (by decide) (by decide) (by decide)) gX5_bundle_X5_finding rfl ⟨rfl, rfl⟩ nmX5_finding ⟨Nat.le_of_ble_eq_true rfl, Nat.le_of_ble_eq_true rfl⟩ eT_b (fun _ _ _ => trivial) hK hP hD hS hA 0 rfl rfl rfl [0, 9] (by decide) rfl rfl rfl hl.1 (Nat.le_of_ble_eq_true rfl) dX5_bundle_64 ⟨Nat.zero_le _, Nat.zero_le _⟩ (fun _ => rfl) (fun _ => rfl) [x, st, b 0, b 1, b 2, b 3, b 4, b 5, b 6, fo] rfl (fun _ => rfl) (fun r_64 u_64 H locs e_64 hP hD hS => ?_)
        obtain rfl := e_64
        refine lv_goto (tgt := 71) F.1 F.2.1 dX5_bundle_67 (by decide) ?_
        exact rtI (f, (fnd c 4)) F hr hlk hP hS rfl ((if_pos (Int32.not_le.mp c_59)).symm) dX5_bundle_71
    · exact absurd (nI_le (Nat.le_refl _) (by decide)) c_8
  · obtain ⟨hP, hD, hS, hl⟩ := hI
    refine lv_iload_n F.1 F.2.1 dX5_bundle_6 rfl (lv_at hl 0 rfl) ?_
    refine lv_iconst (v := 5) F.1 F.2.1 dX5_bundle_7 (by decide) ?_
    refine lv_icmp_ge (tgt := 58) F.1 F.2.1 dX5_bundle_8 (by decide) (fun c_8 => ?_) (fun c_8 => ?_)
    · exact absurd c_8 (nI_ge hk_i (by decide))
    · refine lv_iconst (v := 0) F.1 F.2.1 dX5_bundle_11 (by decide) ?_
      refine lv_istore (lv' := [(4, .int 0), (3, .int (nI i)), (2, .int ((bdI f i).2)), (1, .int ((bdI f i).1)), (0, .ref x)]) F.1 F.2.1 dX5_bundle_12 hl (by decide) rfl (fun ls hl => ?_)
      refine loopN (I := fun k H locs ls => va_P (dC, dI) vwCl ((x, .inr (5, [.ref st, .ref kt, .int ik, .ref (tr 0), .ref sc, .ref sh, .ref fo])) :: (st, .inr (4, [.ref (b 0), .ref bk, .ref sp, .int zz])) :: (wB ct b f ++ [ai ct fo 7 (fun j => c (j + 1))])) H ∧ va_D A ((x, .inr (5, [.ref st, .ref kt, .int ik, .ref (tr 0), .ref sc, .ref sh, .ref fo])) :: (st, .inr (4, [.ref (b 0), .ref bk, .ref sp, .int zz])) :: (wB ct b f ++ [ai ct fo 7 (fun j => c (j + 1))])) ∧ va_S A z.heap H locs ∧ lv_has ls 6 [(4, .int (nI k)), (3, .int (nI i)), (2, .int ((bdJ f i (bdI f i) k).2)), (1, .int ((bdJ f i (bdI f i) k).1)), (0, .ref x)]) 5 0 (by omega) ⟨hP, hD, hS, lv_sub hl [0, 1, 2, 3, 4] rfl⟩ (fun H locs ls hI => ?_) (fun k hk_k H locs ls hI ih_14 => ?_)
      · obtain ⟨hP, hD, hS, hl⟩ := hI
        refine lv_iload F.1 F.2.1 dX5_bundle_14 (lv_at hl 0 rfl) ?_
        refine lv_iconst (v := 5) F.1 F.2.1 dX5_bundle_16 (by decide) ?_
        refine lv_icmp_ge (tgt := 52) F.1 F.2.1 dX5_bundle_17 (by decide) (fun c_17 => ?_) (fun c_17 => ?_)
        · refine lv_iinc (v := nI (i + 1)) (lv' := [(3, .int (nI (i + 1))), (4, .int 5), (2, .int ((bdJ f i (bdI f i) 5).2)), (1, .int ((bdJ f i (bdI f i) 5).1)), (0, .ref x)]) F.1 F.2.1 dX5_bundle_52 hl (k := 1) rfl (by rw [show Int32.ofInt 1 = nI 1 from rfl, nI_add]) (by decide) rfl (fun ls hl => ?_)
          refine lv_goto (tgt := 6) F.1 F.2.1 dX5_bundle_55 (by decide) ?_
          exact ih_6 _ _ _ ⟨hP, hD, hS, lv_sub hl [0, 2, 3, 4] rfl⟩
        · exact absurd (nI_le (Nat.le_refl _) (by decide)) c_17
      · obtain ⟨hP, hD, hS, hl⟩ := hI
        refine lv_iload F.1 F.2.1 dX5_bundle_14 (lv_at hl 0 rfl) ?_
        refine lv_iconst (v := 5) F.1 F.2.1 dX5_bundle_16 (by decide) ?_
        refine lv_icmp_ge (tgt := 52) F.1 F.2.1 dX5_bundle_17 (by decide) (fun c_17 => ?_) (fun c_17 => ?_)
        · exact absurd c_17 (nI_ge hk_k (by decide))
        · refine lv_aload_n F.1 F.2.1 dX5_bundle_20 rfl (lv_at hl 4 rfl) ?_
          refine lv_iload_n F.1 F.2.1 dX5_bundle_21 rfl (lv_at hl 1 rfl) ?_
          refine lv_iload F.1 F.2.1 dX5_bundle_22 (lv_at hl 0 rfl) ?_
          refine iV (rest := []) (wsp := fun _ => (x, .inr (5, [.ref st, .ref kt, .int ik, .ref (tr 0), .ref sc, .ref sh, .ref fo])) :: (st, .inr (4, [.ref (b 0), .ref bk, .ref sp, .int zz])) :: (wB ct b f ++ [ai ct fo 7 (fun j => c (j + 1))])) F (kX5_bundleGains l dC dI ct x st kt sc sh fo bk sp tr b ik zz f i k (by omega) (by omega)) gX5_bundle_X5_bundleGains rfl ⟨rfl, rfl⟩ nmX5_bundleGains ⟨Nat.le_of_ble_eq_true rfl, Nat.le_of_ble_eq_true rfl⟩ eT_b (fun _ _ _ => trivial) hK hP hD hS hA 0 rfl rfl rfl [0, 1, 2, 3, 4, 5, 6, 7, 8] (by decide) rfl rfl rfl hl.1 (Nat.le_of_ble_eq_true rfl) dX5_bundle_24 ⟨Nat.zero_le _, Nat.zero_le _⟩ (fun _ => rfl) (fun _ => rfl) [x, st, b 0, b 1, b 2, b 3, b 4, b 5, b 6, fo] rfl (fun _ => rfl) (fun r_24 u_24 H locs e_24 hP hD hS => ?_)
          obtain rfl := e_24
          refine lv_istore (lv' := [(5, .int (if ¬ f (22 + i) = 0 ∧ ¬ f (39 + k) = 0 ∧ 0 < bdA f i k ∧ 0 < bdB f i k then bdA f i k + bdB f i k else 0)), (4, .int (nI k)), (3, .int (nI i)), (2, .int ((bdJ f i (bdI f i) k).2)), (1, .int ((bdJ f i (bdI f i) k).1)), (0, .ref x)]) F.1 F.2.1 dX5_bundle_27 hl (by decide) rfl (fun ls hl => ?_)
          refine lv_iload F.1 F.2.1 dX5_bundle_29 (lv_at hl 0 rfl) ?_
          refine lv_iload_n F.1 F.2.1 dX5_bundle_31 rfl (lv_at hl 3 rfl) ?_
          refine lv_icmp_le (tgt := 46) F.1 F.2.1 dX5_bundle_32 (by decide) (fun c_32 => ?_) (fun c_32 => ?_)
          · refine lv_iinc (v := nI (k + 1)) (lv' := [(4, .int (nI (k + 1))), (5, .int (if ¬ f (22 + i) = 0 ∧ ¬ f (39 + k) = 0 ∧ 0 < bdA f i k ∧ 0 < bdB f i k then bdA f i k + bdB f i k else 0)), (3, .int (nI i)), (2, .int ((bdJ f i (bdI f i) k).2)), (1, .int ((bdJ f i (bdI f i) k).1)), (0, .ref x)]) F.1 F.2.1 dX5_bundle_46 hl (k := 1) rfl (by rw [show Int32.ofInt 1 = nI 1 from rfl, nI_add]) (by decide) rfl (fun ls hl => ?_)
            refine lv_goto (tgt := 14) F.1 F.2.1 dX5_bundle_49 (by decide) ?_
            have eb : bdJ f i (bdI f i) (k + 1) = bdJ f i (bdI f i) k := bx_no (bd_pos f i (bdI_pos f i) k) (Int32.not_lt.mpr c_32)
            exact ih_14 _ _ _ ⟨hP, hD, hS, lv_sub hl [0, 2, 3, 4, 5] (by rw [eb]; rfl)⟩
          · refine lv_iload F.1 F.2.1 dX5_bundle_35 (lv_at hl 0 rfl) ?_
            refine lv_istore_n (lv' := [(2, .int (if ¬ f (22 + i) = 0 ∧ ¬ f (39 + k) = 0 ∧ 0 < bdA f i k ∧ 0 < bdB f i k then bdA f i k + bdB f i k else 0)), (5, .int (if ¬ f (22 + i) = 0 ∧ ¬ f (39 + k) = 0 ∧ 0 < bdA f i k ∧ 0 < bdB f i k then bdA f i k + bdB f i k else 0)), (4, .int (nI k)), (3, .int (nI i)), (1, .int ((bdJ f i (bdI f i) k).1)), (0, .ref x)]) F.1 F.2.1 dX5_bundle_37 rfl hl (by decide) rfl (fun ls hl => ?_)
            refine lv_bipush (v := 10) F.1 F.2.1 dX5_bundle_38 (by decide) ?_
            refine lv_iload_n F.1 F.2.1 dX5_bundle_40 rfl (lv_at hl 3 rfl) ?_
            refine lv_imul F.1 F.2.1 dX5_bundle_41 ?_
            refine tp (y := nI (10 * i)) (ml2 (a := 10) (b := i) (c := 10 * i) rfl rfl rfl) ?_
            refine lv_iload F.1 F.2.1 dX5_bundle_42 (lv_at hl 2 rfl) ?_
            refine lv_iadd F.1 F.2.1 dX5_bundle_44 ?_
            refine tp (y := nI (10 * i + k)) (ad2 (a := 10 * i) (b := k) (c := 10 * i + k) rfl rfl rfl) ?_
            refine lv_istore_n (lv' := [(1, .int (nI (10 * i + k))), (2, .int (if ¬ f (22 + i) = 0 ∧ ¬ f (39 + k) = 0 ∧ 0 < bdA f i k ∧ 0 < bdB f i k then bdA f i k + bdB f i k else 0)), (5, .int (if ¬ f (22 + i) = 0 ∧ ¬ f (39 + k) = 0 ∧ 0 < bdA f i k ∧ 0 < bdB f i k then bdA f i k + bdB f i k else 0)), (4, .int (nI k)), (3, .int (nI i)), (0, .ref x)]) F.1 F.2.1 dX5_bundle_45 rfl hl (by decide) rfl (fun ls hl => ?_)
            refine lv_iinc (v := nI (k + 1)) (lv' := [(4, .int (nI (k + 1))), (1, .int (nI (10 * i + k))), (2, .int (if ¬ f (22 + i) = 0 ∧ ¬ f (39 + k) = 0 ∧ 0 < bdA f i k ∧ 0 < bdB f i k then bdA f i k + bdB f i k else 0)), (5, .int (if ¬ f (22 + i) = 0 ∧ ¬ f (39 + k) = 0 ∧ 0 < bdA f i k ∧ 0 < bdB f i k then bdA f i k + bdB f i k else 0)), (3, .int (nI i)), (0, .ref x)]) F.1 F.2.1 dX5_bundle_46 hl (k := 3) rfl (by rw [show Int32.ofInt 1 = nI 1 from rfl, nI_add]) (by decide) rfl (fun ls hl => ?_)
            refine lv_goto (tgt := 14) F.1 F.2.1 dX5_bundle_49 (by decide) ?_
            have eb : bdJ f i (bdI f i) (k + 1) = (nI (10 * i + k), bdA f i k + bdB f i k) := bx_up (bd_pos f i (bdI_pos f i) k) (Int32.not_le.mp c_32)
            have ev := bx_val (bd_pos f i (bdI_pos f i) k) (Int32.not_le.mp c_32)
            exact ih_14 _ _ _ ⟨hP, hD, hS, lv_sub hl [0, 4, 2, 1, 5] (by rw [eb]; exact congrArg (fun z => [(4, Value.int (nI (k + 1))), (3, Value.int (nI i)), (2, Value.int z), (1, Value.int (nI (10 * i + k))), (0, Value.ref x)]) ev)⟩
